section
-- ===== PART A: goes FIRST, ahead of the names: the tables' words, and 'selects' of the private methods out of them =====
/-- a private method of a class that the tables say can be made, by its rows of tables_1 -/
def lw_okq (q : MethodName × Nat) : Prop := (q.1.cls ≠ "java/lang/invoke/MethodHandle" ∧ q.1.cls ≠ "java/lang/invoke/VarHandle") ∧ Cond.instantiable q.1.cls q.2 ∈ tables_1 ∧ Cond.privateMethod q.1 ∈ tables_1 ∧ Cond.instanceMethod q.1 ∈ tables_1
theorem lw_p0 : lw_okq (⟨"PageGuards", "writeRegister", "(II)V"⟩, 9) := ⟨⟨by decide +kernel, by decide +kernel⟩, List.mem_of_getElem? (i := 8) (by decide +kernel), List.mem_of_getElem? (i := 112) (by decide +kernel), List.mem_of_getElem? (i := 113) (by decide +kernel)⟩
theorem lw_p1 : lw_okq (⟨"PageGuards", "mode", "()I"⟩, 9) := ⟨⟨by decide +kernel, by decide +kernel⟩, List.mem_of_getElem? (i := 8) (by decide +kernel), List.mem_of_getElem? (i := 116) (by decide +kernel), List.mem_of_getElem? (i := 117) (by decide +kernel)⟩
theorem lw_p2 : lw_okq (⟨"PageGuards", "step", "()V"⟩, 9) := ⟨⟨by decide +kernel, by decide +kernel⟩, List.mem_of_getElem? (i := 8) (by decide +kernel), List.mem_of_getElem? (i := 131) (by decide +kernel), List.mem_of_getElem? (i := 132) (by decide +kernel)⟩
theorem lw_p3 : lw_okq (⟨"PageGuards", "countTimer", "()V"⟩, 9) := ⟨⟨by decide +kernel, by decide +kernel⟩, List.mem_of_getElem? (i := 8) (by decide +kernel), List.mem_of_getElem? (i := 135) (by decide +kernel), List.mem_of_getElem? (i := 136) (by decide +kernel)⟩
theorem lw_p4 : lw_okq (⟨"PageGuards", "dueRequest", "()I"⟩, 9) := ⟨⟨by decide +kernel, by decide +kernel⟩, List.mem_of_getElem? (i := 8) (by decide +kernel), List.mem_of_getElem? (i := 139) (by decide +kernel), List.mem_of_getElem? (i := 140) (by decide +kernel)⟩
theorem lw_p5 : lw_okq (⟨"PageGuards", "has", "(I)Z"⟩, 9) := ⟨⟨by decide +kernel, by decide +kernel⟩, List.mem_of_getElem? (i := 8) (by decide +kernel), List.mem_of_getElem? (i := 143) (by decide +kernel), List.mem_of_getElem? (i := 144) (by decide +kernel)⟩
theorem lw_p6 : lw_okq (⟨"PageGuards", "raise", "(II)I"⟩, 9) := ⟨⟨by decide +kernel, by decide +kernel⟩, List.mem_of_getElem? (i := 8) (by decide +kernel), List.mem_of_getElem? (i := 147) (by decide +kernel), List.mem_of_getElem? (i := 148) (by decide +kernel)⟩
theorem lw_p7 : lw_okq (⟨"PageGuards", "privileged", "()Z"⟩, 9) := ⟨⟨by decide +kernel, by decide +kernel⟩, List.mem_of_getElem? (i := 8) (by decide +kernel), List.mem_of_getElem? (i := 153) (by decide +kernel), List.mem_of_getElem? (i := 154) (by decide +kernel)⟩
theorem lw_p8 : lw_okq (⟨"PageGuards$Buffer", "serves", "(III)Z"⟩, 3) := ⟨⟨by decide +kernel, by decide +kernel⟩, List.mem_of_getElem? (i := 22) (by decide +kernel), List.mem_of_getElem? (i := 168) (by decide +kernel), List.mem_of_getElem? (i := 169) (by decide +kernel)⟩
theorem lw_p9 : lw_okq (⟨"PageGuards$Unit", "walk", "(I)I"⟩, 4) := ⟨⟨by decide +kernel, by decide +kernel⟩, List.mem_of_getElem? (i := 16) (by decide +kernel), List.mem_of_getElem? (i := 172) (by decide +kernel), List.mem_of_getElem? (i := 173) (by decide +kernel)⟩
theorem lw_p10 : lw_okq (⟨"PageGuards$Unit", "tableFor", "(I)I"⟩, 4) := ⟨⟨by decide +kernel, by decide +kernel⟩, List.mem_of_getElem? (i := 16) (by decide +kernel), List.mem_of_getElem? (i := 176) (by decide +kernel), List.mem_of_getElem? (i := 177) (by decide +kernel)⟩
theorem lw_p11 : lw_okq (⟨"PageGuards$Buffer", "drop", "(I)V"⟩, 3) := ⟨⟨by decide +kernel, by decide +kernel⟩, List.mem_of_getElem? (i := 22) (by decide +kernel), List.mem_of_getElem? (i := 188) (by decide +kernel), List.mem_of_getElem? (i := 189) (by decide +kernel)⟩
theorem lw_p12 : lw_okq (⟨"PageGuards$Unit", "refusal", "(IIZ)I"⟩, 4) := ⟨⟨by decide +kernel, by decide +kernel⟩, List.mem_of_getElem? (i := 16) (by decide +kernel), List.mem_of_getElem? (i := 195) (by decide +kernel), List.mem_of_getElem? (i := 196) (by decide +kernel)⟩
theorem lw_p13 : lw_okq (⟨"PageGuards", "fetchFault", "(I)I"⟩, 9) := ⟨⟨by decide +kernel, by decide +kernel⟩, List.mem_of_getElem? (i := 8) (by decide +kernel), List.mem_of_getElem? (i := 206) (by decide +kernel), List.mem_of_getElem? (i := 207) (by decide +kernel)⟩
theorem lw_p14 : lw_okq (⟨"PageGuards", "perform", "(I)I"⟩, 9) := ⟨⟨by decide +kernel, by decide +kernel⟩, List.mem_of_getElem? (i := 8) (by decide +kernel), List.mem_of_getElem? (i := 215) (by decide +kernel), List.mem_of_getElem? (i := 216) (by decide +kernel)⟩
theorem lw_p15 : lw_okq (⟨"PageGuards", "isDue", "(I)Z"⟩, 9) := ⟨⟨by decide +kernel, by decide +kernel⟩, List.mem_of_getElem? (i := 8) (by decide +kernel), List.mem_of_getElem? (i := 219) (by decide +kernel), List.mem_of_getElem? (i := 220) (by decide +kernel)⟩
def lw_privs_1 : List (MethodName × Nat) := [(⟨"PageGuards", "writeRegister", "(II)V"⟩, 9), (⟨"PageGuards", "mode", "()I"⟩, 9), (⟨"PageGuards", "step", "()V"⟩, 9), (⟨"PageGuards", "countTimer", "()V"⟩, 9), (⟨"PageGuards", "dueRequest", "()I"⟩, 9), (⟨"PageGuards", "has", "(I)Z"⟩, 9), (⟨"PageGuards", "raise", "(II)I"⟩, 9), (⟨"PageGuards", "privileged", "()Z"⟩, 9), (⟨"PageGuards$Buffer", "serves", "(III)Z"⟩, 3), (⟨"PageGuards$Unit", "walk", "(I)I"⟩, 4), (⟨"PageGuards$Unit", "tableFor", "(I)I"⟩, 4), (⟨"PageGuards$Buffer", "drop", "(I)V"⟩, 3), (⟨"PageGuards$Unit", "refusal", "(IIZ)I"⟩, 4), (⟨"PageGuards", "fetchFault", "(I)I"⟩, 9), (⟨"PageGuards", "perform", "(I)I"⟩, 9), (⟨"PageGuards", "isDue", "(I)Z"⟩, 9)]
theorem lw_r1 : ∀ q ∈ lw_privs_1, lw_okq q := List.forall_mem_cons.mpr ⟨lw_p0, List.forall_mem_cons.mpr ⟨lw_p1, List.forall_mem_cons.mpr ⟨lw_p2, List.forall_mem_cons.mpr ⟨lw_p3, List.forall_mem_cons.mpr ⟨lw_p4, List.forall_mem_cons.mpr ⟨lw_p5, List.forall_mem_cons.mpr ⟨lw_p6, List.forall_mem_cons.mpr ⟨lw_p7, List.forall_mem_cons.mpr ⟨lw_p8, List.forall_mem_cons.mpr ⟨lw_p9, List.forall_mem_cons.mpr ⟨lw_p10, List.forall_mem_cons.mpr ⟨lw_p11, List.forall_mem_cons.mpr ⟨lw_p12, List.forall_mem_cons.mpr ⟨lw_p13, List.forall_mem_cons.mpr ⟨lw_p14, List.forall_mem_cons.mpr ⟨lw_p15, fun _ h => absurd h List.not_mem_nil⟩⟩⟩⟩⟩⟩⟩⟩⟩⟩⟩⟩⟩⟩⟩⟩
theorem lw_p16 : lw_okq (⟨"PageGuards", "isUnknown", "(II)Z"⟩, 9) := ⟨⟨by decide +kernel, by decide +kernel⟩, List.mem_of_getElem? (i := 8) (by decide +kernel), List.mem_of_getElem? (i := 223) (by decide +kernel), List.mem_of_getElem? (i := 224) (by decide +kernel)⟩
theorem lw_p17 : lw_okq (⟨"PageGuards", "readRegister", "(I)I"⟩, 9) := ⟨⟨by decide +kernel, by decide +kernel⟩, List.mem_of_getElem? (i := 8) (by decide +kernel), List.mem_of_getElem? (i := 230) (by decide +kernel), List.mem_of_getElem? (i := 231) (by decide +kernel)⟩
theorem lw_p18 : lw_okq (⟨"PageGuards", "compare", "(II)V"⟩, 9) := ⟨⟨by decide +kernel, by decide +kernel⟩, List.mem_of_getElem? (i := 8) (by decide +kernel), List.mem_of_getElem? (i := 237) (by decide +kernel), List.mem_of_getElem? (i := 238) (by decide +kernel)⟩
theorem lw_p19 : lw_okq (⟨"PageGuards", "load", "(II)I"⟩, 9) := ⟨⟨by decide +kernel, by decide +kernel⟩, List.mem_of_getElem? (i := 8) (by decide +kernel), List.mem_of_getElem? (i := 248) (by decide +kernel), List.mem_of_getElem? (i := 249) (by decide +kernel)⟩
theorem lw_p20 : lw_okq (⟨"PageGuards", "dataFault", "(II)I"⟩, 9) := ⟨⟨by decide +kernel, by decide +kernel⟩, List.mem_of_getElem? (i := 8) (by decide +kernel), List.mem_of_getElem? (i := 252) (by decide +kernel), List.mem_of_getElem? (i := 253) (by decide +kernel)⟩
theorem lw_p21 : lw_okq (⟨"PageGuards", "store", "(II)I"⟩, 9) := ⟨⟨by decide +kernel, by decide +kernel⟩, List.mem_of_getElem? (i := 8) (by decide +kernel), List.mem_of_getElem? (i := 256) (by decide +kernel), List.mem_of_getElem? (i := 257) (by decide +kernel)⟩
theorem lw_p22 : lw_okq (⟨"PageGuards", "loadMany", "(II)I"⟩, 9) := ⟨⟨by decide +kernel, by decide +kernel⟩, List.mem_of_getElem? (i := 8) (by decide +kernel), List.mem_of_getElem? (i := 260) (by decide +kernel), List.mem_of_getElem? (i := 261) (by decide +kernel)⟩
theorem lw_p23 : lw_okq (⟨"PageGuards", "storeMany", "(II)I"⟩, 9) := ⟨⟨by decide +kernel, by decide +kernel⟩, List.mem_of_getElem? (i := 8) (by decide +kernel), List.mem_of_getElem? (i := 267) (by decide +kernel), List.mem_of_getElem? (i := 268) (by decide +kernel)⟩
theorem lw_p24 : lw_okq (⟨"PageGuards", "returnFromException", "()I"⟩, 9) := ⟨⟨by decide +kernel, by decide +kernel⟩, List.mem_of_getElem? (i := 8) (by decide +kernel), List.mem_of_getElem? (i := 277) (by decide +kernel), List.mem_of_getElem? (i := 278) (by decide +kernel)⟩
theorem lw_p25 : lw_okq (⟨"PageGuards", "govern", "(IIII)V"⟩, 9) := ⟨⟨by decide +kernel, by decide +kernel⟩, List.mem_of_getElem? (i := 8) (by decide +kernel), List.mem_of_getElem? (i := 284) (by decide +kernel), List.mem_of_getElem? (i := 285) (by decide +kernel)⟩
theorem lw_p26 : lw_okq (⟨"PageGuards", "writeStatus", "(IZ)V"⟩, 9) := ⟨⟨by decide +kernel, by decide +kernel⟩, List.mem_of_getElem? (i := 8) (by decide +kernel), List.mem_of_getElem? (i := 288) (by decide +kernel), List.mem_of_getElem? (i := 289) (by decide +kernel)⟩
theorem lw_p27 : lw_okq (⟨"PageGuards", "forget", "(II)V"⟩, 9) := ⟨⟨by decide +kernel, by decide +kernel⟩, List.mem_of_getElem? (i := 8) (by decide +kernel), List.mem_of_getElem? (i := 292) (by decide +kernel), List.mem_of_getElem? (i := 293) (by decide +kernel)⟩
theorem lw_p28 : lw_okq (⟨"PageGuardsModel", "put", "(II)V"⟩, 23) := ⟨⟨by decide +kernel, by decide +kernel⟩, List.mem_of_getElem? (i := 321) (by decide +kernel), List.mem_of_getElem? (i := 417) (by decide +kernel), List.mem_of_getElem? (i := 418) (by decide +kernel)⟩
theorem lw_p29 : lw_okq (⟨"PageGuardsModel", "mode", "()I"⟩, 23) := ⟨⟨by decide +kernel, by decide +kernel⟩, List.mem_of_getElem? (i := 321) (by decide +kernel), List.mem_of_getElem? (i := 421) (by decide +kernel), List.mem_of_getElem? (i := 422) (by decide +kernel)⟩
theorem lw_p30 : lw_okq (⟨"PageGuardsModel", "step", "()V"⟩, 23) := ⟨⟨by decide +kernel, by decide +kernel⟩, List.mem_of_getElem? (i := 321) (by decide +kernel), List.mem_of_getElem? (i := 433) (by decide +kernel), List.mem_of_getElem? (i := 434) (by decide +kernel)⟩
theorem lw_p31 : lw_okq (⟨"PageGuardsModel", "exception", "(I)V"⟩, 23) := ⟨⟨by decide +kernel, by decide +kernel⟩, List.mem_of_getElem? (i := 321) (by decide +kernel), List.mem_of_getElem? (i := 437) (by decide +kernel), List.mem_of_getElem? (i := 438) (by decide +kernel)⟩
def lw_privs_2 : List (MethodName × Nat) := [(⟨"PageGuards", "isUnknown", "(II)Z"⟩, 9), (⟨"PageGuards", "readRegister", "(I)I"⟩, 9), (⟨"PageGuards", "compare", "(II)V"⟩, 9), (⟨"PageGuards", "load", "(II)I"⟩, 9), (⟨"PageGuards", "dataFault", "(II)I"⟩, 9), (⟨"PageGuards", "store", "(II)I"⟩, 9), (⟨"PageGuards", "loadMany", "(II)I"⟩, 9), (⟨"PageGuards", "storeMany", "(II)I"⟩, 9), (⟨"PageGuards", "returnFromException", "()I"⟩, 9), (⟨"PageGuards", "govern", "(IIII)V"⟩, 9), (⟨"PageGuards", "writeStatus", "(IZ)V"⟩, 9), (⟨"PageGuards", "forget", "(II)V"⟩, 9), (⟨"PageGuardsModel", "put", "(II)V"⟩, 23), (⟨"PageGuardsModel", "mode", "()I"⟩, 23), (⟨"PageGuardsModel", "step", "()V"⟩, 23), (⟨"PageGuardsModel", "exception", "(I)V"⟩, 23)]
theorem lw_r2 : ∀ q ∈ lw_privs_2, lw_okq q := List.forall_mem_cons.mpr ⟨lw_p16, List.forall_mem_cons.mpr ⟨lw_p17, List.forall_mem_cons.mpr ⟨lw_p18, List.forall_mem_cons.mpr ⟨lw_p19, List.forall_mem_cons.mpr ⟨lw_p20, List.forall_mem_cons.mpr ⟨lw_p21, List.forall_mem_cons.mpr ⟨lw_p22, List.forall_mem_cons.mpr ⟨lw_p23, List.forall_mem_cons.mpr ⟨lw_p24, List.forall_mem_cons.mpr ⟨lw_p25, List.forall_mem_cons.mpr ⟨lw_p26, List.forall_mem_cons.mpr ⟨lw_p27, List.forall_mem_cons.mpr ⟨lw_p28, List.forall_mem_cons.mpr ⟨lw_p29, List.forall_mem_cons.mpr ⟨lw_p30, List.forall_mem_cons.mpr ⟨lw_p31, fun _ h => absurd h List.not_mem_nil⟩⟩⟩⟩⟩⟩⟩⟩⟩⟩⟩⟩⟩⟩⟩⟩
theorem lw_p32 : lw_okq (⟨"PageGuardsModel", "place", "(II)I"⟩, 23) := ⟨⟨by decide +kernel, by decide +kernel⟩, List.mem_of_getElem? (i := 321) (by decide +kernel), List.mem_of_getElem? (i := 441) (by decide +kernel), List.mem_of_getElem? (i := 442) (by decide +kernel)⟩
theorem lw_p33 : lw_okq (⟨"PageGuardsModel", "look", "(I)I"⟩, 23) := ⟨⟨by decide +kernel, by decide +kernel⟩, List.mem_of_getElem? (i := 321) (by decide +kernel), List.mem_of_getElem? (i := 445) (by decide +kernel), List.mem_of_getElem? (i := 446) (by decide +kernel)⟩
theorem lw_p34 : lw_okq (⟨"PageGuardsModel", "covers", "(II)Z"⟩, 23) := ⟨⟨by decide +kernel, by decide +kernel⟩, List.mem_of_getElem? (i := 321) (by decide +kernel), List.mem_of_getElem? (i := 449) (by decide +kernel), List.mem_of_getElem? (i := 450) (by decide +kernel)⟩
theorem lw_p35 : lw_okq (⟨"PageGuardsModel", "isFor", "(I)Z"⟩, 23) := ⟨⟨by decide +kernel, by decide +kernel⟩, List.mem_of_getElem? (i := 321) (by decide +kernel), List.mem_of_getElem? (i := 453) (by decide +kernel), List.mem_of_getElem? (i := 454) (by decide +kernel)⟩
theorem lw_p36 : lw_okq (⟨"PageGuardsModel", "walk", "(I)V"⟩, 23) := ⟨⟨by decide +kernel, by decide +kernel⟩, List.mem_of_getElem? (i := 321) (by decide +kernel), List.mem_of_getElem? (i := 457) (by decide +kernel), List.mem_of_getElem? (i := 458) (by decide +kernel)⟩
theorem lw_p37 : lw_okq (⟨"PageGuardsModel", "tableWord", "(I)I"⟩, 23) := ⟨⟨by decide +kernel, by decide +kernel⟩, List.mem_of_getElem? (i := 321) (by decide +kernel), List.mem_of_getElem? (i := 461) (by decide +kernel), List.mem_of_getElem? (i := 462) (by decide +kernel)⟩
theorem lw_p38 : lw_okq (⟨"PageGuardsModel", "keepWalked", "()V"⟩, 23) := ⟨⟨by decide +kernel, by decide +kernel⟩, List.mem_of_getElem? (i := 321) (by decide +kernel), List.mem_of_getElem? (i := 465) (by decide +kernel), List.mem_of_getElem? (i := 466) (by decide +kernel)⟩
theorem lw_p39 : lw_okq (⟨"PageGuardsModel", "drop", "(I)V"⟩, 23) := ⟨⟨by decide +kernel, by decide +kernel⟩, List.mem_of_getElem? (i := 321) (by decide +kernel), List.mem_of_getElem? (i := 469) (by decide +kernel), List.mem_of_getElem? (i := 470) (by decide +kernel)⟩
theorem lw_p40 : lw_okq (⟨"PageGuardsModel", "move", "(II)V"⟩, 23) := ⟨⟨by decide +kernel, by decide +kernel⟩, List.mem_of_getElem? (i := 321) (by decide +kernel), List.mem_of_getElem? (i := 473) (by decide +kernel), List.mem_of_getElem? (i := 474) (by decide +kernel)⟩
theorem lw_p41 : lw_okq (⟨"PageGuardsModel", "isAllowed", "(II)Z"⟩, 23) := ⟨⟨by decide +kernel, by decide +kernel⟩, List.mem_of_getElem? (i := 321) (by decide +kernel), List.mem_of_getElem? (i := 477) (by decide +kernel), List.mem_of_getElem? (i := 478) (by decide +kernel)⟩
theorem lw_p42 : lw_okq (⟨"PageGuardsModel", "fault", "(III)V"⟩, 23) := ⟨⟨by decide +kernel, by decide +kernel⟩, List.mem_of_getElem? (i := 321) (by decide +kernel), List.mem_of_getElem? (i := 481) (by decide +kernel), List.mem_of_getElem? (i := 482) (by decide +kernel)⟩
theorem lw_p43 : lw_okq (⟨"PageGuardsModel", "operate", "(I)V"⟩, 23) := ⟨⟨by decide +kernel, by decide +kernel⟩, List.mem_of_getElem? (i := 321) (by decide +kernel), List.mem_of_getElem? (i := 485) (by decide +kernel), List.mem_of_getElem? (i := 486) (by decide +kernel)⟩
theorem lw_p44 : lw_okq (⟨"PageGuardsModel", "get", "(I)I"⟩, 23) := ⟨⟨by decide +kernel, by decide +kernel⟩, List.mem_of_getElem? (i := 321) (by decide +kernel), List.mem_of_getElem? (i := 489) (by decide +kernel), List.mem_of_getElem? (i := 490) (by decide +kernel)⟩
theorem lw_p45 : lw_okq (⟨"PageGuardsModel", "isDue", "(I)Z"⟩, 23) := ⟨⟨by decide +kernel, by decide +kernel⟩, List.mem_of_getElem? (i := 321) (by decide +kernel), List.mem_of_getElem? (i := 493) (by decide +kernel), List.mem_of_getElem? (i := 494) (by decide +kernel)⟩
theorem lw_p46 : lw_okq (⟨"PageGuardsModel", "isUnknown", "(III)Z"⟩, 23) := ⟨⟨by decide +kernel, by decide +kernel⟩, List.mem_of_getElem? (i := 321) (by decide +kernel), List.mem_of_getElem? (i := 497) (by decide +kernel), List.mem_of_getElem? (i := 498) (by decide +kernel)⟩
theorem lw_p47 : lw_okq (⟨"PageGuardsModel", "compare", "(II)V"⟩, 23) := ⟨⟨by decide +kernel, by decide +kernel⟩, List.mem_of_getElem? (i := 321) (by decide +kernel), List.mem_of_getElem? (i := 501) (by decide +kernel), List.mem_of_getElem? (i := 502) (by decide +kernel)⟩
def lw_privs_3 : List (MethodName × Nat) := [(⟨"PageGuardsModel", "place", "(II)I"⟩, 23), (⟨"PageGuardsModel", "look", "(I)I"⟩, 23), (⟨"PageGuardsModel", "covers", "(II)Z"⟩, 23), (⟨"PageGuardsModel", "isFor", "(I)Z"⟩, 23), (⟨"PageGuardsModel", "walk", "(I)V"⟩, 23), (⟨"PageGuardsModel", "tableWord", "(I)I"⟩, 23), (⟨"PageGuardsModel", "keepWalked", "()V"⟩, 23), (⟨"PageGuardsModel", "drop", "(I)V"⟩, 23), (⟨"PageGuardsModel", "move", "(II)V"⟩, 23), (⟨"PageGuardsModel", "isAllowed", "(II)Z"⟩, 23), (⟨"PageGuardsModel", "fault", "(III)V"⟩, 23), (⟨"PageGuardsModel", "operate", "(I)V"⟩, 23), (⟨"PageGuardsModel", "get", "(I)I"⟩, 23), (⟨"PageGuardsModel", "isDue", "(I)Z"⟩, 23), (⟨"PageGuardsModel", "isUnknown", "(III)Z"⟩, 23), (⟨"PageGuardsModel", "compare", "(II)V"⟩, 23)]
theorem lw_r3 : ∀ q ∈ lw_privs_3, lw_okq q := List.forall_mem_cons.mpr ⟨lw_p32, List.forall_mem_cons.mpr ⟨lw_p33, List.forall_mem_cons.mpr ⟨lw_p34, List.forall_mem_cons.mpr ⟨lw_p35, List.forall_mem_cons.mpr ⟨lw_p36, List.forall_mem_cons.mpr ⟨lw_p37, List.forall_mem_cons.mpr ⟨lw_p38, List.forall_mem_cons.mpr ⟨lw_p39, List.forall_mem_cons.mpr ⟨lw_p40, List.forall_mem_cons.mpr ⟨lw_p41, List.forall_mem_cons.mpr ⟨lw_p42, List.forall_mem_cons.mpr ⟨lw_p43, List.forall_mem_cons.mpr ⟨lw_p44, List.forall_mem_cons.mpr ⟨lw_p45, List.forall_mem_cons.mpr ⟨lw_p46, List.forall_mem_cons.mpr ⟨lw_p47, fun _ h => absurd h List.not_mem_nil⟩⟩⟩⟩⟩⟩⟩⟩⟩⟩⟩⟩⟩⟩⟩⟩
theorem lw_p48 : lw_okq (⟨"PageGuardsModel", "one", "(ZII)Z"⟩, 23) := ⟨⟨by decide +kernel, by decide +kernel⟩, List.mem_of_getElem? (i := 321) (by decide +kernel), List.mem_of_getElem? (i := 506) (by decide +kernel), List.mem_of_getElem? (i := 507) (by decide +kernel)⟩
theorem lw_p49 : lw_okq (⟨"PageGuardsModel", "loadMany", "(III)Z"⟩, 23) := ⟨⟨by decide +kernel, by decide +kernel⟩, List.mem_of_getElem? (i := 321) (by decide +kernel), List.mem_of_getElem? (i := 510) (by decide +kernel), List.mem_of_getElem? (i := 511) (by decide +kernel)⟩
theorem lw_p50 : lw_okq (⟨"PageGuardsModel", "storeMany", "(III)Z"⟩, 23) := ⟨⟨by decide +kernel, by decide +kernel⟩, List.mem_of_getElem? (i := 321) (by decide +kernel), List.mem_of_getElem? (i := 514) (by decide +kernel), List.mem_of_getElem? (i := 515) (by decide +kernel)⟩
theorem lw_p51 : lw_okq (⟨"PageGuardsModel", "setStatus", "(IZ)V"⟩, 23) := ⟨⟨by decide +kernel, by decide +kernel⟩, List.mem_of_getElem? (i := 321) (by decide +kernel), List.mem_of_getElem? (i := 521) (by decide +kernel), List.mem_of_getElem? (i := 522) (by decide +kernel)⟩
theorem lw_p52 : lw_okq (⟨"PageGuardsModel", "forget", "(II)V"⟩, 23) := ⟨⟨by decide +kernel, by decide +kernel⟩, List.mem_of_getElem? (i := 321) (by decide +kernel), List.mem_of_getElem? (i := 529) (by decide +kernel), List.mem_of_getElem? (i := 530) (by decide +kernel)⟩
theorem lw_p53 : lw_okq (⟨"PageGuardsModel", "worked", "(IIII)I"⟩, 23) := ⟨⟨by decide +kernel, by decide +kernel⟩, List.mem_of_getElem? (i := 321) (by decide +kernel), List.mem_of_getElem? (i := 533) (by decide +kernel), List.mem_of_getElem? (i := 534) (by decide +kernel)⟩
def lw_privs_4 : List (MethodName × Nat) := [(⟨"PageGuardsModel", "one", "(ZII)Z"⟩, 23), (⟨"PageGuardsModel", "loadMany", "(III)Z"⟩, 23), (⟨"PageGuardsModel", "storeMany", "(III)Z"⟩, 23), (⟨"PageGuardsModel", "setStatus", "(IZ)V"⟩, 23), (⟨"PageGuardsModel", "forget", "(II)V"⟩, 23), (⟨"PageGuardsModel", "worked", "(IIII)I"⟩, 23)]
theorem lw_r4 : ∀ q ∈ lw_privs_4, lw_okq q := List.forall_mem_cons.mpr ⟨lw_p48, List.forall_mem_cons.mpr ⟨lw_p49, List.forall_mem_cons.mpr ⟨lw_p50, List.forall_mem_cons.mpr ⟨lw_p51, List.forall_mem_cons.mpr ⟨lw_p52, List.forall_mem_cons.mpr ⟨lw_p53, fun _ h => absurd h List.not_mem_nil⟩⟩⟩⟩⟩⟩
def lw_privs : List (MethodName × Nat) := lw_privs_1 ++ (lw_privs_2 ++ (lw_privs_3 ++ (lw_privs_4)))
def lw_tbl : List Cond := k2_sels lw_privs ++ tables_1
theorem lw_privs_ok : ∀ q ∈ lw_privs, lw_okq q := by
  show ∀ q ∈ lw_privs_1 ++ (lw_privs_2 ++ (lw_privs_3 ++ (lw_privs_4))), lw_okq q
  exact List.forall_mem_append.mpr ⟨lw_r1, List.forall_mem_append.mpr ⟨lw_r2, List.forall_mem_append.mpr ⟨lw_r3, lw_r4⟩⟩⟩
end
section
abbrev qT : List Cond := lw_tbl.filter goodWord
theorem q_good {w : Cond} (h : w ∈ qT) : (w.onTables && w.keeps) = true ∨ ∃ ty, w = .arrayClass ty := good_of_word (List.mem_filter.mp h).2
theorem q_gI {y : MethodName} {c : ByteArray} {n : Nat} {r : Option FieldType} (h : .code y c n r ∈ qT) : GoodIn qT (.code y c n r :: qT) := fun w hw => by
  rcases List.mem_cons.mp hw with rfl | hw
  · exact ⟨h, q_good h⟩
  · exact ⟨hw, q_good hw⟩
theorem q_gV {own C : String} {i : Nat} {y : MethodName} {c : ByteArray} {n : Nat} {r : Option FieldType} (h1 : .methodLink own i y ∈ qT) (h2 : .instanceMethod y ∈ qT) (h3 : .selects C y y ∈ qT) (h4 : .initialized C ∈ qT) (h5 : .code y c n r ∈ qT) : GoodIn qT (wsV own i C y (.code y c n r :: qT)) := by
  intro w hw
  rcases List.mem_append.mp hw with hw | hw
  · have hw : w = .methodLink own i y ∨ w = .instanceMethod y ∨ w = .selects C y y ∨ w = .initialized C := by simpa using hw
    rcases hw with rfl | rfl | rfl | rfl
    · exact ⟨h1, q_good h1⟩
    · exact ⟨h2, q_good h2⟩
    · exact ⟨h3, q_good h3⟩
    · exact ⟨h4, q_good h4⟩
  · exact q_gI h5 w hw
theorem q_gS {own : String} {i : Nat} {y : MethodName} {c : ByteArray} {n : Nat} {r : Option FieldType} (h1 : .methodLink own i y ∈ qT) (h2 : .static y ∈ qT) (h4 : .initialized y.cls ∈ qT) (h5 : .code y c n r ∈ qT) : GoodIn qT (va_wsS own i y (.code y c n r :: qT)) := by
  intro w hw
  rcases List.mem_append.mp hw with hw | hw
  · have hw : w = .methodLink own i y ∨ w = .static y ∨ w = .initialized y.cls := by simpa using hw
    rcases hw with rfl | rfl | rfl
    · exact ⟨h1, q_good h1⟩
    · exact ⟨h2, q_good h2⟩
    · exact ⟨h4, q_good h4⟩
  · exact q_gI h5 w hw
theorem m1_0 : (Jvm.Cond.initialized "PageGuardsLaw") ∈ qT := List.mem_filter.mpr ⟨List.mem_append_right _ (List.mem_append_left _ (List.mem_of_getElem? (i := 0) rfl)), rfl⟩
theorem m1_1 : (Jvm.Cond.initialized "PageGuards") ∈ qT := List.mem_filter.mpr ⟨List.mem_append_right _ (List.mem_append_left _ (List.mem_of_getElem? (i := 1) rfl)), rfl⟩
theorem m1_2 : (Jvm.Cond.initialized "PageGuards$Unit") ∈ qT := List.mem_filter.mpr ⟨List.mem_append_right _ (List.mem_append_left _ (List.mem_of_getElem? (i := 2) rfl)), rfl⟩
theorem m1_3 : (Jvm.Cond.initialized "PageGuards$Buffer") ∈ qT := List.mem_filter.mpr ⟨List.mem_append_right _ (List.mem_append_left _ (List.mem_of_getElem? (i := 3) rfl)), rfl⟩
theorem m1_4 : (Jvm.Cond.initialized "PageGuardsModel") ∈ qT := List.mem_filter.mpr ⟨List.mem_append_right _ (List.mem_append_left _ (List.mem_of_getElem? (i := 4) rfl)), rfl⟩
theorem m1_5 : (Jvm.Cond.initialized "java/lang/System") ∈ qT := List.mem_filter.mpr ⟨List.mem_append_right _ (List.mem_append_left _ (List.mem_of_getElem? (i := 5) rfl)), rfl⟩
theorem m1_6 : (Jvm.Cond.initialized "java/lang/Integer") ∈ qT := List.mem_filter.mpr ⟨List.mem_append_right _ (List.mem_append_left _ (List.mem_of_getElem? (i := 6) rfl)), rfl⟩
theorem m1_7 : (Jvm.Cond.classLink "PageGuardsLaw" (7 : Nat) "PageGuards") ∈ qT := List.mem_filter.mpr ⟨List.mem_append_right _ (List.mem_append_left _ (List.mem_of_getElem? (i := 7) rfl)), rfl⟩
theorem m1_8 : (Jvm.Cond.instantiable "PageGuards" (9 : Nat)) ∈ qT := List.mem_filter.mpr ⟨List.mem_append_right _ (List.mem_append_left _ (List.mem_of_getElem? (i := 8) rfl)), rfl⟩
theorem m1_9 : (Jvm.Cond.methodLink "PageGuardsLaw" (15 : Nat) ({ cls := "PageGuards", name := "<init>", desc := "(I)V" } : Jvm.MethodName)) ∈ qT := List.mem_filter.mpr ⟨List.mem_append_right _ (List.mem_append_left _ (List.mem_of_getElem? (i := 9) rfl)), rfl⟩
theorem m1_10 : (Jvm.Cond.instanceMethod ({ cls := "PageGuards", name := "<init>", desc := "(I)V" } : Jvm.MethodName)) ∈ qT := List.mem_filter.mpr ⟨List.mem_append_right _ (List.mem_append_left _ (List.mem_of_getElem? (i := 10) rfl)), rfl⟩
theorem m1_11 : (Jvm.Cond.code ({ cls := "PageGuards", name := "<init>", desc := "(I)V" } : Jvm.MethodName) prog_1_method_1_code (2 : Nat) (Option.none : Option Jvm.ClassFile.FieldType)) ∈ qT := List.mem_filter.mpr ⟨List.mem_append_right _ (List.mem_append_left _ (List.mem_of_getElem? (i := 11) rfl)), rfl⟩
theorem m1_12 : (Jvm.Cond.methodLink "PageGuards" (3 : Nat) ({ cls := "java/lang/Object", name := "<init>", desc := "()V" } : Jvm.MethodName)) ∈ qT := List.mem_filter.mpr ⟨List.mem_append_right _ (List.mem_append_left _ (List.mem_of_getElem? (i := 12) rfl)), rfl⟩
theorem m1_13 : (Jvm.Cond.instanceMethod ({ cls := "java/lang/Object", name := "<init>", desc := "()V" } : Jvm.MethodName)) ∈ qT := List.mem_filter.mpr ⟨List.mem_append_right _ (List.mem_append_left _ (List.mem_of_getElem? (i := 13) rfl)), rfl⟩
theorem m1_14 : (Jvm.Cond.code ({ cls := "java/lang/Object", name := "<init>", desc := "()V" } : Jvm.MethodName) object_method_1_code (1 : Nat) (Option.none : Option Jvm.ClassFile.FieldType)) ∈ qT := List.mem_filter.mpr ⟨List.mem_append_right _ (List.mem_append_left _ (List.mem_of_getElem? (i := 14) rfl)), rfl⟩
theorem m1_15 : (Jvm.Cond.classLink "PageGuards" (27 : Nat) "PageGuards$Unit") ∈ qT := List.mem_filter.mpr ⟨List.mem_append_right _ (List.mem_append_left _ (List.mem_of_getElem? (i := 15) rfl)), rfl⟩
theorem m1_16 : (Jvm.Cond.instantiable "PageGuards$Unit" (4 : Nat)) ∈ qT := List.mem_filter.mpr ⟨List.mem_append_right _ (List.mem_append_left _ (List.mem_of_getElem? (i := 16) rfl)), rfl⟩
theorem m1_17 : (Jvm.Cond.methodLink "PageGuards" (29 : Nat) ({ cls := "PageGuards$Unit", name := "<init>", desc := "(Z)V" } : Jvm.MethodName)) ∈ qT := List.mem_filter.mpr ⟨List.mem_append_right _ (List.mem_append_left _ (List.mem_of_getElem? (i := 17) rfl)), rfl⟩
theorem m1_18 : (Jvm.Cond.instanceMethod ({ cls := "PageGuards$Unit", name := "<init>", desc := "(Z)V" } : Jvm.MethodName)) ∈ qT := List.mem_filter.mpr ⟨List.mem_append_right _ (List.mem_append_left _ (List.mem_of_getElem? (i := 18) rfl)), rfl⟩
theorem m1_19 : (Jvm.Cond.code ({ cls := "PageGuards$Unit", name := "<init>", desc := "(Z)V" } : Jvm.MethodName) prog_3_method_1_code (2 : Nat) (Option.none : Option Jvm.ClassFile.FieldType)) ∈ qT := List.mem_filter.mpr ⟨List.mem_append_right _ (List.mem_append_left _ (List.mem_of_getElem? (i := 19) rfl)), rfl⟩
theorem m1_20 : (Jvm.Cond.methodLink "PageGuards$Unit" (3 : Nat) ({ cls := "java/lang/Object", name := "<init>", desc := "()V" } : Jvm.MethodName)) ∈ qT := List.mem_filter.mpr ⟨List.mem_append_right _ (List.mem_append_left _ (List.mem_of_getElem? (i := 20) rfl)), rfl⟩
theorem m1_21 : (Jvm.Cond.classLink "PageGuards$Unit" (18 : Nat) "PageGuards$Buffer") ∈ qT := List.mem_filter.mpr ⟨List.mem_append_right _ (List.mem_append_left _ (List.mem_of_getElem? (i := 21) rfl)), rfl⟩
theorem m1_22 : (Jvm.Cond.instantiable "PageGuards$Buffer" (3 : Nat)) ∈ qT := List.mem_filter.mpr ⟨List.mem_append_right _ (List.mem_append_left _ (List.mem_of_getElem? (i := 22) rfl)), rfl⟩
theorem m1_23 : (Jvm.Cond.methodLink "PageGuards$Unit" (20 : Nat) ({ cls := "PageGuards$Buffer", name := "<init>", desc := "(Z)V" } : Jvm.MethodName)) ∈ qT := List.mem_filter.mpr ⟨List.mem_append_right _ (List.mem_append_left _ (List.mem_of_getElem? (i := 23) rfl)), rfl⟩
theorem m1_24 : (Jvm.Cond.instanceMethod ({ cls := "PageGuards$Buffer", name := "<init>", desc := "(Z)V" } : Jvm.MethodName)) ∈ qT := List.mem_filter.mpr ⟨List.mem_append_right _ (List.mem_append_left _ (List.mem_of_getElem? (i := 24) rfl)), rfl⟩
theorem m1_25 : (Jvm.Cond.code ({ cls := "PageGuards$Buffer", name := "<init>", desc := "(Z)V" } : Jvm.MethodName) prog_2_method_1_code (2 : Nat) (Option.none : Option Jvm.ClassFile.FieldType)) ∈ qT := List.mem_filter.mpr ⟨List.mem_append_right _ (List.mem_append_left _ (List.mem_of_getElem? (i := 25) rfl)), rfl⟩
theorem m1_26 : (Jvm.Cond.methodLink "PageGuards$Buffer" (3 : Nat) ({ cls := "java/lang/Object", name := "<init>", desc := "()V" } : Jvm.MethodName)) ∈ qT := List.mem_filter.mpr ⟨List.mem_append_right _ (List.mem_append_left _ (List.mem_of_getElem? (i := 26) rfl)), rfl⟩
theorem m1_27 : (Jvm.Cond.fieldLink "PageGuards$Buffer" (11 : Nat) "PageGuards$Buffer" "fields" "[I") ∈ qT := List.mem_filter.mpr ⟨List.mem_append_right _ (List.mem_append_left _ (List.mem_of_getElem? (i := 27) rfl)), rfl⟩
theorem m1_28 : (Jvm.Cond.fieldLink "PageGuards$Buffer" (15 : Nat) "PageGuards$Buffer" "used" "Z") ∈ qT := List.mem_filter.mpr ⟨List.mem_append_right _ (List.mem_append_left _ (List.mem_of_getElem? (i := 28) rfl)), rfl⟩
theorem m1_29 : (Jvm.Cond.fieldLink "PageGuards$Buffer" (19 : Nat) "PageGuards$Buffer" "count" "I") ∈ qT := List.mem_filter.mpr ⟨List.mem_append_right _ (List.mem_append_left _ (List.mem_of_getElem? (i := 29) rfl)), rfl⟩
theorem m1_38 : (Jvm.Cond.arrayClass Jvm.ClassFile.FieldType.int) ∈ qT := List.mem_filter.mpr ⟨List.mem_append_right _ (List.mem_append_left _ (List.mem_of_getElem? (i := 38) rfl)), rfl⟩
theorem m1_39 : (Jvm.Cond.fieldLink "PageGuards$Unit" (9 : Nat) "PageGuards$Unit" "memory" "[I") ∈ qT := List.mem_filter.mpr ⟨List.mem_append_right _ (List.mem_append_left _ (List.mem_of_getElem? (i := 39) rfl)), rfl⟩
theorem m1_41 : (Jvm.Cond.fieldLink "PageGuards$Unit" (15 : Nat) "PageGuards$Unit" "controls" "[I") ∈ qT := List.mem_filter.mpr ⟨List.mem_append_right _ (List.mem_append_left _ (List.mem_of_getElem? (i := 41) rfl)), rfl⟩
theorem m1_43 : (Jvm.Cond.fieldLink "PageGuards$Unit" (23 : Nat) "PageGuards$Unit" "buffer" "LPageGuards$Buffer;") ∈ qT := List.mem_filter.mpr ⟨List.mem_append_right _ (List.mem_append_left _ (List.mem_of_getElem? (i := 43) rfl)), rfl⟩
theorem m1_45 : (Jvm.Cond.fieldLink "PageGuards$Unit" (42 : Nat) "PageGuards$Unit" "walks" "I") ∈ qT := List.mem_filter.mpr ⟨List.mem_append_right _ (List.mem_append_left _ (List.mem_of_getElem? (i := 45) rfl)), rfl⟩
theorem m1_56 : (Jvm.Cond.fieldLink "PageGuards" (32 : Nat) "PageGuards" "unit" "LPageGuards$Unit;") ∈ qT := List.mem_filter.mpr ⟨List.mem_append_right _ (List.mem_append_left _ (List.mem_of_getElem? (i := 56) rfl)), rfl⟩
theorem m1_57 : (Jvm.Cond.fieldLink "PageGuards" (9 : Nat) "PageGuards" "registers" "[I") ∈ qT := List.mem_filter.mpr ⟨List.mem_append_right _ (List.mem_append_left _ (List.mem_of_getElem? (i := 57) rfl)), rfl⟩
theorem m1_58 : (Jvm.Cond.fieldLink "PageGuards" (13 : Nat) "PageGuards" "kept" "[I") ∈ qT := List.mem_filter.mpr ⟨List.mem_append_right _ (List.mem_append_left _ (List.mem_of_getElem? (i := 58) rfl)), rfl⟩
theorem m1_59 : (Jvm.Cond.fieldLink "PageGuards" (16 : Nat) "PageGuards" "loaded" "[I") ∈ qT := List.mem_filter.mpr ⟨List.mem_append_right _ (List.mem_append_left _ (List.mem_of_getElem? (i := 59) rfl)), rfl⟩
theorem m1_60 : (Jvm.Cond.fieldLink "PageGuards" (40 : Nat) "PageGuards" "pc" "I") ∈ qT := List.mem_filter.mpr ⟨List.mem_append_right _ (List.mem_append_left _ (List.mem_of_getElem? (i := 60) rfl)), rfl⟩
theorem m1_61 : (Jvm.Cond.fieldLink "PageGuards" (19 : Nat) "PageGuards" "status" "I") ∈ qT := List.mem_filter.mpr ⟨List.mem_append_right _ (List.mem_append_left _ (List.mem_of_getElem? (i := 61) rfl)), rfl⟩
theorem m1_62 : (Jvm.Cond.fieldLink "PageGuards" (62 : Nat) "PageGuards" "lines" "I") ∈ qT := List.mem_filter.mpr ⟨List.mem_append_right _ (List.mem_append_left _ (List.mem_of_getElem? (i := 62) rfl)), rfl⟩
theorem m1_63 : (Jvm.Cond.fieldLink "PageGuards" (56 : Nat) "PageGuards" "waits" "Z") ∈ qT := List.mem_filter.mpr ⟨List.mem_append_right _ (List.mem_append_left _ (List.mem_of_getElem? (i := 63) rfl)), rfl⟩
theorem m1_64 : (Jvm.Cond.fieldLink "PageGuards" (23 : Nat) "PageGuards" "still" "Z") ∈ qT := List.mem_filter.mpr ⟨List.mem_append_right _ (List.mem_append_left _ (List.mem_of_getElem? (i := 64) rfl)), rfl⟩
theorem m1_84 : (Jvm.Cond.methodLink "PageGuardsLaw" (21 : Nat) ({ cls := "PageGuards", name := "poke", desc := "(II)I" } : Jvm.MethodName)) ∈ qT := List.mem_filter.mpr ⟨List.mem_append_right _ (List.mem_append_left _ (List.mem_of_getElem? (i := 84) rfl)), rfl⟩
theorem m1_85 : (Jvm.Cond.instanceMethod ({ cls := "PageGuards", name := "poke", desc := "(II)I" } : Jvm.MethodName)) ∈ qT := List.mem_filter.mpr ⟨List.mem_append_right _ (List.mem_append_left _ (List.mem_of_getElem? (i := 85) rfl)), rfl⟩
theorem m1_86 : (Jvm.Cond.selects "PageGuards" ({ cls := "PageGuards", name := "poke", desc := "(II)I" } : Jvm.MethodName) ({ cls := "PageGuards", name := "poke", desc := "(II)I" } : Jvm.MethodName)) ∈ qT := List.mem_filter.mpr ⟨List.mem_append_right _ (List.mem_append_left _ (List.mem_of_getElem? (i := 86) rfl)), rfl⟩
theorem m1_87 : (Jvm.Cond.code ({ cls := "PageGuards", name := "poke", desc := "(II)I" } : Jvm.MethodName) prog_1_method_2_code (4 : Nat) (Option.some Jvm.ClassFile.FieldType.int)) ∈ qT := List.mem_filter.mpr ⟨List.mem_append_right _ (List.mem_append_left _ (List.mem_of_getElem? (i := 87) rfl)), rfl⟩
theorem m1_88 : (Jvm.Cond.methodLink "PageGuardsLaw" (28 : Nat) ({ cls := "PageGuards", name := "fill", desc := "(IJJ)Z" } : Jvm.MethodName)) ∈ qT := List.mem_filter.mpr ⟨List.mem_append_right _ (List.mem_append_left _ (List.mem_of_getElem? (i := 88) rfl)), rfl⟩
theorem m1_89 : (Jvm.Cond.instanceMethod ({ cls := "PageGuards", name := "fill", desc := "(IJJ)Z" } : Jvm.MethodName)) ∈ qT := List.mem_filter.mpr ⟨List.mem_append_right _ (List.mem_append_left _ (List.mem_of_getElem? (i := 89) rfl)), rfl⟩
theorem m1_90 : (Jvm.Cond.selects "PageGuards" ({ cls := "PageGuards", name := "fill", desc := "(IJJ)Z" } : Jvm.MethodName) ({ cls := "PageGuards", name := "fill", desc := "(IJJ)Z" } : Jvm.MethodName)) ∈ qT := List.mem_filter.mpr ⟨List.mem_append_right _ (List.mem_append_left _ (List.mem_of_getElem? (i := 90) rfl)), rfl⟩
theorem m1_91 : (Jvm.Cond.code ({ cls := "PageGuards", name := "fill", desc := "(IJJ)Z" } : Jvm.MethodName) prog_1_method_3_code (9 : Nat) (Option.some Jvm.ClassFile.FieldType.boolean)) ∈ qT := List.mem_filter.mpr ⟨List.mem_append_right _ (List.mem_append_left _ (List.mem_of_getElem? (i := 91) rfl)), rfl⟩
theorem m1_92 : (Jvm.Cond.constant "PageGuards" (39 : Nat) (65535 : Int32)) ∈ qT := List.mem_filter.mpr ⟨List.mem_append_right _ (List.mem_append_left _ (List.mem_of_getElem? (i := 92) rfl)), rfl⟩
theorem m1_93 : (Jvm.Cond.methodLink "PageGuardsLaw" (33 : Nat) ({ cls := "PageGuards", name := "begin", desc := "(I)V" } : Jvm.MethodName)) ∈ qT := List.mem_filter.mpr ⟨List.mem_append_right _ (List.mem_append_left _ (List.mem_of_getElem? (i := 93) rfl)), rfl⟩
theorem m1_94 : (Jvm.Cond.instanceMethod ({ cls := "PageGuards", name := "begin", desc := "(I)V" } : Jvm.MethodName)) ∈ qT := List.mem_filter.mpr ⟨List.mem_append_right _ (List.mem_append_left _ (List.mem_of_getElem? (i := 94) rfl)), rfl⟩
theorem m1_95 : (Jvm.Cond.selects "PageGuards" ({ cls := "PageGuards", name := "begin", desc := "(I)V" } : Jvm.MethodName) ({ cls := "PageGuards", name := "begin", desc := "(I)V" } : Jvm.MethodName)) ∈ qT := List.mem_filter.mpr ⟨List.mem_append_right _ (List.mem_append_left _ (List.mem_of_getElem? (i := 95) rfl)), rfl⟩
theorem m1_96 : (Jvm.Cond.code ({ cls := "PageGuards", name := "begin", desc := "(I)V" } : Jvm.MethodName) prog_1_method_4_code (2 : Nat) (Option.none : Option Jvm.ClassFile.FieldType)) ∈ qT := List.mem_filter.mpr ⟨List.mem_append_right _ (List.mem_append_left _ (List.mem_of_getElem? (i := 96) rfl)), rfl⟩
theorem m1_97 : (Jvm.Cond.methodLink "PageGuards" (43 : Nat) ({ cls := "PageGuards$Unit", name := "writeControl", desc := "(II)V" } : Jvm.MethodName)) ∈ qT := List.mem_filter.mpr ⟨List.mem_append_right _ (List.mem_append_left _ (List.mem_of_getElem? (i := 97) rfl)), rfl⟩
theorem m1_98 : (Jvm.Cond.instanceMethod ({ cls := "PageGuards$Unit", name := "writeControl", desc := "(II)V" } : Jvm.MethodName)) ∈ qT := List.mem_filter.mpr ⟨List.mem_append_right _ (List.mem_append_left _ (List.mem_of_getElem? (i := 98) rfl)), rfl⟩
theorem m1_99 : (Jvm.Cond.selects "PageGuards$Unit" ({ cls := "PageGuards$Unit", name := "writeControl", desc := "(II)V" } : Jvm.MethodName) ({ cls := "PageGuards$Unit", name := "writeControl", desc := "(II)V" } : Jvm.MethodName)) ∈ qT := List.mem_filter.mpr ⟨List.mem_append_right _ (List.mem_append_left _ (List.mem_of_getElem? (i := 99) rfl)), rfl⟩
theorem m1_100 : (Jvm.Cond.code ({ cls := "PageGuards$Unit", name := "writeControl", desc := "(II)V" } : Jvm.MethodName) prog_3_method_2_code (3 : Nat) (Option.none : Option Jvm.ClassFile.FieldType)) ∈ qT := List.mem_filter.mpr ⟨List.mem_append_right _ (List.mem_append_left _ (List.mem_of_getElem? (i := 100) rfl)), rfl⟩
theorem m1_103 : (Jvm.Cond.methodLink "PageGuards" (51 : Nat) ({ cls := "PageGuards$Buffer", name := "forgetAll", desc := "()V" } : Jvm.MethodName)) ∈ qT := List.mem_filter.mpr ⟨List.mem_append_right _ (List.mem_append_left _ (List.mem_of_getElem? (i := 103) rfl)), rfl⟩
theorem m1_104 : (Jvm.Cond.instanceMethod ({ cls := "PageGuards$Buffer", name := "forgetAll", desc := "()V" } : Jvm.MethodName)) ∈ qT := List.mem_filter.mpr ⟨List.mem_append_right _ (List.mem_append_left _ (List.mem_of_getElem? (i := 104) rfl)), rfl⟩
theorem m1_105 : (Jvm.Cond.selects "PageGuards$Buffer" ({ cls := "PageGuards$Buffer", name := "forgetAll", desc := "()V" } : Jvm.MethodName) ({ cls := "PageGuards$Buffer", name := "forgetAll", desc := "()V" } : Jvm.MethodName)) ∈ qT := List.mem_filter.mpr ⟨List.mem_append_right _ (List.mem_append_left _ (List.mem_of_getElem? (i := 105) rfl)), rfl⟩
theorem m1_106 : (Jvm.Cond.code ({ cls := "PageGuards$Buffer", name := "forgetAll", desc := "()V" } : Jvm.MethodName) prog_2_method_6_code (1 : Nat) (Option.none : Option Jvm.ClassFile.FieldType)) ∈ qT := List.mem_filter.mpr ⟨List.mem_append_right _ (List.mem_append_left _ (List.mem_of_getElem? (i := 106) rfl)), rfl⟩
theorem m1_107 : (Jvm.Cond.methodLink "PageGuardsLaw" (37 : Nat) ({ cls := "PageGuards", name := "set", desc := "(II)Z" } : Jvm.MethodName)) ∈ qT := List.mem_filter.mpr ⟨List.mem_append_right _ (List.mem_append_left _ (List.mem_of_getElem? (i := 107) rfl)), rfl⟩
theorem m1_108 : (Jvm.Cond.instanceMethod ({ cls := "PageGuards", name := "set", desc := "(II)Z" } : Jvm.MethodName)) ∈ qT := List.mem_filter.mpr ⟨List.mem_append_right _ (List.mem_append_left _ (List.mem_of_getElem? (i := 108) rfl)), rfl⟩
theorem m1_109 : (Jvm.Cond.selects "PageGuards" ({ cls := "PageGuards", name := "set", desc := "(II)Z" } : Jvm.MethodName) ({ cls := "PageGuards", name := "set", desc := "(II)Z" } : Jvm.MethodName)) ∈ qT := List.mem_filter.mpr ⟨List.mem_append_right _ (List.mem_append_left _ (List.mem_of_getElem? (i := 109) rfl)), rfl⟩
theorem m1_110 : (Jvm.Cond.code ({ cls := "PageGuards", name := "set", desc := "(II)Z" } : Jvm.MethodName) prog_1_method_5_code (3 : Nat) (Option.some Jvm.ClassFile.FieldType.boolean)) ∈ qT := List.mem_filter.mpr ⟨List.mem_append_right _ (List.mem_append_left _ (List.mem_of_getElem? (i := 110) rfl)), rfl⟩
theorem m1_111 : (Jvm.Cond.methodLink "PageGuards" (59 : Nat) ({ cls := "PageGuards", name := "writeRegister", desc := "(II)V" } : Jvm.MethodName)) ∈ qT := List.mem_filter.mpr ⟨List.mem_append_right _ (List.mem_append_left _ (List.mem_of_getElem? (i := 111) rfl)), rfl⟩
theorem m1_113 : (Jvm.Cond.instanceMethod ({ cls := "PageGuards", name := "writeRegister", desc := "(II)V" } : Jvm.MethodName)) ∈ qT := List.mem_filter.mpr ⟨List.mem_append_right _ (List.mem_append_left _ (List.mem_of_getElem? (i := 113) rfl)), rfl⟩
theorem m1_114 : (Jvm.Cond.code ({ cls := "PageGuards", name := "writeRegister", desc := "(II)V" } : Jvm.MethodName) prog_1_method_15_code (3 : Nat) (Option.none : Option Jvm.ClassFile.FieldType)) ∈ qT := List.mem_filter.mpr ⟨List.mem_append_right _ (List.mem_append_left _ (List.mem_of_getElem? (i := 114) rfl)), rfl⟩
theorem m1_115 : (Jvm.Cond.methodLink "PageGuards" (75 : Nat) ({ cls := "PageGuards", name := "mode", desc := "()I" } : Jvm.MethodName)) ∈ qT := List.mem_filter.mpr ⟨List.mem_append_right _ (List.mem_append_left _ (List.mem_of_getElem? (i := 115) rfl)), rfl⟩
theorem m1_117 : (Jvm.Cond.instanceMethod ({ cls := "PageGuards", name := "mode", desc := "()I" } : Jvm.MethodName)) ∈ qT := List.mem_filter.mpr ⟨List.mem_append_right _ (List.mem_append_left _ (List.mem_of_getElem? (i := 117) rfl)), rfl⟩
theorem m1_118 : (Jvm.Cond.code ({ cls := "PageGuards", name := "mode", desc := "()I" } : Jvm.MethodName) prog_1_method_11_code (1 : Nat) (Option.some Jvm.ClassFile.FieldType.int)) ∈ qT := List.mem_filter.mpr ⟨List.mem_append_right _ (List.mem_append_left _ (List.mem_of_getElem? (i := 118) rfl)), rfl⟩
theorem m1_119 : (Jvm.Cond.methodLink "PageGuards" (89 : Nat) ({ cls := "PageGuards", name := "slot", desc := "(II)I" } : Jvm.MethodName)) ∈ qT := List.mem_filter.mpr ⟨List.mem_append_right _ (List.mem_append_left _ (List.mem_of_getElem? (i := 119) rfl)), rfl⟩
theorem m1_120 : (Jvm.Cond.static ({ cls := "PageGuards", name := "slot", desc := "(II)I" } : Jvm.MethodName)) ∈ qT := List.mem_filter.mpr ⟨List.mem_append_right _ (List.mem_append_left _ (List.mem_of_getElem? (i := 120) rfl)), rfl⟩
theorem m1_121 : (Jvm.Cond.code ({ cls := "PageGuards", name := "slot", desc := "(II)I" } : Jvm.MethodName) prog_1_method_13_code (2 : Nat) (Option.some Jvm.ClassFile.FieldType.int)) ∈ qT := List.mem_filter.mpr ⟨List.mem_append_right _ (List.mem_append_left _ (List.mem_of_getElem? (i := 121) rfl)), rfl⟩
theorem m1_122 : (Jvm.Cond.methodLink "PageGuardsLaw" (42 : Nat) ({ cls := "PageGuards", name := "line", desc := "(IZ)Z" } : Jvm.MethodName)) ∈ qT := List.mem_filter.mpr ⟨List.mem_append_right _ (List.mem_append_left _ (List.mem_of_getElem? (i := 122) rfl)), rfl⟩
theorem m1_123 : (Jvm.Cond.instanceMethod ({ cls := "PageGuards", name := "line", desc := "(IZ)Z" } : Jvm.MethodName)) ∈ qT := List.mem_filter.mpr ⟨List.mem_append_right _ (List.mem_append_left _ (List.mem_of_getElem? (i := 123) rfl)), rfl⟩
theorem m1_124 : (Jvm.Cond.selects "PageGuards" ({ cls := "PageGuards", name := "line", desc := "(IZ)Z" } : Jvm.MethodName) ({ cls := "PageGuards", name := "line", desc := "(IZ)Z" } : Jvm.MethodName)) ∈ qT := List.mem_filter.mpr ⟨List.mem_append_right _ (List.mem_append_left _ (List.mem_of_getElem? (i := 124) rfl)), rfl⟩
theorem m1_125 : (Jvm.Cond.code ({ cls := "PageGuards", name := "line", desc := "(IZ)Z" } : Jvm.MethodName) prog_1_method_6_code (4 : Nat) (Option.some Jvm.ClassFile.FieldType.boolean)) ∈ qT := List.mem_filter.mpr ⟨List.mem_append_right _ (List.mem_append_left _ (List.mem_of_getElem? (i := 125) rfl)), rfl⟩
theorem m1_126 : (Jvm.Cond.methodLink "PageGuardsLaw" (47 : Nat) ({ cls := "PageGuards", name := "run", desc := "(I)I" } : Jvm.MethodName)) ∈ qT := List.mem_filter.mpr ⟨List.mem_append_right _ (List.mem_append_left _ (List.mem_of_getElem? (i := 126) rfl)), rfl⟩
theorem m1_127 : (Jvm.Cond.instanceMethod ({ cls := "PageGuards", name := "run", desc := "(I)I" } : Jvm.MethodName)) ∈ qT := List.mem_filter.mpr ⟨List.mem_append_right _ (List.mem_append_left _ (List.mem_of_getElem? (i := 127) rfl)), rfl⟩
theorem m1_128 : (Jvm.Cond.selects "PageGuards" ({ cls := "PageGuards", name := "run", desc := "(I)I" } : Jvm.MethodName) ({ cls := "PageGuards", name := "run", desc := "(I)I" } : Jvm.MethodName)) ∈ qT := List.mem_filter.mpr ⟨List.mem_append_right _ (List.mem_append_left _ (List.mem_of_getElem? (i := 128) rfl)), rfl⟩
theorem m1_129 : (Jvm.Cond.code ({ cls := "PageGuards", name := "run", desc := "(I)I" } : Jvm.MethodName) prog_1_method_7_code (3 : Nat) (Option.some Jvm.ClassFile.FieldType.int)) ∈ qT := List.mem_filter.mpr ⟨List.mem_append_right _ (List.mem_append_left _ (List.mem_of_getElem? (i := 129) rfl)), rfl⟩
theorem m1_130 : (Jvm.Cond.methodLink "PageGuards" (65 : Nat) ({ cls := "PageGuards", name := "step", desc := "()V" } : Jvm.MethodName)) ∈ qT := List.mem_filter.mpr ⟨List.mem_append_right _ (List.mem_append_left _ (List.mem_of_getElem? (i := 130) rfl)), rfl⟩
theorem m1_132 : (Jvm.Cond.instanceMethod ({ cls := "PageGuards", name := "step", desc := "()V" } : Jvm.MethodName)) ∈ qT := List.mem_filter.mpr ⟨List.mem_append_right _ (List.mem_append_left _ (List.mem_of_getElem? (i := 132) rfl)), rfl⟩
theorem m1_133 : (Jvm.Cond.code ({ cls := "PageGuards", name := "step", desc := "()V" } : Jvm.MethodName) prog_1_method_16_code (4 : Nat) (Option.none : Option Jvm.ClassFile.FieldType)) ∈ qT := List.mem_filter.mpr ⟨List.mem_append_right _ (List.mem_append_left _ (List.mem_of_getElem? (i := 133) rfl)), rfl⟩
theorem m1_134 : (Jvm.Cond.methodLink "PageGuards" (92 : Nat) ({ cls := "PageGuards", name := "countTimer", desc := "()V" } : Jvm.MethodName)) ∈ qT := List.mem_filter.mpr ⟨List.mem_append_right _ (List.mem_append_left _ (List.mem_of_getElem? (i := 134) rfl)), rfl⟩
theorem m1_136 : (Jvm.Cond.instanceMethod ({ cls := "PageGuards", name := "countTimer", desc := "()V" } : Jvm.MethodName)) ∈ qT := List.mem_filter.mpr ⟨List.mem_append_right _ (List.mem_append_left _ (List.mem_of_getElem? (i := 136) rfl)), rfl⟩
theorem m1_137 : (Jvm.Cond.code ({ cls := "PageGuards", name := "countTimer", desc := "()V" } : Jvm.MethodName) prog_1_method_17_code (2 : Nat) (Option.none : Option Jvm.ClassFile.FieldType)) ∈ qT := List.mem_filter.mpr ⟨List.mem_append_right _ (List.mem_append_left _ (List.mem_of_getElem? (i := 137) rfl)), rfl⟩
theorem m1_138 : (Jvm.Cond.methodLink "PageGuards" (95 : Nat) ({ cls := "PageGuards", name := "dueRequest", desc := "()I" } : Jvm.MethodName)) ∈ qT := List.mem_filter.mpr ⟨List.mem_append_right _ (List.mem_append_left _ (List.mem_of_getElem? (i := 138) rfl)), rfl⟩
theorem m1_140 : (Jvm.Cond.instanceMethod ({ cls := "PageGuards", name := "dueRequest", desc := "()I" } : Jvm.MethodName)) ∈ qT := List.mem_filter.mpr ⟨List.mem_append_right _ (List.mem_append_left _ (List.mem_of_getElem? (i := 140) rfl)), rfl⟩
theorem m1_141 : (Jvm.Cond.code ({ cls := "PageGuards", name := "dueRequest", desc := "()I" } : Jvm.MethodName) prog_1_method_18_code (1 : Nat) (Option.some Jvm.ClassFile.FieldType.int)) ∈ qT := List.mem_filter.mpr ⟨List.mem_append_right _ (List.mem_append_left _ (List.mem_of_getElem? (i := 141) rfl)), rfl⟩
theorem m1_142 : (Jvm.Cond.methodLink "PageGuards" (115 : Nat) ({ cls := "PageGuards", name := "has", desc := "(I)Z" } : Jvm.MethodName)) ∈ qT := List.mem_filter.mpr ⟨List.mem_append_right _ (List.mem_append_left _ (List.mem_of_getElem? (i := 142) rfl)), rfl⟩
theorem m1_144 : (Jvm.Cond.instanceMethod ({ cls := "PageGuards", name := "has", desc := "(I)Z" } : Jvm.MethodName)) ∈ qT := List.mem_filter.mpr ⟨List.mem_append_right _ (List.mem_append_left _ (List.mem_of_getElem? (i := 144) rfl)), rfl⟩
theorem m1_145 : (Jvm.Cond.code ({ cls := "PageGuards", name := "has", desc := "(I)Z" } : Jvm.MethodName) prog_1_method_24_code (2 : Nat) (Option.some Jvm.ClassFile.FieldType.boolean)) ∈ qT := List.mem_filter.mpr ⟨List.mem_append_right _ (List.mem_append_left _ (List.mem_of_getElem? (i := 145) rfl)), rfl⟩
theorem m1_146 : (Jvm.Cond.methodLink "PageGuards" (98 : Nat) ({ cls := "PageGuards", name := "raise", desc := "(II)I" } : Jvm.MethodName)) ∈ qT := List.mem_filter.mpr ⟨List.mem_append_right _ (List.mem_append_left _ (List.mem_of_getElem? (i := 146) rfl)), rfl⟩
theorem m1_148 : (Jvm.Cond.instanceMethod ({ cls := "PageGuards", name := "raise", desc := "(II)I" } : Jvm.MethodName)) ∈ qT := List.mem_filter.mpr ⟨List.mem_append_right _ (List.mem_append_left _ (List.mem_of_getElem? (i := 148) rfl)), rfl⟩
theorem m1_149 : (Jvm.Cond.code ({ cls := "PageGuards", name := "raise", desc := "(II)I" } : Jvm.MethodName) prog_1_method_19_code (4 : Nat) (Option.some Jvm.ClassFile.FieldType.int)) ∈ qT := List.mem_filter.mpr ⟨List.mem_append_right _ (List.mem_append_left _ (List.mem_of_getElem? (i := 149) rfl)), rfl⟩
theorem m1_150 : (Jvm.Cond.fieldLink "PageGuards" (119 : Nat) "PageGuards" "EXCEPTION_MODES" "[I") ∈ qT := List.mem_filter.mpr ⟨List.mem_append_right _ (List.mem_append_left _ (List.mem_of_getElem? (i := 150) rfl)), rfl⟩
theorem m1_152 : (Jvm.Cond.methodLink "PageGuards" (101 : Nat) ({ cls := "PageGuards", name := "privileged", desc := "()Z" } : Jvm.MethodName)) ∈ qT := List.mem_filter.mpr ⟨List.mem_append_right _ (List.mem_append_left _ (List.mem_of_getElem? (i := 152) rfl)), rfl⟩
theorem m1_154 : (Jvm.Cond.instanceMethod ({ cls := "PageGuards", name := "privileged", desc := "()Z" } : Jvm.MethodName)) ∈ qT := List.mem_filter.mpr ⟨List.mem_append_right _ (List.mem_append_left _ (List.mem_of_getElem? (i := 154) rfl)), rfl⟩
theorem m1_155 : (Jvm.Cond.code ({ cls := "PageGuards", name := "privileged", desc := "()Z" } : Jvm.MethodName) prog_1_method_12_code (1 : Nat) (Option.some Jvm.ClassFile.FieldType.boolean)) ∈ qT := List.mem_filter.mpr ⟨List.mem_append_right _ (List.mem_append_left _ (List.mem_of_getElem? (i := 155) rfl)), rfl⟩
theorem m1_156 : (Jvm.Cond.methodLink "PageGuards" (105 : Nat) ({ cls := "PageGuards$Unit", name := "translate", desc := "(IIZ)I" } : Jvm.MethodName)) ∈ qT := List.mem_filter.mpr ⟨List.mem_append_right _ (List.mem_append_left _ (List.mem_of_getElem? (i := 156) rfl)), rfl⟩
theorem m1_157 : (Jvm.Cond.instanceMethod ({ cls := "PageGuards$Unit", name := "translate", desc := "(IIZ)I" } : Jvm.MethodName)) ∈ qT := List.mem_filter.mpr ⟨List.mem_append_right _ (List.mem_append_left _ (List.mem_of_getElem? (i := 157) rfl)), rfl⟩
theorem m1_158 : (Jvm.Cond.selects "PageGuards$Unit" ({ cls := "PageGuards$Unit", name := "translate", desc := "(IIZ)I" } : Jvm.MethodName) ({ cls := "PageGuards$Unit", name := "translate", desc := "(IIZ)I" } : Jvm.MethodName)) ∈ qT := List.mem_filter.mpr ⟨List.mem_append_right _ (List.mem_append_left _ (List.mem_of_getElem? (i := 158) rfl)), rfl⟩
theorem m1_159 : (Jvm.Cond.code ({ cls := "PageGuards$Unit", name := "translate", desc := "(IIZ)I" } : Jvm.MethodName) prog_3_method_4_code (8 : Nat) (Option.some Jvm.ClassFile.FieldType.int)) ∈ qT := List.mem_filter.mpr ⟨List.mem_append_right _ (List.mem_append_left _ (List.mem_of_getElem? (i := 159) rfl)), rfl⟩
theorem m1_160 : (Jvm.Cond.methodLink "PageGuards$Unit" (34 : Nat) ({ cls := "PageGuards$Unit", name := "placeOrFault", desc := "(I)I" } : Jvm.MethodName)) ∈ qT := List.mem_filter.mpr ⟨List.mem_append_right _ (List.mem_append_left _ (List.mem_of_getElem? (i := 160) rfl)), rfl⟩
theorem m1_161 : (Jvm.Cond.static ({ cls := "PageGuards$Unit", name := "placeOrFault", desc := "(I)I" } : Jvm.MethodName)) ∈ qT := List.mem_filter.mpr ⟨List.mem_append_right _ (List.mem_append_left _ (List.mem_of_getElem? (i := 161) rfl)), rfl⟩
theorem m1_162 : (Jvm.Cond.code ({ cls := "PageGuards$Unit", name := "placeOrFault", desc := "(I)I" } : Jvm.MethodName) prog_3_method_5_code (1 : Nat) (Option.some Jvm.ClassFile.FieldType.int)) ∈ qT := List.mem_filter.mpr ⟨List.mem_append_right _ (List.mem_append_left _ (List.mem_of_getElem? (i := 162) rfl)), rfl⟩
theorem m1_163 : (Jvm.Cond.methodLink "PageGuards$Unit" (38 : Nat) ({ cls := "PageGuards$Buffer", name := "find", desc := "(II)I" } : Jvm.MethodName)) ∈ qT := List.mem_filter.mpr ⟨List.mem_append_right _ (List.mem_append_left _ (List.mem_of_getElem? (i := 163) rfl)), rfl⟩
theorem m1_164 : (Jvm.Cond.instanceMethod ({ cls := "PageGuards$Buffer", name := "find", desc := "(II)I" } : Jvm.MethodName)) ∈ qT := List.mem_filter.mpr ⟨List.mem_append_right _ (List.mem_append_left _ (List.mem_of_getElem? (i := 164) rfl)), rfl⟩
theorem m1_165 : (Jvm.Cond.selects "PageGuards$Buffer" ({ cls := "PageGuards$Buffer", name := "find", desc := "(II)I" } : Jvm.MethodName) ({ cls := "PageGuards$Buffer", name := "find", desc := "(II)I" } : Jvm.MethodName)) ∈ qT := List.mem_filter.mpr ⟨List.mem_append_right _ (List.mem_append_left _ (List.mem_of_getElem? (i := 165) rfl)), rfl⟩
theorem m1_166 : (Jvm.Cond.code ({ cls := "PageGuards$Buffer", name := "find", desc := "(II)I" } : Jvm.MethodName) prog_2_method_5_code (4 : Nat) (Option.some Jvm.ClassFile.FieldType.int)) ∈ qT := List.mem_filter.mpr ⟨List.mem_append_right _ (List.mem_append_left _ (List.mem_of_getElem? (i := 166) rfl)), rfl⟩
theorem m1_167 : (Jvm.Cond.methodLink "PageGuards$Buffer" (27 : Nat) ({ cls := "PageGuards$Buffer", name := "serves", desc := "(III)Z" } : Jvm.MethodName)) ∈ qT := List.mem_filter.mpr ⟨List.mem_append_right _ (List.mem_append_left _ (List.mem_of_getElem? (i := 167) rfl)), rfl⟩
theorem m1_169 : (Jvm.Cond.instanceMethod ({ cls := "PageGuards$Buffer", name := "serves", desc := "(III)Z" } : Jvm.MethodName)) ∈ qT := List.mem_filter.mpr ⟨List.mem_append_right _ (List.mem_append_left _ (List.mem_of_getElem? (i := 169) rfl)), rfl⟩
theorem m1_170 : (Jvm.Cond.code ({ cls := "PageGuards$Buffer", name := "serves", desc := "(III)Z" } : Jvm.MethodName) prog_2_method_9_code (8 : Nat) (Option.some Jvm.ClassFile.FieldType.boolean)) ∈ qT := List.mem_filter.mpr ⟨List.mem_append_right _ (List.mem_append_left _ (List.mem_of_getElem? (i := 170) rfl)), rfl⟩
theorem m1_171 : (Jvm.Cond.methodLink "PageGuards$Unit" (46 : Nat) ({ cls := "PageGuards$Unit", name := "walk", desc := "(I)I" } : Jvm.MethodName)) ∈ qT := List.mem_filter.mpr ⟨List.mem_append_right _ (List.mem_append_left _ (List.mem_of_getElem? (i := 171) rfl)), rfl⟩
theorem m1_173 : (Jvm.Cond.instanceMethod ({ cls := "PageGuards$Unit", name := "walk", desc := "(I)I" } : Jvm.MethodName)) ∈ qT := List.mem_filter.mpr ⟨List.mem_append_right _ (List.mem_append_left _ (List.mem_of_getElem? (i := 173) rfl)), rfl⟩
theorem m1_174 : (Jvm.Cond.code ({ cls := "PageGuards$Unit", name := "walk", desc := "(I)I" } : Jvm.MethodName) prog_3_method_6_code (8 : Nat) (Option.some Jvm.ClassFile.FieldType.int)) ∈ qT := List.mem_filter.mpr ⟨List.mem_append_right _ (List.mem_append_left _ (List.mem_of_getElem? (i := 174) rfl)), rfl⟩
theorem m1_175 : (Jvm.Cond.methodLink "PageGuards$Unit" (60 : Nat) ({ cls := "PageGuards$Unit", name := "tableFor", desc := "(I)I" } : Jvm.MethodName)) ∈ qT := List.mem_filter.mpr ⟨List.mem_append_right _ (List.mem_append_left _ (List.mem_of_getElem? (i := 175) rfl)), rfl⟩
theorem m1_177 : (Jvm.Cond.instanceMethod ({ cls := "PageGuards$Unit", name := "tableFor", desc := "(I)I" } : Jvm.MethodName)) ∈ qT := List.mem_filter.mpr ⟨List.mem_append_right _ (List.mem_append_left _ (List.mem_of_getElem? (i := 177) rfl)), rfl⟩
theorem m1_178 : (Jvm.Cond.code ({ cls := "PageGuards$Unit", name := "tableFor", desc := "(I)I" } : Jvm.MethodName) prog_3_method_7_code (3 : Nat) (Option.some Jvm.ClassFile.FieldType.int)) ∈ qT := List.mem_filter.mpr ⟨List.mem_append_right _ (List.mem_append_left _ (List.mem_of_getElem? (i := 178) rfl)), rfl⟩
theorem m1_179 : (Jvm.Cond.methodLink "PageGuards$Unit" (63 : Nat) ({ cls := "PageGuards$Buffer", name := "describe", desc := "(IIIII)V" } : Jvm.MethodName)) ∈ qT := List.mem_filter.mpr ⟨List.mem_append_right _ (List.mem_append_left _ (List.mem_of_getElem? (i := 179) rfl)), rfl⟩
theorem m1_180 : (Jvm.Cond.instanceMethod ({ cls := "PageGuards$Buffer", name := "describe", desc := "(IIIII)V" } : Jvm.MethodName)) ∈ qT := List.mem_filter.mpr ⟨List.mem_append_right _ (List.mem_append_left _ (List.mem_of_getElem? (i := 180) rfl)), rfl⟩
theorem m1_181 : (Jvm.Cond.selects "PageGuards$Buffer" ({ cls := "PageGuards$Buffer", name := "describe", desc := "(IIIII)V" } : Jvm.MethodName) ({ cls := "PageGuards$Buffer", name := "describe", desc := "(IIIII)V" } : Jvm.MethodName)) ∈ qT := List.mem_filter.mpr ⟨List.mem_append_right _ (List.mem_append_left _ (List.mem_of_getElem? (i := 181) rfl)), rfl⟩
theorem m1_182 : (Jvm.Cond.code ({ cls := "PageGuards$Buffer", name := "describe", desc := "(IIIII)V" } : Jvm.MethodName) prog_2_method_3_code (8 : Nat) (Option.none : Option Jvm.ClassFile.FieldType)) ∈ qT := List.mem_filter.mpr ⟨List.mem_append_right _ (List.mem_append_left _ (List.mem_of_getElem? (i := 182) rfl)), rfl⟩
theorem m1_183 : (Jvm.Cond.methodLink "PageGuards$Unit" (49 : Nat) ({ cls := "PageGuards$Buffer", name := "takeWalked", desc := "()I" } : Jvm.MethodName)) ∈ qT := List.mem_filter.mpr ⟨List.mem_append_right _ (List.mem_append_left _ (List.mem_of_getElem? (i := 183) rfl)), rfl⟩
theorem m1_184 : (Jvm.Cond.instanceMethod ({ cls := "PageGuards$Buffer", name := "takeWalked", desc := "()I" } : Jvm.MethodName)) ∈ qT := List.mem_filter.mpr ⟨List.mem_append_right _ (List.mem_append_left _ (List.mem_of_getElem? (i := 184) rfl)), rfl⟩
theorem m1_185 : (Jvm.Cond.selects "PageGuards$Buffer" ({ cls := "PageGuards$Buffer", name := "takeWalked", desc := "()I" } : Jvm.MethodName) ({ cls := "PageGuards$Buffer", name := "takeWalked", desc := "()I" } : Jvm.MethodName)) ∈ qT := List.mem_filter.mpr ⟨List.mem_append_right _ (List.mem_append_left _ (List.mem_of_getElem? (i := 185) rfl)), rfl⟩
theorem m1_186 : (Jvm.Cond.code ({ cls := "PageGuards$Buffer", name := "takeWalked", desc := "()I" } : Jvm.MethodName) prog_2_method_4_code (1 : Nat) (Option.some Jvm.ClassFile.FieldType.int)) ∈ qT := List.mem_filter.mpr ⟨List.mem_append_right _ (List.mem_append_left _ (List.mem_of_getElem? (i := 186) rfl)), rfl⟩
theorem m1_187 : (Jvm.Cond.methodLink "PageGuards$Buffer" (23 : Nat) ({ cls := "PageGuards$Buffer", name := "drop", desc := "(I)V" } : Jvm.MethodName)) ∈ qT := List.mem_filter.mpr ⟨List.mem_append_right _ (List.mem_append_left _ (List.mem_of_getElem? (i := 187) rfl)), rfl⟩
theorem m1_189 : (Jvm.Cond.instanceMethod ({ cls := "PageGuards$Buffer", name := "drop", desc := "(I)V" } : Jvm.MethodName)) ∈ qT := List.mem_filter.mpr ⟨List.mem_append_right _ (List.mem_append_left _ (List.mem_of_getElem? (i := 189) rfl)), rfl⟩
theorem m1_190 : (Jvm.Cond.code ({ cls := "PageGuards$Buffer", name := "drop", desc := "(I)V" } : Jvm.MethodName) prog_2_method_10_code (3 : Nat) (Option.none : Option Jvm.ClassFile.FieldType)) ∈ qT := List.mem_filter.mpr ⟨List.mem_append_right _ (List.mem_append_left _ (List.mem_of_getElem? (i := 190) rfl)), rfl⟩
theorem m1_191 : (Jvm.Cond.methodLink "PageGuards$Buffer" (35 : Nat) ({ cls := "java/lang/System", name := "arraycopy", desc := "(Ljava/lang/Object;ILjava/lang/Object;II)V" } : Jvm.MethodName)) ∈ qT := List.mem_filter.mpr ⟨List.mem_append_right _ (List.mem_append_left _ (List.mem_of_getElem? (i := 191) rfl)), rfl⟩
theorem m1_192 : (Jvm.Cond.static ({ cls := "java/lang/System", name := "arraycopy", desc := "(Ljava/lang/Object;ILjava/lang/Object;II)V" } : Jvm.MethodName)) ∈ qT := List.mem_filter.mpr ⟨List.mem_append_right _ (List.mem_append_left _ (List.mem_of_getElem? (i := 192) rfl)), rfl⟩
theorem m1_193 : (Jvm.Cond.native ({ cls := "java/lang/System", name := "arraycopy", desc := "(Ljava/lang/Object;ILjava/lang/Object;II)V" } : Jvm.MethodName)) ∈ qT := List.mem_filter.mpr ⟨List.mem_append_right _ (List.mem_append_left _ (List.mem_of_getElem? (i := 193) rfl)), rfl⟩
theorem m1_194 : (Jvm.Cond.methodLink "PageGuards$Unit" (53 : Nat) ({ cls := "PageGuards$Unit", name := "refusal", desc := "(IIZ)I" } : Jvm.MethodName)) ∈ qT := List.mem_filter.mpr ⟨List.mem_append_right _ (List.mem_append_left _ (List.mem_of_getElem? (i := 194) rfl)), rfl⟩
theorem m1_196 : (Jvm.Cond.instanceMethod ({ cls := "PageGuards$Unit", name := "refusal", desc := "(IIZ)I" } : Jvm.MethodName)) ∈ qT := List.mem_filter.mpr ⟨List.mem_append_right _ (List.mem_append_left _ (List.mem_of_getElem? (i := 196) rfl)), rfl⟩
theorem m1_197 : (Jvm.Cond.code ({ cls := "PageGuards$Unit", name := "refusal", desc := "(IIZ)I" } : Jvm.MethodName) prog_3_method_8_code (7 : Nat) (Option.some Jvm.ClassFile.FieldType.int)) ∈ qT := List.mem_filter.mpr ⟨List.mem_append_right _ (List.mem_append_left _ (List.mem_of_getElem? (i := 197) rfl)), rfl⟩
theorem m1_198 : (Jvm.Cond.methodLink "PageGuards$Unit" (57 : Nat) ({ cls := "PageGuards$Buffer", name := "field", desc := "(II)I" } : Jvm.MethodName)) ∈ qT := List.mem_filter.mpr ⟨List.mem_append_right _ (List.mem_append_left _ (List.mem_of_getElem? (i := 198) rfl)), rfl⟩
theorem m1_199 : (Jvm.Cond.instanceMethod ({ cls := "PageGuards$Buffer", name := "field", desc := "(II)I" } : Jvm.MethodName)) ∈ qT := List.mem_filter.mpr ⟨List.mem_append_right _ (List.mem_append_left _ (List.mem_of_getElem? (i := 199) rfl)), rfl⟩
theorem m1_200 : (Jvm.Cond.selects "PageGuards$Buffer" ({ cls := "PageGuards$Buffer", name := "field", desc := "(II)I" } : Jvm.MethodName) ({ cls := "PageGuards$Buffer", name := "field", desc := "(II)I" } : Jvm.MethodName)) ∈ qT := List.mem_filter.mpr ⟨List.mem_append_right _ (List.mem_append_left _ (List.mem_of_getElem? (i := 200) rfl)), rfl⟩
theorem m1_201 : (Jvm.Cond.code ({ cls := "PageGuards$Buffer", name := "field", desc := "(II)I" } : Jvm.MethodName) prog_2_method_2_code (3 : Nat) (Option.some Jvm.ClassFile.FieldType.int)) ∈ qT := List.mem_filter.mpr ⟨List.mem_append_right _ (List.mem_append_left _ (List.mem_of_getElem? (i := 201) rfl)), rfl⟩
theorem m1_202 : (Jvm.Cond.methodLink "PageGuards$Unit" (67 : Nat) ({ cls := "PageGuards$Unit", name := "allows", desc := "(IZIZ)Z" } : Jvm.MethodName)) ∈ qT := List.mem_filter.mpr ⟨List.mem_append_right _ (List.mem_append_left _ (List.mem_of_getElem? (i := 202) rfl)), rfl⟩
theorem m1_203 : (Jvm.Cond.static ({ cls := "PageGuards$Unit", name := "allows", desc := "(IZIZ)Z" } : Jvm.MethodName)) ∈ qT := List.mem_filter.mpr ⟨List.mem_append_right _ (List.mem_append_left _ (List.mem_of_getElem? (i := 203) rfl)), rfl⟩
theorem m1_204 : (Jvm.Cond.code ({ cls := "PageGuards$Unit", name := "allows", desc := "(IZIZ)Z" } : Jvm.MethodName) prog_3_method_9_code (4 : Nat) (Option.some Jvm.ClassFile.FieldType.boolean)) ∈ qT := List.mem_filter.mpr ⟨List.mem_append_right _ (List.mem_append_left _ (List.mem_of_getElem? (i := 204) rfl)), rfl⟩
theorem m1_205 : (Jvm.Cond.methodLink "PageGuards" (109 : Nat) ({ cls := "PageGuards", name := "fetchFault", desc := "(I)I" } : Jvm.MethodName)) ∈ qT := List.mem_filter.mpr ⟨List.mem_append_right _ (List.mem_append_left _ (List.mem_of_getElem? (i := 205) rfl)), rfl⟩
theorem m1_207 : (Jvm.Cond.instanceMethod ({ cls := "PageGuards", name := "fetchFault", desc := "(I)I" } : Jvm.MethodName)) ∈ qT := List.mem_filter.mpr ⟨List.mem_append_right _ (List.mem_append_left _ (List.mem_of_getElem? (i := 207) rfl)), rfl⟩
theorem m1_208 : (Jvm.Cond.code ({ cls := "PageGuards", name := "fetchFault", desc := "(I)I" } : Jvm.MethodName) prog_1_method_20_code (2 : Nat) (Option.some Jvm.ClassFile.FieldType.int)) ∈ qT := List.mem_filter.mpr ⟨List.mem_append_right _ (List.mem_append_left _ (List.mem_of_getElem? (i := 208) rfl)), rfl⟩
theorem m1_209 : (Jvm.Cond.methodLink "PageGuards" (122 : Nat) ({ cls := "PageGuards$Unit", name := "tellFault", desc := "(III)V" } : Jvm.MethodName)) ∈ qT := List.mem_filter.mpr ⟨List.mem_append_right _ (List.mem_append_left _ (List.mem_of_getElem? (i := 209) rfl)), rfl⟩
theorem m1_210 : (Jvm.Cond.instanceMethod ({ cls := "PageGuards$Unit", name := "tellFault", desc := "(III)V" } : Jvm.MethodName)) ∈ qT := List.mem_filter.mpr ⟨List.mem_append_right _ (List.mem_append_left _ (List.mem_of_getElem? (i := 210) rfl)), rfl⟩
theorem m1_211 : (Jvm.Cond.selects "PageGuards$Unit" ({ cls := "PageGuards$Unit", name := "tellFault", desc := "(III)V" } : Jvm.MethodName) ({ cls := "PageGuards$Unit", name := "tellFault", desc := "(III)V" } : Jvm.MethodName)) ∈ qT := List.mem_filter.mpr ⟨List.mem_append_right _ (List.mem_append_left _ (List.mem_of_getElem? (i := 211) rfl)), rfl⟩
theorem m1_212 : (Jvm.Cond.code ({ cls := "PageGuards$Unit", name := "tellFault", desc := "(III)V" } : Jvm.MethodName) prog_3_method_3_code (4 : Nat) (Option.none : Option Jvm.ClassFile.FieldType)) ∈ qT := List.mem_filter.mpr ⟨List.mem_append_right _ (List.mem_append_left _ (List.mem_of_getElem? (i := 212) rfl)), rfl⟩
theorem m1_213 : (Jvm.Cond.methodLink "PageGuards$Unit" (30 : Nat) ({ cls := "PageGuards$Unit", name := "writeControl", desc := "(II)V" } : Jvm.MethodName)) ∈ qT := List.mem_filter.mpr ⟨List.mem_append_right _ (List.mem_append_left _ (List.mem_of_getElem? (i := 213) rfl)), rfl⟩
theorem m1_214 : (Jvm.Cond.methodLink "PageGuards" (112 : Nat) ({ cls := "PageGuards", name := "perform", desc := "(I)I" } : Jvm.MethodName)) ∈ qT := List.mem_filter.mpr ⟨List.mem_append_right _ (List.mem_append_left _ (List.mem_of_getElem? (i := 214) rfl)), rfl⟩
theorem m1_216 : (Jvm.Cond.instanceMethod ({ cls := "PageGuards", name := "perform", desc := "(I)I" } : Jvm.MethodName)) ∈ qT := List.mem_filter.mpr ⟨List.mem_append_right _ (List.mem_append_left _ (List.mem_of_getElem? (i := 216) rfl)), rfl⟩
theorem m1_217 : (Jvm.Cond.code ({ cls := "PageGuards", name := "perform", desc := "(I)I" } : Jvm.MethodName) prog_1_method_22_code (8 : Nat) (Option.some Jvm.ClassFile.FieldType.int)) ∈ qT := List.mem_filter.mpr ⟨List.mem_append_right _ (List.mem_append_left _ (List.mem_of_getElem? (i := 217) rfl)), rfl⟩
theorem m1_218 : (Jvm.Cond.methodLink "PageGuards" (126 : Nat) ({ cls := "PageGuards", name := "isDue", desc := "(I)Z" } : Jvm.MethodName)) ∈ qT := List.mem_filter.mpr ⟨List.mem_append_right _ (List.mem_append_left _ (List.mem_of_getElem? (i := 218) rfl)), rfl⟩
theorem m1_220 : (Jvm.Cond.instanceMethod ({ cls := "PageGuards", name := "isDue", desc := "(I)Z" } : Jvm.MethodName)) ∈ qT := List.mem_filter.mpr ⟨List.mem_append_right _ (List.mem_append_left _ (List.mem_of_getElem? (i := 220) rfl)), rfl⟩
theorem m1_221 : (Jvm.Cond.code ({ cls := "PageGuards", name := "isDue", desc := "(I)Z" } : Jvm.MethodName) prog_1_method_23_code (2 : Nat) (Option.some Jvm.ClassFile.FieldType.boolean)) ∈ qT := List.mem_filter.mpr ⟨List.mem_append_right _ (List.mem_append_left _ (List.mem_of_getElem? (i := 221) rfl)), rfl⟩
theorem m1_222 : (Jvm.Cond.methodLink "PageGuards" (129 : Nat) ({ cls := "PageGuards", name := "isUnknown", desc := "(II)Z" } : Jvm.MethodName)) ∈ qT := List.mem_filter.mpr ⟨List.mem_append_right _ (List.mem_append_left _ (List.mem_of_getElem? (i := 222) rfl)), rfl⟩
theorem m1_224 : (Jvm.Cond.instanceMethod ({ cls := "PageGuards", name := "isUnknown", desc := "(II)Z" } : Jvm.MethodName)) ∈ qT := List.mem_filter.mpr ⟨List.mem_append_right _ (List.mem_append_left _ (List.mem_of_getElem? (i := 224) rfl)), rfl⟩
theorem m1_225 : (Jvm.Cond.code ({ cls := "PageGuards", name := "isUnknown", desc := "(II)Z" } : Jvm.MethodName) prog_1_method_25_code (3 : Nat) (Option.some Jvm.ClassFile.FieldType.boolean)) ∈ qT := List.mem_filter.mpr ⟨List.mem_append_right _ (List.mem_append_left _ (List.mem_of_getElem? (i := 225) rfl)), rfl⟩
theorem m1_226 : (Jvm.Cond.methodLink "PageGuards" (159 : Nat) ({ cls := "PageGuards", name := "isOdd", desc := "(I)Z" } : Jvm.MethodName)) ∈ qT := List.mem_filter.mpr ⟨List.mem_append_right _ (List.mem_append_left _ (List.mem_of_getElem? (i := 226) rfl)), rfl⟩
theorem m1_227 : (Jvm.Cond.static ({ cls := "PageGuards", name := "isOdd", desc := "(I)Z" } : Jvm.MethodName)) ∈ qT := List.mem_filter.mpr ⟨List.mem_append_right _ (List.mem_append_left _ (List.mem_of_getElem? (i := 227) rfl)), rfl⟩
theorem m1_228 : (Jvm.Cond.code ({ cls := "PageGuards", name := "isOdd", desc := "(I)Z" } : Jvm.MethodName) prog_1_method_26_code (1 : Nat) (Option.some Jvm.ClassFile.FieldType.boolean)) ∈ qT := List.mem_filter.mpr ⟨List.mem_append_right _ (List.mem_append_left _ (List.mem_of_getElem? (i := 228) rfl)), rfl⟩
theorem m1_229 : (Jvm.Cond.methodLink "PageGuards" (68 : Nat) ({ cls := "PageGuards", name := "readRegister", desc := "(I)I" } : Jvm.MethodName)) ∈ qT := List.mem_filter.mpr ⟨List.mem_append_right _ (List.mem_append_left _ (List.mem_of_getElem? (i := 229) rfl)), rfl⟩
theorem m1_231 : (Jvm.Cond.instanceMethod ({ cls := "PageGuards", name := "readRegister", desc := "(I)I" } : Jvm.MethodName)) ∈ qT := List.mem_filter.mpr ⟨List.mem_append_right _ (List.mem_append_left _ (List.mem_of_getElem? (i := 231) rfl)), rfl⟩
theorem m1_232 : (Jvm.Cond.code ({ cls := "PageGuards", name := "readRegister", desc := "(I)I" } : Jvm.MethodName) prog_1_method_14_code (2 : Nat) (Option.some Jvm.ClassFile.FieldType.int)) ∈ qT := List.mem_filter.mpr ⟨List.mem_append_right _ (List.mem_append_left _ (List.mem_of_getElem? (i := 232) rfl)), rfl⟩
theorem m1_233 : (Jvm.Cond.methodLink "PageGuards" (133 : Nat) ({ cls := "PageGuards", name := "computed", desc := "(IIII)I" } : Jvm.MethodName)) ∈ qT := List.mem_filter.mpr ⟨List.mem_append_right _ (List.mem_append_left _ (List.mem_of_getElem? (i := 233) rfl)), rfl⟩
theorem m1_234 : (Jvm.Cond.static ({ cls := "PageGuards", name := "computed", desc := "(IIII)I" } : Jvm.MethodName)) ∈ qT := List.mem_filter.mpr ⟨List.mem_append_right _ (List.mem_append_left _ (List.mem_of_getElem? (i := 234) rfl)), rfl⟩
theorem m1_235 : (Jvm.Cond.code ({ cls := "PageGuards", name := "computed", desc := "(IIII)I" } : Jvm.MethodName) prog_1_method_27_code (4 : Nat) (Option.some Jvm.ClassFile.FieldType.int)) ∈ qT := List.mem_filter.mpr ⟨List.mem_append_right _ (List.mem_append_left _ (List.mem_of_getElem? (i := 235) rfl)), rfl⟩
theorem m1_236 : (Jvm.Cond.methodLink "PageGuards" (137 : Nat) ({ cls := "PageGuards", name := "compare", desc := "(II)V" } : Jvm.MethodName)) ∈ qT := List.mem_filter.mpr ⟨List.mem_append_right _ (List.mem_append_left _ (List.mem_of_getElem? (i := 236) rfl)), rfl⟩
theorem m1_238 : (Jvm.Cond.instanceMethod ({ cls := "PageGuards", name := "compare", desc := "(II)V" } : Jvm.MethodName)) ∈ qT := List.mem_filter.mpr ⟨List.mem_append_right _ (List.mem_append_left _ (List.mem_of_getElem? (i := 238) rfl)), rfl⟩
theorem m1_239 : (Jvm.Cond.code ({ cls := "PageGuards", name := "compare", desc := "(II)V" } : Jvm.MethodName) prog_1_method_28_code (5 : Nat) (Option.none : Option Jvm.ClassFile.FieldType)) ∈ qT := List.mem_filter.mpr ⟨List.mem_append_right _ (List.mem_append_left _ (List.mem_of_getElem? (i := 239) rfl)), rfl⟩
theorem m2_0 : (Jvm.Cond.methodLink "PageGuards" (162 : Nat) ({ cls := "java/lang/Integer", name := "compareUnsigned", desc := "(II)I" } : Jvm.MethodName)) ∈ qT := List.mem_filter.mpr ⟨List.mem_append_right _ (List.mem_append_right _ (List.mem_append_left _ (List.mem_of_getElem? (i := 0) rfl))), rfl⟩
theorem m2_1 : (Jvm.Cond.static ({ cls := "java/lang/Integer", name := "compareUnsigned", desc := "(II)I" } : Jvm.MethodName)) ∈ qT := List.mem_filter.mpr ⟨List.mem_append_right _ (List.mem_append_right _ (List.mem_append_left _ (List.mem_of_getElem? (i := 1) rfl))), rfl⟩
theorem m2_2 : (Jvm.Cond.code ({ cls := "java/lang/Integer", name := "compareUnsigned", desc := "(II)I" } : Jvm.MethodName) prog_6_method_41_code (2 : Nat) (Option.some Jvm.ClassFile.FieldType.int)) ∈ qT := List.mem_filter.mpr ⟨List.mem_append_right _ (List.mem_append_right _ (List.mem_append_left _ (List.mem_of_getElem? (i := 2) rfl))), rfl⟩
theorem m2_3 : (Jvm.Cond.constant "java/lang/Integer" (127 : Nat) (-2147483648 : Int32)) ∈ qT := List.mem_filter.mpr ⟨List.mem_append_right _ (List.mem_append_right _ (List.mem_append_left _ (List.mem_of_getElem? (i := 3) rfl))), rfl⟩
theorem m2_4 : (Jvm.Cond.methodLink "java/lang/Integer" (259 : Nat) ({ cls := "java/lang/Integer", name := "compare", desc := "(II)I" } : Jvm.MethodName)) ∈ qT := List.mem_filter.mpr ⟨List.mem_append_right _ (List.mem_append_right _ (List.mem_append_left _ (List.mem_of_getElem? (i := 4) rfl))), rfl⟩
theorem m2_5 : (Jvm.Cond.static ({ cls := "java/lang/Integer", name := "compare", desc := "(II)I" } : Jvm.MethodName)) ∈ qT := List.mem_filter.mpr ⟨List.mem_append_right _ (List.mem_append_right _ (List.mem_append_left _ (List.mem_of_getElem? (i := 5) rfl))), rfl⟩
theorem m2_6 : (Jvm.Cond.code ({ cls := "java/lang/Integer", name := "compare", desc := "(II)I" } : Jvm.MethodName) prog_6_method_40_code (2 : Nat) (Option.some Jvm.ClassFile.FieldType.int)) ∈ qT := List.mem_filter.mpr ⟨List.mem_append_right _ (List.mem_append_right _ (List.mem_append_left _ (List.mem_of_getElem? (i := 6) rfl))), rfl⟩
theorem m2_7 : (Jvm.Cond.methodLink "PageGuards" (140 : Nat) ({ cls := "PageGuards", name := "load", desc := "(II)I" } : Jvm.MethodName)) ∈ qT := List.mem_filter.mpr ⟨List.mem_append_right _ (List.mem_append_right _ (List.mem_append_left _ (List.mem_of_getElem? (i := 7) rfl))), rfl⟩
theorem m2_9 : (Jvm.Cond.instanceMethod ({ cls := "PageGuards", name := "load", desc := "(II)I" } : Jvm.MethodName)) ∈ qT := List.mem_filter.mpr ⟨List.mem_append_right _ (List.mem_append_right _ (List.mem_append_left _ (List.mem_of_getElem? (i := 9) rfl))), rfl⟩
theorem m2_10 : (Jvm.Cond.code ({ cls := "PageGuards", name := "load", desc := "(II)I" } : Jvm.MethodName) prog_1_method_29_code (4 : Nat) (Option.some Jvm.ClassFile.FieldType.int)) ∈ qT := List.mem_filter.mpr ⟨List.mem_append_right _ (List.mem_append_right _ (List.mem_append_left _ (List.mem_of_getElem? (i := 10) rfl))), rfl⟩
theorem m2_11 : (Jvm.Cond.methodLink "PageGuards" (167 : Nat) ({ cls := "PageGuards", name := "dataFault", desc := "(II)I" } : Jvm.MethodName)) ∈ qT := List.mem_filter.mpr ⟨List.mem_append_right _ (List.mem_append_right _ (List.mem_append_left _ (List.mem_of_getElem? (i := 11) rfl))), rfl⟩
theorem m2_13 : (Jvm.Cond.instanceMethod ({ cls := "PageGuards", name := "dataFault", desc := "(II)I" } : Jvm.MethodName)) ∈ qT := List.mem_filter.mpr ⟨List.mem_append_right _ (List.mem_append_right _ (List.mem_append_left _ (List.mem_of_getElem? (i := 13) rfl))), rfl⟩
theorem m2_14 : (Jvm.Cond.code ({ cls := "PageGuards", name := "dataFault", desc := "(II)I" } : Jvm.MethodName) prog_1_method_21_code (3 : Nat) (Option.some Jvm.ClassFile.FieldType.int)) ∈ qT := List.mem_filter.mpr ⟨List.mem_append_right _ (List.mem_append_right _ (List.mem_append_left _ (List.mem_of_getElem? (i := 14) rfl))), rfl⟩
theorem m2_15 : (Jvm.Cond.methodLink "PageGuards" (143 : Nat) ({ cls := "PageGuards", name := "store", desc := "(II)I" } : Jvm.MethodName)) ∈ qT := List.mem_filter.mpr ⟨List.mem_append_right _ (List.mem_append_right _ (List.mem_append_left _ (List.mem_of_getElem? (i := 15) rfl))), rfl⟩
theorem m2_17 : (Jvm.Cond.instanceMethod ({ cls := "PageGuards", name := "store", desc := "(II)I" } : Jvm.MethodName)) ∈ qT := List.mem_filter.mpr ⟨List.mem_append_right _ (List.mem_append_right _ (List.mem_append_left _ (List.mem_of_getElem? (i := 17) rfl))), rfl⟩
theorem m2_18 : (Jvm.Cond.code ({ cls := "PageGuards", name := "store", desc := "(II)I" } : Jvm.MethodName) prog_1_method_30_code (4 : Nat) (Option.some Jvm.ClassFile.FieldType.int)) ∈ qT := List.mem_filter.mpr ⟨List.mem_append_right _ (List.mem_append_right _ (List.mem_append_left _ (List.mem_of_getElem? (i := 18) rfl))), rfl⟩
theorem m2_19 : (Jvm.Cond.methodLink "PageGuards" (146 : Nat) ({ cls := "PageGuards", name := "loadMany", desc := "(II)I" } : Jvm.MethodName)) ∈ qT := List.mem_filter.mpr ⟨List.mem_append_right _ (List.mem_append_right _ (List.mem_append_left _ (List.mem_of_getElem? (i := 19) rfl))), rfl⟩
theorem m2_21 : (Jvm.Cond.instanceMethod ({ cls := "PageGuards", name := "loadMany", desc := "(II)I" } : Jvm.MethodName)) ∈ qT := List.mem_filter.mpr ⟨List.mem_append_right _ (List.mem_append_right _ (List.mem_append_left _ (List.mem_of_getElem? (i := 21) rfl))), rfl⟩
theorem m2_22 : (Jvm.Cond.code ({ cls := "PageGuards", name := "loadMany", desc := "(II)I" } : Jvm.MethodName) prog_1_method_31_code (6 : Nat) (Option.some Jvm.ClassFile.FieldType.int)) ∈ qT := List.mem_filter.mpr ⟨List.mem_append_right _ (List.mem_append_right _ (List.mem_append_left _ (List.mem_of_getElem? (i := 22) rfl))), rfl⟩
theorem m2_23 : (Jvm.Cond.methodLink "PageGuards" (170 : Nat) ({ cls := "PageGuards", name := "isChosen", desc := "(II)Z" } : Jvm.MethodName)) ∈ qT := List.mem_filter.mpr ⟨List.mem_append_right _ (List.mem_append_right _ (List.mem_append_left _ (List.mem_of_getElem? (i := 23) rfl))), rfl⟩
theorem m2_24 : (Jvm.Cond.static ({ cls := "PageGuards", name := "isChosen", desc := "(II)Z" } : Jvm.MethodName)) ∈ qT := List.mem_filter.mpr ⟨List.mem_append_right _ (List.mem_append_right _ (List.mem_append_left _ (List.mem_of_getElem? (i := 24) rfl))), rfl⟩
theorem m2_25 : (Jvm.Cond.code ({ cls := "PageGuards", name := "isChosen", desc := "(II)Z" } : Jvm.MethodName) prog_1_method_33_code (2 : Nat) (Option.some Jvm.ClassFile.FieldType.boolean)) ∈ qT := List.mem_filter.mpr ⟨List.mem_append_right _ (List.mem_append_right _ (List.mem_append_left _ (List.mem_of_getElem? (i := 25) rfl))), rfl⟩
theorem m2_26 : (Jvm.Cond.methodLink "PageGuards" (149 : Nat) ({ cls := "PageGuards", name := "storeMany", desc := "(II)I" } : Jvm.MethodName)) ∈ qT := List.mem_filter.mpr ⟨List.mem_append_right _ (List.mem_append_right _ (List.mem_append_left _ (List.mem_of_getElem? (i := 26) rfl))), rfl⟩
theorem m2_28 : (Jvm.Cond.instanceMethod ({ cls := "PageGuards", name := "storeMany", desc := "(II)I" } : Jvm.MethodName)) ∈ qT := List.mem_filter.mpr ⟨List.mem_append_right _ (List.mem_append_right _ (List.mem_append_left _ (List.mem_of_getElem? (i := 28) rfl))), rfl⟩
theorem m2_29 : (Jvm.Cond.code ({ cls := "PageGuards", name := "storeMany", desc := "(II)I" } : Jvm.MethodName) prog_1_method_32_code (7 : Nat) (Option.some Jvm.ClassFile.FieldType.int)) ∈ qT := List.mem_filter.mpr ⟨List.mem_append_right _ (List.mem_append_right _ (List.mem_append_left _ (List.mem_of_getElem? (i := 29) rfl))), rfl⟩
theorem m2_30 : (Jvm.Cond.methodLink "PageGuards" (173 : Nat) ({ cls := "java/lang/Integer", name := "bitCount", desc := "(I)I" } : Jvm.MethodName)) ∈ qT := List.mem_filter.mpr ⟨List.mem_append_right _ (List.mem_append_right _ (List.mem_append_left _ (List.mem_of_getElem? (i := 30) rfl))), rfl⟩
theorem m2_31 : (Jvm.Cond.static ({ cls := "java/lang/Integer", name := "bitCount", desc := "(I)I" } : Jvm.MethodName)) ∈ qT := List.mem_filter.mpr ⟨List.mem_append_right _ (List.mem_append_right _ (List.mem_append_left _ (List.mem_of_getElem? (i := 31) rfl))), rfl⟩
theorem m2_32 : (Jvm.Cond.code ({ cls := "java/lang/Integer", name := "bitCount", desc := "(I)I" } : Jvm.MethodName) prog_6_method_49_code (1 : Nat) (Option.some Jvm.ClassFile.FieldType.int)) ∈ qT := List.mem_filter.mpr ⟨List.mem_append_right _ (List.mem_append_right _ (List.mem_append_left _ (List.mem_of_getElem? (i := 32) rfl))), rfl⟩
theorem m2_33 : (Jvm.Cond.constant "java/lang/Integer" (265 : Nat) (1431655765 : Int32)) ∈ qT := List.mem_filter.mpr ⟨List.mem_append_right _ (List.mem_append_right _ (List.mem_append_left _ (List.mem_of_getElem? (i := 33) rfl))), rfl⟩
theorem m2_34 : (Jvm.Cond.constant "java/lang/Integer" (266 : Nat) (858993459 : Int32)) ∈ qT := List.mem_filter.mpr ⟨List.mem_append_right _ (List.mem_append_right _ (List.mem_append_left _ (List.mem_of_getElem? (i := 34) rfl))), rfl⟩
theorem m2_35 : (Jvm.Cond.constant "java/lang/Integer" (267 : Nat) (252645135 : Int32)) ∈ qT := List.mem_filter.mpr ⟨List.mem_append_right _ (List.mem_append_right _ (List.mem_append_left _ (List.mem_of_getElem? (i := 35) rfl))), rfl⟩
theorem m2_36 : (Jvm.Cond.methodLink "PageGuards" (152 : Nat) ({ cls := "PageGuards", name := "returnFromException", desc := "()I" } : Jvm.MethodName)) ∈ qT := List.mem_filter.mpr ⟨List.mem_append_right _ (List.mem_append_right _ (List.mem_append_left _ (List.mem_of_getElem? (i := 36) rfl))), rfl⟩
theorem m2_38 : (Jvm.Cond.instanceMethod ({ cls := "PageGuards", name := "returnFromException", desc := "()I" } : Jvm.MethodName)) ∈ qT := List.mem_filter.mpr ⟨List.mem_append_right _ (List.mem_append_right _ (List.mem_append_left _ (List.mem_of_getElem? (i := 38) rfl))), rfl⟩
theorem m2_39 : (Jvm.Cond.code ({ cls := "PageGuards", name := "returnFromException", desc := "()I" } : Jvm.MethodName) prog_1_method_34_code (2 : Nat) (Option.some Jvm.ClassFile.FieldType.int)) ∈ qT := List.mem_filter.mpr ⟨List.mem_append_right _ (List.mem_append_right _ (List.mem_append_left _ (List.mem_of_getElem? (i := 39) rfl))), rfl⟩
theorem m2_40 : (Jvm.Cond.methodLink "PageGuards" (176 : Nat) ({ cls := "PageGuards", name := "withKnownMode", desc := "(I)I" } : Jvm.MethodName)) ∈ qT := List.mem_filter.mpr ⟨List.mem_append_right _ (List.mem_append_right _ (List.mem_append_left _ (List.mem_of_getElem? (i := 40) rfl))), rfl⟩
theorem m2_41 : (Jvm.Cond.static ({ cls := "PageGuards", name := "withKnownMode", desc := "(I)I" } : Jvm.MethodName)) ∈ qT := List.mem_filter.mpr ⟨List.mem_append_right _ (List.mem_append_right _ (List.mem_append_left _ (List.mem_of_getElem? (i := 41) rfl))), rfl⟩
theorem m2_42 : (Jvm.Cond.code ({ cls := "PageGuards", name := "withKnownMode", desc := "(I)I" } : Jvm.MethodName) prog_1_method_35_code (1 : Nat) (Option.some Jvm.ClassFile.FieldType.int)) ∈ qT := List.mem_filter.mpr ⟨List.mem_append_right _ (List.mem_append_right _ (List.mem_append_left _ (List.mem_of_getElem? (i := 42) rfl))), rfl⟩
theorem m2_43 : (Jvm.Cond.methodLink "PageGuards" (155 : Nat) ({ cls := "PageGuards", name := "govern", desc := "(IIII)V" } : Jvm.MethodName)) ∈ qT := List.mem_filter.mpr ⟨List.mem_append_right _ (List.mem_append_right _ (List.mem_append_left _ (List.mem_of_getElem? (i := 43) rfl))), rfl⟩
theorem m2_45 : (Jvm.Cond.instanceMethod ({ cls := "PageGuards", name := "govern", desc := "(IIII)V" } : Jvm.MethodName)) ∈ qT := List.mem_filter.mpr ⟨List.mem_append_right _ (List.mem_append_right _ (List.mem_append_left _ (List.mem_of_getElem? (i := 45) rfl))), rfl⟩
theorem m2_46 : (Jvm.Cond.code ({ cls := "PageGuards", name := "govern", desc := "(IIII)V" } : Jvm.MethodName) prog_1_method_36_code (5 : Nat) (Option.none : Option Jvm.ClassFile.FieldType)) ∈ qT := List.mem_filter.mpr ⟨List.mem_append_right _ (List.mem_append_right _ (List.mem_append_left _ (List.mem_of_getElem? (i := 46) rfl))), rfl⟩
theorem m2_47 : (Jvm.Cond.methodLink "PageGuards" (179 : Nat) ({ cls := "PageGuards", name := "writeStatus", desc := "(IZ)V" } : Jvm.MethodName)) ∈ qT := List.mem_filter.mpr ⟨List.mem_append_right _ (List.mem_append_right _ (List.mem_append_left _ (List.mem_of_getElem? (i := 47) rfl))), rfl⟩
theorem m2_49 : (Jvm.Cond.instanceMethod ({ cls := "PageGuards", name := "writeStatus", desc := "(IZ)V" } : Jvm.MethodName)) ∈ qT := List.mem_filter.mpr ⟨List.mem_append_right _ (List.mem_append_right _ (List.mem_append_left _ (List.mem_of_getElem? (i := 49) rfl))), rfl⟩
theorem m2_50 : (Jvm.Cond.code ({ cls := "PageGuards", name := "writeStatus", desc := "(IZ)V" } : Jvm.MethodName) prog_1_method_37_code (3 : Nat) (Option.none : Option Jvm.ClassFile.FieldType)) ∈ qT := List.mem_filter.mpr ⟨List.mem_append_right _ (List.mem_append_right _ (List.mem_append_left _ (List.mem_of_getElem? (i := 50) rfl))), rfl⟩
theorem m2_51 : (Jvm.Cond.methodLink "PageGuards" (183 : Nat) ({ cls := "PageGuards", name := "forget", desc := "(II)V" } : Jvm.MethodName)) ∈ qT := List.mem_filter.mpr ⟨List.mem_append_right _ (List.mem_append_right _ (List.mem_append_left _ (List.mem_of_getElem? (i := 51) rfl))), rfl⟩
theorem m2_53 : (Jvm.Cond.instanceMethod ({ cls := "PageGuards", name := "forget", desc := "(II)V" } : Jvm.MethodName)) ∈ qT := List.mem_filter.mpr ⟨List.mem_append_right _ (List.mem_append_right _ (List.mem_append_left _ (List.mem_of_getElem? (i := 53) rfl))), rfl⟩
theorem m2_54 : (Jvm.Cond.code ({ cls := "PageGuards", name := "forget", desc := "(II)V" } : Jvm.MethodName) prog_1_method_38_code (3 : Nat) (Option.none : Option Jvm.ClassFile.FieldType)) ∈ qT := List.mem_filter.mpr ⟨List.mem_append_right _ (List.mem_append_right _ (List.mem_append_left _ (List.mem_of_getElem? (i := 54) rfl))), rfl⟩
theorem m2_55 : (Jvm.Cond.methodLink "PageGuards" (186 : Nat) ({ cls := "PageGuards$Buffer", name := "forgetAddress", desc := "(II)V" } : Jvm.MethodName)) ∈ qT := List.mem_filter.mpr ⟨List.mem_append_right _ (List.mem_append_right _ (List.mem_append_left _ (List.mem_of_getElem? (i := 55) rfl))), rfl⟩
theorem m2_56 : (Jvm.Cond.instanceMethod ({ cls := "PageGuards$Buffer", name := "forgetAddress", desc := "(II)V" } : Jvm.MethodName)) ∈ qT := List.mem_filter.mpr ⟨List.mem_append_right _ (List.mem_append_right _ (List.mem_append_left _ (List.mem_of_getElem? (i := 56) rfl))), rfl⟩
theorem m2_57 : (Jvm.Cond.selects "PageGuards$Buffer" ({ cls := "PageGuards$Buffer", name := "forgetAddress", desc := "(II)V" } : Jvm.MethodName) ({ cls := "PageGuards$Buffer", name := "forgetAddress", desc := "(II)V" } : Jvm.MethodName)) ∈ qT := List.mem_filter.mpr ⟨List.mem_append_right _ (List.mem_append_right _ (List.mem_append_left _ (List.mem_of_getElem? (i := 57) rfl))), rfl⟩
theorem m2_58 : (Jvm.Cond.code ({ cls := "PageGuards$Buffer", name := "forgetAddress", desc := "(II)V" } : Jvm.MethodName) prog_2_method_7_code (4 : Nat) (Option.none : Option Jvm.ClassFile.FieldType)) ∈ qT := List.mem_filter.mpr ⟨List.mem_append_right _ (List.mem_append_right _ (List.mem_append_left _ (List.mem_of_getElem? (i := 58) rfl))), rfl⟩
theorem m2_59 : (Jvm.Cond.methodLink "PageGuards" (189 : Nat) ({ cls := "PageGuards$Buffer", name := "forgetSpace", desc := "(I)V" } : Jvm.MethodName)) ∈ qT := List.mem_filter.mpr ⟨List.mem_append_right _ (List.mem_append_right _ (List.mem_append_left _ (List.mem_of_getElem? (i := 59) rfl))), rfl⟩
theorem m2_60 : (Jvm.Cond.instanceMethod ({ cls := "PageGuards$Buffer", name := "forgetSpace", desc := "(I)V" } : Jvm.MethodName)) ∈ qT := List.mem_filter.mpr ⟨List.mem_append_right _ (List.mem_append_right _ (List.mem_append_left _ (List.mem_of_getElem? (i := 60) rfl))), rfl⟩
theorem m2_61 : (Jvm.Cond.selects "PageGuards$Buffer" ({ cls := "PageGuards$Buffer", name := "forgetSpace", desc := "(I)V" } : Jvm.MethodName) ({ cls := "PageGuards$Buffer", name := "forgetSpace", desc := "(I)V" } : Jvm.MethodName)) ∈ qT := List.mem_filter.mpr ⟨List.mem_append_right _ (List.mem_append_right _ (List.mem_append_left _ (List.mem_of_getElem? (i := 61) rfl))), rfl⟩
theorem m2_62 : (Jvm.Cond.code ({ cls := "PageGuards$Buffer", name := "forgetSpace", desc := "(I)V" } : Jvm.MethodName) prog_2_method_8_code (3 : Nat) (Option.none : Option Jvm.ClassFile.FieldType)) ∈ qT := List.mem_filter.mpr ⟨List.mem_append_right _ (List.mem_append_right _ (List.mem_append_left _ (List.mem_of_getElem? (i := 62) rfl))), rfl⟩
theorem m2_63 : (Jvm.Cond.methodLink "PageGuards$Buffer" (31 : Nat) ({ cls := "PageGuards$Buffer", name := "field", desc := "(II)I" } : Jvm.MethodName)) ∈ qT := List.mem_filter.mpr ⟨List.mem_append_right _ (List.mem_append_right _ (List.mem_append_left _ (List.mem_of_getElem? (i := 63) rfl))), rfl⟩
theorem m2_64 : (Jvm.Cond.methodLink "PageGuardsLaw" (52 : Nat) ({ cls := "PageGuards", name := "word", desc := "(I)I" } : Jvm.MethodName)) ∈ qT := List.mem_filter.mpr ⟨List.mem_append_right _ (List.mem_append_right _ (List.mem_append_left _ (List.mem_of_getElem? (i := 64) rfl))), rfl⟩
theorem m2_65 : (Jvm.Cond.instanceMethod ({ cls := "PageGuards", name := "word", desc := "(I)I" } : Jvm.MethodName)) ∈ qT := List.mem_filter.mpr ⟨List.mem_append_right _ (List.mem_append_right _ (List.mem_append_left _ (List.mem_of_getElem? (i := 65) rfl))), rfl⟩
theorem m2_66 : (Jvm.Cond.selects "PageGuards" ({ cls := "PageGuards", name := "word", desc := "(I)I" } : Jvm.MethodName) ({ cls := "PageGuards", name := "word", desc := "(I)I" } : Jvm.MethodName)) ∈ qT := List.mem_filter.mpr ⟨List.mem_append_right _ (List.mem_append_right _ (List.mem_append_left _ (List.mem_of_getElem? (i := 66) rfl))), rfl⟩
theorem m2_67 : (Jvm.Cond.code ({ cls := "PageGuards", name := "word", desc := "(I)I" } : Jvm.MethodName) prog_1_method_8_code (2 : Nat) (Option.some Jvm.ClassFile.FieldType.int)) ∈ qT := List.mem_filter.mpr ⟨List.mem_append_right _ (List.mem_append_right _ (List.mem_append_left _ (List.mem_of_getElem? (i := 67) rfl))), rfl⟩
theorem m2_68 : (Jvm.Cond.methodLink "PageGuardsLaw" (56 : Nat) ({ cls := "PageGuards", name := "state", desc := "(I)I" } : Jvm.MethodName)) ∈ qT := List.mem_filter.mpr ⟨List.mem_append_right _ (List.mem_append_right _ (List.mem_append_left _ (List.mem_of_getElem? (i := 68) rfl))), rfl⟩
theorem m2_69 : (Jvm.Cond.instanceMethod ({ cls := "PageGuards", name := "state", desc := "(I)I" } : Jvm.MethodName)) ∈ qT := List.mem_filter.mpr ⟨List.mem_append_right _ (List.mem_append_right _ (List.mem_append_left _ (List.mem_of_getElem? (i := 69) rfl))), rfl⟩
theorem m2_70 : (Jvm.Cond.selects "PageGuards" ({ cls := "PageGuards", name := "state", desc := "(I)I" } : Jvm.MethodName) ({ cls := "PageGuards", name := "state", desc := "(I)I" } : Jvm.MethodName)) ∈ qT := List.mem_filter.mpr ⟨List.mem_append_right _ (List.mem_append_right _ (List.mem_append_left _ (List.mem_of_getElem? (i := 70) rfl))), rfl⟩
theorem m2_71 : (Jvm.Cond.code ({ cls := "PageGuards", name := "state", desc := "(I)I" } : Jvm.MethodName) prog_1_method_9_code (2 : Nat) (Option.some Jvm.ClassFile.FieldType.int)) ∈ qT := List.mem_filter.mpr ⟨List.mem_append_right _ (List.mem_append_right _ (List.mem_append_left _ (List.mem_of_getElem? (i := 71) rfl))), rfl⟩
theorem m2_72 : (Jvm.Cond.methodLink "PageGuardsLaw" (60 : Nat) ({ cls := "PageGuards", name := "entry", desc := "(II)I" } : Jvm.MethodName)) ∈ qT := List.mem_filter.mpr ⟨List.mem_append_right _ (List.mem_append_right _ (List.mem_append_left _ (List.mem_of_getElem? (i := 72) rfl))), rfl⟩
theorem m2_73 : (Jvm.Cond.instanceMethod ({ cls := "PageGuards", name := "entry", desc := "(II)I" } : Jvm.MethodName)) ∈ qT := List.mem_filter.mpr ⟨List.mem_append_right _ (List.mem_append_right _ (List.mem_append_left _ (List.mem_of_getElem? (i := 73) rfl))), rfl⟩
theorem m2_74 : (Jvm.Cond.selects "PageGuards" ({ cls := "PageGuards", name := "entry", desc := "(II)I" } : Jvm.MethodName) ({ cls := "PageGuards", name := "entry", desc := "(II)I" } : Jvm.MethodName)) ∈ qT := List.mem_filter.mpr ⟨List.mem_append_right _ (List.mem_append_right _ (List.mem_append_left _ (List.mem_of_getElem? (i := 74) rfl))), rfl⟩
theorem m2_75 : (Jvm.Cond.code ({ cls := "PageGuards", name := "entry", desc := "(II)I" } : Jvm.MethodName) prog_1_method_10_code (3 : Nat) (Option.some Jvm.ClassFile.FieldType.int)) ∈ qT := List.mem_filter.mpr ⟨List.mem_append_right _ (List.mem_append_right _ (List.mem_append_left _ (List.mem_of_getElem? (i := 75) rfl))), rfl⟩
theorem m2_76 : (Jvm.Cond.methodLink "PageGuards" (85 : Nat) ({ cls := "PageGuards$Buffer", name := "field", desc := "(II)I" } : Jvm.MethodName)) ∈ qT := List.mem_filter.mpr ⟨List.mem_append_right _ (List.mem_append_right _ (List.mem_append_left _ (List.mem_of_getElem? (i := 76) rfl))), rfl⟩
theorem m2_77 : (Jvm.Cond.methodLink "PageGuardsLaw" (9 : Nat) ({ cls := "PageGuardsLaw", name := "cell", desc := "([II)I" } : Jvm.MethodName)) ∈ qT := List.mem_filter.mpr ⟨List.mem_append_right _ (List.mem_append_right _ (List.mem_append_left _ (List.mem_of_getElem? (i := 77) rfl))), rfl⟩
theorem m2_78 : (Jvm.Cond.static ({ cls := "PageGuardsLaw", name := "cell", desc := "([II)I" } : Jvm.MethodName)) ∈ qT := List.mem_filter.mpr ⟨List.mem_append_right _ (List.mem_append_right _ (List.mem_append_left _ (List.mem_of_getElem? (i := 78) rfl))), rfl⟩
theorem m2_79 : (Jvm.Cond.code ({ cls := "PageGuardsLaw", name := "cell", desc := "([II)I" } : Jvm.MethodName) method_2_code (2 : Nat) (Option.some Jvm.ClassFile.FieldType.int)) ∈ qT := List.mem_filter.mpr ⟨List.mem_append_right _ (List.mem_append_right _ (List.mem_append_left _ (List.mem_of_getElem? (i := 79) rfl))), rfl⟩
theorem m2_80 : (Jvm.Cond.classLink "PageGuardsLaw" (18 : Nat) "PageGuardsModel") ∈ qT := List.mem_filter.mpr ⟨List.mem_append_right _ (List.mem_append_right _ (List.mem_append_left _ (List.mem_of_getElem? (i := 80) rfl))), rfl⟩
theorem m2_81 : (Jvm.Cond.instantiable "PageGuardsModel" (23 : Nat)) ∈ qT := List.mem_filter.mpr ⟨List.mem_append_right _ (List.mem_append_right _ (List.mem_append_left _ (List.mem_of_getElem? (i := 81) rfl))), rfl⟩
theorem m2_82 : (Jvm.Cond.methodLink "PageGuardsLaw" (20 : Nat) ({ cls := "PageGuardsModel", name := "<init>", desc := "(I)V" } : Jvm.MethodName)) ∈ qT := List.mem_filter.mpr ⟨List.mem_append_right _ (List.mem_append_right _ (List.mem_append_left _ (List.mem_of_getElem? (i := 82) rfl))), rfl⟩
theorem m2_83 : (Jvm.Cond.instanceMethod ({ cls := "PageGuardsModel", name := "<init>", desc := "(I)V" } : Jvm.MethodName)) ∈ qT := List.mem_filter.mpr ⟨List.mem_append_right _ (List.mem_append_right _ (List.mem_append_left _ (List.mem_of_getElem? (i := 83) rfl))), rfl⟩
theorem m2_84 : (Jvm.Cond.code ({ cls := "PageGuardsModel", name := "<init>", desc := "(I)V" } : Jvm.MethodName) prog_5_method_1_code (2 : Nat) (Option.none : Option Jvm.ClassFile.FieldType)) ∈ qT := List.mem_filter.mpr ⟨List.mem_append_right _ (List.mem_append_right _ (List.mem_append_left _ (List.mem_of_getElem? (i := 84) rfl))), rfl⟩
theorem m2_85 : (Jvm.Cond.methodLink "PageGuardsModel" (1 : Nat) ({ cls := "java/lang/Object", name := "<init>", desc := "()V" } : Jvm.MethodName)) ∈ qT := List.mem_filter.mpr ⟨List.mem_append_right _ (List.mem_append_right _ (List.mem_append_left _ (List.mem_of_getElem? (i := 85) rfl))), rfl⟩
theorem m2_86 : (Jvm.Cond.fieldLink "PageGuardsModel" (60 : Nat) "PageGuardsModel" "buffered" "Z") ∈ qT := List.mem_filter.mpr ⟨List.mem_append_right _ (List.mem_append_right _ (List.mem_append_left _ (List.mem_of_getElem? (i := 86) rfl))), rfl⟩
theorem m2_87 : (Jvm.Cond.fieldLink "PageGuardsModel" (7 : Nat) "PageGuardsModel" "memory" "[I") ∈ qT := List.mem_filter.mpr ⟨List.mem_append_right _ (List.mem_append_right _ (List.mem_append_left _ (List.mem_of_getElem? (i := 87) rfl))), rfl⟩
theorem m2_88 : (Jvm.Cond.fieldLink "PageGuardsModel" (13 : Nat) "PageGuardsModel" "low" "[I") ∈ qT := List.mem_filter.mpr ⟨List.mem_append_right _ (List.mem_append_right _ (List.mem_append_left _ (List.mem_of_getElem? (i := 88) rfl))), rfl⟩
theorem m2_89 : (Jvm.Cond.fieldLink "PageGuardsModel" (16 : Nat) "PageGuardsModel" "six" "[I") ∈ qT := List.mem_filter.mpr ⟨List.mem_append_right _ (List.mem_append_right _ (List.mem_append_left _ (List.mem_of_getElem? (i := 89) rfl))), rfl⟩
theorem m2_90 : (Jvm.Cond.fieldLink "PageGuardsModel" (19 : Nat) "PageGuardsModel" "seven" "[I") ∈ qT := List.mem_filter.mpr ⟨List.mem_append_right _ (List.mem_append_right _ (List.mem_append_left _ (List.mem_of_getElem? (i := 90) rfl))), rfl⟩
theorem m2_91 : (Jvm.Cond.fieldLink "PageGuardsModel" (22 : Nat) "PageGuardsModel" "kept" "[I") ∈ qT := List.mem_filter.mpr ⟨List.mem_append_right _ (List.mem_append_right _ (List.mem_append_left _ (List.mem_of_getElem? (i := 91) rfl))), rfl⟩
theorem m2_92 : (Jvm.Cond.fieldLink "PageGuardsModel" (25 : Nat) "PageGuardsModel" "control" "[I") ∈ qT := List.mem_filter.mpr ⟨List.mem_append_right _ (List.mem_append_right _ (List.mem_append_left _ (List.mem_of_getElem? (i := 92) rfl))), rfl⟩
theorem m2_93 : (Jvm.Cond.fieldLink "PageGuardsModel" (69 : Nat) "PageGuardsModel" "pc" "I") ∈ qT := List.mem_filter.mpr ⟨List.mem_append_right _ (List.mem_append_right _ (List.mem_append_left _ (List.mem_of_getElem? (i := 93) rfl))), rfl⟩
theorem m2_94 : (Jvm.Cond.fieldLink "PageGuardsModel" (28 : Nat) "PageGuardsModel" "status" "I") ∈ qT := List.mem_filter.mpr ⟨List.mem_append_right _ (List.mem_append_right _ (List.mem_append_left _ (List.mem_of_getElem? (i := 94) rfl))), rfl⟩
theorem m2_95 : (Jvm.Cond.fieldLink "PageGuardsModel" (86 : Nat) "PageGuardsModel" "lines" "I") ∈ qT := List.mem_filter.mpr ⟨List.mem_append_right _ (List.mem_append_right _ (List.mem_append_left _ (List.mem_of_getElem? (i := 95) rfl))), rfl⟩
theorem m2_96 : (Jvm.Cond.fieldLink "PageGuardsModel" (75 : Nat) "PageGuardsModel" "waits" "Z") ∈ qT := List.mem_filter.mpr ⟨List.mem_append_right _ (List.mem_append_right _ (List.mem_append_left _ (List.mem_of_getElem? (i := 96) rfl))), rfl⟩
theorem m2_97 : (Jvm.Cond.fieldLink "PageGuardsModel" (32 : Nat) "PageGuardsModel" "stands" "Z") ∈ qT := List.mem_filter.mpr ⟨List.mem_append_right _ (List.mem_append_right _ (List.mem_append_left _ (List.mem_of_getElem? (i := 97) rfl))), rfl⟩
theorem m2_98 : (Jvm.Cond.fieldLink "PageGuardsModel" (102 : Nat) "PageGuardsModel" "walks" "I") ∈ qT := List.mem_filter.mpr ⟨List.mem_append_right _ (List.mem_append_right _ (List.mem_append_left _ (List.mem_of_getElem? (i := 98) rfl))), rfl⟩
theorem m2_99 : (Jvm.Cond.fieldLink "PageGuardsModel" (72 : Nat) "PageGuardsModel" "entries" "I") ∈ qT := List.mem_filter.mpr ⟨List.mem_append_right _ (List.mem_append_right _ (List.mem_append_left _ (List.mem_of_getElem? (i := 99) rfl))), rfl⟩
theorem m2_100 : (Jvm.Cond.fieldLink "PageGuardsModel" (36 : Nat) "PageGuardsModel" "from" "[I") ∈ qT := List.mem_filter.mpr ⟨List.mem_append_right _ (List.mem_append_right _ (List.mem_append_left _ (List.mem_of_getElem? (i := 100) rfl))), rfl⟩
theorem m2_101 : (Jvm.Cond.fieldLink "PageGuardsModel" (39 : Nat) "PageGuardsModel" "size" "[I") ∈ qT := List.mem_filter.mpr ⟨List.mem_append_right _ (List.mem_append_right _ (List.mem_append_left _ (List.mem_of_getElem? (i := 101) rfl))), rfl⟩
theorem m2_102 : (Jvm.Cond.fieldLink "PageGuardsModel" (42 : Nat) "PageGuardsModel" "to" "[I") ∈ qT := List.mem_filter.mpr ⟨List.mem_append_right _ (List.mem_append_right _ (List.mem_append_left _ (List.mem_of_getElem? (i := 102) rfl))), rfl⟩
theorem m2_103 : (Jvm.Cond.fieldLink "PageGuardsModel" (45 : Nat) "PageGuardsModel" "space" "[I") ∈ qT := List.mem_filter.mpr ⟨List.mem_append_right _ (List.mem_append_right _ (List.mem_append_left _ (List.mem_of_getElem? (i := 103) rfl))), rfl⟩
theorem m2_104 : (Jvm.Cond.fieldLink "PageGuardsModel" (48 : Nat) "PageGuardsModel" "domain" "[I") ∈ qT := List.mem_filter.mpr ⟨List.mem_append_right _ (List.mem_append_right _ (List.mem_append_left _ (List.mem_of_getElem? (i := 104) rfl))), rfl⟩
theorem m2_105 : (Jvm.Cond.fieldLink "PageGuardsModel" (51 : Nat) "PageGuardsModel" "rights" "[I") ∈ qT := List.mem_filter.mpr ⟨List.mem_append_right _ (List.mem_append_right _ (List.mem_append_left _ (List.mem_of_getElem? (i := 105) rfl))), rfl⟩
theorem m2_106 : (Jvm.Cond.fieldLink "PageGuardsModel" (54 : Nat) "PageGuardsModel" "noFetch" "[I") ∈ qT := List.mem_filter.mpr ⟨List.mem_append_right _ (List.mem_append_right _ (List.mem_append_left _ (List.mem_of_getElem? (i := 106) rfl))), rfl⟩
theorem m2_107 : (Jvm.Cond.fieldLink "PageGuardsModel" (99 : Nat) "PageGuardsModel" "wrong" "I") ∈ qT := List.mem_filter.mpr ⟨List.mem_append_right _ (List.mem_append_right _ (List.mem_append_left _ (List.mem_of_getElem? (i := 107) rfl))), rfl⟩
theorem m2_108 : (Jvm.Cond.fieldLink "PageGuardsModel" (57 : Nat) "PageGuardsModel" "loaded" "[I") ∈ qT := List.mem_filter.mpr ⟨List.mem_append_right _ (List.mem_append_right _ (List.mem_append_left _ (List.mem_of_getElem? (i := 108) rfl))), rfl⟩
theorem m2_156 : (Jvm.Cond.methodLink "PageGuardsLaw" (25 : Nat) ({ cls := "PageGuardsModel", name := "poke", desc := "(II)I" } : Jvm.MethodName)) ∈ qT := List.mem_filter.mpr ⟨List.mem_append_right _ (List.mem_append_right _ (List.mem_append_left _ (List.mem_of_getElem? (i := 156) rfl))), rfl⟩
theorem m2_157 : (Jvm.Cond.instanceMethod ({ cls := "PageGuardsModel", name := "poke", desc := "(II)I" } : Jvm.MethodName)) ∈ qT := List.mem_filter.mpr ⟨List.mem_append_right _ (List.mem_append_right _ (List.mem_append_left _ (List.mem_of_getElem? (i := 157) rfl))), rfl⟩
theorem m2_158 : (Jvm.Cond.selects "PageGuardsModel" ({ cls := "PageGuardsModel", name := "poke", desc := "(II)I" } : Jvm.MethodName) ({ cls := "PageGuardsModel", name := "poke", desc := "(II)I" } : Jvm.MethodName)) ∈ qT := List.mem_filter.mpr ⟨List.mem_append_right _ (List.mem_append_right _ (List.mem_append_left _ (List.mem_of_getElem? (i := 158) rfl))), rfl⟩
theorem m2_159 : (Jvm.Cond.code ({ cls := "PageGuardsModel", name := "poke", desc := "(II)I" } : Jvm.MethodName) prog_5_method_3_code (4 : Nat) (Option.some Jvm.ClassFile.FieldType.int)) ∈ qT := List.mem_filter.mpr ⟨List.mem_append_right _ (List.mem_append_right _ (List.mem_append_left _ (List.mem_of_getElem? (i := 159) rfl))), rfl⟩
theorem m2_160 : (Jvm.Cond.methodLink "PageGuardsModel" (63 : Nat) ({ cls := "PageGuardsModel", name := "isPlace", desc := "(I)Z" } : Jvm.MethodName)) ∈ qT := List.mem_filter.mpr ⟨List.mem_append_right _ (List.mem_append_right _ (List.mem_append_left _ (List.mem_of_getElem? (i := 160) rfl))), rfl⟩
theorem m2_161 : (Jvm.Cond.static ({ cls := "PageGuardsModel", name := "isPlace", desc := "(I)Z" } : Jvm.MethodName)) ∈ qT := List.mem_filter.mpr ⟨List.mem_append_right _ (List.mem_append_right _ (List.mem_append_left _ (List.mem_of_getElem? (i := 161) rfl))), rfl⟩
theorem m2_162 : (Jvm.Cond.code ({ cls := "PageGuardsModel", name := "isPlace", desc := "(I)Z" } : Jvm.MethodName) prog_5_method_2_code (1 : Nat) (Option.some Jvm.ClassFile.FieldType.boolean)) ∈ qT := List.mem_filter.mpr ⟨List.mem_append_right _ (List.mem_append_right _ (List.mem_append_left _ (List.mem_of_getElem? (i := 162) rfl))), rfl⟩
theorem m2_163 : (Jvm.Cond.methodLink "PageGuardsLaw" (32 : Nat) ({ cls := "PageGuardsModel", name := "fill", desc := "(IJJ)Z" } : Jvm.MethodName)) ∈ qT := List.mem_filter.mpr ⟨List.mem_append_right _ (List.mem_append_right _ (List.mem_append_left _ (List.mem_of_getElem? (i := 163) rfl))), rfl⟩
theorem m2_164 : (Jvm.Cond.instanceMethod ({ cls := "PageGuardsModel", name := "fill", desc := "(IJJ)Z" } : Jvm.MethodName)) ∈ qT := List.mem_filter.mpr ⟨List.mem_append_right _ (List.mem_append_right _ (List.mem_append_left _ (List.mem_of_getElem? (i := 164) rfl))), rfl⟩
theorem m2_165 : (Jvm.Cond.selects "PageGuardsModel" ({ cls := "PageGuardsModel", name := "fill", desc := "(IJJ)Z" } : Jvm.MethodName) ({ cls := "PageGuardsModel", name := "fill", desc := "(IJJ)Z" } : Jvm.MethodName)) ∈ qT := List.mem_filter.mpr ⟨List.mem_append_right _ (List.mem_append_right _ (List.mem_append_left _ (List.mem_of_getElem? (i := 165) rfl))), rfl⟩
theorem m2_166 : (Jvm.Cond.code ({ cls := "PageGuardsModel", name := "fill", desc := "(IJJ)Z" } : Jvm.MethodName) prog_5_method_4_code (7 : Nat) (Option.some Jvm.ClassFile.FieldType.boolean)) ∈ qT := List.mem_filter.mpr ⟨List.mem_append_right _ (List.mem_append_right _ (List.mem_append_left _ (List.mem_of_getElem? (i := 166) rfl))), rfl⟩
theorem m2_167 : (Jvm.Cond.constantLong "PageGuardsModel" (67 : Nat) (65535 : Int64)) ∈ qT := List.mem_filter.mpr ⟨List.mem_append_right _ (List.mem_append_right _ (List.mem_append_left _ (List.mem_of_getElem? (i := 167) rfl))), rfl⟩
theorem m2_168 : (Jvm.Cond.methodLink "PageGuardsLaw" (36 : Nat) ({ cls := "PageGuardsModel", name := "begin", desc := "(I)V" } : Jvm.MethodName)) ∈ qT := List.mem_filter.mpr ⟨List.mem_append_right _ (List.mem_append_right _ (List.mem_append_left _ (List.mem_of_getElem? (i := 168) rfl))), rfl⟩
theorem m2_169 : (Jvm.Cond.instanceMethod ({ cls := "PageGuardsModel", name := "begin", desc := "(I)V" } : Jvm.MethodName)) ∈ qT := List.mem_filter.mpr ⟨List.mem_append_right _ (List.mem_append_right _ (List.mem_append_left _ (List.mem_of_getElem? (i := 169) rfl))), rfl⟩
theorem m2_170 : (Jvm.Cond.selects "PageGuardsModel" ({ cls := "PageGuardsModel", name := "begin", desc := "(I)V" } : Jvm.MethodName) ({ cls := "PageGuardsModel", name := "begin", desc := "(I)V" } : Jvm.MethodName)) ∈ qT := List.mem_filter.mpr ⟨List.mem_append_right _ (List.mem_append_right _ (List.mem_append_left _ (List.mem_of_getElem? (i := 170) rfl))), rfl⟩
theorem m2_171 : (Jvm.Cond.code ({ cls := "PageGuardsModel", name := "begin", desc := "(I)V" } : Jvm.MethodName) prog_5_method_5_code (2 : Nat) (Option.none : Option Jvm.ClassFile.FieldType)) ∈ qT := List.mem_filter.mpr ⟨List.mem_append_right _ (List.mem_append_right _ (List.mem_append_left _ (List.mem_of_getElem? (i := 171) rfl))), rfl⟩
theorem m2_172 : (Jvm.Cond.methodLink "PageGuardsLaw" (41 : Nat) ({ cls := "PageGuardsModel", name := "set", desc := "(II)Z" } : Jvm.MethodName)) ∈ qT := List.mem_filter.mpr ⟨List.mem_append_right _ (List.mem_append_right _ (List.mem_append_left _ (List.mem_of_getElem? (i := 172) rfl))), rfl⟩
theorem m2_173 : (Jvm.Cond.instanceMethod ({ cls := "PageGuardsModel", name := "set", desc := "(II)Z" } : Jvm.MethodName)) ∈ qT := List.mem_filter.mpr ⟨List.mem_append_right _ (List.mem_append_right _ (List.mem_append_left _ (List.mem_of_getElem? (i := 173) rfl))), rfl⟩
theorem m2_174 : (Jvm.Cond.selects "PageGuardsModel" ({ cls := "PageGuardsModel", name := "set", desc := "(II)Z" } : Jvm.MethodName) ({ cls := "PageGuardsModel", name := "set", desc := "(II)Z" } : Jvm.MethodName)) ∈ qT := List.mem_filter.mpr ⟨List.mem_append_right _ (List.mem_append_right _ (List.mem_append_left _ (List.mem_of_getElem? (i := 174) rfl))), rfl⟩
theorem m2_175 : (Jvm.Cond.code ({ cls := "PageGuardsModel", name := "set", desc := "(II)Z" } : Jvm.MethodName) prog_5_method_9_code (3 : Nat) (Option.some Jvm.ClassFile.FieldType.boolean)) ∈ qT := List.mem_filter.mpr ⟨List.mem_append_right _ (List.mem_append_right _ (List.mem_append_left _ (List.mem_of_getElem? (i := 175) rfl))), rfl⟩
theorem m2_176 : (Jvm.Cond.methodLink "PageGuardsModel" (82 : Nat) ({ cls := "PageGuardsModel", name := "put", desc := "(II)V" } : Jvm.MethodName)) ∈ qT := List.mem_filter.mpr ⟨List.mem_append_right _ (List.mem_append_right _ (List.mem_append_left _ (List.mem_of_getElem? (i := 176) rfl))), rfl⟩
theorem m2_178 : (Jvm.Cond.instanceMethod ({ cls := "PageGuardsModel", name := "put", desc := "(II)V" } : Jvm.MethodName)) ∈ qT := List.mem_filter.mpr ⟨List.mem_append_right _ (List.mem_append_right _ (List.mem_append_left _ (List.mem_of_getElem? (i := 178) rfl))), rfl⟩
theorem m2_179 : (Jvm.Cond.code ({ cls := "PageGuardsModel", name := "put", desc := "(II)V" } : Jvm.MethodName) prog_5_method_8_code (3 : Nat) (Option.none : Option Jvm.ClassFile.FieldType)) ∈ qT := List.mem_filter.mpr ⟨List.mem_append_right _ (List.mem_append_right _ (List.mem_append_left _ (List.mem_of_getElem? (i := 179) rfl))), rfl⟩
theorem m2_180 : (Jvm.Cond.methodLink "PageGuardsModel" (78 : Nat) ({ cls := "PageGuardsModel", name := "mode", desc := "()I" } : Jvm.MethodName)) ∈ qT := List.mem_filter.mpr ⟨List.mem_append_right _ (List.mem_append_right _ (List.mem_append_left _ (List.mem_of_getElem? (i := 180) rfl))), rfl⟩
theorem m2_182 : (Jvm.Cond.instanceMethod ({ cls := "PageGuardsModel", name := "mode", desc := "()I" } : Jvm.MethodName)) ∈ qT := List.mem_filter.mpr ⟨List.mem_append_right _ (List.mem_append_right _ (List.mem_append_left _ (List.mem_of_getElem? (i := 182) rfl))), rfl⟩
theorem m2_183 : (Jvm.Cond.code ({ cls := "PageGuardsModel", name := "mode", desc := "()I" } : Jvm.MethodName) prog_5_method_6_code (1 : Nat) (Option.some Jvm.ClassFile.FieldType.int)) ∈ qT := List.mem_filter.mpr ⟨List.mem_append_right _ (List.mem_append_right _ (List.mem_append_left _ (List.mem_of_getElem? (i := 183) rfl))), rfl⟩
theorem m2_184 : (Jvm.Cond.methodLink "PageGuardsLaw" (46 : Nat) ({ cls := "PageGuardsModel", name := "line", desc := "(IZ)Z" } : Jvm.MethodName)) ∈ qT := List.mem_filter.mpr ⟨List.mem_append_right _ (List.mem_append_right _ (List.mem_append_left _ (List.mem_of_getElem? (i := 184) rfl))), rfl⟩
theorem m2_185 : (Jvm.Cond.instanceMethod ({ cls := "PageGuardsModel", name := "line", desc := "(IZ)Z" } : Jvm.MethodName)) ∈ qT := List.mem_filter.mpr ⟨List.mem_append_right _ (List.mem_append_right _ (List.mem_append_left _ (List.mem_of_getElem? (i := 185) rfl))), rfl⟩
theorem m2_186 : (Jvm.Cond.selects "PageGuardsModel" ({ cls := "PageGuardsModel", name := "line", desc := "(IZ)Z" } : Jvm.MethodName) ({ cls := "PageGuardsModel", name := "line", desc := "(IZ)Z" } : Jvm.MethodName)) ∈ qT := List.mem_filter.mpr ⟨List.mem_append_right _ (List.mem_append_right _ (List.mem_append_left _ (List.mem_of_getElem? (i := 186) rfl))), rfl⟩
theorem m2_187 : (Jvm.Cond.code ({ cls := "PageGuardsModel", name := "line", desc := "(IZ)Z" } : Jvm.MethodName) prog_5_method_10_code (3 : Nat) (Option.some Jvm.ClassFile.FieldType.boolean)) ∈ qT := List.mem_filter.mpr ⟨List.mem_append_right _ (List.mem_append_right _ (List.mem_append_left _ (List.mem_of_getElem? (i := 187) rfl))), rfl⟩
theorem m2_188 : (Jvm.Cond.methodLink "PageGuardsLaw" (51 : Nat) ({ cls := "PageGuardsModel", name := "run", desc := "(I)I" } : Jvm.MethodName)) ∈ qT := List.mem_filter.mpr ⟨List.mem_append_right _ (List.mem_append_right _ (List.mem_append_left _ (List.mem_of_getElem? (i := 188) rfl))), rfl⟩
theorem m2_189 : (Jvm.Cond.instanceMethod ({ cls := "PageGuardsModel", name := "run", desc := "(I)I" } : Jvm.MethodName)) ∈ qT := List.mem_filter.mpr ⟨List.mem_append_right _ (List.mem_append_right _ (List.mem_append_left _ (List.mem_of_getElem? (i := 189) rfl))), rfl⟩
theorem m2_190 : (Jvm.Cond.selects "PageGuardsModel" ({ cls := "PageGuardsModel", name := "run", desc := "(I)I" } : Jvm.MethodName) ({ cls := "PageGuardsModel", name := "run", desc := "(I)I" } : Jvm.MethodName)) ∈ qT := List.mem_filter.mpr ⟨List.mem_append_right _ (List.mem_append_right _ (List.mem_append_left _ (List.mem_of_getElem? (i := 190) rfl))), rfl⟩
theorem m2_191 : (Jvm.Cond.code ({ cls := "PageGuardsModel", name := "run", desc := "(I)I" } : Jvm.MethodName) prog_5_method_36_code (3 : Nat) (Option.some Jvm.ClassFile.FieldType.int)) ∈ qT := List.mem_filter.mpr ⟨List.mem_append_right _ (List.mem_append_right _ (List.mem_append_left _ (List.mem_of_getElem? (i := 191) rfl))), rfl⟩
theorem m2_192 : (Jvm.Cond.methodLink "PageGuardsModel" (181 : Nat) ({ cls := "PageGuardsModel", name := "step", desc := "()V" } : Jvm.MethodName)) ∈ qT := List.mem_filter.mpr ⟨List.mem_append_right _ (List.mem_append_right _ (List.mem_append_left _ (List.mem_of_getElem? (i := 192) rfl))), rfl⟩
theorem m2_194 : (Jvm.Cond.instanceMethod ({ cls := "PageGuardsModel", name := "step", desc := "()V" } : Jvm.MethodName)) ∈ qT := List.mem_filter.mpr ⟨List.mem_append_right _ (List.mem_append_right _ (List.mem_append_left _ (List.mem_of_getElem? (i := 194) rfl))), rfl⟩
theorem m2_195 : (Jvm.Cond.code ({ cls := "PageGuardsModel", name := "step", desc := "()V" } : Jvm.MethodName) prog_5_method_35_code (2 : Nat) (Option.none : Option Jvm.ClassFile.FieldType)) ∈ qT := List.mem_filter.mpr ⟨List.mem_append_right _ (List.mem_append_right _ (List.mem_append_left _ (List.mem_of_getElem? (i := 195) rfl))), rfl⟩
theorem m2_196 : (Jvm.Cond.methodLink "PageGuardsModel" (125 : Nat) ({ cls := "PageGuardsModel", name := "exception", desc := "(I)V" } : Jvm.MethodName)) ∈ qT := List.mem_filter.mpr ⟨List.mem_append_right _ (List.mem_append_right _ (List.mem_append_left _ (List.mem_of_getElem? (i := 196) rfl))), rfl⟩
theorem m2_198 : (Jvm.Cond.instanceMethod ({ cls := "PageGuardsModel", name := "exception", desc := "(I)V" } : Jvm.MethodName)) ∈ qT := List.mem_filter.mpr ⟨List.mem_append_right _ (List.mem_append_right _ (List.mem_append_left _ (List.mem_of_getElem? (i := 198) rfl))), rfl⟩
theorem m2_199 : (Jvm.Cond.code ({ cls := "PageGuardsModel", name := "exception", desc := "(I)V" } : Jvm.MethodName) prog_5_method_21_code (3 : Nat) (Option.none : Option Jvm.ClassFile.FieldType)) ∈ qT := List.mem_filter.mpr ⟨List.mem_append_right _ (List.mem_append_right _ (List.mem_append_left _ (List.mem_of_getElem? (i := 199) rfl))), rfl⟩
theorem m2_200 : (Jvm.Cond.methodLink "PageGuardsModel" (130 : Nat) ({ cls := "PageGuardsModel", name := "place", desc := "(II)I" } : Jvm.MethodName)) ∈ qT := List.mem_filter.mpr ⟨List.mem_append_right _ (List.mem_append_right _ (List.mem_append_left _ (List.mem_of_getElem? (i := 200) rfl))), rfl⟩
theorem m2_202 : (Jvm.Cond.instanceMethod ({ cls := "PageGuardsModel", name := "place", desc := "(II)I" } : Jvm.MethodName)) ∈ qT := List.mem_filter.mpr ⟨List.mem_append_right _ (List.mem_append_right _ (List.mem_append_left _ (List.mem_of_getElem? (i := 202) rfl))), rfl⟩
theorem m2_203 : (Jvm.Cond.code ({ cls := "PageGuardsModel", name := "place", desc := "(II)I" } : Jvm.MethodName) prog_5_method_20_code (7 : Nat) (Option.some Jvm.ClassFile.FieldType.int)) ∈ qT := List.mem_filter.mpr ⟨List.mem_append_right _ (List.mem_append_right _ (List.mem_append_left _ (List.mem_of_getElem? (i := 203) rfl))), rfl⟩
theorem m2_204 : (Jvm.Cond.methodLink "PageGuardsModel" (113 : Nat) ({ cls := "PageGuardsModel", name := "look", desc := "(I)I" } : Jvm.MethodName)) ∈ qT := List.mem_filter.mpr ⟨List.mem_append_right _ (List.mem_append_right _ (List.mem_append_left _ (List.mem_of_getElem? (i := 204) rfl))), rfl⟩
theorem m2_206 : (Jvm.Cond.instanceMethod ({ cls := "PageGuardsModel", name := "look", desc := "(I)I" } : Jvm.MethodName)) ∈ qT := List.mem_filter.mpr ⟨List.mem_append_right _ (List.mem_append_right _ (List.mem_append_left _ (List.mem_of_getElem? (i := 206) rfl))), rfl⟩
theorem m2_207 : (Jvm.Cond.code ({ cls := "PageGuardsModel", name := "look", desc := "(I)I" } : Jvm.MethodName) prog_5_method_13_code (4 : Nat) (Option.some Jvm.ClassFile.FieldType.int)) ∈ qT := List.mem_filter.mpr ⟨List.mem_append_right _ (List.mem_append_right _ (List.mem_append_left _ (List.mem_of_getElem? (i := 207) rfl))), rfl⟩
theorem m2_208 : (Jvm.Cond.methodLink "PageGuardsModel" (89 : Nat) ({ cls := "PageGuardsModel", name := "covers", desc := "(II)Z" } : Jvm.MethodName)) ∈ qT := List.mem_filter.mpr ⟨List.mem_append_right _ (List.mem_append_right _ (List.mem_append_left _ (List.mem_of_getElem? (i := 208) rfl))), rfl⟩
theorem m2_210 : (Jvm.Cond.instanceMethod ({ cls := "PageGuardsModel", name := "covers", desc := "(II)Z" } : Jvm.MethodName)) ∈ qT := List.mem_filter.mpr ⟨List.mem_append_right _ (List.mem_append_right _ (List.mem_append_left _ (List.mem_of_getElem? (i := 210) rfl))), rfl⟩
theorem m2_211 : (Jvm.Cond.code ({ cls := "PageGuardsModel", name := "covers", desc := "(II)Z" } : Jvm.MethodName) prog_5_method_11_code (3 : Nat) (Option.some Jvm.ClassFile.FieldType.boolean)) ∈ qT := List.mem_filter.mpr ⟨List.mem_append_right _ (List.mem_append_right _ (List.mem_append_left _ (List.mem_of_getElem? (i := 211) rfl))), rfl⟩
theorem m2_212 : (Jvm.Cond.methodLink "PageGuardsModel" (93 : Nat) ({ cls := "PageGuardsModel", name := "isFor", desc := "(I)Z" } : Jvm.MethodName)) ∈ qT := List.mem_filter.mpr ⟨List.mem_append_right _ (List.mem_append_right _ (List.mem_append_left _ (List.mem_of_getElem? (i := 212) rfl))), rfl⟩
theorem m2_214 : (Jvm.Cond.instanceMethod ({ cls := "PageGuardsModel", name := "isFor", desc := "(I)Z" } : Jvm.MethodName)) ∈ qT := List.mem_filter.mpr ⟨List.mem_append_right _ (List.mem_append_right _ (List.mem_append_left _ (List.mem_of_getElem? (i := 214) rfl))), rfl⟩
theorem m2_215 : (Jvm.Cond.code ({ cls := "PageGuardsModel", name := "isFor", desc := "(I)Z" } : Jvm.MethodName) prog_5_method_12_code (2 : Nat) (Option.some Jvm.ClassFile.FieldType.boolean)) ∈ qT := List.mem_filter.mpr ⟨List.mem_append_right _ (List.mem_append_right _ (List.mem_append_left _ (List.mem_of_getElem? (i := 215) rfl))), rfl⟩
theorem m2_216 : (Jvm.Cond.methodLink "PageGuardsModel" (116 : Nat) ({ cls := "PageGuardsModel", name := "walk", desc := "(I)V" } : Jvm.MethodName)) ∈ qT := List.mem_filter.mpr ⟨List.mem_append_right _ (List.mem_append_right _ (List.mem_append_left _ (List.mem_of_getElem? (i := 216) rfl))), rfl⟩
theorem m2_218 : (Jvm.Cond.instanceMethod ({ cls := "PageGuardsModel", name := "walk", desc := "(I)V" } : Jvm.MethodName)) ∈ qT := List.mem_filter.mpr ⟨List.mem_append_right _ (List.mem_append_right _ (List.mem_append_left _ (List.mem_of_getElem? (i := 218) rfl))), rfl⟩
theorem m2_219 : (Jvm.Cond.code ({ cls := "PageGuardsModel", name := "walk", desc := "(I)V" } : Jvm.MethodName) prog_5_method_17_code (7 : Nat) (Option.none : Option Jvm.ClassFile.FieldType)) ∈ qT := List.mem_filter.mpr ⟨List.mem_append_right _ (List.mem_append_right _ (List.mem_append_left _ (List.mem_of_getElem? (i := 219) rfl))), rfl⟩
theorem m2_220 : (Jvm.Cond.methodLink "PageGuardsModel" (105 : Nat) ({ cls := "PageGuardsModel", name := "tableWord", desc := "(I)I" } : Jvm.MethodName)) ∈ qT := List.mem_filter.mpr ⟨List.mem_append_right _ (List.mem_append_right _ (List.mem_append_left _ (List.mem_of_getElem? (i := 220) rfl))), rfl⟩
theorem m2_222 : (Jvm.Cond.instanceMethod ({ cls := "PageGuardsModel", name := "tableWord", desc := "(I)I" } : Jvm.MethodName)) ∈ qT := List.mem_filter.mpr ⟨List.mem_append_right _ (List.mem_append_right _ (List.mem_append_left _ (List.mem_of_getElem? (i := 222) rfl))), rfl⟩
theorem m2_223 : (Jvm.Cond.code ({ cls := "PageGuardsModel", name := "tableWord", desc := "(I)I" } : Jvm.MethodName) prog_5_method_16_code (2 : Nat) (Option.some Jvm.ClassFile.FieldType.int)) ∈ qT := List.mem_filter.mpr ⟨List.mem_append_right _ (List.mem_append_right _ (List.mem_append_left _ (List.mem_of_getElem? (i := 223) rfl))), rfl⟩
theorem m2_224 : (Jvm.Cond.methodLink "PageGuardsModel" (119 : Nat) ({ cls := "PageGuardsModel", name := "keepWalked", desc := "()V" } : Jvm.MethodName)) ∈ qT := List.mem_filter.mpr ⟨List.mem_append_right _ (List.mem_append_right _ (List.mem_append_left _ (List.mem_of_getElem? (i := 224) rfl))), rfl⟩
theorem m2_226 : (Jvm.Cond.instanceMethod ({ cls := "PageGuardsModel", name := "keepWalked", desc := "()V" } : Jvm.MethodName)) ∈ qT := List.mem_filter.mpr ⟨List.mem_append_right _ (List.mem_append_right _ (List.mem_append_left _ (List.mem_of_getElem? (i := 226) rfl))), rfl⟩
theorem m2_227 : (Jvm.Cond.code ({ cls := "PageGuardsModel", name := "keepWalked", desc := "()V" } : Jvm.MethodName) prog_5_method_18_code (1 : Nat) (Option.none : Option Jvm.ClassFile.FieldType)) ∈ qT := List.mem_filter.mpr ⟨List.mem_append_right _ (List.mem_append_right _ (List.mem_append_left _ (List.mem_of_getElem? (i := 227) rfl))), rfl⟩
theorem m2_228 : (Jvm.Cond.methodLink "PageGuardsModel" (109 : Nat) ({ cls := "PageGuardsModel", name := "drop", desc := "(I)V" } : Jvm.MethodName)) ∈ qT := List.mem_filter.mpr ⟨List.mem_append_right _ (List.mem_append_right _ (List.mem_append_left _ (List.mem_of_getElem? (i := 228) rfl))), rfl⟩
theorem m2_230 : (Jvm.Cond.instanceMethod ({ cls := "PageGuardsModel", name := "drop", desc := "(I)V" } : Jvm.MethodName)) ∈ qT := List.mem_filter.mpr ⟨List.mem_append_right _ (List.mem_append_right _ (List.mem_append_left _ (List.mem_of_getElem? (i := 230) rfl))), rfl⟩
theorem m2_231 : (Jvm.Cond.code ({ cls := "PageGuardsModel", name := "drop", desc := "(I)V" } : Jvm.MethodName) prog_5_method_15_code (3 : Nat) (Option.none : Option Jvm.ClassFile.FieldType)) ∈ qT := List.mem_filter.mpr ⟨List.mem_append_right _ (List.mem_append_right _ (List.mem_append_left _ (List.mem_of_getElem? (i := 231) rfl))), rfl⟩
theorem m2_232 : (Jvm.Cond.methodLink "PageGuardsModel" (96 : Nat) ({ cls := "PageGuardsModel", name := "move", desc := "(II)V" } : Jvm.MethodName)) ∈ qT := List.mem_filter.mpr ⟨List.mem_append_right _ (List.mem_append_right _ (List.mem_append_left _ (List.mem_of_getElem? (i := 232) rfl))), rfl⟩
theorem m2_234 : (Jvm.Cond.instanceMethod ({ cls := "PageGuardsModel", name := "move", desc := "(II)V" } : Jvm.MethodName)) ∈ qT := List.mem_filter.mpr ⟨List.mem_append_right _ (List.mem_append_right _ (List.mem_append_left _ (List.mem_of_getElem? (i := 234) rfl))), rfl⟩
theorem m2_235 : (Jvm.Cond.code ({ cls := "PageGuardsModel", name := "move", desc := "(II)V" } : Jvm.MethodName) prog_5_method_14_code (3 : Nat) (Option.none : Option Jvm.ClassFile.FieldType)) ∈ qT := List.mem_filter.mpr ⟨List.mem_append_right _ (List.mem_append_right _ (List.mem_append_left _ (List.mem_of_getElem? (i := 235) rfl))), rfl⟩
theorem m2_236 : (Jvm.Cond.methodLink "PageGuardsModel" (122 : Nat) ({ cls := "PageGuardsModel", name := "isAllowed", desc := "(II)Z" } : Jvm.MethodName)) ∈ qT := List.mem_filter.mpr ⟨List.mem_append_right _ (List.mem_append_right _ (List.mem_append_left _ (List.mem_of_getElem? (i := 236) rfl))), rfl⟩
theorem m2_238 : (Jvm.Cond.instanceMethod ({ cls := "PageGuardsModel", name := "isAllowed", desc := "(II)Z" } : Jvm.MethodName)) ∈ qT := List.mem_filter.mpr ⟨List.mem_append_right _ (List.mem_append_right _ (List.mem_append_left _ (List.mem_of_getElem? (i := 238) rfl))), rfl⟩
theorem m2_239 : (Jvm.Cond.code ({ cls := "PageGuardsModel", name := "isAllowed", desc := "(II)Z" } : Jvm.MethodName) prog_5_method_19_code (6 : Nat) (Option.some Jvm.ClassFile.FieldType.boolean)) ∈ qT := List.mem_filter.mpr ⟨List.mem_append_right _ (List.mem_append_right _ (List.mem_append_left _ (List.mem_of_getElem? (i := 239) rfl))), rfl⟩
theorem m3_0 : (Jvm.Cond.methodLink "PageGuardsModel" (134 : Nat) ({ cls := "PageGuardsModel", name := "fault", desc := "(III)V" } : Jvm.MethodName)) ∈ qT := List.mem_filter.mpr ⟨List.mem_append_right _ (List.mem_append_right _ (List.mem_append_right _ (List.mem_of_getElem? (i := 0) rfl))), rfl⟩
theorem m3_2 : (Jvm.Cond.instanceMethod ({ cls := "PageGuardsModel", name := "fault", desc := "(III)V" } : Jvm.MethodName)) ∈ qT := List.mem_filter.mpr ⟨List.mem_append_right _ (List.mem_append_right _ (List.mem_append_right _ (List.mem_of_getElem? (i := 2) rfl))), rfl⟩
theorem m3_3 : (Jvm.Cond.code ({ cls := "PageGuardsModel", name := "fault", desc := "(III)V" } : Jvm.MethodName) prog_5_method_22_code (4 : Nat) (Option.none : Option Jvm.ClassFile.FieldType)) ∈ qT := List.mem_filter.mpr ⟨List.mem_append_right _ (List.mem_append_right _ (List.mem_append_right _ (List.mem_of_getElem? (i := 3) rfl))), rfl⟩
theorem m3_4 : (Jvm.Cond.methodLink "PageGuardsModel" (178 : Nat) ({ cls := "PageGuardsModel", name := "operate", desc := "(I)V" } : Jvm.MethodName)) ∈ qT := List.mem_filter.mpr ⟨List.mem_append_right _ (List.mem_append_right _ (List.mem_append_right _ (List.mem_of_getElem? (i := 4) rfl))), rfl⟩
theorem m3_6 : (Jvm.Cond.instanceMethod ({ cls := "PageGuardsModel", name := "operate", desc := "(I)V" } : Jvm.MethodName)) ∈ qT := List.mem_filter.mpr ⟨List.mem_append_right _ (List.mem_append_right _ (List.mem_append_right _ (List.mem_of_getElem? (i := 6) rfl))), rfl⟩
theorem m3_7 : (Jvm.Cond.code ({ cls := "PageGuardsModel", name := "operate", desc := "(I)V" } : Jvm.MethodName) prog_5_method_34_code (10 : Nat) (Option.none : Option Jvm.ClassFile.FieldType)) ∈ qT := List.mem_filter.mpr ⟨List.mem_append_right _ (List.mem_append_right _ (List.mem_append_right _ (List.mem_of_getElem? (i := 7) rfl))), rfl⟩
theorem m3_8 : (Jvm.Cond.methodLink "PageGuardsModel" (138 : Nat) ({ cls := "PageGuardsModel", name := "get", desc := "(I)I" } : Jvm.MethodName)) ∈ qT := List.mem_filter.mpr ⟨List.mem_append_right _ (List.mem_append_right _ (List.mem_append_right _ (List.mem_of_getElem? (i := 8) rfl))), rfl⟩
theorem m3_10 : (Jvm.Cond.instanceMethod ({ cls := "PageGuardsModel", name := "get", desc := "(I)I" } : Jvm.MethodName)) ∈ qT := List.mem_filter.mpr ⟨List.mem_append_right _ (List.mem_append_right _ (List.mem_append_right _ (List.mem_of_getElem? (i := 10) rfl))), rfl⟩
theorem m3_11 : (Jvm.Cond.code ({ cls := "PageGuardsModel", name := "get", desc := "(I)I" } : Jvm.MethodName) prog_5_method_7_code (2 : Nat) (Option.some Jvm.ClassFile.FieldType.int)) ∈ qT := List.mem_filter.mpr ⟨List.mem_append_right _ (List.mem_append_right _ (List.mem_append_right _ (List.mem_of_getElem? (i := 11) rfl))), rfl⟩
theorem m3_12 : (Jvm.Cond.methodLink "PageGuardsModel" (144 : Nat) ({ cls := "PageGuardsModel", name := "isDue", desc := "(I)Z" } : Jvm.MethodName)) ∈ qT := List.mem_filter.mpr ⟨List.mem_append_right _ (List.mem_append_right _ (List.mem_append_right _ (List.mem_of_getElem? (i := 12) rfl))), rfl⟩
theorem m3_14 : (Jvm.Cond.instanceMethod ({ cls := "PageGuardsModel", name := "isDue", desc := "(I)Z" } : Jvm.MethodName)) ∈ qT := List.mem_filter.mpr ⟨List.mem_append_right _ (List.mem_append_right _ (List.mem_append_right _ (List.mem_of_getElem? (i := 14) rfl))), rfl⟩
theorem m3_15 : (Jvm.Cond.code ({ cls := "PageGuardsModel", name := "isDue", desc := "(I)Z" } : Jvm.MethodName) prog_5_method_23_code (4 : Nat) (Option.some Jvm.ClassFile.FieldType.boolean)) ∈ qT := List.mem_filter.mpr ⟨List.mem_append_right _ (List.mem_append_right _ (List.mem_append_right _ (List.mem_of_getElem? (i := 15) rfl))), rfl⟩
theorem m3_16 : (Jvm.Cond.methodLink "PageGuardsModel" (147 : Nat) ({ cls := "PageGuardsModel", name := "isUnknown", desc := "(III)Z" } : Jvm.MethodName)) ∈ qT := List.mem_filter.mpr ⟨List.mem_append_right _ (List.mem_append_right _ (List.mem_append_right _ (List.mem_of_getElem? (i := 16) rfl))), rfl⟩
theorem m3_18 : (Jvm.Cond.instanceMethod ({ cls := "PageGuardsModel", name := "isUnknown", desc := "(III)Z" } : Jvm.MethodName)) ∈ qT := List.mem_filter.mpr ⟨List.mem_append_right _ (List.mem_append_right _ (List.mem_append_right _ (List.mem_of_getElem? (i := 18) rfl))), rfl⟩
theorem m3_19 : (Jvm.Cond.code ({ cls := "PageGuardsModel", name := "isUnknown", desc := "(III)Z" } : Jvm.MethodName) prog_5_method_24_code (7 : Nat) (Option.some Jvm.ClassFile.FieldType.boolean)) ∈ qT := List.mem_filter.mpr ⟨List.mem_append_right _ (List.mem_append_right _ (List.mem_append_right _ (List.mem_of_getElem? (i := 19) rfl))), rfl⟩
theorem m3_20 : (Jvm.Cond.methodLink "PageGuardsModel" (151 : Nat) ({ cls := "PageGuardsModel", name := "compare", desc := "(II)V" } : Jvm.MethodName)) ∈ qT := List.mem_filter.mpr ⟨List.mem_append_right _ (List.mem_append_right _ (List.mem_append_right _ (List.mem_of_getElem? (i := 20) rfl))), rfl⟩
theorem m3_22 : (Jvm.Cond.instanceMethod ({ cls := "PageGuardsModel", name := "compare", desc := "(II)V" } : Jvm.MethodName)) ∈ qT := List.mem_filter.mpr ⟨List.mem_append_right _ (List.mem_append_right _ (List.mem_append_right _ (List.mem_of_getElem? (i := 22) rfl))), rfl⟩
theorem m3_23 : (Jvm.Cond.code ({ cls := "PageGuardsModel", name := "compare", desc := "(II)V" } : Jvm.MethodName) prog_5_method_25_code (6 : Nat) (Option.none : Option Jvm.ClassFile.FieldType)) ∈ qT := List.mem_filter.mpr ⟨List.mem_append_right _ (List.mem_append_right _ (List.mem_append_right _ (List.mem_of_getElem? (i := 23) rfl))), rfl⟩
theorem m3_24 : (Jvm.Cond.constant "PageGuardsModel" (128 : Nat) (-2147483648 : Int32)) ∈ qT := List.mem_filter.mpr ⟨List.mem_append_right _ (List.mem_append_right _ (List.mem_append_right _ (List.mem_of_getElem? (i := 24) rfl))), rfl⟩
theorem m3_25 : (Jvm.Cond.methodLink "PageGuardsModel" (154 : Nat) ({ cls := "PageGuardsModel", name := "one", desc := "(ZII)Z" } : Jvm.MethodName)) ∈ qT := List.mem_filter.mpr ⟨List.mem_append_right _ (List.mem_append_right _ (List.mem_append_right _ (List.mem_of_getElem? (i := 25) rfl))), rfl⟩
theorem m3_27 : (Jvm.Cond.instanceMethod ({ cls := "PageGuardsModel", name := "one", desc := "(ZII)Z" } : Jvm.MethodName)) ∈ qT := List.mem_filter.mpr ⟨List.mem_append_right _ (List.mem_append_right _ (List.mem_append_right _ (List.mem_of_getElem? (i := 27) rfl))), rfl⟩
theorem m3_28 : (Jvm.Cond.code ({ cls := "PageGuardsModel", name := "one", desc := "(ZII)Z" } : Jvm.MethodName) prog_5_method_29_code (5 : Nat) (Option.some Jvm.ClassFile.FieldType.boolean)) ∈ qT := List.mem_filter.mpr ⟨List.mem_append_right _ (List.mem_append_right _ (List.mem_append_right _ (List.mem_of_getElem? (i := 28) rfl))), rfl⟩
theorem m3_29 : (Jvm.Cond.methodLink "PageGuardsModel" (158 : Nat) ({ cls := "PageGuardsModel", name := "loadMany", desc := "(III)Z" } : Jvm.MethodName)) ∈ qT := List.mem_filter.mpr ⟨List.mem_append_right _ (List.mem_append_right _ (List.mem_append_right _ (List.mem_of_getElem? (i := 29) rfl))), rfl⟩
theorem m3_31 : (Jvm.Cond.instanceMethod ({ cls := "PageGuardsModel", name := "loadMany", desc := "(III)Z" } : Jvm.MethodName)) ∈ qT := List.mem_filter.mpr ⟨List.mem_append_right _ (List.mem_append_right _ (List.mem_append_right _ (List.mem_of_getElem? (i := 31) rfl))), rfl⟩
theorem m3_32 : (Jvm.Cond.code ({ cls := "PageGuardsModel", name := "loadMany", desc := "(III)Z" } : Jvm.MethodName) prog_5_method_30_code (8 : Nat) (Option.some Jvm.ClassFile.FieldType.boolean)) ∈ qT := List.mem_filter.mpr ⟨List.mem_append_right _ (List.mem_append_right _ (List.mem_append_right _ (List.mem_of_getElem? (i := 32) rfl))), rfl⟩
theorem m3_33 : (Jvm.Cond.methodLink "PageGuardsModel" (161 : Nat) ({ cls := "PageGuardsModel", name := "storeMany", desc := "(III)Z" } : Jvm.MethodName)) ∈ qT := List.mem_filter.mpr ⟨List.mem_append_right _ (List.mem_append_right _ (List.mem_append_right _ (List.mem_of_getElem? (i := 33) rfl))), rfl⟩
theorem m3_35 : (Jvm.Cond.instanceMethod ({ cls := "PageGuardsModel", name := "storeMany", desc := "(III)Z" } : Jvm.MethodName)) ∈ qT := List.mem_filter.mpr ⟨List.mem_append_right _ (List.mem_append_right _ (List.mem_append_right _ (List.mem_of_getElem? (i := 35) rfl))), rfl⟩
theorem m3_36 : (Jvm.Cond.code ({ cls := "PageGuardsModel", name := "storeMany", desc := "(III)Z" } : Jvm.MethodName) prog_5_method_31_code (9 : Nat) (Option.some Jvm.ClassFile.FieldType.boolean)) ∈ qT := List.mem_filter.mpr ⟨List.mem_append_right _ (List.mem_append_right _ (List.mem_append_right _ (List.mem_of_getElem? (i := 36) rfl))), rfl⟩
theorem m3_37 : (Jvm.Cond.methodLink "PageGuardsModel" (141 : Nat) ({ cls := "PageGuardsModel", name := "bits", desc := "(I)I" } : Jvm.MethodName)) ∈ qT := List.mem_filter.mpr ⟨List.mem_append_right _ (List.mem_append_right _ (List.mem_append_right _ (List.mem_of_getElem? (i := 37) rfl))), rfl⟩
theorem m3_38 : (Jvm.Cond.static ({ cls := "PageGuardsModel", name := "bits", desc := "(I)I" } : Jvm.MethodName)) ∈ qT := List.mem_filter.mpr ⟨List.mem_append_right _ (List.mem_append_right _ (List.mem_append_right _ (List.mem_of_getElem? (i := 38) rfl))), rfl⟩
theorem m3_39 : (Jvm.Cond.code ({ cls := "PageGuardsModel", name := "bits", desc := "(I)I" } : Jvm.MethodName) prog_5_method_28_code (3 : Nat) (Option.some Jvm.ClassFile.FieldType.int)) ∈ qT := List.mem_filter.mpr ⟨List.mem_append_right _ (List.mem_append_right _ (List.mem_append_right _ (List.mem_of_getElem? (i := 39) rfl))), rfl⟩
theorem m3_40 : (Jvm.Cond.methodLink "PageGuardsModel" (164 : Nat) ({ cls := "PageGuardsModel", name := "setStatus", desc := "(IZ)V" } : Jvm.MethodName)) ∈ qT := List.mem_filter.mpr ⟨List.mem_append_right _ (List.mem_append_right _ (List.mem_append_right _ (List.mem_of_getElem? (i := 40) rfl))), rfl⟩
theorem m3_42 : (Jvm.Cond.instanceMethod ({ cls := "PageGuardsModel", name := "setStatus", desc := "(IZ)V" } : Jvm.MethodName)) ∈ qT := List.mem_filter.mpr ⟨List.mem_append_right _ (List.mem_append_right _ (List.mem_append_right _ (List.mem_of_getElem? (i := 42) rfl))), rfl⟩
theorem m3_43 : (Jvm.Cond.code ({ cls := "PageGuardsModel", name := "setStatus", desc := "(IZ)V" } : Jvm.MethodName) prog_5_method_32_code (3 : Nat) (Option.none : Option Jvm.ClassFile.FieldType)) ∈ qT := List.mem_filter.mpr ⟨List.mem_append_right _ (List.mem_append_right _ (List.mem_append_right _ (List.mem_of_getElem? (i := 43) rfl))), rfl⟩
theorem m3_44 : (Jvm.Cond.methodLink "PageGuardsModel" (168 : Nat) ({ cls := "PageGuardsModel", name := "widthMask", desc := "(I)I" } : Jvm.MethodName)) ∈ qT := List.mem_filter.mpr ⟨List.mem_append_right _ (List.mem_append_right _ (List.mem_append_right _ (List.mem_of_getElem? (i := 44) rfl))), rfl⟩
theorem m3_45 : (Jvm.Cond.static ({ cls := "PageGuardsModel", name := "widthMask", desc := "(I)I" } : Jvm.MethodName)) ∈ qT := List.mem_filter.mpr ⟨List.mem_append_right _ (List.mem_append_right _ (List.mem_append_right _ (List.mem_of_getElem? (i := 45) rfl))), rfl⟩
theorem m3_46 : (Jvm.Cond.code ({ cls := "PageGuardsModel", name := "widthMask", desc := "(I)I" } : Jvm.MethodName) prog_5_method_26_code (1 : Nat) (Option.some Jvm.ClassFile.FieldType.int)) ∈ qT := List.mem_filter.mpr ⟨List.mem_append_right _ (List.mem_append_right _ (List.mem_append_right _ (List.mem_of_getElem? (i := 46) rfl))), rfl⟩
theorem m3_47 : (Jvm.Cond.constant "PageGuardsModel" (129 : Nat) (65535 : Int32)) ∈ qT := List.mem_filter.mpr ⟨List.mem_append_right _ (List.mem_append_right _ (List.mem_append_right _ (List.mem_of_getElem? (i := 47) rfl))), rfl⟩
theorem m3_48 : (Jvm.Cond.methodLink "PageGuardsModel" (171 : Nat) ({ cls := "PageGuardsModel", name := "forget", desc := "(II)V" } : Jvm.MethodName)) ∈ qT := List.mem_filter.mpr ⟨List.mem_append_right _ (List.mem_append_right _ (List.mem_append_right _ (List.mem_of_getElem? (i := 48) rfl))), rfl⟩
theorem m3_50 : (Jvm.Cond.instanceMethod ({ cls := "PageGuardsModel", name := "forget", desc := "(II)V" } : Jvm.MethodName)) ∈ qT := List.mem_filter.mpr ⟨List.mem_append_right _ (List.mem_append_right _ (List.mem_append_right _ (List.mem_of_getElem? (i := 50) rfl))), rfl⟩
theorem m3_51 : (Jvm.Cond.code ({ cls := "PageGuardsModel", name := "forget", desc := "(II)V" } : Jvm.MethodName) prog_5_method_27_code (6 : Nat) (Option.none : Option Jvm.ClassFile.FieldType)) ∈ qT := List.mem_filter.mpr ⟨List.mem_append_right _ (List.mem_append_right _ (List.mem_append_right _ (List.mem_of_getElem? (i := 51) rfl))), rfl⟩
theorem m3_52 : (Jvm.Cond.methodLink "PageGuardsModel" (174 : Nat) ({ cls := "PageGuardsModel", name := "worked", desc := "(IIII)I" } : Jvm.MethodName)) ∈ qT := List.mem_filter.mpr ⟨List.mem_append_right _ (List.mem_append_right _ (List.mem_append_right _ (List.mem_of_getElem? (i := 52) rfl))), rfl⟩
theorem m3_54 : (Jvm.Cond.instanceMethod ({ cls := "PageGuardsModel", name := "worked", desc := "(IIII)I" } : Jvm.MethodName)) ∈ qT := List.mem_filter.mpr ⟨List.mem_append_right _ (List.mem_append_right _ (List.mem_append_right _ (List.mem_of_getElem? (i := 54) rfl))), rfl⟩
theorem m3_55 : (Jvm.Cond.code ({ cls := "PageGuardsModel", name := "worked", desc := "(IIII)I" } : Jvm.MethodName) prog_5_method_33_code (5 : Nat) (Option.some Jvm.ClassFile.FieldType.int)) ∈ qT := List.mem_filter.mpr ⟨List.mem_append_right _ (List.mem_append_right _ (List.mem_append_right _ (List.mem_of_getElem? (i := 55) rfl))), rfl⟩
theorem m3_56 : (Jvm.Cond.methodLink "PageGuardsLaw" (55 : Nat) ({ cls := "PageGuardsModel", name := "word", desc := "(I)I" } : Jvm.MethodName)) ∈ qT := List.mem_filter.mpr ⟨List.mem_append_right _ (List.mem_append_right _ (List.mem_append_right _ (List.mem_of_getElem? (i := 56) rfl))), rfl⟩
theorem m3_57 : (Jvm.Cond.instanceMethod ({ cls := "PageGuardsModel", name := "word", desc := "(I)I" } : Jvm.MethodName)) ∈ qT := List.mem_filter.mpr ⟨List.mem_append_right _ (List.mem_append_right _ (List.mem_append_right _ (List.mem_of_getElem? (i := 57) rfl))), rfl⟩
theorem m3_58 : (Jvm.Cond.selects "PageGuardsModel" ({ cls := "PageGuardsModel", name := "word", desc := "(I)I" } : Jvm.MethodName) ({ cls := "PageGuardsModel", name := "word", desc := "(I)I" } : Jvm.MethodName)) ∈ qT := List.mem_filter.mpr ⟨List.mem_append_right _ (List.mem_append_right _ (List.mem_append_right _ (List.mem_of_getElem? (i := 58) rfl))), rfl⟩
theorem m3_59 : (Jvm.Cond.code ({ cls := "PageGuardsModel", name := "word", desc := "(I)I" } : Jvm.MethodName) prog_5_method_37_code (2 : Nat) (Option.some Jvm.ClassFile.FieldType.int)) ∈ qT := List.mem_filter.mpr ⟨List.mem_append_right _ (List.mem_append_right _ (List.mem_append_right _ (List.mem_of_getElem? (i := 59) rfl))), rfl⟩
theorem m3_60 : (Jvm.Cond.methodLink "PageGuardsLaw" (59 : Nat) ({ cls := "PageGuardsModel", name := "state", desc := "(I)I" } : Jvm.MethodName)) ∈ qT := List.mem_filter.mpr ⟨List.mem_append_right _ (List.mem_append_right _ (List.mem_append_right _ (List.mem_of_getElem? (i := 60) rfl))), rfl⟩
theorem m3_61 : (Jvm.Cond.instanceMethod ({ cls := "PageGuardsModel", name := "state", desc := "(I)I" } : Jvm.MethodName)) ∈ qT := List.mem_filter.mpr ⟨List.mem_append_right _ (List.mem_append_right _ (List.mem_append_right _ (List.mem_of_getElem? (i := 61) rfl))), rfl⟩
theorem m3_62 : (Jvm.Cond.selects "PageGuardsModel" ({ cls := "PageGuardsModel", name := "state", desc := "(I)I" } : Jvm.MethodName) ({ cls := "PageGuardsModel", name := "state", desc := "(I)I" } : Jvm.MethodName)) ∈ qT := List.mem_filter.mpr ⟨List.mem_append_right _ (List.mem_append_right _ (List.mem_append_right _ (List.mem_of_getElem? (i := 62) rfl))), rfl⟩
theorem m3_63 : (Jvm.Cond.code ({ cls := "PageGuardsModel", name := "state", desc := "(I)I" } : Jvm.MethodName) prog_5_method_38_code (2 : Nat) (Option.some Jvm.ClassFile.FieldType.int)) ∈ qT := List.mem_filter.mpr ⟨List.mem_append_right _ (List.mem_append_right _ (List.mem_append_right _ (List.mem_of_getElem? (i := 63) rfl))), rfl⟩
theorem m3_64 : (Jvm.Cond.methodLink "PageGuardsLaw" (63 : Nat) ({ cls := "PageGuardsModel", name := "entry", desc := "(II)I" } : Jvm.MethodName)) ∈ qT := List.mem_filter.mpr ⟨List.mem_append_right _ (List.mem_append_right _ (List.mem_append_right _ (List.mem_of_getElem? (i := 64) rfl))), rfl⟩
theorem m3_65 : (Jvm.Cond.instanceMethod ({ cls := "PageGuardsModel", name := "entry", desc := "(II)I" } : Jvm.MethodName)) ∈ qT := List.mem_filter.mpr ⟨List.mem_append_right _ (List.mem_append_right _ (List.mem_append_right _ (List.mem_of_getElem? (i := 65) rfl))), rfl⟩
theorem m3_66 : (Jvm.Cond.selects "PageGuardsModel" ({ cls := "PageGuardsModel", name := "entry", desc := "(II)I" } : Jvm.MethodName) ({ cls := "PageGuardsModel", name := "entry", desc := "(II)I" } : Jvm.MethodName)) ∈ qT := List.mem_filter.mpr ⟨List.mem_append_right _ (List.mem_append_right _ (List.mem_append_right _ (List.mem_of_getElem? (i := 66) rfl))), rfl⟩
theorem m3_67 : (Jvm.Cond.code ({ cls := "PageGuardsModel", name := "entry", desc := "(II)I" } : Jvm.MethodName) prog_5_method_39_code (3 : Nat) (Option.some Jvm.ClassFile.FieldType.int)) ∈ qT := List.mem_filter.mpr ⟨List.mem_append_right _ (List.mem_append_right _ (List.mem_append_right _ (List.mem_of_getElem? (i := 67) rfl))), rfl⟩
theorem m3_68 : (Jvm.Cond.constantLong "PageGuardsLaw" (26 : Nat) (4294967295 : Int64)) ∈ qT := List.mem_filter.mpr ⟨List.mem_append_right _ (List.mem_append_right _ (List.mem_append_right _ (List.mem_of_getElem? (i := 68) rfl))), rfl⟩
theorem ms_0 : Cond.selects "PageGuards" ⟨"PageGuards", "writeRegister", "(II)V"⟩ ⟨"PageGuards", "writeRegister", "(II)V"⟩ ∈ qT := List.mem_filter.mpr ⟨List.mem_append_left _ (List.mem_of_getElem? (i := 0) rfl), rfl⟩
theorem ms_1 : Cond.selects "PageGuards" ⟨"PageGuards", "mode", "()I"⟩ ⟨"PageGuards", "mode", "()I"⟩ ∈ qT := List.mem_filter.mpr ⟨List.mem_append_left _ (List.mem_of_getElem? (i := 1) rfl), rfl⟩
theorem ms_2 : Cond.selects "PageGuards" ⟨"PageGuards", "step", "()V"⟩ ⟨"PageGuards", "step", "()V"⟩ ∈ qT := List.mem_filter.mpr ⟨List.mem_append_left _ (List.mem_of_getElem? (i := 2) rfl), rfl⟩
theorem ms_3 : Cond.selects "PageGuards" ⟨"PageGuards", "countTimer", "()V"⟩ ⟨"PageGuards", "countTimer", "()V"⟩ ∈ qT := List.mem_filter.mpr ⟨List.mem_append_left _ (List.mem_of_getElem? (i := 3) rfl), rfl⟩
theorem ms_4 : Cond.selects "PageGuards" ⟨"PageGuards", "dueRequest", "()I"⟩ ⟨"PageGuards", "dueRequest", "()I"⟩ ∈ qT := List.mem_filter.mpr ⟨List.mem_append_left _ (List.mem_of_getElem? (i := 4) rfl), rfl⟩
theorem ms_5 : Cond.selects "PageGuards" ⟨"PageGuards", "has", "(I)Z"⟩ ⟨"PageGuards", "has", "(I)Z"⟩ ∈ qT := List.mem_filter.mpr ⟨List.mem_append_left _ (List.mem_of_getElem? (i := 5) rfl), rfl⟩
theorem ms_6 : Cond.selects "PageGuards" ⟨"PageGuards", "raise", "(II)I"⟩ ⟨"PageGuards", "raise", "(II)I"⟩ ∈ qT := List.mem_filter.mpr ⟨List.mem_append_left _ (List.mem_of_getElem? (i := 6) rfl), rfl⟩
theorem ms_7 : Cond.selects "PageGuards" ⟨"PageGuards", "privileged", "()Z"⟩ ⟨"PageGuards", "privileged", "()Z"⟩ ∈ qT := List.mem_filter.mpr ⟨List.mem_append_left _ (List.mem_of_getElem? (i := 7) rfl), rfl⟩
theorem ms_8 : Cond.selects "PageGuards$Buffer" ⟨"PageGuards$Buffer", "serves", "(III)Z"⟩ ⟨"PageGuards$Buffer", "serves", "(III)Z"⟩ ∈ qT := List.mem_filter.mpr ⟨List.mem_append_left _ (List.mem_of_getElem? (i := 8) rfl), rfl⟩
theorem ms_9 : Cond.selects "PageGuards$Unit" ⟨"PageGuards$Unit", "walk", "(I)I"⟩ ⟨"PageGuards$Unit", "walk", "(I)I"⟩ ∈ qT := List.mem_filter.mpr ⟨List.mem_append_left _ (List.mem_of_getElem? (i := 9) rfl), rfl⟩
theorem ms_10 : Cond.selects "PageGuards$Unit" ⟨"PageGuards$Unit", "tableFor", "(I)I"⟩ ⟨"PageGuards$Unit", "tableFor", "(I)I"⟩ ∈ qT := List.mem_filter.mpr ⟨List.mem_append_left _ (List.mem_of_getElem? (i := 10) rfl), rfl⟩
theorem ms_11 : Cond.selects "PageGuards$Buffer" ⟨"PageGuards$Buffer", "drop", "(I)V"⟩ ⟨"PageGuards$Buffer", "drop", "(I)V"⟩ ∈ qT := List.mem_filter.mpr ⟨List.mem_append_left _ (List.mem_of_getElem? (i := 11) rfl), rfl⟩
theorem ms_12 : Cond.selects "PageGuards$Unit" ⟨"PageGuards$Unit", "refusal", "(IIZ)I"⟩ ⟨"PageGuards$Unit", "refusal", "(IIZ)I"⟩ ∈ qT := List.mem_filter.mpr ⟨List.mem_append_left _ (List.mem_of_getElem? (i := 12) rfl), rfl⟩
theorem ms_13 : Cond.selects "PageGuards" ⟨"PageGuards", "fetchFault", "(I)I"⟩ ⟨"PageGuards", "fetchFault", "(I)I"⟩ ∈ qT := List.mem_filter.mpr ⟨List.mem_append_left _ (List.mem_of_getElem? (i := 13) rfl), rfl⟩
theorem ms_14 : Cond.selects "PageGuards" ⟨"PageGuards", "perform", "(I)I"⟩ ⟨"PageGuards", "perform", "(I)I"⟩ ∈ qT := List.mem_filter.mpr ⟨List.mem_append_left _ (List.mem_of_getElem? (i := 14) rfl), rfl⟩
theorem ms_15 : Cond.selects "PageGuards" ⟨"PageGuards", "isDue", "(I)Z"⟩ ⟨"PageGuards", "isDue", "(I)Z"⟩ ∈ qT := List.mem_filter.mpr ⟨List.mem_append_left _ (List.mem_of_getElem? (i := 15) rfl), rfl⟩
theorem ms_16 : Cond.selects "PageGuards" ⟨"PageGuards", "isUnknown", "(II)Z"⟩ ⟨"PageGuards", "isUnknown", "(II)Z"⟩ ∈ qT := List.mem_filter.mpr ⟨List.mem_append_left _ (List.mem_of_getElem? (i := 16) rfl), rfl⟩
theorem ms_17 : Cond.selects "PageGuards" ⟨"PageGuards", "readRegister", "(I)I"⟩ ⟨"PageGuards", "readRegister", "(I)I"⟩ ∈ qT := List.mem_filter.mpr ⟨List.mem_append_left _ (List.mem_of_getElem? (i := 17) rfl), rfl⟩
theorem ms_18 : Cond.selects "PageGuards" ⟨"PageGuards", "compare", "(II)V"⟩ ⟨"PageGuards", "compare", "(II)V"⟩ ∈ qT := List.mem_filter.mpr ⟨List.mem_append_left _ (List.mem_of_getElem? (i := 18) rfl), rfl⟩
theorem ms_19 : Cond.selects "PageGuards" ⟨"PageGuards", "load", "(II)I"⟩ ⟨"PageGuards", "load", "(II)I"⟩ ∈ qT := List.mem_filter.mpr ⟨List.mem_append_left _ (List.mem_of_getElem? (i := 19) rfl), rfl⟩
theorem ms_20 : Cond.selects "PageGuards" ⟨"PageGuards", "dataFault", "(II)I"⟩ ⟨"PageGuards", "dataFault", "(II)I"⟩ ∈ qT := List.mem_filter.mpr ⟨List.mem_append_left _ (List.mem_of_getElem? (i := 20) rfl), rfl⟩
theorem ms_21 : Cond.selects "PageGuards" ⟨"PageGuards", "store", "(II)I"⟩ ⟨"PageGuards", "store", "(II)I"⟩ ∈ qT := List.mem_filter.mpr ⟨List.mem_append_left _ (List.mem_of_getElem? (i := 21) rfl), rfl⟩
theorem ms_22 : Cond.selects "PageGuards" ⟨"PageGuards", "loadMany", "(II)I"⟩ ⟨"PageGuards", "loadMany", "(II)I"⟩ ∈ qT := List.mem_filter.mpr ⟨List.mem_append_left _ (List.mem_of_getElem? (i := 22) rfl), rfl⟩
theorem ms_23 : Cond.selects "PageGuards" ⟨"PageGuards", "storeMany", "(II)I"⟩ ⟨"PageGuards", "storeMany", "(II)I"⟩ ∈ qT := List.mem_filter.mpr ⟨List.mem_append_left _ (List.mem_of_getElem? (i := 23) rfl), rfl⟩
theorem ms_24 : Cond.selects "PageGuards" ⟨"PageGuards", "returnFromException", "()I"⟩ ⟨"PageGuards", "returnFromException", "()I"⟩ ∈ qT := List.mem_filter.mpr ⟨List.mem_append_left _ (List.mem_of_getElem? (i := 24) rfl), rfl⟩
theorem ms_25 : Cond.selects "PageGuards" ⟨"PageGuards", "govern", "(IIII)V"⟩ ⟨"PageGuards", "govern", "(IIII)V"⟩ ∈ qT := List.mem_filter.mpr ⟨List.mem_append_left _ (List.mem_of_getElem? (i := 25) rfl), rfl⟩
theorem ms_26 : Cond.selects "PageGuards" ⟨"PageGuards", "writeStatus", "(IZ)V"⟩ ⟨"PageGuards", "writeStatus", "(IZ)V"⟩ ∈ qT := List.mem_filter.mpr ⟨List.mem_append_left _ (List.mem_of_getElem? (i := 26) rfl), rfl⟩
theorem ms_27 : Cond.selects "PageGuards" ⟨"PageGuards", "forget", "(II)V"⟩ ⟨"PageGuards", "forget", "(II)V"⟩ ∈ qT := List.mem_filter.mpr ⟨List.mem_append_left _ (List.mem_of_getElem? (i := 27) rfl), rfl⟩
theorem ms_28 : Cond.selects "PageGuardsModel" ⟨"PageGuardsModel", "put", "(II)V"⟩ ⟨"PageGuardsModel", "put", "(II)V"⟩ ∈ qT := List.mem_filter.mpr ⟨List.mem_append_left _ (List.mem_of_getElem? (i := 28) rfl), rfl⟩
theorem ms_29 : Cond.selects "PageGuardsModel" ⟨"PageGuardsModel", "mode", "()I"⟩ ⟨"PageGuardsModel", "mode", "()I"⟩ ∈ qT := List.mem_filter.mpr ⟨List.mem_append_left _ (List.mem_of_getElem? (i := 29) rfl), rfl⟩
theorem ms_30 : Cond.selects "PageGuardsModel" ⟨"PageGuardsModel", "step", "()V"⟩ ⟨"PageGuardsModel", "step", "()V"⟩ ∈ qT := List.mem_filter.mpr ⟨List.mem_append_left _ (List.mem_of_getElem? (i := 30) rfl), rfl⟩
theorem ms_31 : Cond.selects "PageGuardsModel" ⟨"PageGuardsModel", "exception", "(I)V"⟩ ⟨"PageGuardsModel", "exception", "(I)V"⟩ ∈ qT := List.mem_filter.mpr ⟨List.mem_append_left _ (List.mem_of_getElem? (i := 31) rfl), rfl⟩
theorem ms_32 : Cond.selects "PageGuardsModel" ⟨"PageGuardsModel", "place", "(II)I"⟩ ⟨"PageGuardsModel", "place", "(II)I"⟩ ∈ qT := List.mem_filter.mpr ⟨List.mem_append_left _ (List.mem_of_getElem? (i := 32) rfl), rfl⟩
theorem ms_33 : Cond.selects "PageGuardsModel" ⟨"PageGuardsModel", "look", "(I)I"⟩ ⟨"PageGuardsModel", "look", "(I)I"⟩ ∈ qT := List.mem_filter.mpr ⟨List.mem_append_left _ (List.mem_of_getElem? (i := 33) rfl), rfl⟩
theorem ms_34 : Cond.selects "PageGuardsModel" ⟨"PageGuardsModel", "covers", "(II)Z"⟩ ⟨"PageGuardsModel", "covers", "(II)Z"⟩ ∈ qT := List.mem_filter.mpr ⟨List.mem_append_left _ (List.mem_of_getElem? (i := 34) rfl), rfl⟩
theorem ms_35 : Cond.selects "PageGuardsModel" ⟨"PageGuardsModel", "isFor", "(I)Z"⟩ ⟨"PageGuardsModel", "isFor", "(I)Z"⟩ ∈ qT := List.mem_filter.mpr ⟨List.mem_append_left _ (List.mem_of_getElem? (i := 35) rfl), rfl⟩
theorem ms_36 : Cond.selects "PageGuardsModel" ⟨"PageGuardsModel", "walk", "(I)V"⟩ ⟨"PageGuardsModel", "walk", "(I)V"⟩ ∈ qT := List.mem_filter.mpr ⟨List.mem_append_left _ (List.mem_of_getElem? (i := 36) rfl), rfl⟩
theorem ms_37 : Cond.selects "PageGuardsModel" ⟨"PageGuardsModel", "tableWord", "(I)I"⟩ ⟨"PageGuardsModel", "tableWord", "(I)I"⟩ ∈ qT := List.mem_filter.mpr ⟨List.mem_append_left _ (List.mem_of_getElem? (i := 37) rfl), rfl⟩
theorem ms_38 : Cond.selects "PageGuardsModel" ⟨"PageGuardsModel", "keepWalked", "()V"⟩ ⟨"PageGuardsModel", "keepWalked", "()V"⟩ ∈ qT := List.mem_filter.mpr ⟨List.mem_append_left _ (List.mem_of_getElem? (i := 38) rfl), rfl⟩
theorem ms_39 : Cond.selects "PageGuardsModel" ⟨"PageGuardsModel", "drop", "(I)V"⟩ ⟨"PageGuardsModel", "drop", "(I)V"⟩ ∈ qT := List.mem_filter.mpr ⟨List.mem_append_left _ (List.mem_of_getElem? (i := 39) rfl), rfl⟩
theorem ms_40 : Cond.selects "PageGuardsModel" ⟨"PageGuardsModel", "move", "(II)V"⟩ ⟨"PageGuardsModel", "move", "(II)V"⟩ ∈ qT := List.mem_filter.mpr ⟨List.mem_append_left _ (List.mem_of_getElem? (i := 40) rfl), rfl⟩
theorem ms_41 : Cond.selects "PageGuardsModel" ⟨"PageGuardsModel", "isAllowed", "(II)Z"⟩ ⟨"PageGuardsModel", "isAllowed", "(II)Z"⟩ ∈ qT := List.mem_filter.mpr ⟨List.mem_append_left _ (List.mem_of_getElem? (i := 41) rfl), rfl⟩
theorem ms_42 : Cond.selects "PageGuardsModel" ⟨"PageGuardsModel", "fault", "(III)V"⟩ ⟨"PageGuardsModel", "fault", "(III)V"⟩ ∈ qT := List.mem_filter.mpr ⟨List.mem_append_left _ (List.mem_of_getElem? (i := 42) rfl), rfl⟩
theorem ms_43 : Cond.selects "PageGuardsModel" ⟨"PageGuardsModel", "operate", "(I)V"⟩ ⟨"PageGuardsModel", "operate", "(I)V"⟩ ∈ qT := List.mem_filter.mpr ⟨List.mem_append_left _ (List.mem_of_getElem? (i := 43) rfl), rfl⟩
theorem ms_44 : Cond.selects "PageGuardsModel" ⟨"PageGuardsModel", "get", "(I)I"⟩ ⟨"PageGuardsModel", "get", "(I)I"⟩ ∈ qT := List.mem_filter.mpr ⟨List.mem_append_left _ (List.mem_of_getElem? (i := 44) rfl), rfl⟩
theorem ms_45 : Cond.selects "PageGuardsModel" ⟨"PageGuardsModel", "isDue", "(I)Z"⟩ ⟨"PageGuardsModel", "isDue", "(I)Z"⟩ ∈ qT := List.mem_filter.mpr ⟨List.mem_append_left _ (List.mem_of_getElem? (i := 45) rfl), rfl⟩
theorem ms_46 : Cond.selects "PageGuardsModel" ⟨"PageGuardsModel", "isUnknown", "(III)Z"⟩ ⟨"PageGuardsModel", "isUnknown", "(III)Z"⟩ ∈ qT := List.mem_filter.mpr ⟨List.mem_append_left _ (List.mem_of_getElem? (i := 46) rfl), rfl⟩
theorem ms_47 : Cond.selects "PageGuardsModel" ⟨"PageGuardsModel", "compare", "(II)V"⟩ ⟨"PageGuardsModel", "compare", "(II)V"⟩ ∈ qT := List.mem_filter.mpr ⟨List.mem_append_left _ (List.mem_of_getElem? (i := 47) rfl), rfl⟩
theorem ms_48 : Cond.selects "PageGuardsModel" ⟨"PageGuardsModel", "one", "(ZII)Z"⟩ ⟨"PageGuardsModel", "one", "(ZII)Z"⟩ ∈ qT := List.mem_filter.mpr ⟨List.mem_append_left _ (List.mem_of_getElem? (i := 48) rfl), rfl⟩
theorem ms_49 : Cond.selects "PageGuardsModel" ⟨"PageGuardsModel", "loadMany", "(III)Z"⟩ ⟨"PageGuardsModel", "loadMany", "(III)Z"⟩ ∈ qT := List.mem_filter.mpr ⟨List.mem_append_left _ (List.mem_of_getElem? (i := 49) rfl), rfl⟩
theorem ms_50 : Cond.selects "PageGuardsModel" ⟨"PageGuardsModel", "storeMany", "(III)Z"⟩ ⟨"PageGuardsModel", "storeMany", "(III)Z"⟩ ∈ qT := List.mem_filter.mpr ⟨List.mem_append_left _ (List.mem_of_getElem? (i := 50) rfl), rfl⟩
theorem ms_51 : Cond.selects "PageGuardsModel" ⟨"PageGuardsModel", "setStatus", "(IZ)V"⟩ ⟨"PageGuardsModel", "setStatus", "(IZ)V"⟩ ∈ qT := List.mem_filter.mpr ⟨List.mem_append_left _ (List.mem_of_getElem? (i := 51) rfl), rfl⟩
theorem ms_52 : Cond.selects "PageGuardsModel" ⟨"PageGuardsModel", "forget", "(II)V"⟩ ⟨"PageGuardsModel", "forget", "(II)V"⟩ ∈ qT := List.mem_filter.mpr ⟨List.mem_append_left _ (List.mem_of_getElem? (i := 52) rfl), rfl⟩
theorem ms_53 : Cond.selects "PageGuardsModel" ⟨"PageGuardsModel", "worked", "(IIII)I"⟩ ⟨"PageGuardsModel", "worked", "(IIII)I"⟩ ∈ qT := List.mem_filter.mpr ⟨List.mem_append_left _ (List.mem_of_getElem? (i := 53) rfl), rfl⟩
abbrev RX0 : String := "PageGuards$Buffer"
def TX0 : u_T := fun k => match k with
  | 0 => ("PageGuards$Buffer", "fields", "[I", true)
  | 1 => ("PageGuards$Buffer", "used", "Z", true)
  | _ => ("PageGuards$Buffer", "count", "I", false)
def tyX0 : Nat → FieldType := fun k => match k with
  | 0 => .array .int
  | 1 => .boolean
  | _ => .int
theorem nmX0 : ∀ a, a < 3 → ∀ b, b < 3 → a ≠ b → (TX0 a).2.1 ≠ (TX0 b).2.1 := by decide +kernel
theorem tyX0_ok : ∀ k, k < 3 → parseFieldDescriptor (TX0 k).2.2.1 = some (tyX0 k) := by decide +kernel
theorem inX00 : ∀ w ∈ u_ws RX0 TX0 3, w ∈ lw_tbl := by decide +kernel
theorem gdX00 : ∀ w ∈ u_ws RX0 TX0 3, goodWord w = true := by decide +kernel
theorem inX0 : ∀ w ∈ u_ws RX0 TX0 3, w ∈ qT := fun w h => List.mem_filter.mpr ⟨inX00 w h, gdX00 w h⟩
abbrev RX1 : String := "PageGuards$Unit"
def TX1 : u_T := fun k => match k with
  | 0 => ("PageGuards$Unit", "memory", "[I", true)
  | 1 => ("PageGuards$Unit", "controls", "[I", true)
  | 2 => ("PageGuards$Unit", "buffer", "LPageGuards$Buffer;", true)
  | _ => ("PageGuards$Unit", "walks", "I", false)
def tyX1 : Nat → FieldType := fun k => match k with
  | 0 => .array .int
  | 1 => .array .int
  | 2 => .object "PageGuards$Buffer"
  | _ => .int
theorem nmX1 : ∀ a, a < 4 → ∀ b, b < 4 → a ≠ b → (TX1 a).2.1 ≠ (TX1 b).2.1 := by decide +kernel
theorem tyX1_ok : ∀ k, k < 4 → parseFieldDescriptor (TX1 k).2.2.1 = some (tyX1 k) := by decide +kernel
theorem inX10 : ∀ w ∈ u_ws RX1 TX1 4, w ∈ lw_tbl := by decide +kernel
theorem gdX10 : ∀ w ∈ u_ws RX1 TX1 4, goodWord w = true := by decide +kernel
theorem inX1 : ∀ w ∈ u_ws RX1 TX1 4, w ∈ qT := fun w h => List.mem_filter.mpr ⟨inX10 w h, gdX10 w h⟩
abbrev RX2 : String := "PageGuards"
def TX2 : u_T := fun k => match k with
  | 0 => ("PageGuards", "unit", "LPageGuards$Unit;", true)
  | 1 => ("PageGuards", "registers", "[I", true)
  | 2 => ("PageGuards", "kept", "[I", true)
  | 3 => ("PageGuards", "loaded", "[I", true)
  | 4 => ("PageGuards", "pc", "I", false)
  | 5 => ("PageGuards", "status", "I", false)
  | 6 => ("PageGuards", "lines", "I", false)
  | 7 => ("PageGuards", "waits", "Z", false)
  | _ => ("PageGuards", "still", "Z", false)
def tyX2 : Nat → FieldType := fun k => match k with
  | 0 => .object "PageGuards$Unit"
  | 1 => .array .int
  | 2 => .array .int
  | 3 => .array .int
  | 4 => .int
  | 5 => .int
  | 6 => .int
  | 7 => .boolean
  | _ => .boolean
theorem nmX2 : ∀ a, a < 9 → ∀ b, b < 9 → a ≠ b → (TX2 a).2.1 ≠ (TX2 b).2.1 := by decide +kernel
theorem tyX2_ok : ∀ k, k < 9 → parseFieldDescriptor (TX2 k).2.2.1 = some (tyX2 k) := by decide +kernel
theorem inX20 : ∀ w ∈ u_ws RX2 TX2 9, w ∈ lw_tbl := by decide +kernel
theorem gdX20 : ∀ w ∈ u_ws RX2 TX2 9, goodWord w = true := by decide +kernel
theorem inX2 : ∀ w ∈ u_ws RX2 TX2 9, w ∈ qT := fun w h => List.mem_filter.mpr ⟨inX20 w h, gdX20 w h⟩
abbrev RX3 : String := "PageGuardsModel"
def TX3 : u_T := fun k => match k with
  | 0 => ("PageGuardsModel", "buffered", "Z", false)
  | 1 => ("PageGuardsModel", "memory", "[I", false)
  | 2 => ("PageGuardsModel", "low", "[I", false)
  | 3 => ("PageGuardsModel", "six", "[I", false)
  | 4 => ("PageGuardsModel", "seven", "[I", false)
  | 5 => ("PageGuardsModel", "kept", "[I", false)
  | 6 => ("PageGuardsModel", "control", "[I", false)
  | 7 => ("PageGuardsModel", "pc", "I", false)
  | 8 => ("PageGuardsModel", "status", "I", false)
  | 9 => ("PageGuardsModel", "lines", "I", false)
  | 10 => ("PageGuardsModel", "waits", "Z", false)
  | 11 => ("PageGuardsModel", "stands", "Z", false)
  | 12 => ("PageGuardsModel", "walks", "I", false)
  | 13 => ("PageGuardsModel", "entries", "I", false)
  | 14 => ("PageGuardsModel", "from", "[I", false)
  | 15 => ("PageGuardsModel", "size", "[I", false)
  | 16 => ("PageGuardsModel", "to", "[I", false)
  | 17 => ("PageGuardsModel", "space", "[I", false)
  | 18 => ("PageGuardsModel", "domain", "[I", false)
  | 19 => ("PageGuardsModel", "rights", "[I", false)
  | 20 => ("PageGuardsModel", "noFetch", "[I", false)
  | 21 => ("PageGuardsModel", "wrong", "I", false)
  | _ => ("PageGuardsModel", "loaded", "[I", false)
def tyX3 : Nat → FieldType := fun k => match k with
  | 0 => .boolean
  | 1 => .array .int
  | 2 => .array .int
  | 3 => .array .int
  | 4 => .array .int
  | 5 => .array .int
  | 6 => .array .int
  | 7 => .int
  | 8 => .int
  | 9 => .int
  | 10 => .boolean
  | 11 => .boolean
  | 12 => .int
  | 13 => .int
  | 14 => .array .int
  | 15 => .array .int
  | 16 => .array .int
  | 17 => .array .int
  | 18 => .array .int
  | 19 => .array .int
  | 20 => .array .int
  | 21 => .int
  | _ => .array .int
theorem nmX3 : ∀ a, a < 23 → ∀ b, b < 23 → a ≠ b → (TX3 a).2.1 ≠ (TX3 b).2.1 := by decide +kernel
theorem tyX3_ok : ∀ k, k < 23 → parseFieldDescriptor (TX3 k).2.2.1 = some (tyX3 k) := by decide +kernel
theorem inX30 : ∀ w ∈ u_ws RX3 TX3 23, w ∈ lw_tbl := by decide +kernel
theorem gdX30 : ∀ w ∈ u_ws RX3 TX3 23, goodWord w = true := by decide +kernel
theorem inX3 : ∀ w ∈ u_ws RX3 TX3 23, w ∈ qT := fun w h => List.mem_filter.mpr ⟨inX30 w h, gdX30 w h⟩
abbrev RL : String := "PageGuardsLaw"
abbrev vwCl : List vw_C := [(RX0, TX0, 3), (RX1, TX1, 4), (RX2, TX2, 9), (RX3, TX3, 23)]
/-- the links between nest mates: carried beside the worlds -/
def qN (U : State) : Prop := va_Nw (Cond.fieldLinkNest "PageGuards" (79) "PageGuards$Buffer" "count" "I" "PageGuards") U ∧ va_Nw (Cond.fieldLinkNest "PageGuards" (36) "PageGuards$Unit" "memory" "[I" "PageGuards") U ∧ va_Nw (Cond.fieldLinkNest "PageGuards" (72) "PageGuards$Unit" "controls" "[I" "PageGuards") U ∧ va_Nw (Cond.fieldLinkNest "PageGuards" (47) "PageGuards$Unit" "buffer" "LPageGuards$Buffer;" "PageGuards") U ∧ va_Nw (Cond.fieldLinkNest "PageGuards" (82) "PageGuards$Unit" "walks" "I" "PageGuards") U ∧ va_Nw (Cond.fieldLinkNest "PageGuards$Unit" (27) "PageGuards" "CONTROL_BITS" "[I" "PageGuards") U
theorem qN_warm {s U : State} (hW : s.WarmedH U.vm) (h : qN s) : qN U := ⟨va_Nw.warmF hW h.1, va_Nw.warmF hW h.2.1, va_Nw.warmF hW h.2.2.1, va_Nw.warmF hW h.2.2.2.1, va_Nw.warmF hW h.2.2.2.2.1, va_Nw.warmF hW h.2.2.2.2.2⟩
theorem qN_same {s U : State} (hv : s.vm = U.vm) (h : qN s) : qN U := ⟨va_Nw.same rfl hv h.1, va_Nw.same rfl hv h.2.1, va_Nw.same rfl hv h.2.2.1, va_Nw.same rfl hv h.2.2.2.1, va_Nw.same rfl hv h.2.2.2.2.1, va_Nw.same rfl hv h.2.2.2.2.2⟩
end
section
-- numbers: bounds of ints, and a value on top of the stack under another name
def bd (x : Int32) (a b : Int) : Prop := a ≤ x.toInt ∧ x.toInt ≤ b
theorem bd_in {x : Int32} {a b : Int} {n : Nat} (h : bd x a b) (h0 : 0 ≤ a) (hn : b < (n : Int)) : vp_in x n := vp_in_iff.mpr ⟨Int.le_trans h0 h.1, Int.lt_of_le_of_lt h.2 hn⟩
theorem bd_w {x : Int32} {a b a' b' : Int} (h : bd x a b) (h1 : a' ≤ a) (h2 : b ≤ b') : bd x a' b' := ⟨Int.le_trans h1 h.1, Int.le_trans h.2 h2⟩
theorem bd_lit {x : Int32} {a : Int} (h : x.toInt = a) : bd x a a := ⟨Int.le_of_eq h.symm, Int.le_of_eq h⟩
theorem bd_addE {x y : Int32} {a b c d : Int} (hx : bd x a b) (hy : bd y c d) (h1 : -2147483648 ≤ a + c) (h2 : b + d ≤ 2147483647) : (x + y).toInt = x.toInt + y.toInt := by
  obtain ⟨h3, h4⟩ := hx
  obtain ⟨h5, h6⟩ := hy
  rw [Int32.toInt_add]
  exact Int.bmod_eq_of_le (by omega) (by omega)
theorem bd_add {x y : Int32} {a b c d : Int} (hx : bd x a b) (hy : bd y c d) (h1 : -2147483648 ≤ a + c) (h2 : b + d ≤ 2147483647) : bd (x + y) (a + c) (b + d) := by
  have e := bd_addE hx hy h1 h2
  obtain ⟨h3, h4⟩ := hx
  obtain ⟨h5, h6⟩ := hy
  exact ⟨by rw [e]; omega, by rw [e]; omega⟩
theorem bd_sub {x y : Int32} {a b c d : Int} (hx : bd x a b) (hy : bd y c d) (h1 : -2147483648 ≤ a - d) (h2 : b - c ≤ 2147483647) : bd (x - y) (a - d) (b - c) := by
  obtain ⟨h3, h4⟩ := hx
  obtain ⟨h5, h6⟩ := hy
  have e : (x - y).toInt = x.toInt - y.toInt := by
    rw [Int32.toInt_sub]
    exact Int.bmod_eq_of_le (by omega) (by omega)
  exact ⟨by rw [e]; omega, by rw [e]; omega⟩
theorem bd_and (x : Int32) {m : Int32} (k : Nat) {b : Int} (hm : m.toBitVec.toNat = 2 ^ k - 1) (hk : k ≤ 30) (hb : ((2 ^ k : Nat) : Int) ≤ b + 1) : bd (x &&& m) 0 b := by
  obtain ⟨j, hj, e⟩ := pk_andE x k hm
  have h2 : (2 : Nat) ^ k ≤ 2 ^ 30 := Nat.pow_le_pow_right (by decide) hk
  have hj2 : j < 2 ^ 31 := by omega
  rw [e]
  refine ⟨?_, ?_⟩
  · rw [nI_toInt hj2]; omega
  · rw [nI_toInt hj2]; omega
theorem q_lt {x k : Int32} {n : Int} (h : x < k) (hk : k.toInt = n) : x.toInt < n := by rw [← hk]; exact Int32.lt_iff_toInt_lt.mp h
theorem q_nlt {x k : Int32} {n : Int} (h : ¬ x < k) (hk : k.toInt = n) : n ≤ x.toInt := by rw [← hk]; exact Int.not_lt.mp (fun q => h (Int32.lt_iff_toInt_lt.mpr q))
theorem q_gt {x k : Int32} {n : Int} (h : k < x) (hk : k.toInt = n) : n < x.toInt := by rw [← hk]; exact Int32.lt_iff_toInt_lt.mp h
theorem q_ngt {x k : Int32} {n : Int} (h : ¬ k < x) (hk : k.toInt = n) : x.toInt ≤ n := by rw [← hk]; exact Int.not_lt.mp (fun q => h (Int32.lt_iff_toInt_lt.mpr q))
theorem q_le {x k : Int32} {n : Int} (h : x ≤ k) (hk : k.toInt = n) : x.toInt ≤ n := by rw [← hk]; exact Int32.le_iff_toInt_le.mp h
theorem q_nle {x k : Int32} {n : Int} (h : ¬ x ≤ k) (hk : k.toInt = n) : n < x.toInt := by rw [← hk]; exact Int.not_le.mp (fun q => h (Int32.le_iff_toInt_le.mpr q))
theorem q_ge {x k : Int32} {n : Int} (h : k ≤ x) (hk : k.toInt = n) : n ≤ x.toInt := by rw [← hk]; exact Int32.le_iff_toInt_le.mp h
theorem q_nge {x k : Int32} {n : Int} (h : ¬ k ≤ x) (hk : k.toInt = n) : x.toInt < n := by rw [← hk]; exact Int.not_le.mp (fun q => h (Int32.le_iff_toInt_le.mpr q))
theorem q_inj {x k : Int32} {n : Int} (h : x.toInt = n) (hk : k.toInt = n) : x = k := Int32.toInt_inj.mp (h.trans hk.symm)
theorem q_casti {p : Program} {l : Launch} {e : Env} {R : Room} {s : State} {m : MethodId} {args : Array Value} {below : List Frame} {meth : Method} {c : Code} {H : Heap} {locs : List Loc} {cells slots : Nat} {Q : State → Prop} {pc : Nat} {ls : Array Slot} {rest : List Value} {x y : Int32} (h : x = y) (k : W p l e R s m args below meth c H locs cells slots Q (F0 m pc ls (.int y :: rest))) : W p l e R s m args below meth c H locs cells slots Q (F0 m pc ls (.int x :: rest)) := by
  rw [h]
  exact k
theorem bd_mulc {x k : Int32} {n a b : Int} (hk : k.toInt = n) (h0 : 0 ≤ n) (hx : bd x a b) (h1 : -2147483648 ≤ n * a) (h2 : n * b ≤ 2147483647) : bd (k * x) (n * a) (n * b) := by
  obtain ⟨h3, h4⟩ := hx
  have m1 : n * a ≤ n * x.toInt := Int.mul_le_mul_of_nonneg_left h3 h0
  have m2 : n * x.toInt ≤ n * b := Int.mul_le_mul_of_nonneg_left h4 h0
  have e : (k * x).toInt = n * x.toInt := by
    rw [Int32.toInt_mul, hk]
    exact Int.bmod_eq_of_le (by omega) (by omega)
  exact ⟨by rw [e]; exact m1, by rw [e]; exact m2⟩
theorem bd_mulr {x k : Int32} {n a b : Int} (hk : k.toInt = n) (h0 : 0 ≤ n) (hx : bd x a b) (h1 : -2147483648 ≤ n * a) (h2 : n * b ≤ 2147483647) : bd (x * k) (n * a) (n * b) := by
  rw [Int32.mul_comm]
  exact bd_mulc hk h0 hx h1 h2
theorem in_lt {x k : Int32} {n : Nat} (h0 : ¬ x < 0) (h1 : x < k) (hk : k.toInt = n) : vp_in x n := vp_in_iff.mpr ⟨q_nlt h0 (by decide), q_lt h1 hk⟩
-- what the calls answer, by their arguments
def qFill (p : Int32) : Int32 := if 0 ≤ p.toInt ∧ p.toInt ≤ 508 then 1 else 0
def qSet (p : Int32) : Int32 := if 0 ≤ p.toInt ∧ p.toInt ≤ 7 then 1 else 0
def qLine (p : Int32) : Int32 := if 0 ≤ p.toInt ∧ p.toInt ≤ 3 then 1 else 0
def qRun (p : Int32) : Int32 := if 0 ≤ p.toInt ∧ p.toInt ≤ 300 then 0 else -1
def qPlace (p : Int32) : Int32 := if 0 ≤ p.toInt ∧ p.toInt < 512 then 1 else 0
def qWord (r p : Int32) (E : Prop) : Prop := (r = -1 ∧ (p.toInt < 0 ∨ 512 ≤ p.toInt)) ∨ (0 ≤ p.toInt ∧ p.toInt < 512 ∧ E)
def qSt (r w : Int32) (ER EC EK : Prop) (pc st ln ct wk sl : Int32) : Prop :=
  (0 ≤ w.toInt ∧ w.toInt ≤ 7 ∧ ER) ∨ (20 ≤ w.toInt ∧ w.toInt ≤ 31 ∧ EC) ∨ (w = 8 ∧ r = pc) ∨ (w = 9 ∧ r = st) ∨ (w = 10 ∧ EK) ∨ (w = 11 ∧ (¬ sl = 0 → r = 2)) ∨ (w = 12 ∧ r = ln) ∨ (w = 13 ∧ r = ct) ∨ (w = 14 ∧ r = wk) ∨
  (r = -1 ∧ ¬ (0 ≤ w.toInt ∧ w.toInt ≤ 7) ∧ ¬ (20 ≤ w.toInt ∧ w.toInt ≤ 31) ∧ ¬ w = 8 ∧ ¬ w = 9 ∧ ¬ w = 10 ∧ ¬ w = 11 ∧ ¬ w = 12 ∧ ¬ w = 13 ∧ ¬ w = 14)
theorem q_place2 {r p : Int32} (h : r = qPlace p) (h0 : ¬ r = 0) : 0 ≤ p.toInt ∧ p.toInt < 512 := by
  unfold qPlace at h
  by_cases q : 0 ≤ p.toInt ∧ p.toInt < 512
  · exact q
  · rw [if_neg q] at h; exact absurd h h0
theorem q_place {r p : Int32} (h : r = qPlace p) (h0 : ¬ r = 0) : vp_in p 512 := vp_in_iff.mpr (q_place2 h h0)
theorem q_place3 {r p : Int32} (h : r = qPlace p) (h0 : r = 0) : p.toInt < 0 ∨ 512 ≤ p.toInt := by
  unfold qPlace at h
  by_cases q : 0 ≤ p.toInt ∧ p.toInt < 512
  · rw [if_pos q, h0] at h; exact absurd h (by decide)
  · omega
-- the controls' widths (a table of the class), and what is kept of the controls
def qBits : Nat → Int32 := fun j => ([1, 9, 9, 2, 8, 4, 3, 12, 3, 12, 12, 16] : List Int32).getD j 0
def qCtl (g : Nat → Int32) : Prop := bd (g 1) 0 511 ∧ bd (g 2) 0 511
theorem q_ctl {g : Nat → Int32} {i : Nat} {v w : Int32} (hw : v = w &&& (((1 : Int32) <<< (qBits i &&& 31)) - 1)) (h : qCtl g) : qCtl (upd g i v) := by
  refine ⟨?_, ?_⟩
  · unfold upd
    by_cases e : 1 = i
    · rw [if_pos e, hw, ← e]; exact bd_and w 9 (by decide) (by decide) (by decide)
    · rw [if_neg e]; exact h.1
  · unfold upd
    by_cases e : 2 = i
    · rw [if_pos e, hw, ← e]; exact bd_and w 9 (by decide) (by decide) (by decide)
    · rw [if_neg e]; exact h.2
-- a fresh object: what its first call answers
theorem q_z0 {r : Int32} (h : r = 0 ∨ ∃ i : Nat, r = (fun _ => (0 : Int32)) i) : r = 0 := by rcases h with h | ⟨_, h⟩ <;> exact h
theorem q_w0 {r p : Int32} (h : qWord r p (∃ i : Nat, r = (fun _ => (0 : Int32)) i)) : r = if 0 ≤ p.toInt ∧ p.toInt < 512 then 0 else -1 := by
  rcases h with ⟨h, h2⟩ | ⟨h1, h2, _, h⟩
  · rw [if_neg (by omega)]; exact h
  · rw [if_pos ⟨h1, h2⟩]; exact h
theorem q_e0 {r k : Int32} (h : (k.toInt < 0 ∨ (0 : Int32).toInt ≤ k.toInt) → r = -1) : r = -1 := h (by have z : (0 : Int32).toInt = 0 := by decide
                                                                                                        omega)
def qStF (w : Int32) : Int32 := if w = 9 then 25 else if w = 11 then 2 else if (0 ≤ w.toInt ∧ w.toInt ≤ 14) ∨ (20 ≤ w.toInt ∧ w.toInt ≤ 31) then 0 else -1
theorem q_s0 {r w : Int32} (h : qSt r w (r = 0) (r = 0) (r = 0) 0 25 0 0 0 1) : r = qStF w := by
  have n9 : (9 : Int32).toInt = 9 := by decide
  have n11 : (11 : Int32).toInt = 11 := by decide
  have ne (k : Int32) (n : Int) (hk : k.toInt = n) (q : w = k) : w.toInt = n := by rw [q]; exact hk
  unfold qStF
  rcases h with ⟨a, b, c⟩ | ⟨a, b, c⟩ | ⟨a, c⟩ | ⟨a, c⟩ | ⟨a, c⟩ | ⟨a, c⟩ | ⟨a, c⟩ | ⟨a, c⟩ | ⟨a, c⟩ | ⟨c, a, b, n8, m9, n10, m11, n12, n13, n14⟩
  · rw [if_neg (fun q => by have := ne 9 9 n9 q; omega), if_neg (fun q => by have := ne 11 11 n11 q; omega), if_pos (Or.inl ⟨a, by omega⟩)]; exact c
  · rw [if_neg (fun q => by have := ne 9 9 n9 q; omega), if_neg (fun q => by have := ne 11 11 n11 q; omega), if_pos (Or.inr ⟨a, b⟩)]; exact c
  · subst a; exact c
  · subst a; exact c
  · subst a; exact c
  · subst a; exact c (by decide)
  · subst a; exact c
  · subst a; exact c
  · subst a; exact c
  · rw [if_neg m9, if_neg m11, if_neg]
    · exact c
    · intro q
      have e (k : Int32) (n : Int) (hk : k.toInt = n) (hn : ¬ w = k) : ¬ w.toInt = n := lv_neT hn hk
      have e8 := e 8 8 (by decide) n8
      have e9 := e 9 9 (by decide) m9
      have e10 := e 10 10 (by decide) n10
      have e11 := e 11 11 (by decide) m11
      have e12 := e 12 12 (by decide) n12
      have e13 := e 13 13 (by decide) n13
      have e14 := e 14 14 (by decide) n14
      omega
theorem q_sX {r w : Int32} (h : qSt r w (∃ i : Nat, r = (fun _ => (0 : Int32)) i) (∃ i : Nat, r = (fun _ => (0 : Int32)) i) (∃ i : Nat, r = (fun _ => (0 : Int32)) i) 0 25 0 0 0 1) : qSt r w (r = 0) (r = 0) (r = 0) 0 25 0 0 0 1 := by
  have z : (∃ i : Nat, r = (fun _ => (0 : Int32)) i) = (r = 0) := propext ⟨fun ⟨_, h⟩ => h, fun h => ⟨0, h⟩⟩
  rw [z] at h
  exact h
theorem q_sM {r w : Int32} (h : qSt r w (∃ i : Nat, r = (fun _ => (0 : Int32)) i ∨ r = (fun _ => (0 : Int32)) i ∨ r = (fun _ => (0 : Int32)) i) (∃ i : Nat, r = (fun _ => (0 : Int32)) i) (r = 0 ∨ ∃ i : Nat, r = (fun _ => (0 : Int32)) i) 0 25 0 0 0 1) : qSt r w (r = 0) (r = 0) (r = 0) 0 25 0 0 0 1 := by
  have z : (∃ i : Nat, r = (fun _ => (0 : Int32)) i) = (r = 0) := propext ⟨fun ⟨_, h⟩ => h, fun h => ⟨0, h⟩⟩
  have z2 : (∃ i : Nat, r = (fun _ => (0 : Int32)) i ∨ r = (fun _ => (0 : Int32)) i ∨ r = (fun _ => (0 : Int32)) i) = (r = 0) := propext ⟨fun ⟨_, h⟩ => by rcases h with h | h | h <;> exact h, fun h => ⟨0, Or.inl h⟩⟩
  have z3 : (r = 0 ∨ ∃ i : Nat, r = (fun _ => (0 : Int32)) i) = (r = 0) := propext ⟨q_z0, Or.inl⟩
  rw [z2, z3, z] at h
  exact h
theorem q_small : ∀ n, n < 7 → Int32.ofNat n - 6 < 1 := by decide
end
section
abbrev cX2_mode : ByteArray := prog_1_method_11_code
abbrev yX2_mode : MethodName := ⟨"PageGuards", "mode", "()I"⟩
abbrev wsX2_mode : List Cond := .code yX2_mode cX2_mode 1 (some .int) :: qT
theorem dX2_mode_0 : decode cX2_mode 0 = .ok (.aload_n 0, 1) := by decide +kernel
theorem dX2_mode_1 : decode cX2_mode 1 = .ok (.getfield 19, 3) := by decide +kernel
theorem dX2_mode_4 : decode cX2_mode 4 = .ok (.bipush 7, 2) := by decide +kernel
theorem dX2_mode_6 : decode cX2_mode 6 = .ok (.iand, 1) := by decide +kernel
theorem dX2_mode_7 : decode cX2_mode 7 = .ok (.ireturn, 1) := by decide +kernel
abbrev cX2_slot : ByteArray := prog_1_method_13_code
abbrev yX2_slot : MethodName := ⟨"PageGuards", "slot", "(II)I"⟩
abbrev wsX2_slot : List Cond := .code yX2_slot cX2_slot 2 (some .int) :: qT
theorem dX2_slot_0 : decode cX2_slot 0 = .ok (.iload_n 1, 1) := by decide +kernel
theorem dX2_slot_1 : decode cX2_slot 1 = .ok (.bipush 6, 2) := by decide +kernel
theorem dX2_slot_3 : decode cX2_slot 3 = .ok (.if_icmp .ge 7, 3) := by decide +kernel
theorem dX2_slot_6 : decode cX2_slot 6 = .ok (.iload_n 1, 1) := by decide +kernel
theorem dX2_slot_7 : decode cX2_slot 7 = .ok (.goto 8, 3) := by decide +kernel
theorem dX2_slot_10 : decode cX2_slot 10 = .ok (.iload_n 1, 1) := by decide +kernel
theorem dX2_slot_11 : decode cX2_slot 11 = .ok (.iconst 2, 1) := by decide +kernel
theorem dX2_slot_12 : decode cX2_slot 12 = .ok (.iload_n 0, 1) := by decide +kernel
theorem dX2_slot_13 : decode cX2_slot 13 = .ok (.imul, 1) := by decide +kernel
theorem dX2_slot_14 : decode cX2_slot 14 = .ok (.iadd, 1) := by decide +kernel
theorem dX2_slot_15 : decode cX2_slot 15 = .ok (.ireturn, 1) := by decide +kernel
abbrev cX2_readRegister : ByteArray := prog_1_method_14_code
abbrev yX2_readRegister : MethodName := ⟨"PageGuards", "readRegister", "(I)I"⟩
abbrev wsX2_readRegister : List Cond := .code yX2_readRegister cX2_readRegister 2 (some .int) :: qT
theorem dX2_readRegister_0 : decode cX2_readRegister 0 = .ok (.aload_n 0, 1) := by decide +kernel
theorem dX2_readRegister_1 : decode cX2_readRegister 1 = .ok (.getfield 9, 3) := by decide +kernel
theorem dX2_readRegister_4 : decode cX2_readRegister 4 = .ok (.aload_n 0, 1) := by decide +kernel
theorem dX2_readRegister_5 : decode cX2_readRegister 5 = .ok (.invokevirtual 75, 3) := by decide +kernel
theorem dX2_readRegister_8 : decode cX2_readRegister 8 = .ok (.iload_n 1, 1) := by decide +kernel
theorem dX2_readRegister_9 : decode cX2_readRegister 9 = .ok (.invokestatic 89, 3) := by decide +kernel
theorem dX2_readRegister_12 : decode cX2_readRegister 12 = .ok (.iaload, 1) := by decide +kernel
theorem dX2_readRegister_13 : decode cX2_readRegister 13 = .ok (.ireturn, 1) := by decide +kernel
abbrev cX2_writeRegister : ByteArray := prog_1_method_15_code
abbrev yX2_writeRegister : MethodName := ⟨"PageGuards", "writeRegister", "(II)V"⟩
abbrev wsX2_writeRegister : List Cond := .code yX2_writeRegister cX2_writeRegister 3 none :: qT
theorem dX2_writeRegister_0 : decode cX2_writeRegister 0 = .ok (.aload_n 0, 1) := by decide +kernel
theorem dX2_writeRegister_1 : decode cX2_writeRegister 1 = .ok (.getfield 9, 3) := by decide +kernel
theorem dX2_writeRegister_4 : decode cX2_writeRegister 4 = .ok (.aload_n 0, 1) := by decide +kernel
theorem dX2_writeRegister_5 : decode cX2_writeRegister 5 = .ok (.invokevirtual 75, 3) := by decide +kernel
theorem dX2_writeRegister_8 : decode cX2_writeRegister 8 = .ok (.iload_n 1, 1) := by decide +kernel
theorem dX2_writeRegister_9 : decode cX2_writeRegister 9 = .ok (.invokestatic 89, 3) := by decide +kernel
theorem dX2_writeRegister_12 : decode cX2_writeRegister 12 = .ok (.iload_n 2, 1) := by decide +kernel
theorem dX2_writeRegister_13 : decode cX2_writeRegister 13 = .ok (.iastore, 1) := by decide +kernel
theorem dX2_writeRegister_14 : decode cX2_writeRegister 14 = .ok (.return_, 1) := by decide +kernel
abbrev cX1_writeControl : ByteArray := prog_3_method_2_code
abbrev yX1_writeControl : MethodName := ⟨"PageGuards$Unit", "writeControl", "(II)V"⟩
abbrev wsX1_writeControl : List Cond := .code yX1_writeControl cX1_writeControl 3 none :: qT
theorem dX1_writeControl_0 : decode cX1_writeControl 0 = .ok (.aload_n 0, 1) := by decide +kernel
theorem dX1_writeControl_1 : decode cX1_writeControl 1 = .ok (.getfield 15, 3) := by decide +kernel
theorem dX1_writeControl_4 : decode cX1_writeControl 4 = .ok (.iload_n 1, 1) := by decide +kernel
theorem dX1_writeControl_5 : decode cX1_writeControl 5 = .ok (.iload_n 2, 1) := by decide +kernel
theorem dX1_writeControl_6 : decode cX1_writeControl 6 = .ok (.iconst 1, 1) := by decide +kernel
theorem dX1_writeControl_7 : decode cX1_writeControl 7 = .ok (.getstatic 27, 3) := by decide +kernel
theorem dX1_writeControl_10 : decode cX1_writeControl 10 = .ok (.iload_n 1, 1) := by decide +kernel
theorem dX1_writeControl_11 : decode cX1_writeControl 11 = .ok (.iaload, 1) := by decide +kernel
theorem dX1_writeControl_12 : decode cX1_writeControl 12 = .ok (.ishl, 1) := by decide +kernel
theorem dX1_writeControl_13 : decode cX1_writeControl 13 = .ok (.iconst 1, 1) := by decide +kernel
theorem dX1_writeControl_14 : decode cX1_writeControl 14 = .ok (.isub, 1) := by decide +kernel
theorem dX1_writeControl_15 : decode cX1_writeControl 15 = .ok (.iand, 1) := by decide +kernel
theorem dX1_writeControl_16 : decode cX1_writeControl 16 = .ok (.iastore, 1) := by decide +kernel
theorem dX1_writeControl_17 : decode cX1_writeControl 17 = .ok (.return_, 1) := by decide +kernel
abbrev cX0_forgetAll : ByteArray := prog_2_method_6_code
abbrev yX0_forgetAll : MethodName := ⟨"PageGuards$Buffer", "forgetAll", "()V"⟩
abbrev wsX0_forgetAll : List Cond := .code yX0_forgetAll cX0_forgetAll 1 none :: qT
theorem dX0_forgetAll_0 : decode cX0_forgetAll 0 = .ok (.aload_n 0, 1) := by decide +kernel
theorem dX0_forgetAll_1 : decode cX0_forgetAll 1 = .ok (.iconst 0, 1) := by decide +kernel
theorem dX0_forgetAll_2 : decode cX0_forgetAll 2 = .ok (.putfield 19, 3) := by decide +kernel
theorem dX0_forgetAll_5 : decode cX0_forgetAll 5 = .ok (.return_, 1) := by decide +kernel
abbrev cX0_field : ByteArray := prog_2_method_2_code
abbrev yX0_field : MethodName := ⟨"PageGuards$Buffer", "field", "(II)I"⟩
abbrev wsX0_field : List Cond := .code yX0_field cX0_field 3 (some .int) :: qT
theorem dX0_field_0 : decode cX0_field 0 = .ok (.aload_n 0, 1) := by decide +kernel
theorem dX0_field_1 : decode cX0_field 1 = .ok (.getfield 11, 3) := by decide +kernel
theorem dX0_field_4 : decode cX0_field 4 = .ok (.iload_n 1, 1) := by decide +kernel
theorem dX0_field_5 : decode cX0_field 5 = .ok (.bipush 7, 2) := by decide +kernel
theorem dX0_field_7 : decode cX0_field 7 = .ok (.imul, 1) := by decide +kernel
theorem dX0_field_8 : decode cX0_field 8 = .ok (.iload_n 2, 1) := by decide +kernel
theorem dX0_field_9 : decode cX0_field 9 = .ok (.iadd, 1) := by decide +kernel
theorem dX0_field_10 : decode cX0_field 10 = .ok (.iaload, 1) := by decide +kernel
theorem dX0_field_11 : decode cX0_field 11 = .ok (.ireturn, 1) := by decide +kernel
abbrev cX0_init : ByteArray := prog_2_method_1_code
abbrev yX0_init : MethodName := ⟨"PageGuards$Buffer", "<init>", "(Z)V"⟩
abbrev wsX0_init : List Cond := .code yX0_init cX0_init 2 none :: qT
theorem dX0_init_0 : decode cX0_init 0 = .ok (.aload_n 0, 1) := by decide +kernel
theorem dX0_init_1 : decode cX0_init 1 = .ok (.invokespecial 3, 3) := by decide +kernel
theorem dX0_init_4 : decode cX0_init 4 = .ok (.aload_n 0, 1) := by decide +kernel
theorem dX0_init_5 : decode cX0_init 5 = .ok (.bipush 49, 2) := by decide +kernel
theorem dX0_init_7 : decode cX0_init 7 = .ok (.newarray .int, 2) := by decide +kernel
theorem dX0_init_9 : decode cX0_init 9 = .ok (.putfield 11, 3) := by decide +kernel
theorem dX0_init_12 : decode cX0_init 12 = .ok (.aload_n 0, 1) := by decide +kernel
theorem dX0_init_13 : decode cX0_init 13 = .ok (.iload_n 1, 1) := by decide +kernel
theorem dX0_init_14 : decode cX0_init 14 = .ok (.putfield 15, 3) := by decide +kernel
theorem dX0_init_17 : decode cX0_init 17 = .ok (.return_, 1) := by decide +kernel
abbrev cX1_init : ByteArray := prog_3_method_1_code
abbrev yX1_init : MethodName := ⟨"PageGuards$Unit", "<init>", "(Z)V"⟩
abbrev wsX1_init : List Cond := .code yX1_init cX1_init 2 none :: qT
theorem dX1_init_0 : decode cX1_init 0 = .ok (.aload_n 0, 1) := by decide +kernel
theorem dX1_init_1 : decode cX1_init 1 = .ok (.invokespecial 3, 3) := by decide +kernel
theorem dX1_init_4 : decode cX1_init 4 = .ok (.aload_n 0, 1) := by decide +kernel
theorem dX1_init_5 : decode cX1_init 5 = .ok (.sipush 512, 3) := by decide +kernel
theorem dX1_init_8 : decode cX1_init 8 = .ok (.newarray .int, 2) := by decide +kernel
theorem dX1_init_10 : decode cX1_init 10 = .ok (.putfield 9, 3) := by decide +kernel
theorem dX1_init_13 : decode cX1_init 13 = .ok (.aload_n 0, 1) := by decide +kernel
theorem dX1_init_14 : decode cX1_init 14 = .ok (.bipush 12, 2) := by decide +kernel
theorem dX1_init_16 : decode cX1_init 16 = .ok (.newarray .int, 2) := by decide +kernel
theorem dX1_init_18 : decode cX1_init 18 = .ok (.putfield 15, 3) := by decide +kernel
theorem dX1_init_21 : decode cX1_init 21 = .ok (.aload_n 0, 1) := by decide +kernel
theorem dX1_init_22 : decode cX1_init 22 = .ok (.new 18, 3) := by decide +kernel
theorem dX1_init_25 : decode cX1_init 25 = .ok (.dup, 1) := by decide +kernel
theorem dX1_init_26 : decode cX1_init 26 = .ok (.iload_n 1, 1) := by decide +kernel
theorem dX1_init_27 : decode cX1_init 27 = .ok (.invokespecial 20, 3) := by decide +kernel
theorem dX1_init_30 : decode cX1_init 30 = .ok (.putfield 23, 3) := by decide +kernel
theorem dX1_init_33 : decode cX1_init 33 = .ok (.return_, 1) := by decide +kernel
abbrev cX2_init : ByteArray := prog_1_method_1_code
abbrev yX2_init : MethodName := ⟨"PageGuards", "<init>", "(I)V"⟩
abbrev wsX2_init : List Cond := .code yX2_init cX2_init 2 none :: qT
theorem dX2_init_0 : decode cX2_init 0 = .ok (.aload_n 0, 1) := by decide +kernel
theorem dX2_init_1 : decode cX2_init 1 = .ok (.invokespecial 3, 3) := by decide +kernel
theorem dX2_init_4 : decode cX2_init 4 = .ok (.aload_n 0, 1) := by decide +kernel
theorem dX2_init_5 : decode cX2_init 5 = .ok (.bipush 22, 2) := by decide +kernel
theorem dX2_init_7 : decode cX2_init 7 = .ok (.newarray .int, 2) := by decide +kernel
theorem dX2_init_9 : decode cX2_init 9 = .ok (.putfield 9, 3) := by decide +kernel
theorem dX2_init_12 : decode cX2_init 12 = .ok (.aload_n 0, 1) := by decide +kernel
theorem dX2_init_13 : decode cX2_init 13 = .ok (.bipush 8, 2) := by decide +kernel
theorem dX2_init_15 : decode cX2_init 15 = .ok (.newarray .int, 2) := by decide +kernel
theorem dX2_init_17 : decode cX2_init 17 = .ok (.putfield 13, 3) := by decide +kernel
theorem dX2_init_20 : decode cX2_init 20 = .ok (.aload_n 0, 1) := by decide +kernel
theorem dX2_init_21 : decode cX2_init 21 = .ok (.bipush 8, 2) := by decide +kernel
theorem dX2_init_23 : decode cX2_init 23 = .ok (.newarray .int, 2) := by decide +kernel
theorem dX2_init_25 : decode cX2_init 25 = .ok (.putfield 16, 3) := by decide +kernel
theorem dX2_init_28 : decode cX2_init 28 = .ok (.aload_n 0, 1) := by decide +kernel
theorem dX2_init_29 : decode cX2_init 29 = .ok (.bipush 25, 2) := by decide +kernel
theorem dX2_init_31 : decode cX2_init 31 = .ok (.putfield 19, 3) := by decide +kernel
theorem dX2_init_34 : decode cX2_init 34 = .ok (.aload_n 0, 1) := by decide +kernel
theorem dX2_init_35 : decode cX2_init 35 = .ok (.iconst 1, 1) := by decide +kernel
theorem dX2_init_36 : decode cX2_init 36 = .ok (.putfield 23, 3) := by decide +kernel
theorem dX2_init_39 : decode cX2_init 39 = .ok (.aload_n 0, 1) := by decide +kernel
theorem dX2_init_40 : decode cX2_init 40 = .ok (.new 27, 3) := by decide +kernel
theorem dX2_init_43 : decode cX2_init 43 = .ok (.dup, 1) := by decide +kernel
theorem dX2_init_44 : decode cX2_init 44 = .ok (.iload_n 1, 1) := by decide +kernel
theorem dX2_init_45 : decode cX2_init 45 = .ok (.ifCond .eq 7, 3) := by decide +kernel
theorem dX2_init_48 : decode cX2_init 48 = .ok (.iconst 1, 1) := by decide +kernel
theorem dX2_init_49 : decode cX2_init 49 = .ok (.goto 4, 3) := by decide +kernel
theorem dX2_init_52 : decode cX2_init 52 = .ok (.iconst 0, 1) := by decide +kernel
theorem dX2_init_53 : decode cX2_init 53 = .ok (.invokespecial 29, 3) := by decide +kernel
theorem dX2_init_56 : decode cX2_init 56 = .ok (.putfield 32, 3) := by decide +kernel
theorem dX2_init_59 : decode cX2_init 59 = .ok (.return_, 1) := by decide +kernel
abbrev cX2_poke : ByteArray := prog_1_method_2_code
abbrev yX2_poke : MethodName := ⟨"PageGuards", "poke", "(II)I"⟩
abbrev wsX2_poke : List Cond := .code yX2_poke cX2_poke 4 (some .int) :: qT
theorem dX2_poke_0 : decode cX2_poke 0 = .ok (.iload_n 1, 1) := by decide +kernel
theorem dX2_poke_1 : decode cX2_poke 1 = .ok (.ifCond .lt 10, 3) := by decide +kernel
theorem dX2_poke_4 : decode cX2_poke 4 = .ok (.iload_n 1, 1) := by decide +kernel
theorem dX2_poke_5 : decode cX2_poke 5 = .ok (.sipush 512, 3) := by decide +kernel
theorem dX2_poke_8 : decode cX2_poke 8 = .ok (.if_icmp .lt 5, 3) := by decide +kernel
theorem dX2_poke_11 : decode cX2_poke 11 = .ok (.iconst 0, 1) := by decide +kernel
theorem dX2_poke_12 : decode cX2_poke 12 = .ok (.ireturn, 1) := by decide +kernel
theorem dX2_poke_13 : decode cX2_poke 13 = .ok (.aload_n 0, 1) := by decide +kernel
theorem dX2_poke_14 : decode cX2_poke 14 = .ok (.getfield 32, 3) := by decide +kernel
theorem dX2_poke_17 : decode cX2_poke 17 = .ok (.getfield 36, 3) := by decide +kernel
theorem dX2_poke_20 : decode cX2_poke 20 = .ok (.iload_n 1, 1) := by decide +kernel
theorem dX2_poke_21 : decode cX2_poke 21 = .ok (.iaload, 1) := by decide +kernel
theorem dX2_poke_22 : decode cX2_poke 22 = .ok (.istore_n 3, 1) := by decide +kernel
theorem dX2_poke_23 : decode cX2_poke 23 = .ok (.aload_n 0, 1) := by decide +kernel
theorem dX2_poke_24 : decode cX2_poke 24 = .ok (.getfield 32, 3) := by decide +kernel
theorem dX2_poke_27 : decode cX2_poke 27 = .ok (.getfield 36, 3) := by decide +kernel
theorem dX2_poke_30 : decode cX2_poke 30 = .ok (.iload_n 1, 1) := by decide +kernel
theorem dX2_poke_31 : decode cX2_poke 31 = .ok (.iload_n 2, 1) := by decide +kernel
theorem dX2_poke_32 : decode cX2_poke 32 = .ok (.iastore, 1) := by decide +kernel
theorem dX2_poke_33 : decode cX2_poke 33 = .ok (.iload_n 3, 1) := by decide +kernel
theorem dX2_poke_34 : decode cX2_poke 34 = .ok (.ireturn, 1) := by decide +kernel
abbrev cX2_fill : ByteArray := prog_1_method_3_code
abbrev yX2_fill : MethodName := ⟨"PageGuards", "fill", "(IJJ)Z"⟩
abbrev wsX2_fill : List Cond := .code yX2_fill cX2_fill 9 (some .boolean) :: qT
theorem dX2_fill_0 : decode cX2_fill 0 = .ok (.iload_n 1, 1) := by decide +kernel
theorem dX2_fill_1 : decode cX2_fill 1 = .ok (.ifCond .lt 10, 3) := by decide +kernel
theorem dX2_fill_4 : decode cX2_fill 4 = .ok (.iload_n 1, 1) := by decide +kernel
theorem dX2_fill_5 : decode cX2_fill 5 = .ok (.sipush 508, 3) := by decide +kernel
theorem dX2_fill_8 : decode cX2_fill 8 = .ok (.if_icmp .le 5, 3) := by decide +kernel
theorem dX2_fill_11 : decode cX2_fill 11 = .ok (.iconst 0, 1) := by decide +kernel
theorem dX2_fill_12 : decode cX2_fill 12 = .ok (.ireturn, 1) := by decide +kernel
theorem dX2_fill_13 : decode cX2_fill 13 = .ok (.iconst 0, 1) := by decide +kernel
theorem dX2_fill_14 : decode cX2_fill 14 = .ok (.istore 6, 2) := by decide +kernel
theorem dX2_fill_16 : decode cX2_fill 16 = .ok (.iload 6, 2) := by decide +kernel
theorem dX2_fill_18 : decode cX2_fill 18 = .ok (.iconst 4, 1) := by decide +kernel
theorem dX2_fill_19 : decode cX2_fill 19 = .ok (.if_icmp .ge 53, 3) := by decide +kernel
theorem dX2_fill_22 : decode cX2_fill 22 = .ok (.lload_n 2, 1) := by decide +kernel
theorem dX2_fill_23 : decode cX2_fill 23 = .ok (.bipush 16, 2) := by decide +kernel
theorem dX2_fill_25 : decode cX2_fill 25 = .ok (.iload 6, 2) := by decide +kernel
theorem dX2_fill_27 : decode cX2_fill 27 = .ok (.imul, 1) := by decide +kernel
theorem dX2_fill_28 : decode cX2_fill 28 = .ok (.lushr, 1) := by decide +kernel
theorem dX2_fill_29 : decode cX2_fill 29 = .ok (.l2i, 1) := by decide +kernel
theorem dX2_fill_30 : decode cX2_fill 30 = .ok (.ldc 39, 2) := by decide +kernel
theorem dX2_fill_32 : decode cX2_fill 32 = .ok (.iand, 1) := by decide +kernel
theorem dX2_fill_33 : decode cX2_fill 33 = .ok (.istore 7, 2) := by decide +kernel
theorem dX2_fill_35 : decode cX2_fill 35 = .ok (.lload 4, 2) := by decide +kernel
theorem dX2_fill_37 : decode cX2_fill 37 = .ok (.bipush 16, 2) := by decide +kernel
theorem dX2_fill_39 : decode cX2_fill 39 = .ok (.iload 6, 2) := by decide +kernel
theorem dX2_fill_41 : decode cX2_fill 41 = .ok (.imul, 1) := by decide +kernel
theorem dX2_fill_42 : decode cX2_fill 42 = .ok (.lushr, 1) := by decide +kernel
theorem dX2_fill_43 : decode cX2_fill 43 = .ok (.l2i, 1) := by decide +kernel
theorem dX2_fill_44 : decode cX2_fill 44 = .ok (.bipush 16, 2) := by decide +kernel
theorem dX2_fill_46 : decode cX2_fill 46 = .ok (.ishl, 1) := by decide +kernel
theorem dX2_fill_47 : decode cX2_fill 47 = .ok (.istore 8, 2) := by decide +kernel
theorem dX2_fill_49 : decode cX2_fill 49 = .ok (.aload_n 0, 1) := by decide +kernel
theorem dX2_fill_50 : decode cX2_fill 50 = .ok (.getfield 32, 3) := by decide +kernel
theorem dX2_fill_53 : decode cX2_fill 53 = .ok (.getfield 36, 3) := by decide +kernel
theorem dX2_fill_56 : decode cX2_fill 56 = .ok (.iload_n 1, 1) := by decide +kernel
theorem dX2_fill_57 : decode cX2_fill 57 = .ok (.iload 6, 2) := by decide +kernel
theorem dX2_fill_59 : decode cX2_fill 59 = .ok (.iadd, 1) := by decide +kernel
theorem dX2_fill_60 : decode cX2_fill 60 = .ok (.iload 8, 2) := by decide +kernel
theorem dX2_fill_62 : decode cX2_fill 62 = .ok (.iload 7, 2) := by decide +kernel
theorem dX2_fill_64 : decode cX2_fill 64 = .ok (.ior, 1) := by decide +kernel
theorem dX2_fill_65 : decode cX2_fill 65 = .ok (.iastore, 1) := by decide +kernel
theorem dX2_fill_66 : decode cX2_fill 66 = .ok (.iinc 6 1, 3) := by decide +kernel
theorem dX2_fill_69 : decode cX2_fill 69 = .ok (.goto (-53), 3) := by decide +kernel
theorem dX2_fill_72 : decode cX2_fill 72 = .ok (.iconst 1, 1) := by decide +kernel
theorem dX2_fill_73 : decode cX2_fill 73 = .ok (.ireturn, 1) := by decide +kernel
abbrev cX2_begin : ByteArray := prog_1_method_4_code
abbrev yX2_begin : MethodName := ⟨"PageGuards", "begin", "(I)V"⟩
abbrev wsX2_begin : List Cond := .code yX2_begin cX2_begin 2 none :: qT
theorem dX2_begin_0 : decode cX2_begin 0 = .ok (.aload_n 0, 1) := by decide +kernel
theorem dX2_begin_1 : decode cX2_begin 1 = .ok (.iload_n 1, 1) := by decide +kernel
theorem dX2_begin_2 : decode cX2_begin 2 = .ok (.sipush 4095, 3) := by decide +kernel
theorem dX2_begin_5 : decode cX2_begin 5 = .ok (.iand, 1) := by decide +kernel
theorem dX2_begin_6 : decode cX2_begin 6 = .ok (.putfield 40, 3) := by decide +kernel
theorem dX2_begin_9 : decode cX2_begin 9 = .ok (.aload_n 0, 1) := by decide +kernel
theorem dX2_begin_10 : decode cX2_begin 10 = .ok (.bipush 25, 2) := by decide +kernel
theorem dX2_begin_12 : decode cX2_begin 12 = .ok (.putfield 19, 3) := by decide +kernel
theorem dX2_begin_15 : decode cX2_begin 15 = .ok (.aload_n 0, 1) := by decide +kernel
theorem dX2_begin_16 : decode cX2_begin 16 = .ok (.getfield 32, 3) := by decide +kernel
theorem dX2_begin_19 : decode cX2_begin 19 = .ok (.iconst 0, 1) := by decide +kernel
theorem dX2_begin_20 : decode cX2_begin 20 = .ok (.iconst 0, 1) := by decide +kernel
theorem dX2_begin_21 : decode cX2_begin 21 = .ok (.invokevirtual 43, 3) := by decide +kernel
theorem dX2_begin_24 : decode cX2_begin 24 = .ok (.aload_n 0, 1) := by decide +kernel
theorem dX2_begin_25 : decode cX2_begin 25 = .ok (.getfield 32, 3) := by decide +kernel
theorem dX2_begin_28 : decode cX2_begin 28 = .ok (.getfield 47, 3) := by decide +kernel
theorem dX2_begin_31 : decode cX2_begin 31 = .ok (.invokevirtual 51, 3) := by decide +kernel
theorem dX2_begin_34 : decode cX2_begin 34 = .ok (.aload_n 0, 1) := by decide +kernel
theorem dX2_begin_35 : decode cX2_begin 35 = .ok (.iconst 0, 1) := by decide +kernel
theorem dX2_begin_36 : decode cX2_begin 36 = .ok (.putfield 56, 3) := by decide +kernel
theorem dX2_begin_39 : decode cX2_begin 39 = .ok (.aload_n 0, 1) := by decide +kernel
theorem dX2_begin_40 : decode cX2_begin 40 = .ok (.iconst 0, 1) := by decide +kernel
theorem dX2_begin_41 : decode cX2_begin 41 = .ok (.putfield 23, 3) := by decide +kernel
theorem dX2_begin_44 : decode cX2_begin 44 = .ok (.return_, 1) := by decide +kernel
abbrev cX2_set : ByteArray := prog_1_method_5_code
abbrev yX2_set : MethodName := ⟨"PageGuards", "set", "(II)Z"⟩
abbrev wsX2_set : List Cond := .code yX2_set cX2_set 3 (some .boolean) :: qT
theorem dX2_set_0 : decode cX2_set 0 = .ok (.iload_n 1, 1) := by decide +kernel
theorem dX2_set_1 : decode cX2_set 1 = .ok (.ifCond .lt 9, 3) := by decide +kernel
theorem dX2_set_4 : decode cX2_set 4 = .ok (.iload_n 1, 1) := by decide +kernel
theorem dX2_set_5 : decode cX2_set 5 = .ok (.bipush 8, 2) := by decide +kernel
theorem dX2_set_7 : decode cX2_set 7 = .ok (.if_icmp .lt 5, 3) := by decide +kernel
theorem dX2_set_10 : decode cX2_set 10 = .ok (.iconst 0, 1) := by decide +kernel
theorem dX2_set_11 : decode cX2_set 11 = .ok (.ireturn, 1) := by decide +kernel
theorem dX2_set_12 : decode cX2_set 12 = .ok (.aload_n 0, 1) := by decide +kernel
theorem dX2_set_13 : decode cX2_set 13 = .ok (.iload_n 1, 1) := by decide +kernel
theorem dX2_set_14 : decode cX2_set 14 = .ok (.iload_n 2, 1) := by decide +kernel
theorem dX2_set_15 : decode cX2_set 15 = .ok (.invokevirtual 59, 3) := by decide +kernel
theorem dX2_set_18 : decode cX2_set 18 = .ok (.iconst 1, 1) := by decide +kernel
theorem dX2_set_19 : decode cX2_set 19 = .ok (.ireturn, 1) := by decide +kernel
abbrev cX2_line : ByteArray := prog_1_method_6_code
abbrev yX2_line : MethodName := ⟨"PageGuards", "line", "(IZ)Z"⟩
abbrev wsX2_line : List Cond := .code yX2_line cX2_line 4 (some .boolean) :: qT
theorem dX2_line_0 : decode cX2_line 0 = .ok (.iload_n 1, 1) := by decide +kernel
theorem dX2_line_1 : decode cX2_line 1 = .ok (.ifCond .lt 8, 3) := by decide +kernel
theorem dX2_line_4 : decode cX2_line 4 = .ok (.iload_n 1, 1) := by decide +kernel
theorem dX2_line_5 : decode cX2_line 5 = .ok (.iconst 4, 1) := by decide +kernel
theorem dX2_line_6 : decode cX2_line 6 = .ok (.if_icmp .lt 5, 3) := by decide +kernel
theorem dX2_line_9 : decode cX2_line 9 = .ok (.iconst 0, 1) := by decide +kernel
theorem dX2_line_10 : decode cX2_line 10 = .ok (.ireturn, 1) := by decide +kernel
theorem dX2_line_11 : decode cX2_line 11 = .ok (.iconst 1, 1) := by decide +kernel
theorem dX2_line_12 : decode cX2_line 12 = .ok (.iload_n 1, 1) := by decide +kernel
theorem dX2_line_13 : decode cX2_line 13 = .ok (.ishl, 1) := by decide +kernel
theorem dX2_line_14 : decode cX2_line 14 = .ok (.istore_n 3, 1) := by decide +kernel
theorem dX2_line_15 : decode cX2_line 15 = .ok (.aload_n 0, 1) := by decide +kernel
theorem dX2_line_16 : decode cX2_line 16 = .ok (.iload_n 2, 1) := by decide +kernel
theorem dX2_line_17 : decode cX2_line 17 = .ok (.ifCond .eq 12, 3) := by decide +kernel
theorem dX2_line_20 : decode cX2_line 20 = .ok (.aload_n 0, 1) := by decide +kernel
theorem dX2_line_21 : decode cX2_line 21 = .ok (.getfield 62, 3) := by decide +kernel
theorem dX2_line_24 : decode cX2_line 24 = .ok (.iload_n 3, 1) := by decide +kernel
theorem dX2_line_25 : decode cX2_line 25 = .ok (.ior, 1) := by decide +kernel
theorem dX2_line_26 : decode cX2_line 26 = .ok (.goto 11, 3) := by decide +kernel
theorem dX2_line_29 : decode cX2_line 29 = .ok (.aload_n 0, 1) := by decide +kernel
theorem dX2_line_30 : decode cX2_line 30 = .ok (.getfield 62, 3) := by decide +kernel
theorem dX2_line_33 : decode cX2_line 33 = .ok (.iload_n 3, 1) := by decide +kernel
theorem dX2_line_34 : decode cX2_line 34 = .ok (.iconst (-1), 1) := by decide +kernel
theorem dX2_line_35 : decode cX2_line 35 = .ok (.ixor, 1) := by decide +kernel
theorem dX2_line_36 : decode cX2_line 36 = .ok (.iand, 1) := by decide +kernel
theorem dX2_line_37 : decode cX2_line 37 = .ok (.putfield 62, 3) := by decide +kernel
theorem dX2_line_40 : decode cX2_line 40 = .ok (.iconst 1, 1) := by decide +kernel
theorem dX2_line_41 : decode cX2_line 41 = .ok (.ireturn, 1) := by decide +kernel
abbrev cX2_run : ByteArray := prog_1_method_7_code
abbrev yX2_run : MethodName := ⟨"PageGuards", "run", "(I)I"⟩
abbrev wsX2_run : List Cond := .code yX2_run cX2_run 3 (some .int) :: qT
theorem dX2_run_0 : decode cX2_run 0 = .ok (.iload_n 1, 1) := by decide +kernel
theorem dX2_run_1 : decode cX2_run 1 = .ok (.ifCond .lt 10, 3) := by decide +kernel
theorem dX2_run_4 : decode cX2_run 4 = .ok (.iload_n 1, 1) := by decide +kernel
theorem dX2_run_5 : decode cX2_run 5 = .ok (.sipush 300, 3) := by decide +kernel
theorem dX2_run_8 : decode cX2_run 8 = .ok (.if_icmp .le 5, 3) := by decide +kernel
theorem dX2_run_11 : decode cX2_run 11 = .ok (.iconst (-1), 1) := by decide +kernel
theorem dX2_run_12 : decode cX2_run 12 = .ok (.ireturn, 1) := by decide +kernel
theorem dX2_run_13 : decode cX2_run 13 = .ok (.iconst 0, 1) := by decide +kernel
theorem dX2_run_14 : decode cX2_run 14 = .ok (.istore_n 2, 1) := by decide +kernel
theorem dX2_run_15 : decode cX2_run 15 = .ok (.iload_n 2, 1) := by decide +kernel
theorem dX2_run_16 : decode cX2_run 16 = .ok (.iload_n 1, 1) := by decide +kernel
theorem dX2_run_17 : decode cX2_run 17 = .ok (.if_icmp .ge 20, 3) := by decide +kernel
theorem dX2_run_20 : decode cX2_run 20 = .ok (.aload_n 0, 1) := by decide +kernel
theorem dX2_run_21 : decode cX2_run 21 = .ok (.getfield 23, 3) := by decide +kernel
theorem dX2_run_24 : decode cX2_run 24 = .ok (.ifCond .ne 13, 3) := by decide +kernel
theorem dX2_run_27 : decode cX2_run 27 = .ok (.aload_n 0, 1) := by decide +kernel
theorem dX2_run_28 : decode cX2_run 28 = .ok (.invokevirtual 65, 3) := by decide +kernel
theorem dX2_run_31 : decode cX2_run 31 = .ok (.iinc 2 1, 3) := by decide +kernel
theorem dX2_run_34 : decode cX2_run 34 = .ok (.goto (-19), 3) := by decide +kernel
theorem dX2_run_37 : decode cX2_run 37 = .ok (.iload_n 2, 1) := by decide +kernel
theorem dX2_run_38 : decode cX2_run 38 = .ok (.ireturn, 1) := by decide +kernel
abbrev cX2_word : ByteArray := prog_1_method_8_code
abbrev yX2_word : MethodName := ⟨"PageGuards", "word", "(I)I"⟩
abbrev wsX2_word : List Cond := .code yX2_word cX2_word 2 (some .int) :: qT
theorem dX2_word_0 : decode cX2_word 0 = .ok (.iload_n 1, 1) := by decide +kernel
theorem dX2_word_1 : decode cX2_word 1 = .ok (.ifCond .lt 10, 3) := by decide +kernel
theorem dX2_word_4 : decode cX2_word 4 = .ok (.iload_n 1, 1) := by decide +kernel
theorem dX2_word_5 : decode cX2_word 5 = .ok (.sipush 512, 3) := by decide +kernel
theorem dX2_word_8 : decode cX2_word 8 = .ok (.if_icmp .lt 7, 3) := by decide +kernel
theorem dX2_word_11 : decode cX2_word 11 = .ok (.iconst (-1), 1) := by decide +kernel
theorem dX2_word_12 : decode cX2_word 12 = .ok (.goto 12, 3) := by decide +kernel
theorem dX2_word_15 : decode cX2_word 15 = .ok (.aload_n 0, 1) := by decide +kernel
theorem dX2_word_16 : decode cX2_word 16 = .ok (.getfield 32, 3) := by decide +kernel
theorem dX2_word_19 : decode cX2_word 19 = .ok (.getfield 36, 3) := by decide +kernel
theorem dX2_word_22 : decode cX2_word 22 = .ok (.iload_n 1, 1) := by decide +kernel
theorem dX2_word_23 : decode cX2_word 23 = .ok (.iaload, 1) := by decide +kernel
theorem dX2_word_24 : decode cX2_word 24 = .ok (.ireturn, 1) := by decide +kernel
abbrev cX2_state : ByteArray := prog_1_method_9_code
abbrev yX2_state : MethodName := ⟨"PageGuards", "state", "(I)I"⟩
abbrev wsX2_state : List Cond := .code yX2_state cX2_state 2 (some .int) :: qT
theorem dX2_state_0 : decode cX2_state 0 = .ok (.iload_n 1, 1) := by decide +kernel
theorem dX2_state_1 : decode cX2_state 1 = .ok (.ifCond .lt 15, 3) := by decide +kernel
theorem dX2_state_4 : decode cX2_state 4 = .ok (.iload_n 1, 1) := by decide +kernel
theorem dX2_state_5 : decode cX2_state 5 = .ok (.bipush 8, 2) := by decide +kernel
theorem dX2_state_7 : decode cX2_state 7 = .ok (.if_icmp .ge 9, 3) := by decide +kernel
theorem dX2_state_10 : decode cX2_state 10 = .ok (.aload_n 0, 1) := by decide +kernel
theorem dX2_state_11 : decode cX2_state 11 = .ok (.iload_n 1, 1) := by decide +kernel
theorem dX2_state_12 : decode cX2_state 12 = .ok (.invokevirtual 68, 3) := by decide +kernel
theorem dX2_state_15 : decode cX2_state 15 = .ok (.ireturn, 1) := by decide +kernel
theorem dX2_state_16 : decode cX2_state 16 = .ok (.iload_n 1, 1) := by decide +kernel
theorem dX2_state_17 : decode cX2_state 17 = .ok (.bipush 20, 2) := by decide +kernel
theorem dX2_state_19 : decode cX2_state 19 = .ok (.if_icmp .lt 22, 3) := by decide +kernel
theorem dX2_state_22 : decode cX2_state 22 = .ok (.iload_n 1, 1) := by decide +kernel
theorem dX2_state_23 : decode cX2_state 23 = .ok (.bipush 32, 2) := by decide +kernel
theorem dX2_state_25 : decode cX2_state 25 = .ok (.if_icmp .ge 16, 3) := by decide +kernel
theorem dX2_state_28 : decode cX2_state 28 = .ok (.aload_n 0, 1) := by decide +kernel
theorem dX2_state_29 : decode cX2_state 29 = .ok (.getfield 32, 3) := by decide +kernel
theorem dX2_state_32 : decode cX2_state 32 = .ok (.getfield 72, 3) := by decide +kernel
theorem dX2_state_35 : decode cX2_state 35 = .ok (.iload_n 1, 1) := by decide +kernel
theorem dX2_state_36 : decode cX2_state 36 = .ok (.bipush 20, 2) := by decide +kernel
theorem dX2_state_38 : decode cX2_state 38 = .ok (.isub, 1) := by decide +kernel
theorem dX2_state_39 : decode cX2_state 39 = .ok (.iaload, 1) := by decide +kernel
theorem dX2_state_40 : decode cX2_state 40 = .ok (.ireturn, 1) := by decide +kernel
theorem dX2_state_41 : decode cX2_state 41 = .ok (.iload_n 1, 1) := by decide +kernel
theorem dX2_state_42 : decode cX2_state 42 = .ok (.tableswitch 110 8 14 #[42, 47, 52, 62, 86, 91, 102], 42) := by decide +kernel
theorem dX2_state_84 : decode cX2_state 84 = .ok (.aload_n 0, 1) := by decide +kernel
theorem dX2_state_85 : decode cX2_state 85 = .ok (.getfield 40, 3) := by decide +kernel
theorem dX2_state_88 : decode cX2_state 88 = .ok (.ireturn, 1) := by decide +kernel
theorem dX2_state_89 : decode cX2_state 89 = .ok (.aload_n 0, 1) := by decide +kernel
theorem dX2_state_90 : decode cX2_state 90 = .ok (.getfield 19, 3) := by decide +kernel
theorem dX2_state_93 : decode cX2_state 93 = .ok (.ireturn, 1) := by decide +kernel
theorem dX2_state_94 : decode cX2_state 94 = .ok (.aload_n 0, 1) := by decide +kernel
theorem dX2_state_95 : decode cX2_state 95 = .ok (.getfield 13, 3) := by decide +kernel
theorem dX2_state_98 : decode cX2_state 98 = .ok (.aload_n 0, 1) := by decide +kernel
theorem dX2_state_99 : decode cX2_state 99 = .ok (.invokevirtual 75, 3) := by decide +kernel
theorem dX2_state_102 : decode cX2_state 102 = .ok (.iaload, 1) := by decide +kernel
theorem dX2_state_103 : decode cX2_state 103 = .ok (.ireturn, 1) := by decide +kernel
theorem dX2_state_104 : decode cX2_state 104 = .ok (.aload_n 0, 1) := by decide +kernel
theorem dX2_state_105 : decode cX2_state 105 = .ok (.getfield 23, 3) := by decide +kernel
theorem dX2_state_108 : decode cX2_state 108 = .ok (.ifCond .eq 7, 3) := by decide +kernel
theorem dX2_state_111 : decode cX2_state 111 = .ok (.iconst 2, 1) := by decide +kernel
theorem dX2_state_112 : decode cX2_state 112 = .ok (.goto 15, 3) := by decide +kernel
theorem dX2_state_115 : decode cX2_state 115 = .ok (.aload_n 0, 1) := by decide +kernel
theorem dX2_state_116 : decode cX2_state 116 = .ok (.getfield 56, 3) := by decide +kernel
theorem dX2_state_119 : decode cX2_state 119 = .ok (.ifCond .eq 7, 3) := by decide +kernel
theorem dX2_state_122 : decode cX2_state 122 = .ok (.iconst 1, 1) := by decide +kernel
theorem dX2_state_123 : decode cX2_state 123 = .ok (.goto 4, 3) := by decide +kernel
theorem dX2_state_126 : decode cX2_state 126 = .ok (.iconst 0, 1) := by decide +kernel
theorem dX2_state_127 : decode cX2_state 127 = .ok (.ireturn, 1) := by decide +kernel
theorem dX2_state_128 : decode cX2_state 128 = .ok (.aload_n 0, 1) := by decide +kernel
theorem dX2_state_129 : decode cX2_state 129 = .ok (.getfield 62, 3) := by decide +kernel
theorem dX2_state_132 : decode cX2_state 132 = .ok (.ireturn, 1) := by decide +kernel
theorem dX2_state_133 : decode cX2_state 133 = .ok (.aload_n 0, 1) := by decide +kernel
theorem dX2_state_134 : decode cX2_state 134 = .ok (.getfield 32, 3) := by decide +kernel
theorem dX2_state_137 : decode cX2_state 137 = .ok (.getfield 47, 3) := by decide +kernel
theorem dX2_state_140 : decode cX2_state 140 = .ok (.getfield 79, 3) := by decide +kernel
theorem dX2_state_143 : decode cX2_state 143 = .ok (.ireturn, 1) := by decide +kernel
theorem dX2_state_144 : decode cX2_state 144 = .ok (.aload_n 0, 1) := by decide +kernel
theorem dX2_state_145 : decode cX2_state 145 = .ok (.getfield 32, 3) := by decide +kernel
theorem dX2_state_148 : decode cX2_state 148 = .ok (.getfield 82, 3) := by decide +kernel
theorem dX2_state_151 : decode cX2_state 151 = .ok (.ireturn, 1) := by decide +kernel
theorem dX2_state_152 : decode cX2_state 152 = .ok (.iconst (-1), 1) := by decide +kernel
theorem dX2_state_153 : decode cX2_state 153 = .ok (.ireturn, 1) := by decide +kernel
abbrev cX2_entry : ByteArray := prog_1_method_10_code
abbrev yX2_entry : MethodName := ⟨"PageGuards", "entry", "(II)I"⟩
abbrev wsX2_entry : List Cond := .code yX2_entry cX2_entry 3 (some .int) :: qT
theorem dX2_entry_0 : decode cX2_entry 0 = .ok (.iload_n 1, 1) := by decide +kernel
theorem dX2_entry_1 : decode cX2_entry 1 = .ok (.ifCond .lt 27, 3) := by decide +kernel
theorem dX2_entry_4 : decode cX2_entry 4 = .ok (.iload_n 1, 1) := by decide +kernel
theorem dX2_entry_5 : decode cX2_entry 5 = .ok (.aload_n 0, 1) := by decide +kernel
theorem dX2_entry_6 : decode cX2_entry 6 = .ok (.getfield 32, 3) := by decide +kernel
theorem dX2_entry_9 : decode cX2_entry 9 = .ok (.getfield 47, 3) := by decide +kernel
theorem dX2_entry_12 : decode cX2_entry 12 = .ok (.getfield 79, 3) := by decide +kernel
theorem dX2_entry_15 : decode cX2_entry 15 = .ok (.if_icmp .ge 13, 3) := by decide +kernel
theorem dX2_entry_18 : decode cX2_entry 18 = .ok (.iload_n 2, 1) := by decide +kernel
theorem dX2_entry_19 : decode cX2_entry 19 = .ok (.ifCond .lt 9, 3) := by decide +kernel
theorem dX2_entry_22 : decode cX2_entry 22 = .ok (.iload_n 2, 1) := by decide +kernel
theorem dX2_entry_23 : decode cX2_entry 23 = .ok (.bipush 7, 2) := by decide +kernel
theorem dX2_entry_25 : decode cX2_entry 25 = .ok (.if_icmp .lt 5, 3) := by decide +kernel
theorem dX2_entry_28 : decode cX2_entry 28 = .ok (.iconst (-1), 1) := by decide +kernel
theorem dX2_entry_29 : decode cX2_entry 29 = .ok (.ireturn, 1) := by decide +kernel
theorem dX2_entry_30 : decode cX2_entry 30 = .ok (.aload_n 0, 1) := by decide +kernel
theorem dX2_entry_31 : decode cX2_entry 31 = .ok (.getfield 32, 3) := by decide +kernel
theorem dX2_entry_34 : decode cX2_entry 34 = .ok (.getfield 47, 3) := by decide +kernel
theorem dX2_entry_37 : decode cX2_entry 37 = .ok (.iload_n 1, 1) := by decide +kernel
theorem dX2_entry_38 : decode cX2_entry 38 = .ok (.iload_n 2, 1) := by decide +kernel
theorem dX2_entry_39 : decode cX2_entry 39 = .ok (.invokevirtual 85, 3) := by decide +kernel
theorem dX2_entry_42 : decode cX2_entry 42 = .ok (.ireturn, 1) := by decide +kernel
end
section
abbrev cX3_isPlace : ByteArray := prog_5_method_2_code
abbrev yX3_isPlace : MethodName := ⟨"PageGuardsModel", "isPlace", "(I)Z"⟩
abbrev wsX3_isPlace : List Cond := .code yX3_isPlace cX3_isPlace 1 (some .boolean) :: qT
theorem dX3_isPlace_0 : decode cX3_isPlace 0 = .ok (.iload_n 0, 1) := by decide +kernel
theorem dX3_isPlace_1 : decode cX3_isPlace 1 = .ok (.ifCond .lt 14, 3) := by decide +kernel
theorem dX3_isPlace_4 : decode cX3_isPlace 4 = .ok (.iload_n 0, 1) := by decide +kernel
theorem dX3_isPlace_5 : decode cX3_isPlace 5 = .ok (.sipush 512, 3) := by decide +kernel
theorem dX3_isPlace_8 : decode cX3_isPlace 8 = .ok (.if_icmp .ge 7, 3) := by decide +kernel
theorem dX3_isPlace_11 : decode cX3_isPlace 11 = .ok (.iconst 1, 1) := by decide +kernel
theorem dX3_isPlace_12 : decode cX3_isPlace 12 = .ok (.goto 4, 3) := by decide +kernel
theorem dX3_isPlace_15 : decode cX3_isPlace 15 = .ok (.iconst 0, 1) := by decide +kernel
theorem dX3_isPlace_16 : decode cX3_isPlace 16 = .ok (.ireturn, 1) := by decide +kernel
abbrev cX3_mode : ByteArray := prog_5_method_6_code
abbrev yX3_mode : MethodName := ⟨"PageGuardsModel", "mode", "()I"⟩
abbrev wsX3_mode : List Cond := .code yX3_mode cX3_mode 1 (some .int) :: qT
theorem dX3_mode_0 : decode cX3_mode 0 = .ok (.aload_n 0, 1) := by decide +kernel
theorem dX3_mode_1 : decode cX3_mode 1 = .ok (.getfield 28, 3) := by decide +kernel
theorem dX3_mode_4 : decode cX3_mode 4 = .ok (.bipush 7, 2) := by decide +kernel
theorem dX3_mode_6 : decode cX3_mode 6 = .ok (.iand, 1) := by decide +kernel
theorem dX3_mode_7 : decode cX3_mode 7 = .ok (.ireturn, 1) := by decide +kernel
abbrev cX3_get : ByteArray := prog_5_method_7_code
abbrev yX3_get : MethodName := ⟨"PageGuardsModel", "get", "(I)I"⟩
abbrev wsX3_get : List Cond := .code yX3_get cX3_get 2 (some .int) :: qT
theorem dX3_get_0 : decode cX3_get 0 = .ok (.iload_n 1, 1) := by decide +kernel
theorem dX3_get_1 : decode cX3_get 1 = .ok (.bipush 6, 2) := by decide +kernel
theorem dX3_get_3 : decode cX3_get 3 = .ok (.if_icmp .ge 12, 3) := by decide +kernel
theorem dX3_get_6 : decode cX3_get 6 = .ok (.aload_n 0, 1) := by decide +kernel
theorem dX3_get_7 : decode cX3_get 7 = .ok (.getfield 13, 3) := by decide +kernel
theorem dX3_get_10 : decode cX3_get 10 = .ok (.iload_n 1, 1) := by decide +kernel
theorem dX3_get_11 : decode cX3_get 11 = .ok (.iaload, 1) := by decide +kernel
theorem dX3_get_12 : decode cX3_get 12 = .ok (.goto 30, 3) := by decide +kernel
theorem dX3_get_15 : decode cX3_get 15 = .ok (.iload_n 1, 1) := by decide +kernel
theorem dX3_get_16 : decode cX3_get 16 = .ok (.bipush 6, 2) := by decide +kernel
theorem dX3_get_18 : decode cX3_get 18 = .ok (.if_icmp .ne 15, 3) := by decide +kernel
theorem dX3_get_21 : decode cX3_get 21 = .ok (.aload_n 0, 1) := by decide +kernel
theorem dX3_get_22 : decode cX3_get 22 = .ok (.getfield 16, 3) := by decide +kernel
theorem dX3_get_25 : decode cX3_get 25 = .ok (.aload_n 0, 1) := by decide +kernel
theorem dX3_get_26 : decode cX3_get 26 = .ok (.invokevirtual 78, 3) := by decide +kernel
theorem dX3_get_29 : decode cX3_get 29 = .ok (.iaload, 1) := by decide +kernel
theorem dX3_get_30 : decode cX3_get 30 = .ok (.goto 12, 3) := by decide +kernel
theorem dX3_get_33 : decode cX3_get 33 = .ok (.aload_n 0, 1) := by decide +kernel
theorem dX3_get_34 : decode cX3_get 34 = .ok (.getfield 19, 3) := by decide +kernel
theorem dX3_get_37 : decode cX3_get 37 = .ok (.aload_n 0, 1) := by decide +kernel
theorem dX3_get_38 : decode cX3_get 38 = .ok (.invokevirtual 78, 3) := by decide +kernel
theorem dX3_get_41 : decode cX3_get 41 = .ok (.iaload, 1) := by decide +kernel
theorem dX3_get_42 : decode cX3_get 42 = .ok (.ireturn, 1) := by decide +kernel
abbrev cX3_put : ByteArray := prog_5_method_8_code
abbrev yX3_put : MethodName := ⟨"PageGuardsModel", "put", "(II)V"⟩
abbrev wsX3_put : List Cond := .code yX3_put cX3_put 3 none :: qT
theorem dX3_put_0 : decode cX3_put 0 = .ok (.iload_n 1, 1) := by decide +kernel
theorem dX3_put_1 : decode cX3_put 1 = .ok (.bipush 6, 2) := by decide +kernel
theorem dX3_put_3 : decode cX3_put 3 = .ok (.if_icmp .ge 13, 3) := by decide +kernel
theorem dX3_put_6 : decode cX3_put 6 = .ok (.aload_n 0, 1) := by decide +kernel
theorem dX3_put_7 : decode cX3_put 7 = .ok (.getfield 13, 3) := by decide +kernel
theorem dX3_put_10 : decode cX3_put 10 = .ok (.iload_n 1, 1) := by decide +kernel
theorem dX3_put_11 : decode cX3_put 11 = .ok (.iload_n 2, 1) := by decide +kernel
theorem dX3_put_12 : decode cX3_put 12 = .ok (.iastore, 1) := by decide +kernel
theorem dX3_put_13 : decode cX3_put 13 = .ok (.goto 32, 3) := by decide +kernel
theorem dX3_put_16 : decode cX3_put 16 = .ok (.iload_n 1, 1) := by decide +kernel
theorem dX3_put_17 : decode cX3_put 17 = .ok (.bipush 6, 2) := by decide +kernel
theorem dX3_put_19 : decode cX3_put 19 = .ok (.if_icmp .ne 16, 3) := by decide +kernel
theorem dX3_put_22 : decode cX3_put 22 = .ok (.aload_n 0, 1) := by decide +kernel
theorem dX3_put_23 : decode cX3_put 23 = .ok (.getfield 16, 3) := by decide +kernel
theorem dX3_put_26 : decode cX3_put 26 = .ok (.aload_n 0, 1) := by decide +kernel
theorem dX3_put_27 : decode cX3_put 27 = .ok (.invokevirtual 78, 3) := by decide +kernel
theorem dX3_put_30 : decode cX3_put 30 = .ok (.iload_n 2, 1) := by decide +kernel
theorem dX3_put_31 : decode cX3_put 31 = .ok (.iastore, 1) := by decide +kernel
theorem dX3_put_32 : decode cX3_put 32 = .ok (.goto 13, 3) := by decide +kernel
theorem dX3_put_35 : decode cX3_put 35 = .ok (.aload_n 0, 1) := by decide +kernel
theorem dX3_put_36 : decode cX3_put 36 = .ok (.getfield 19, 3) := by decide +kernel
theorem dX3_put_39 : decode cX3_put 39 = .ok (.aload_n 0, 1) := by decide +kernel
theorem dX3_put_40 : decode cX3_put 40 = .ok (.invokevirtual 78, 3) := by decide +kernel
theorem dX3_put_43 : decode cX3_put 43 = .ok (.iload_n 2, 1) := by decide +kernel
theorem dX3_put_44 : decode cX3_put 44 = .ok (.iastore, 1) := by decide +kernel
theorem dX3_put_45 : decode cX3_put 45 = .ok (.return_, 1) := by decide +kernel
abbrev cX3_poke : ByteArray := prog_5_method_3_code
abbrev yX3_poke : MethodName := ⟨"PageGuardsModel", "poke", "(II)I"⟩
abbrev wsX3_poke : List Cond := .code yX3_poke cX3_poke 4 (some .int) :: qT
theorem dX3_poke_0 : decode cX3_poke 0 = .ok (.iload_n 1, 1) := by decide +kernel
theorem dX3_poke_1 : decode cX3_poke 1 = .ok (.invokestatic 63, 3) := by decide +kernel
theorem dX3_poke_4 : decode cX3_poke 4 = .ok (.ifCond .ne 5, 3) := by decide +kernel
theorem dX3_poke_7 : decode cX3_poke 7 = .ok (.iconst 0, 1) := by decide +kernel
theorem dX3_poke_8 : decode cX3_poke 8 = .ok (.ireturn, 1) := by decide +kernel
theorem dX3_poke_9 : decode cX3_poke 9 = .ok (.aload_n 0, 1) := by decide +kernel
theorem dX3_poke_10 : decode cX3_poke 10 = .ok (.getfield 7, 3) := by decide +kernel
theorem dX3_poke_13 : decode cX3_poke 13 = .ok (.iload_n 1, 1) := by decide +kernel
theorem dX3_poke_14 : decode cX3_poke 14 = .ok (.iaload, 1) := by decide +kernel
theorem dX3_poke_15 : decode cX3_poke 15 = .ok (.istore_n 3, 1) := by decide +kernel
theorem dX3_poke_16 : decode cX3_poke 16 = .ok (.aload_n 0, 1) := by decide +kernel
theorem dX3_poke_17 : decode cX3_poke 17 = .ok (.getfield 7, 3) := by decide +kernel
theorem dX3_poke_20 : decode cX3_poke 20 = .ok (.iload_n 1, 1) := by decide +kernel
theorem dX3_poke_21 : decode cX3_poke 21 = .ok (.iload_n 2, 1) := by decide +kernel
theorem dX3_poke_22 : decode cX3_poke 22 = .ok (.iastore, 1) := by decide +kernel
theorem dX3_poke_23 : decode cX3_poke 23 = .ok (.iload_n 3, 1) := by decide +kernel
theorem dX3_poke_24 : decode cX3_poke 24 = .ok (.ireturn, 1) := by decide +kernel
abbrev cX3_fill : ByteArray := prog_5_method_4_code
abbrev yX3_fill : MethodName := ⟨"PageGuardsModel", "fill", "(IJJ)Z"⟩
abbrev wsX3_fill : List Cond := .code yX3_fill cX3_fill 7 (some .boolean) :: qT
theorem dX3_fill_0 : decode cX3_fill 0 = .ok (.iload_n 1, 1) := by decide +kernel
theorem dX3_fill_1 : decode cX3_fill 1 = .ok (.ifCond .lt 10, 3) := by decide +kernel
theorem dX3_fill_4 : decode cX3_fill 4 = .ok (.iload_n 1, 1) := by decide +kernel
theorem dX3_fill_5 : decode cX3_fill 5 = .ok (.sipush 508, 3) := by decide +kernel
theorem dX3_fill_8 : decode cX3_fill 8 = .ok (.if_icmp .le 5, 3) := by decide +kernel
theorem dX3_fill_11 : decode cX3_fill 11 = .ok (.iconst 0, 1) := by decide +kernel
theorem dX3_fill_12 : decode cX3_fill 12 = .ok (.ireturn, 1) := by decide +kernel
theorem dX3_fill_13 : decode cX3_fill 13 = .ok (.iconst 0, 1) := by decide +kernel
theorem dX3_fill_14 : decode cX3_fill 14 = .ok (.istore 6, 2) := by decide +kernel
theorem dX3_fill_16 : decode cX3_fill 16 = .ok (.iload 6, 2) := by decide +kernel
theorem dX3_fill_18 : decode cX3_fill 18 = .ok (.iconst 4, 1) := by decide +kernel
theorem dX3_fill_19 : decode cX3_fill 19 = .ok (.if_icmp .ge 47, 3) := by decide +kernel
theorem dX3_fill_22 : decode cX3_fill 22 = .ok (.aload_n 0, 1) := by decide +kernel
theorem dX3_fill_23 : decode cX3_fill 23 = .ok (.getfield 7, 3) := by decide +kernel
theorem dX3_fill_26 : decode cX3_fill 26 = .ok (.iload_n 1, 1) := by decide +kernel
theorem dX3_fill_27 : decode cX3_fill 27 = .ok (.iload 6, 2) := by decide +kernel
theorem dX3_fill_29 : decode cX3_fill 29 = .ok (.iadd, 1) := by decide +kernel
theorem dX3_fill_30 : decode cX3_fill 30 = .ok (.lload_n 2, 1) := by decide +kernel
theorem dX3_fill_31 : decode cX3_fill 31 = .ok (.bipush 16, 2) := by decide +kernel
theorem dX3_fill_33 : decode cX3_fill 33 = .ok (.iload 6, 2) := by decide +kernel
theorem dX3_fill_35 : decode cX3_fill 35 = .ok (.imul, 1) := by decide +kernel
theorem dX3_fill_36 : decode cX3_fill 36 = .ok (.lshr, 1) := by decide +kernel
theorem dX3_fill_37 : decode cX3_fill 37 = .ok (.ldc2_w 67, 3) := by decide +kernel
theorem dX3_fill_40 : decode cX3_fill 40 = .ok (.land, 1) := by decide +kernel
theorem dX3_fill_41 : decode cX3_fill 41 = .ok (.l2i, 1) := by decide +kernel
theorem dX3_fill_42 : decode cX3_fill 42 = .ok (.lload 4, 2) := by decide +kernel
theorem dX3_fill_44 : decode cX3_fill 44 = .ok (.bipush 16, 2) := by decide +kernel
theorem dX3_fill_46 : decode cX3_fill 46 = .ok (.iload 6, 2) := by decide +kernel
theorem dX3_fill_48 : decode cX3_fill 48 = .ok (.imul, 1) := by decide +kernel
theorem dX3_fill_49 : decode cX3_fill 49 = .ok (.lshr, 1) := by decide +kernel
theorem dX3_fill_50 : decode cX3_fill 50 = .ok (.ldc2_w 67, 3) := by decide +kernel
theorem dX3_fill_53 : decode cX3_fill 53 = .ok (.land, 1) := by decide +kernel
theorem dX3_fill_54 : decode cX3_fill 54 = .ok (.l2i, 1) := by decide +kernel
theorem dX3_fill_55 : decode cX3_fill 55 = .ok (.bipush 16, 2) := by decide +kernel
theorem dX3_fill_57 : decode cX3_fill 57 = .ok (.ishl, 1) := by decide +kernel
theorem dX3_fill_58 : decode cX3_fill 58 = .ok (.ior, 1) := by decide +kernel
theorem dX3_fill_59 : decode cX3_fill 59 = .ok (.iastore, 1) := by decide +kernel
theorem dX3_fill_60 : decode cX3_fill 60 = .ok (.iinc 6 1, 3) := by decide +kernel
theorem dX3_fill_63 : decode cX3_fill 63 = .ok (.goto (-47), 3) := by decide +kernel
theorem dX3_fill_66 : decode cX3_fill 66 = .ok (.iconst 1, 1) := by decide +kernel
theorem dX3_fill_67 : decode cX3_fill 67 = .ok (.ireturn, 1) := by decide +kernel
abbrev cX3_begin : ByteArray := prog_5_method_5_code
abbrev yX3_begin : MethodName := ⟨"PageGuardsModel", "begin", "(I)V"⟩
abbrev wsX3_begin : List Cond := .code yX3_begin cX3_begin 2 none :: qT
theorem dX3_begin_0 : decode cX3_begin 0 = .ok (.aload_n 0, 1) := by decide +kernel
theorem dX3_begin_1 : decode cX3_begin 1 = .ok (.iload_n 1, 1) := by decide +kernel
theorem dX3_begin_2 : decode cX3_begin 2 = .ok (.sipush 4095, 3) := by decide +kernel
theorem dX3_begin_5 : decode cX3_begin 5 = .ok (.iand, 1) := by decide +kernel
theorem dX3_begin_6 : decode cX3_begin 6 = .ok (.putfield 69, 3) := by decide +kernel
theorem dX3_begin_9 : decode cX3_begin 9 = .ok (.aload_n 0, 1) := by decide +kernel
theorem dX3_begin_10 : decode cX3_begin 10 = .ok (.bipush 25, 2) := by decide +kernel
theorem dX3_begin_12 : decode cX3_begin 12 = .ok (.putfield 28, 3) := by decide +kernel
theorem dX3_begin_15 : decode cX3_begin 15 = .ok (.aload_n 0, 1) := by decide +kernel
theorem dX3_begin_16 : decode cX3_begin 16 = .ok (.getfield 25, 3) := by decide +kernel
theorem dX3_begin_19 : decode cX3_begin 19 = .ok (.iconst 0, 1) := by decide +kernel
theorem dX3_begin_20 : decode cX3_begin 20 = .ok (.iconst 0, 1) := by decide +kernel
theorem dX3_begin_21 : decode cX3_begin 21 = .ok (.iastore, 1) := by decide +kernel
theorem dX3_begin_22 : decode cX3_begin 22 = .ok (.aload_n 0, 1) := by decide +kernel
theorem dX3_begin_23 : decode cX3_begin 23 = .ok (.iconst 0, 1) := by decide +kernel
theorem dX3_begin_24 : decode cX3_begin 24 = .ok (.putfield 72, 3) := by decide +kernel
theorem dX3_begin_27 : decode cX3_begin 27 = .ok (.aload_n 0, 1) := by decide +kernel
theorem dX3_begin_28 : decode cX3_begin 28 = .ok (.iconst 0, 1) := by decide +kernel
theorem dX3_begin_29 : decode cX3_begin 29 = .ok (.putfield 75, 3) := by decide +kernel
theorem dX3_begin_32 : decode cX3_begin 32 = .ok (.aload_n 0, 1) := by decide +kernel
theorem dX3_begin_33 : decode cX3_begin 33 = .ok (.iconst 0, 1) := by decide +kernel
theorem dX3_begin_34 : decode cX3_begin 34 = .ok (.putfield 32, 3) := by decide +kernel
theorem dX3_begin_37 : decode cX3_begin 37 = .ok (.return_, 1) := by decide +kernel
abbrev cX3_set : ByteArray := prog_5_method_9_code
abbrev yX3_set : MethodName := ⟨"PageGuardsModel", "set", "(II)Z"⟩
abbrev wsX3_set : List Cond := .code yX3_set cX3_set 3 (some .boolean) :: qT
theorem dX3_set_0 : decode cX3_set 0 = .ok (.iload_n 1, 1) := by decide +kernel
theorem dX3_set_1 : decode cX3_set 1 = .ok (.ifCond .lt 9, 3) := by decide +kernel
theorem dX3_set_4 : decode cX3_set 4 = .ok (.iload_n 1, 1) := by decide +kernel
theorem dX3_set_5 : decode cX3_set 5 = .ok (.bipush 7, 2) := by decide +kernel
theorem dX3_set_7 : decode cX3_set 7 = .ok (.if_icmp .le 5, 3) := by decide +kernel
theorem dX3_set_10 : decode cX3_set 10 = .ok (.iconst 0, 1) := by decide +kernel
theorem dX3_set_11 : decode cX3_set 11 = .ok (.ireturn, 1) := by decide +kernel
theorem dX3_set_12 : decode cX3_set 12 = .ok (.aload_n 0, 1) := by decide +kernel
theorem dX3_set_13 : decode cX3_set 13 = .ok (.iload_n 1, 1) := by decide +kernel
theorem dX3_set_14 : decode cX3_set 14 = .ok (.iload_n 2, 1) := by decide +kernel
theorem dX3_set_15 : decode cX3_set 15 = .ok (.invokevirtual 82, 3) := by decide +kernel
theorem dX3_set_18 : decode cX3_set 18 = .ok (.iconst 1, 1) := by decide +kernel
theorem dX3_set_19 : decode cX3_set 19 = .ok (.ireturn, 1) := by decide +kernel
abbrev cX3_line : ByteArray := prog_5_method_10_code
abbrev yX3_line : MethodName := ⟨"PageGuardsModel", "line", "(IZ)Z"⟩
abbrev wsX3_line : List Cond := .code yX3_line cX3_line 3 (some .boolean) :: qT
theorem dX3_line_0 : decode cX3_line 0 = .ok (.iload_n 1, 1) := by decide +kernel
theorem dX3_line_1 : decode cX3_line 1 = .ok (.ifCond .lt 8, 3) := by decide +kernel
theorem dX3_line_4 : decode cX3_line 4 = .ok (.iload_n 1, 1) := by decide +kernel
theorem dX3_line_5 : decode cX3_line 5 = .ok (.iconst 3, 1) := by decide +kernel
theorem dX3_line_6 : decode cX3_line 6 = .ok (.if_icmp .le 5, 3) := by decide +kernel
theorem dX3_line_9 : decode cX3_line 9 = .ok (.iconst 0, 1) := by decide +kernel
theorem dX3_line_10 : decode cX3_line 10 = .ok (.ireturn, 1) := by decide +kernel
theorem dX3_line_11 : decode cX3_line 11 = .ok (.aload_n 0, 1) := by decide +kernel
theorem dX3_line_12 : decode cX3_line 12 = .ok (.iload_n 2, 1) := by decide +kernel
theorem dX3_line_13 : decode cX3_line 13 = .ok (.ifCond .eq 14, 3) := by decide +kernel
theorem dX3_line_16 : decode cX3_line 16 = .ok (.aload_n 0, 1) := by decide +kernel
theorem dX3_line_17 : decode cX3_line 17 = .ok (.getfield 86, 3) := by decide +kernel
theorem dX3_line_20 : decode cX3_line 20 = .ok (.iconst 1, 1) := by decide +kernel
theorem dX3_line_21 : decode cX3_line 21 = .ok (.iload_n 1, 1) := by decide +kernel
theorem dX3_line_22 : decode cX3_line 22 = .ok (.ishl, 1) := by decide +kernel
theorem dX3_line_23 : decode cX3_line 23 = .ok (.ior, 1) := by decide +kernel
theorem dX3_line_24 : decode cX3_line 24 = .ok (.goto 13, 3) := by decide +kernel
theorem dX3_line_27 : decode cX3_line 27 = .ok (.aload_n 0, 1) := by decide +kernel
theorem dX3_line_28 : decode cX3_line 28 = .ok (.getfield 86, 3) := by decide +kernel
theorem dX3_line_31 : decode cX3_line 31 = .ok (.iconst 1, 1) := by decide +kernel
theorem dX3_line_32 : decode cX3_line 32 = .ok (.iload_n 1, 1) := by decide +kernel
theorem dX3_line_33 : decode cX3_line 33 = .ok (.ishl, 1) := by decide +kernel
theorem dX3_line_34 : decode cX3_line 34 = .ok (.iconst (-1), 1) := by decide +kernel
theorem dX3_line_35 : decode cX3_line 35 = .ok (.ixor, 1) := by decide +kernel
theorem dX3_line_36 : decode cX3_line 36 = .ok (.iand, 1) := by decide +kernel
theorem dX3_line_37 : decode cX3_line 37 = .ok (.putfield 86, 3) := by decide +kernel
theorem dX3_line_40 : decode cX3_line 40 = .ok (.iconst 1, 1) := by decide +kernel
theorem dX3_line_41 : decode cX3_line 41 = .ok (.ireturn, 1) := by decide +kernel
abbrev cX3_run : ByteArray := prog_5_method_36_code
abbrev yX3_run : MethodName := ⟨"PageGuardsModel", "run", "(I)I"⟩
abbrev wsX3_run : List Cond := .code yX3_run cX3_run 3 (some .int) :: qT
theorem dX3_run_0 : decode cX3_run 0 = .ok (.iload_n 1, 1) := by decide +kernel
theorem dX3_run_1 : decode cX3_run 1 = .ok (.ifCond .lt 10, 3) := by decide +kernel
theorem dX3_run_4 : decode cX3_run 4 = .ok (.iload_n 1, 1) := by decide +kernel
theorem dX3_run_5 : decode cX3_run 5 = .ok (.sipush 300, 3) := by decide +kernel
theorem dX3_run_8 : decode cX3_run 8 = .ok (.if_icmp .le 5, 3) := by decide +kernel
theorem dX3_run_11 : decode cX3_run 11 = .ok (.iconst (-1), 1) := by decide +kernel
theorem dX3_run_12 : decode cX3_run 12 = .ok (.ireturn, 1) := by decide +kernel
theorem dX3_run_13 : decode cX3_run 13 = .ok (.iconst 0, 1) := by decide +kernel
theorem dX3_run_14 : decode cX3_run 14 = .ok (.istore_n 2, 1) := by decide +kernel
theorem dX3_run_15 : decode cX3_run 15 = .ok (.iload_n 2, 1) := by decide +kernel
theorem dX3_run_16 : decode cX3_run 16 = .ok (.iload_n 1, 1) := by decide +kernel
theorem dX3_run_17 : decode cX3_run 17 = .ok (.if_icmp .ge 20, 3) := by decide +kernel
theorem dX3_run_20 : decode cX3_run 20 = .ok (.aload_n 0, 1) := by decide +kernel
theorem dX3_run_21 : decode cX3_run 21 = .ok (.getfield 32, 3) := by decide +kernel
theorem dX3_run_24 : decode cX3_run 24 = .ok (.ifCond .ne 13, 3) := by decide +kernel
theorem dX3_run_27 : decode cX3_run 27 = .ok (.aload_n 0, 1) := by decide +kernel
theorem dX3_run_28 : decode cX3_run 28 = .ok (.invokevirtual 181, 3) := by decide +kernel
theorem dX3_run_31 : decode cX3_run 31 = .ok (.iinc 2 1, 3) := by decide +kernel
theorem dX3_run_34 : decode cX3_run 34 = .ok (.goto (-19), 3) := by decide +kernel
theorem dX3_run_37 : decode cX3_run 37 = .ok (.iload_n 2, 1) := by decide +kernel
theorem dX3_run_38 : decode cX3_run 38 = .ok (.ireturn, 1) := by decide +kernel
abbrev cX3_word : ByteArray := prog_5_method_37_code
abbrev yX3_word : MethodName := ⟨"PageGuardsModel", "word", "(I)I"⟩
abbrev wsX3_word : List Cond := .code yX3_word cX3_word 2 (some .int) :: qT
theorem dX3_word_0 : decode cX3_word 0 = .ok (.iload_n 1, 1) := by decide +kernel
theorem dX3_word_1 : decode cX3_word 1 = .ok (.invokestatic 63, 3) := by decide +kernel
theorem dX3_word_4 : decode cX3_word 4 = .ok (.ifCond .eq 12, 3) := by decide +kernel
theorem dX3_word_7 : decode cX3_word 7 = .ok (.aload_n 0, 1) := by decide +kernel
theorem dX3_word_8 : decode cX3_word 8 = .ok (.getfield 7, 3) := by decide +kernel
theorem dX3_word_11 : decode cX3_word 11 = .ok (.iload_n 1, 1) := by decide +kernel
theorem dX3_word_12 : decode cX3_word 12 = .ok (.iaload, 1) := by decide +kernel
theorem dX3_word_13 : decode cX3_word 13 = .ok (.goto 4, 3) := by decide +kernel
theorem dX3_word_16 : decode cX3_word 16 = .ok (.iconst (-1), 1) := by decide +kernel
theorem dX3_word_17 : decode cX3_word 17 = .ok (.ireturn, 1) := by decide +kernel
abbrev cX3_state : ByteArray := prog_5_method_38_code
abbrev yX3_state : MethodName := ⟨"PageGuardsModel", "state", "(I)I"⟩
abbrev wsX3_state : List Cond := .code yX3_state cX3_state 2 (some .int) :: qT
theorem dX3_state_0 : decode cX3_state 0 = .ok (.iload_n 1, 1) := by decide +kernel
theorem dX3_state_1 : decode cX3_state 1 = .ok (.ifCond .lt 15, 3) := by decide +kernel
theorem dX3_state_4 : decode cX3_state 4 = .ok (.iload_n 1, 1) := by decide +kernel
theorem dX3_state_5 : decode cX3_state 5 = .ok (.bipush 8, 2) := by decide +kernel
theorem dX3_state_7 : decode cX3_state 7 = .ok (.if_icmp .ge 9, 3) := by decide +kernel
theorem dX3_state_10 : decode cX3_state 10 = .ok (.aload_n 0, 1) := by decide +kernel
theorem dX3_state_11 : decode cX3_state 11 = .ok (.iload_n 1, 1) := by decide +kernel
theorem dX3_state_12 : decode cX3_state 12 = .ok (.invokevirtual 138, 3) := by decide +kernel
theorem dX3_state_15 : decode cX3_state 15 = .ok (.ireturn, 1) := by decide +kernel
theorem dX3_state_16 : decode cX3_state 16 = .ok (.iload_n 1, 1) := by decide +kernel
theorem dX3_state_17 : decode cX3_state 17 = .ok (.bipush 20, 2) := by decide +kernel
theorem dX3_state_19 : decode cX3_state 19 = .ok (.if_icmp .lt 19, 3) := by decide +kernel
theorem dX3_state_22 : decode cX3_state 22 = .ok (.iload_n 1, 1) := by decide +kernel
theorem dX3_state_23 : decode cX3_state 23 = .ok (.bipush 32, 2) := by decide +kernel
theorem dX3_state_25 : decode cX3_state 25 = .ok (.if_icmp .ge 13, 3) := by decide +kernel
theorem dX3_state_28 : decode cX3_state 28 = .ok (.aload_n 0, 1) := by decide +kernel
theorem dX3_state_29 : decode cX3_state 29 = .ok (.getfield 25, 3) := by decide +kernel
theorem dX3_state_32 : decode cX3_state 32 = .ok (.iload_n 1, 1) := by decide +kernel
theorem dX3_state_33 : decode cX3_state 33 = .ok (.bipush 20, 2) := by decide +kernel
theorem dX3_state_35 : decode cX3_state 35 = .ok (.isub, 1) := by decide +kernel
theorem dX3_state_36 : decode cX3_state 36 = .ok (.iaload, 1) := by decide +kernel
theorem dX3_state_37 : decode cX3_state 37 = .ok (.ireturn, 1) := by decide +kernel
theorem dX3_state_38 : decode cX3_state 38 = .ok (.iload_n 1, 1) := by decide +kernel
theorem dX3_state_39 : decode cX3_state 39 = .ok (.tableswitch 111 8 14 #[41, 46, 51, 72, 96, 101, 106], 41) := by decide +kernel
theorem dX3_state_80 : decode cX3_state 80 = .ok (.aload_n 0, 1) := by decide +kernel
theorem dX3_state_81 : decode cX3_state 81 = .ok (.getfield 69, 3) := by decide +kernel
theorem dX3_state_84 : decode cX3_state 84 = .ok (.ireturn, 1) := by decide +kernel
theorem dX3_state_85 : decode cX3_state 85 = .ok (.aload_n 0, 1) := by decide +kernel
theorem dX3_state_86 : decode cX3_state 86 = .ok (.getfield 28, 3) := by decide +kernel
theorem dX3_state_89 : decode cX3_state 89 = .ok (.ireturn, 1) := by decide +kernel
theorem dX3_state_90 : decode cX3_state 90 = .ok (.aload_n 0, 1) := by decide +kernel
theorem dX3_state_91 : decode cX3_state 91 = .ok (.invokevirtual 78, 3) := by decide +kernel
theorem dX3_state_94 : decode cX3_state 94 = .ok (.ifCond .ne 7, 3) := by decide +kernel
theorem dX3_state_97 : decode cX3_state 97 = .ok (.iconst 0, 1) := by decide +kernel
theorem dX3_state_98 : decode cX3_state 98 = .ok (.goto 12, 3) := by decide +kernel
theorem dX3_state_101 : decode cX3_state 101 = .ok (.aload_n 0, 1) := by decide +kernel
theorem dX3_state_102 : decode cX3_state 102 = .ok (.getfield 22, 3) := by decide +kernel
theorem dX3_state_105 : decode cX3_state 105 = .ok (.aload_n 0, 1) := by decide +kernel
theorem dX3_state_106 : decode cX3_state 106 = .ok (.invokevirtual 78, 3) := by decide +kernel
theorem dX3_state_109 : decode cX3_state 109 = .ok (.iaload, 1) := by decide +kernel
theorem dX3_state_110 : decode cX3_state 110 = .ok (.ireturn, 1) := by decide +kernel
theorem dX3_state_111 : decode cX3_state 111 = .ok (.aload_n 0, 1) := by decide +kernel
theorem dX3_state_112 : decode cX3_state 112 = .ok (.getfield 32, 3) := by decide +kernel
theorem dX3_state_115 : decode cX3_state 115 = .ok (.ifCond .eq 7, 3) := by decide +kernel
theorem dX3_state_118 : decode cX3_state 118 = .ok (.iconst 2, 1) := by decide +kernel
theorem dX3_state_119 : decode cX3_state 119 = .ok (.goto 15, 3) := by decide +kernel
theorem dX3_state_122 : decode cX3_state 122 = .ok (.aload_n 0, 1) := by decide +kernel
theorem dX3_state_123 : decode cX3_state 123 = .ok (.getfield 75, 3) := by decide +kernel
theorem dX3_state_126 : decode cX3_state 126 = .ok (.ifCond .eq 7, 3) := by decide +kernel
theorem dX3_state_129 : decode cX3_state 129 = .ok (.iconst 1, 1) := by decide +kernel
theorem dX3_state_130 : decode cX3_state 130 = .ok (.goto 4, 3) := by decide +kernel
theorem dX3_state_133 : decode cX3_state 133 = .ok (.iconst 0, 1) := by decide +kernel
theorem dX3_state_134 : decode cX3_state 134 = .ok (.ireturn, 1) := by decide +kernel
theorem dX3_state_135 : decode cX3_state 135 = .ok (.aload_n 0, 1) := by decide +kernel
theorem dX3_state_136 : decode cX3_state 136 = .ok (.getfield 86, 3) := by decide +kernel
theorem dX3_state_139 : decode cX3_state 139 = .ok (.ireturn, 1) := by decide +kernel
theorem dX3_state_140 : decode cX3_state 140 = .ok (.aload_n 0, 1) := by decide +kernel
theorem dX3_state_141 : decode cX3_state 141 = .ok (.getfield 72, 3) := by decide +kernel
theorem dX3_state_144 : decode cX3_state 144 = .ok (.ireturn, 1) := by decide +kernel
theorem dX3_state_145 : decode cX3_state 145 = .ok (.aload_n 0, 1) := by decide +kernel
theorem dX3_state_146 : decode cX3_state 146 = .ok (.getfield 102, 3) := by decide +kernel
theorem dX3_state_149 : decode cX3_state 149 = .ok (.ireturn, 1) := by decide +kernel
theorem dX3_state_150 : decode cX3_state 150 = .ok (.iconst (-1), 1) := by decide +kernel
theorem dX3_state_151 : decode cX3_state 151 = .ok (.ireturn, 1) := by decide +kernel
abbrev cX3_entry : ByteArray := prog_5_method_39_code
abbrev yX3_entry : MethodName := ⟨"PageGuardsModel", "entry", "(II)I"⟩
abbrev wsX3_entry : List Cond := .code yX3_entry cX3_entry 3 (some .int) :: qT
theorem dX3_entry_0 : decode cX3_entry 0 = .ok (.iload_n 1, 1) := by decide +kernel
theorem dX3_entry_1 : decode cX3_entry 1 = .ok (.ifCond .lt 11, 3) := by decide +kernel
theorem dX3_entry_4 : decode cX3_entry 4 = .ok (.iload_n 1, 1) := by decide +kernel
theorem dX3_entry_5 : decode cX3_entry 5 = .ok (.aload_n 0, 1) := by decide +kernel
theorem dX3_entry_6 : decode cX3_entry 6 = .ok (.getfield 72, 3) := by decide +kernel
theorem dX3_entry_9 : decode cX3_entry 9 = .ok (.if_icmp .lt 5, 3) := by decide +kernel
theorem dX3_entry_12 : decode cX3_entry 12 = .ok (.iconst (-1), 1) := by decide +kernel
theorem dX3_entry_13 : decode cX3_entry 13 = .ok (.ireturn, 1) := by decide +kernel
theorem dX3_entry_14 : decode cX3_entry 14 = .ok (.iload_n 2, 1) := by decide +kernel
theorem dX3_entry_15 : decode cX3_entry 15 = .ok (.tableswitch 90 0 6 #[41, 48, 55, 62, 69, 76, 83], 41) := by decide +kernel
theorem dX3_entry_56 : decode cX3_entry 56 = .ok (.aload_n 0, 1) := by decide +kernel
theorem dX3_entry_57 : decode cX3_entry 57 = .ok (.getfield 36, 3) := by decide +kernel
theorem dX3_entry_60 : decode cX3_entry 60 = .ok (.iload_n 1, 1) := by decide +kernel
theorem dX3_entry_61 : decode cX3_entry 61 = .ok (.iaload, 1) := by decide +kernel
theorem dX3_entry_62 : decode cX3_entry 62 = .ok (.ireturn, 1) := by decide +kernel
theorem dX3_entry_63 : decode cX3_entry 63 = .ok (.aload_n 0, 1) := by decide +kernel
theorem dX3_entry_64 : decode cX3_entry 64 = .ok (.getfield 39, 3) := by decide +kernel
theorem dX3_entry_67 : decode cX3_entry 67 = .ok (.iload_n 1, 1) := by decide +kernel
theorem dX3_entry_68 : decode cX3_entry 68 = .ok (.iaload, 1) := by decide +kernel
theorem dX3_entry_69 : decode cX3_entry 69 = .ok (.ireturn, 1) := by decide +kernel
theorem dX3_entry_70 : decode cX3_entry 70 = .ok (.aload_n 0, 1) := by decide +kernel
theorem dX3_entry_71 : decode cX3_entry 71 = .ok (.getfield 42, 3) := by decide +kernel
theorem dX3_entry_74 : decode cX3_entry 74 = .ok (.iload_n 1, 1) := by decide +kernel
theorem dX3_entry_75 : decode cX3_entry 75 = .ok (.iaload, 1) := by decide +kernel
theorem dX3_entry_76 : decode cX3_entry 76 = .ok (.ireturn, 1) := by decide +kernel
theorem dX3_entry_77 : decode cX3_entry 77 = .ok (.aload_n 0, 1) := by decide +kernel
theorem dX3_entry_78 : decode cX3_entry 78 = .ok (.getfield 45, 3) := by decide +kernel
theorem dX3_entry_81 : decode cX3_entry 81 = .ok (.iload_n 1, 1) := by decide +kernel
theorem dX3_entry_82 : decode cX3_entry 82 = .ok (.iaload, 1) := by decide +kernel
theorem dX3_entry_83 : decode cX3_entry 83 = .ok (.ireturn, 1) := by decide +kernel
theorem dX3_entry_84 : decode cX3_entry 84 = .ok (.aload_n 0, 1) := by decide +kernel
theorem dX3_entry_85 : decode cX3_entry 85 = .ok (.getfield 48, 3) := by decide +kernel
theorem dX3_entry_88 : decode cX3_entry 88 = .ok (.iload_n 1, 1) := by decide +kernel
theorem dX3_entry_89 : decode cX3_entry 89 = .ok (.iaload, 1) := by decide +kernel
theorem dX3_entry_90 : decode cX3_entry 90 = .ok (.ireturn, 1) := by decide +kernel
theorem dX3_entry_91 : decode cX3_entry 91 = .ok (.aload_n 0, 1) := by decide +kernel
theorem dX3_entry_92 : decode cX3_entry 92 = .ok (.getfield 51, 3) := by decide +kernel
theorem dX3_entry_95 : decode cX3_entry 95 = .ok (.iload_n 1, 1) := by decide +kernel
theorem dX3_entry_96 : decode cX3_entry 96 = .ok (.iaload, 1) := by decide +kernel
theorem dX3_entry_97 : decode cX3_entry 97 = .ok (.ireturn, 1) := by decide +kernel
theorem dX3_entry_98 : decode cX3_entry 98 = .ok (.aload_n 0, 1) := by decide +kernel
theorem dX3_entry_99 : decode cX3_entry 99 = .ok (.getfield 54, 3) := by decide +kernel
theorem dX3_entry_102 : decode cX3_entry 102 = .ok (.iload_n 1, 1) := by decide +kernel
theorem dX3_entry_103 : decode cX3_entry 103 = .ok (.iaload, 1) := by decide +kernel
theorem dX3_entry_104 : decode cX3_entry 104 = .ok (.ireturn, 1) := by decide +kernel
theorem dX3_entry_105 : decode cX3_entry 105 = .ok (.iconst (-1), 1) := by decide +kernel
theorem dX3_entry_106 : decode cX3_entry 106 = .ok (.ireturn, 1) := by decide +kernel
abbrev cX3_init : ByteArray := prog_5_method_1_code
abbrev yX3_init : MethodName := ⟨"PageGuardsModel", "<init>", "(I)V"⟩
abbrev wsX3_init : List Cond := .code yX3_init cX3_init 2 none :: qT
theorem dX3_init_0 : decode cX3_init 0 = .ok (.aload_n 0, 1) := by decide +kernel
theorem dX3_init_1 : decode cX3_init 1 = .ok (.invokespecial 1, 3) := by decide +kernel
theorem dX3_init_4 : decode cX3_init 4 = .ok (.aload_n 0, 1) := by decide +kernel
theorem dX3_init_5 : decode cX3_init 5 = .ok (.sipush 512, 3) := by decide +kernel
theorem dX3_init_8 : decode cX3_init 8 = .ok (.newarray .int, 2) := by decide +kernel
theorem dX3_init_10 : decode cX3_init 10 = .ok (.putfield 7, 3) := by decide +kernel
theorem dX3_init_13 : decode cX3_init 13 = .ok (.aload_n 0, 1) := by decide +kernel
theorem dX3_init_14 : decode cX3_init 14 = .ok (.bipush 6, 2) := by decide +kernel
theorem dX3_init_16 : decode cX3_init 16 = .ok (.newarray .int, 2) := by decide +kernel
theorem dX3_init_18 : decode cX3_init 18 = .ok (.putfield 13, 3) := by decide +kernel
theorem dX3_init_21 : decode cX3_init 21 = .ok (.aload_n 0, 1) := by decide +kernel
theorem dX3_init_22 : decode cX3_init 22 = .ok (.bipush 6, 2) := by decide +kernel
theorem dX3_init_24 : decode cX3_init 24 = .ok (.newarray .int, 2) := by decide +kernel
theorem dX3_init_26 : decode cX3_init 26 = .ok (.putfield 16, 3) := by decide +kernel
theorem dX3_init_29 : decode cX3_init 29 = .ok (.aload_n 0, 1) := by decide +kernel
theorem dX3_init_30 : decode cX3_init 30 = .ok (.bipush 6, 2) := by decide +kernel
theorem dX3_init_32 : decode cX3_init 32 = .ok (.newarray .int, 2) := by decide +kernel
theorem dX3_init_34 : decode cX3_init 34 = .ok (.putfield 19, 3) := by decide +kernel
theorem dX3_init_37 : decode cX3_init 37 = .ok (.aload_n 0, 1) := by decide +kernel
theorem dX3_init_38 : decode cX3_init 38 = .ok (.bipush 6, 2) := by decide +kernel
theorem dX3_init_40 : decode cX3_init 40 = .ok (.newarray .int, 2) := by decide +kernel
theorem dX3_init_42 : decode cX3_init 42 = .ok (.putfield 22, 3) := by decide +kernel
theorem dX3_init_45 : decode cX3_init 45 = .ok (.aload_n 0, 1) := by decide +kernel
theorem dX3_init_46 : decode cX3_init 46 = .ok (.bipush 12, 2) := by decide +kernel
theorem dX3_init_48 : decode cX3_init 48 = .ok (.newarray .int, 2) := by decide +kernel
theorem dX3_init_50 : decode cX3_init 50 = .ok (.putfield 25, 3) := by decide +kernel
theorem dX3_init_53 : decode cX3_init 53 = .ok (.aload_n 0, 1) := by decide +kernel
theorem dX3_init_54 : decode cX3_init 54 = .ok (.bipush 25, 2) := by decide +kernel
theorem dX3_init_56 : decode cX3_init 56 = .ok (.putfield 28, 3) := by decide +kernel
theorem dX3_init_59 : decode cX3_init 59 = .ok (.aload_n 0, 1) := by decide +kernel
theorem dX3_init_60 : decode cX3_init 60 = .ok (.iconst 1, 1) := by decide +kernel
theorem dX3_init_61 : decode cX3_init 61 = .ok (.putfield 32, 3) := by decide +kernel
theorem dX3_init_64 : decode cX3_init 64 = .ok (.aload_n 0, 1) := by decide +kernel
theorem dX3_init_65 : decode cX3_init 65 = .ok (.bipush 8, 2) := by decide +kernel
theorem dX3_init_67 : decode cX3_init 67 = .ok (.newarray .int, 2) := by decide +kernel
theorem dX3_init_69 : decode cX3_init 69 = .ok (.putfield 36, 3) := by decide +kernel
theorem dX3_init_72 : decode cX3_init 72 = .ok (.aload_n 0, 1) := by decide +kernel
theorem dX3_init_73 : decode cX3_init 73 = .ok (.bipush 8, 2) := by decide +kernel
theorem dX3_init_75 : decode cX3_init 75 = .ok (.newarray .int, 2) := by decide +kernel
theorem dX3_init_77 : decode cX3_init 77 = .ok (.putfield 39, 3) := by decide +kernel
theorem dX3_init_80 : decode cX3_init 80 = .ok (.aload_n 0, 1) := by decide +kernel
theorem dX3_init_81 : decode cX3_init 81 = .ok (.bipush 8, 2) := by decide +kernel
theorem dX3_init_83 : decode cX3_init 83 = .ok (.newarray .int, 2) := by decide +kernel
theorem dX3_init_85 : decode cX3_init 85 = .ok (.putfield 42, 3) := by decide +kernel
theorem dX3_init_88 : decode cX3_init 88 = .ok (.aload_n 0, 1) := by decide +kernel
theorem dX3_init_89 : decode cX3_init 89 = .ok (.bipush 8, 2) := by decide +kernel
theorem dX3_init_91 : decode cX3_init 91 = .ok (.newarray .int, 2) := by decide +kernel
theorem dX3_init_93 : decode cX3_init 93 = .ok (.putfield 45, 3) := by decide +kernel
theorem dX3_init_96 : decode cX3_init 96 = .ok (.aload_n 0, 1) := by decide +kernel
theorem dX3_init_97 : decode cX3_init 97 = .ok (.bipush 8, 2) := by decide +kernel
theorem dX3_init_99 : decode cX3_init 99 = .ok (.newarray .int, 2) := by decide +kernel
theorem dX3_init_101 : decode cX3_init 101 = .ok (.putfield 48, 3) := by decide +kernel
theorem dX3_init_104 : decode cX3_init 104 = .ok (.aload_n 0, 1) := by decide +kernel
theorem dX3_init_105 : decode cX3_init 105 = .ok (.bipush 8, 2) := by decide +kernel
theorem dX3_init_107 : decode cX3_init 107 = .ok (.newarray .int, 2) := by decide +kernel
theorem dX3_init_109 : decode cX3_init 109 = .ok (.putfield 51, 3) := by decide +kernel
theorem dX3_init_112 : decode cX3_init 112 = .ok (.aload_n 0, 1) := by decide +kernel
theorem dX3_init_113 : decode cX3_init 113 = .ok (.bipush 8, 2) := by decide +kernel
theorem dX3_init_115 : decode cX3_init 115 = .ok (.newarray .int, 2) := by decide +kernel
theorem dX3_init_117 : decode cX3_init 117 = .ok (.putfield 54, 3) := by decide +kernel
theorem dX3_init_120 : decode cX3_init 120 = .ok (.aload_n 0, 1) := by decide +kernel
theorem dX3_init_121 : decode cX3_init 121 = .ok (.bipush 8, 2) := by decide +kernel
theorem dX3_init_123 : decode cX3_init 123 = .ok (.newarray .int, 2) := by decide +kernel
theorem dX3_init_125 : decode cX3_init 125 = .ok (.putfield 57, 3) := by decide +kernel
theorem dX3_init_128 : decode cX3_init 128 = .ok (.aload_n 0, 1) := by decide +kernel
theorem dX3_init_129 : decode cX3_init 129 = .ok (.iload_n 1, 1) := by decide +kernel
theorem dX3_init_130 : decode cX3_init 130 = .ok (.ifCond .eq 7, 3) := by decide +kernel
theorem dX3_init_133 : decode cX3_init 133 = .ok (.iconst 1, 1) := by decide +kernel
theorem dX3_init_134 : decode cX3_init 134 = .ok (.goto 4, 3) := by decide +kernel
theorem dX3_init_137 : decode cX3_init 137 = .ok (.iconst 0, 1) := by decide +kernel
theorem dX3_init_138 : decode cX3_init 138 = .ok (.putfield 60, 3) := by decide +kernel
theorem dX3_init_141 : decode cX3_init 141 = .ok (.return_, 1) := by decide +kernel
end
section
abbrev cL_cell : ByteArray := method_2_code
abbrev yL_cell : MethodName := ⟨"PageGuardsLaw", "cell", "([II)I"⟩
abbrev wsL_cell : List Cond := .code yL_cell cL_cell 2 (some .int) :: qT
theorem dL_cell_0 : decode cL_cell 0 = .ok (.iload_n 1, 1) := by decide +kernel
theorem dL_cell_1 : decode cL_cell 1 = .ok (.aload_n 0, 1) := by decide +kernel
theorem dL_cell_2 : decode cL_cell 2 = .ok (.arraylength, 1) := by decide +kernel
theorem dL_cell_3 : decode cL_cell 3 = .ok (.if_icmp .ge 9, 3) := by decide +kernel
theorem dL_cell_6 : decode cL_cell 6 = .ok (.aload_n 0, 1) := by decide +kernel
theorem dL_cell_7 : decode cL_cell 7 = .ok (.iload_n 1, 1) := by decide +kernel
theorem dL_cell_8 : decode cL_cell 8 = .ok (.iaload, 1) := by decide +kernel
theorem dL_cell_9 : decode cL_cell 9 = .ok (.goto 4, 3) := by decide +kernel
theorem dL_cell_12 : decode cL_cell 12 = .ok (.iconst 0, 1) := by decide +kernel
theorem dL_cell_13 : decode cL_cell 13 = .ok (.ireturn, 1) := by decide +kernel
abbrev cL_law : ByteArray := code
theorem dL_law_0 : decode cL_law 0 = .ok (.new 7, 3) := by decide +kernel
theorem dL_law_3 : decode cL_law 3 = .ok (.dup, 1) := by decide +kernel
theorem dL_law_4 : decode cL_law 4 = .ok (.aload_n 0, 1) := by decide +kernel
theorem dL_law_5 : decode cL_law 5 = .ok (.iconst 0, 1) := by decide +kernel
theorem dL_law_6 : decode cL_law 6 = .ok (.invokestatic 9, 3) := by decide +kernel
theorem dL_law_9 : decode cL_law 9 = .ok (.invokespecial 15, 3) := by decide +kernel
theorem dL_law_12 : decode cL_law 12 = .ok (.astore_n 1, 1) := by decide +kernel
theorem dL_law_13 : decode cL_law 13 = .ok (.new 18, 3) := by decide +kernel
theorem dL_law_16 : decode cL_law 16 = .ok (.dup, 1) := by decide +kernel
theorem dL_law_17 : decode cL_law 17 = .ok (.aload_n 0, 1) := by decide +kernel
theorem dL_law_18 : decode cL_law 18 = .ok (.iconst 0, 1) := by decide +kernel
theorem dL_law_19 : decode cL_law 19 = .ok (.invokestatic 9, 3) := by decide +kernel
theorem dL_law_22 : decode cL_law 22 = .ok (.invokespecial 20, 3) := by decide +kernel
theorem dL_law_25 : decode cL_law 25 = .ok (.astore_n 2, 1) := by decide +kernel
theorem dL_law_26 : decode cL_law 26 = .ok (.iconst 1, 1) := by decide +kernel
theorem dL_law_27 : decode cL_law 27 = .ok (.istore_n 3, 1) := by decide +kernel
theorem dL_law_28 : decode cL_law 28 = .ok (.iload_n 3, 1) := by decide +kernel
theorem dL_law_29 : decode cL_law 29 = .ok (.aload_n 0, 1) := by decide +kernel
theorem dL_law_30 : decode cL_law 30 = .ok (.arraylength, 1) := by decide +kernel
theorem dL_law_31 : decode cL_law 31 = .ok (.bipush 6, 2) := by decide +kernel
theorem dL_law_33 : decode cL_law 33 = .ok (.isub, 1) := by decide +kernel
theorem dL_law_34 : decode cL_law 34 = .ok (.if_icmp .gt 405, 3) := by decide +kernel
theorem dL_law_37 : decode cL_law 37 = .ok (.aload_n 0, 1) := by decide +kernel
theorem dL_law_38 : decode cL_law 38 = .ok (.iload_n 3, 1) := by decide +kernel
theorem dL_law_39 : decode cL_law 39 = .ok (.iaload, 1) := by decide +kernel
theorem dL_law_40 : decode cL_law 40 = .ok (.bipush 15, 2) := by decide +kernel
theorem dL_law_42 : decode cL_law 42 = .ok (.iand, 1) := by decide +kernel
theorem dL_law_43 : decode cL_law 43 = .ok (.tableswitch 390 0 8 #[49, 82, 185, 206, 239, 288, 311, 334, 357], 49) := by decide +kernel
theorem dL_law_92 : decode cL_law 92 = .ok (.aload_n 1, 1) := by decide +kernel
theorem dL_law_93 : decode cL_law 93 = .ok (.aload_n 0, 1) := by decide +kernel
theorem dL_law_94 : decode cL_law 94 = .ok (.iload_n 3, 1) := by decide +kernel
theorem dL_law_95 : decode cL_law 95 = .ok (.iconst 1, 1) := by decide +kernel
theorem dL_law_96 : decode cL_law 96 = .ok (.iadd, 1) := by decide +kernel
theorem dL_law_97 : decode cL_law 97 = .ok (.iaload, 1) := by decide +kernel
theorem dL_law_98 : decode cL_law 98 = .ok (.aload_n 0, 1) := by decide +kernel
theorem dL_law_99 : decode cL_law 99 = .ok (.iload_n 3, 1) := by decide +kernel
theorem dL_law_100 : decode cL_law 100 = .ok (.iconst 2, 1) := by decide +kernel
theorem dL_law_101 : decode cL_law 101 = .ok (.iadd, 1) := by decide +kernel
theorem dL_law_102 : decode cL_law 102 = .ok (.iaload, 1) := by decide +kernel
theorem dL_law_103 : decode cL_law 103 = .ok (.invokevirtual 21, 3) := by decide +kernel
theorem dL_law_106 : decode cL_law 106 = .ok (.aload_n 2, 1) := by decide +kernel
theorem dL_law_107 : decode cL_law 107 = .ok (.aload_n 0, 1) := by decide +kernel
theorem dL_law_108 : decode cL_law 108 = .ok (.iload_n 3, 1) := by decide +kernel
theorem dL_law_109 : decode cL_law 109 = .ok (.iconst 1, 1) := by decide +kernel
theorem dL_law_110 : decode cL_law 110 = .ok (.iadd, 1) := by decide +kernel
theorem dL_law_111 : decode cL_law 111 = .ok (.iaload, 1) := by decide +kernel
theorem dL_law_112 : decode cL_law 112 = .ok (.aload_n 0, 1) := by decide +kernel
theorem dL_law_113 : decode cL_law 113 = .ok (.iload_n 3, 1) := by decide +kernel
theorem dL_law_114 : decode cL_law 114 = .ok (.iconst 2, 1) := by decide +kernel
theorem dL_law_115 : decode cL_law 115 = .ok (.iadd, 1) := by decide +kernel
theorem dL_law_116 : decode cL_law 116 = .ok (.iaload, 1) := by decide +kernel
theorem dL_law_117 : decode cL_law 117 = .ok (.invokevirtual 25, 3) := by decide +kernel
theorem dL_law_120 : decode cL_law 120 = .ok (.if_icmp .eq 313, 3) := by decide +kernel
theorem dL_law_123 : decode cL_law 123 = .ok (.iconst 0, 1) := by decide +kernel
theorem dL_law_124 : decode cL_law 124 = .ok (.ireturn, 1) := by decide +kernel
theorem dL_law_125 : decode cL_law 125 = .ok (.aload_n 1, 1) := by decide +kernel
theorem dL_law_126 : decode cL_law 126 = .ok (.aload_n 0, 1) := by decide +kernel
theorem dL_law_127 : decode cL_law 127 = .ok (.iload_n 3, 1) := by decide +kernel
theorem dL_law_128 : decode cL_law 128 = .ok (.iconst 1, 1) := by decide +kernel
theorem dL_law_129 : decode cL_law 129 = .ok (.iadd, 1) := by decide +kernel
theorem dL_law_130 : decode cL_law 130 = .ok (.iaload, 1) := by decide +kernel
theorem dL_law_131 : decode cL_law 131 = .ok (.aload_n 0, 1) := by decide +kernel
theorem dL_law_132 : decode cL_law 132 = .ok (.iload_n 3, 1) := by decide +kernel
theorem dL_law_133 : decode cL_law 133 = .ok (.iconst 2, 1) := by decide +kernel
theorem dL_law_134 : decode cL_law 134 = .ok (.iadd, 1) := by decide +kernel
theorem dL_law_135 : decode cL_law 135 = .ok (.iaload, 1) := by decide +kernel
theorem dL_law_136 : decode cL_law 136 = .ok (.i2l, 1) := by decide +kernel
theorem dL_law_137 : decode cL_law 137 = .ok (.bipush 32, 2) := by decide +kernel
theorem dL_law_139 : decode cL_law 139 = .ok (.lshl, 1) := by decide +kernel
theorem dL_law_140 : decode cL_law 140 = .ok (.aload_n 0, 1) := by decide +kernel
theorem dL_law_141 : decode cL_law 141 = .ok (.iload_n 3, 1) := by decide +kernel
theorem dL_law_142 : decode cL_law 142 = .ok (.iconst 3, 1) := by decide +kernel
theorem dL_law_143 : decode cL_law 143 = .ok (.iadd, 1) := by decide +kernel
theorem dL_law_144 : decode cL_law 144 = .ok (.iaload, 1) := by decide +kernel
theorem dL_law_145 : decode cL_law 145 = .ok (.i2l, 1) := by decide +kernel
theorem dL_law_146 : decode cL_law 146 = .ok (.ldc2_w 26, 3) := by decide +kernel
theorem dL_law_149 : decode cL_law 149 = .ok (.land, 1) := by decide +kernel
theorem dL_law_150 : decode cL_law 150 = .ok (.lor, 1) := by decide +kernel
theorem dL_law_151 : decode cL_law 151 = .ok (.aload_n 0, 1) := by decide +kernel
theorem dL_law_152 : decode cL_law 152 = .ok (.iload_n 3, 1) := by decide +kernel
theorem dL_law_153 : decode cL_law 153 = .ok (.iconst 4, 1) := by decide +kernel
theorem dL_law_154 : decode cL_law 154 = .ok (.iadd, 1) := by decide +kernel
theorem dL_law_155 : decode cL_law 155 = .ok (.iaload, 1) := by decide +kernel
theorem dL_law_156 : decode cL_law 156 = .ok (.i2l, 1) := by decide +kernel
theorem dL_law_157 : decode cL_law 157 = .ok (.bipush 32, 2) := by decide +kernel
theorem dL_law_159 : decode cL_law 159 = .ok (.lshl, 1) := by decide +kernel
theorem dL_law_160 : decode cL_law 160 = .ok (.aload_n 0, 1) := by decide +kernel
theorem dL_law_161 : decode cL_law 161 = .ok (.iload_n 3, 1) := by decide +kernel
theorem dL_law_162 : decode cL_law 162 = .ok (.iconst 5, 1) := by decide +kernel
theorem dL_law_163 : decode cL_law 163 = .ok (.iadd, 1) := by decide +kernel
theorem dL_law_164 : decode cL_law 164 = .ok (.iaload, 1) := by decide +kernel
theorem dL_law_165 : decode cL_law 165 = .ok (.i2l, 1) := by decide +kernel
theorem dL_law_166 : decode cL_law 166 = .ok (.ldc2_w 26, 3) := by decide +kernel
theorem dL_law_169 : decode cL_law 169 = .ok (.land, 1) := by decide +kernel
theorem dL_law_170 : decode cL_law 170 = .ok (.lor, 1) := by decide +kernel
theorem dL_law_171 : decode cL_law 171 = .ok (.invokevirtual 28, 3) := by decide +kernel
theorem dL_law_174 : decode cL_law 174 = .ok (.aload_n 2, 1) := by decide +kernel
theorem dL_law_175 : decode cL_law 175 = .ok (.aload_n 0, 1) := by decide +kernel
theorem dL_law_176 : decode cL_law 176 = .ok (.iload_n 3, 1) := by decide +kernel
theorem dL_law_177 : decode cL_law 177 = .ok (.iconst 1, 1) := by decide +kernel
theorem dL_law_178 : decode cL_law 178 = .ok (.iadd, 1) := by decide +kernel
theorem dL_law_179 : decode cL_law 179 = .ok (.iaload, 1) := by decide +kernel
theorem dL_law_180 : decode cL_law 180 = .ok (.aload_n 0, 1) := by decide +kernel
theorem dL_law_181 : decode cL_law 181 = .ok (.iload_n 3, 1) := by decide +kernel
theorem dL_law_182 : decode cL_law 182 = .ok (.iconst 2, 1) := by decide +kernel
theorem dL_law_183 : decode cL_law 183 = .ok (.iadd, 1) := by decide +kernel
theorem dL_law_184 : decode cL_law 184 = .ok (.iaload, 1) := by decide +kernel
theorem dL_law_185 : decode cL_law 185 = .ok (.i2l, 1) := by decide +kernel
theorem dL_law_186 : decode cL_law 186 = .ok (.bipush 32, 2) := by decide +kernel
theorem dL_law_188 : decode cL_law 188 = .ok (.lshl, 1) := by decide +kernel
theorem dL_law_189 : decode cL_law 189 = .ok (.aload_n 0, 1) := by decide +kernel
theorem dL_law_190 : decode cL_law 190 = .ok (.iload_n 3, 1) := by decide +kernel
theorem dL_law_191 : decode cL_law 191 = .ok (.iconst 3, 1) := by decide +kernel
theorem dL_law_192 : decode cL_law 192 = .ok (.iadd, 1) := by decide +kernel
theorem dL_law_193 : decode cL_law 193 = .ok (.iaload, 1) := by decide +kernel
theorem dL_law_194 : decode cL_law 194 = .ok (.i2l, 1) := by decide +kernel
theorem dL_law_195 : decode cL_law 195 = .ok (.ldc2_w 26, 3) := by decide +kernel
theorem dL_law_198 : decode cL_law 198 = .ok (.land, 1) := by decide +kernel
theorem dL_law_199 : decode cL_law 199 = .ok (.lor, 1) := by decide +kernel
theorem dL_law_200 : decode cL_law 200 = .ok (.aload_n 0, 1) := by decide +kernel
theorem dL_law_201 : decode cL_law 201 = .ok (.iload_n 3, 1) := by decide +kernel
theorem dL_law_202 : decode cL_law 202 = .ok (.iconst 4, 1) := by decide +kernel
theorem dL_law_203 : decode cL_law 203 = .ok (.iadd, 1) := by decide +kernel
theorem dL_law_204 : decode cL_law 204 = .ok (.iaload, 1) := by decide +kernel
theorem dL_law_205 : decode cL_law 205 = .ok (.i2l, 1) := by decide +kernel
theorem dL_law_206 : decode cL_law 206 = .ok (.bipush 32, 2) := by decide +kernel
theorem dL_law_208 : decode cL_law 208 = .ok (.lshl, 1) := by decide +kernel
theorem dL_law_209 : decode cL_law 209 = .ok (.aload_n 0, 1) := by decide +kernel
theorem dL_law_210 : decode cL_law 210 = .ok (.iload_n 3, 1) := by decide +kernel
theorem dL_law_211 : decode cL_law 211 = .ok (.iconst 5, 1) := by decide +kernel
theorem dL_law_212 : decode cL_law 212 = .ok (.iadd, 1) := by decide +kernel
theorem dL_law_213 : decode cL_law 213 = .ok (.iaload, 1) := by decide +kernel
theorem dL_law_214 : decode cL_law 214 = .ok (.i2l, 1) := by decide +kernel
theorem dL_law_215 : decode cL_law 215 = .ok (.ldc2_w 26, 3) := by decide +kernel
theorem dL_law_218 : decode cL_law 218 = .ok (.land, 1) := by decide +kernel
theorem dL_law_219 : decode cL_law 219 = .ok (.lor, 1) := by decide +kernel
theorem dL_law_220 : decode cL_law 220 = .ok (.invokevirtual 32, 3) := by decide +kernel
theorem dL_law_223 : decode cL_law 223 = .ok (.if_icmp .eq 210, 3) := by decide +kernel
theorem dL_law_226 : decode cL_law 226 = .ok (.iconst 0, 1) := by decide +kernel
theorem dL_law_227 : decode cL_law 227 = .ok (.ireturn, 1) := by decide +kernel
theorem dL_law_228 : decode cL_law 228 = .ok (.aload_n 1, 1) := by decide +kernel
theorem dL_law_229 : decode cL_law 229 = .ok (.aload_n 0, 1) := by decide +kernel
theorem dL_law_230 : decode cL_law 230 = .ok (.iload_n 3, 1) := by decide +kernel
theorem dL_law_231 : decode cL_law 231 = .ok (.iconst 1, 1) := by decide +kernel
theorem dL_law_232 : decode cL_law 232 = .ok (.iadd, 1) := by decide +kernel
theorem dL_law_233 : decode cL_law 233 = .ok (.iaload, 1) := by decide +kernel
theorem dL_law_234 : decode cL_law 234 = .ok (.invokevirtual 33, 3) := by decide +kernel
theorem dL_law_237 : decode cL_law 237 = .ok (.aload_n 2, 1) := by decide +kernel
theorem dL_law_238 : decode cL_law 238 = .ok (.aload_n 0, 1) := by decide +kernel
theorem dL_law_239 : decode cL_law 239 = .ok (.iload_n 3, 1) := by decide +kernel
theorem dL_law_240 : decode cL_law 240 = .ok (.iconst 1, 1) := by decide +kernel
theorem dL_law_241 : decode cL_law 241 = .ok (.iadd, 1) := by decide +kernel
theorem dL_law_242 : decode cL_law 242 = .ok (.iaload, 1) := by decide +kernel
theorem dL_law_243 : decode cL_law 243 = .ok (.invokevirtual 36, 3) := by decide +kernel
theorem dL_law_246 : decode cL_law 246 = .ok (.goto 187, 3) := by decide +kernel
theorem dL_law_249 : decode cL_law 249 = .ok (.aload_n 1, 1) := by decide +kernel
theorem dL_law_250 : decode cL_law 250 = .ok (.aload_n 0, 1) := by decide +kernel
theorem dL_law_251 : decode cL_law 251 = .ok (.iload_n 3, 1) := by decide +kernel
theorem dL_law_252 : decode cL_law 252 = .ok (.iconst 1, 1) := by decide +kernel
theorem dL_law_253 : decode cL_law 253 = .ok (.iadd, 1) := by decide +kernel
theorem dL_law_254 : decode cL_law 254 = .ok (.iaload, 1) := by decide +kernel
theorem dL_law_255 : decode cL_law 255 = .ok (.aload_n 0, 1) := by decide +kernel
theorem dL_law_256 : decode cL_law 256 = .ok (.iload_n 3, 1) := by decide +kernel
theorem dL_law_257 : decode cL_law 257 = .ok (.iconst 2, 1) := by decide +kernel
theorem dL_law_258 : decode cL_law 258 = .ok (.iadd, 1) := by decide +kernel
theorem dL_law_259 : decode cL_law 259 = .ok (.iaload, 1) := by decide +kernel
theorem dL_law_260 : decode cL_law 260 = .ok (.invokevirtual 37, 3) := by decide +kernel
theorem dL_law_263 : decode cL_law 263 = .ok (.aload_n 2, 1) := by decide +kernel
theorem dL_law_264 : decode cL_law 264 = .ok (.aload_n 0, 1) := by decide +kernel
theorem dL_law_265 : decode cL_law 265 = .ok (.iload_n 3, 1) := by decide +kernel
theorem dL_law_266 : decode cL_law 266 = .ok (.iconst 1, 1) := by decide +kernel
theorem dL_law_267 : decode cL_law 267 = .ok (.iadd, 1) := by decide +kernel
theorem dL_law_268 : decode cL_law 268 = .ok (.iaload, 1) := by decide +kernel
theorem dL_law_269 : decode cL_law 269 = .ok (.aload_n 0, 1) := by decide +kernel
theorem dL_law_270 : decode cL_law 270 = .ok (.iload_n 3, 1) := by decide +kernel
theorem dL_law_271 : decode cL_law 271 = .ok (.iconst 2, 1) := by decide +kernel
theorem dL_law_272 : decode cL_law 272 = .ok (.iadd, 1) := by decide +kernel
theorem dL_law_273 : decode cL_law 273 = .ok (.iaload, 1) := by decide +kernel
theorem dL_law_274 : decode cL_law 274 = .ok (.invokevirtual 41, 3) := by decide +kernel
theorem dL_law_277 : decode cL_law 277 = .ok (.if_icmp .eq 156, 3) := by decide +kernel
theorem dL_law_280 : decode cL_law 280 = .ok (.iconst 0, 1) := by decide +kernel
theorem dL_law_281 : decode cL_law 281 = .ok (.ireturn, 1) := by decide +kernel
theorem dL_law_282 : decode cL_law 282 = .ok (.aload_n 1, 1) := by decide +kernel
theorem dL_law_283 : decode cL_law 283 = .ok (.aload_n 0, 1) := by decide +kernel
theorem dL_law_284 : decode cL_law 284 = .ok (.iload_n 3, 1) := by decide +kernel
theorem dL_law_285 : decode cL_law 285 = .ok (.iconst 1, 1) := by decide +kernel
theorem dL_law_286 : decode cL_law 286 = .ok (.iadd, 1) := by decide +kernel
theorem dL_law_287 : decode cL_law 287 = .ok (.iaload, 1) := by decide +kernel
theorem dL_law_288 : decode cL_law 288 = .ok (.aload_n 0, 1) := by decide +kernel
theorem dL_law_289 : decode cL_law 289 = .ok (.iload_n 3, 1) := by decide +kernel
theorem dL_law_290 : decode cL_law 290 = .ok (.iconst 2, 1) := by decide +kernel
theorem dL_law_291 : decode cL_law 291 = .ok (.iadd, 1) := by decide +kernel
theorem dL_law_292 : decode cL_law 292 = .ok (.iaload, 1) := by decide +kernel
theorem dL_law_293 : decode cL_law 293 = .ok (.ifCond .eq 7, 3) := by decide +kernel
theorem dL_law_296 : decode cL_law 296 = .ok (.iconst 1, 1) := by decide +kernel
theorem dL_law_297 : decode cL_law 297 = .ok (.goto 4, 3) := by decide +kernel
theorem dL_law_300 : decode cL_law 300 = .ok (.iconst 0, 1) := by decide +kernel
theorem dL_law_301 : decode cL_law 301 = .ok (.invokevirtual 42, 3) := by decide +kernel
theorem dL_law_304 : decode cL_law 304 = .ok (.aload_n 2, 1) := by decide +kernel
theorem dL_law_305 : decode cL_law 305 = .ok (.aload_n 0, 1) := by decide +kernel
theorem dL_law_306 : decode cL_law 306 = .ok (.iload_n 3, 1) := by decide +kernel
theorem dL_law_307 : decode cL_law 307 = .ok (.iconst 1, 1) := by decide +kernel
theorem dL_law_308 : decode cL_law 308 = .ok (.iadd, 1) := by decide +kernel
theorem dL_law_309 : decode cL_law 309 = .ok (.iaload, 1) := by decide +kernel
theorem dL_law_310 : decode cL_law 310 = .ok (.aload_n 0, 1) := by decide +kernel
theorem dL_law_311 : decode cL_law 311 = .ok (.iload_n 3, 1) := by decide +kernel
theorem dL_law_312 : decode cL_law 312 = .ok (.iconst 2, 1) := by decide +kernel
theorem dL_law_313 : decode cL_law 313 = .ok (.iadd, 1) := by decide +kernel
theorem dL_law_314 : decode cL_law 314 = .ok (.iaload, 1) := by decide +kernel
theorem dL_law_315 : decode cL_law 315 = .ok (.ifCond .eq 7, 3) := by decide +kernel
theorem dL_law_318 : decode cL_law 318 = .ok (.iconst 1, 1) := by decide +kernel
theorem dL_law_319 : decode cL_law 319 = .ok (.goto 4, 3) := by decide +kernel
theorem dL_law_322 : decode cL_law 322 = .ok (.iconst 0, 1) := by decide +kernel
theorem dL_law_323 : decode cL_law 323 = .ok (.invokevirtual 46, 3) := by decide +kernel
theorem dL_law_326 : decode cL_law 326 = .ok (.if_icmp .eq 107, 3) := by decide +kernel
theorem dL_law_329 : decode cL_law 329 = .ok (.iconst 0, 1) := by decide +kernel
theorem dL_law_330 : decode cL_law 330 = .ok (.ireturn, 1) := by decide +kernel
theorem dL_law_331 : decode cL_law 331 = .ok (.aload_n 1, 1) := by decide +kernel
theorem dL_law_332 : decode cL_law 332 = .ok (.aload_n 0, 1) := by decide +kernel
theorem dL_law_333 : decode cL_law 333 = .ok (.iload_n 3, 1) := by decide +kernel
theorem dL_law_334 : decode cL_law 334 = .ok (.iconst 1, 1) := by decide +kernel
theorem dL_law_335 : decode cL_law 335 = .ok (.iadd, 1) := by decide +kernel
theorem dL_law_336 : decode cL_law 336 = .ok (.iaload, 1) := by decide +kernel
theorem dL_law_337 : decode cL_law 337 = .ok (.invokevirtual 47, 3) := by decide +kernel
theorem dL_law_340 : decode cL_law 340 = .ok (.aload_n 2, 1) := by decide +kernel
theorem dL_law_341 : decode cL_law 341 = .ok (.aload_n 0, 1) := by decide +kernel
theorem dL_law_342 : decode cL_law 342 = .ok (.iload_n 3, 1) := by decide +kernel
theorem dL_law_343 : decode cL_law 343 = .ok (.iconst 1, 1) := by decide +kernel
theorem dL_law_344 : decode cL_law 344 = .ok (.iadd, 1) := by decide +kernel
theorem dL_law_345 : decode cL_law 345 = .ok (.iaload, 1) := by decide +kernel
theorem dL_law_346 : decode cL_law 346 = .ok (.invokevirtual 51, 3) := by decide +kernel
theorem dL_law_349 : decode cL_law 349 = .ok (.if_icmp .eq 84, 3) := by decide +kernel
theorem dL_law_352 : decode cL_law 352 = .ok (.iconst 0, 1) := by decide +kernel
theorem dL_law_353 : decode cL_law 353 = .ok (.ireturn, 1) := by decide +kernel
theorem dL_law_354 : decode cL_law 354 = .ok (.aload_n 1, 1) := by decide +kernel
theorem dL_law_355 : decode cL_law 355 = .ok (.aload_n 0, 1) := by decide +kernel
theorem dL_law_356 : decode cL_law 356 = .ok (.iload_n 3, 1) := by decide +kernel
theorem dL_law_357 : decode cL_law 357 = .ok (.iconst 1, 1) := by decide +kernel
theorem dL_law_358 : decode cL_law 358 = .ok (.iadd, 1) := by decide +kernel
theorem dL_law_359 : decode cL_law 359 = .ok (.iaload, 1) := by decide +kernel
theorem dL_law_360 : decode cL_law 360 = .ok (.invokevirtual 52, 3) := by decide +kernel
theorem dL_law_363 : decode cL_law 363 = .ok (.aload_n 2, 1) := by decide +kernel
theorem dL_law_364 : decode cL_law 364 = .ok (.aload_n 0, 1) := by decide +kernel
theorem dL_law_365 : decode cL_law 365 = .ok (.iload_n 3, 1) := by decide +kernel
theorem dL_law_366 : decode cL_law 366 = .ok (.iconst 1, 1) := by decide +kernel
theorem dL_law_367 : decode cL_law 367 = .ok (.iadd, 1) := by decide +kernel
theorem dL_law_368 : decode cL_law 368 = .ok (.iaload, 1) := by decide +kernel
theorem dL_law_369 : decode cL_law 369 = .ok (.invokevirtual 55, 3) := by decide +kernel
theorem dL_law_372 : decode cL_law 372 = .ok (.if_icmp .eq 61, 3) := by decide +kernel
theorem dL_law_375 : decode cL_law 375 = .ok (.iconst 0, 1) := by decide +kernel
theorem dL_law_376 : decode cL_law 376 = .ok (.ireturn, 1) := by decide +kernel
theorem dL_law_377 : decode cL_law 377 = .ok (.aload_n 1, 1) := by decide +kernel
theorem dL_law_378 : decode cL_law 378 = .ok (.aload_n 0, 1) := by decide +kernel
theorem dL_law_379 : decode cL_law 379 = .ok (.iload_n 3, 1) := by decide +kernel
theorem dL_law_380 : decode cL_law 380 = .ok (.iconst 1, 1) := by decide +kernel
theorem dL_law_381 : decode cL_law 381 = .ok (.iadd, 1) := by decide +kernel
theorem dL_law_382 : decode cL_law 382 = .ok (.iaload, 1) := by decide +kernel
theorem dL_law_383 : decode cL_law 383 = .ok (.invokevirtual 56, 3) := by decide +kernel
theorem dL_law_386 : decode cL_law 386 = .ok (.aload_n 2, 1) := by decide +kernel
theorem dL_law_387 : decode cL_law 387 = .ok (.aload_n 0, 1) := by decide +kernel
theorem dL_law_388 : decode cL_law 388 = .ok (.iload_n 3, 1) := by decide +kernel
theorem dL_law_389 : decode cL_law 389 = .ok (.iconst 1, 1) := by decide +kernel
theorem dL_law_390 : decode cL_law 390 = .ok (.iadd, 1) := by decide +kernel
theorem dL_law_391 : decode cL_law 391 = .ok (.iaload, 1) := by decide +kernel
theorem dL_law_392 : decode cL_law 392 = .ok (.invokevirtual 59, 3) := by decide +kernel
theorem dL_law_395 : decode cL_law 395 = .ok (.if_icmp .eq 38, 3) := by decide +kernel
theorem dL_law_398 : decode cL_law 398 = .ok (.iconst 0, 1) := by decide +kernel
theorem dL_law_399 : decode cL_law 399 = .ok (.ireturn, 1) := by decide +kernel
theorem dL_law_400 : decode cL_law 400 = .ok (.aload_n 1, 1) := by decide +kernel
theorem dL_law_401 : decode cL_law 401 = .ok (.aload_n 0, 1) := by decide +kernel
theorem dL_law_402 : decode cL_law 402 = .ok (.iload_n 3, 1) := by decide +kernel
theorem dL_law_403 : decode cL_law 403 = .ok (.iconst 1, 1) := by decide +kernel
theorem dL_law_404 : decode cL_law 404 = .ok (.iadd, 1) := by decide +kernel
theorem dL_law_405 : decode cL_law 405 = .ok (.iaload, 1) := by decide +kernel
theorem dL_law_406 : decode cL_law 406 = .ok (.aload_n 0, 1) := by decide +kernel
theorem dL_law_407 : decode cL_law 407 = .ok (.iload_n 3, 1) := by decide +kernel
theorem dL_law_408 : decode cL_law 408 = .ok (.iconst 2, 1) := by decide +kernel
theorem dL_law_409 : decode cL_law 409 = .ok (.iadd, 1) := by decide +kernel
theorem dL_law_410 : decode cL_law 410 = .ok (.iaload, 1) := by decide +kernel
theorem dL_law_411 : decode cL_law 411 = .ok (.invokevirtual 60, 3) := by decide +kernel
theorem dL_law_414 : decode cL_law 414 = .ok (.aload_n 2, 1) := by decide +kernel
theorem dL_law_415 : decode cL_law 415 = .ok (.aload_n 0, 1) := by decide +kernel
theorem dL_law_416 : decode cL_law 416 = .ok (.iload_n 3, 1) := by decide +kernel
theorem dL_law_417 : decode cL_law 417 = .ok (.iconst 1, 1) := by decide +kernel
theorem dL_law_418 : decode cL_law 418 = .ok (.iadd, 1) := by decide +kernel
theorem dL_law_419 : decode cL_law 419 = .ok (.iaload, 1) := by decide +kernel
theorem dL_law_420 : decode cL_law 420 = .ok (.aload_n 0, 1) := by decide +kernel
theorem dL_law_421 : decode cL_law 421 = .ok (.iload_n 3, 1) := by decide +kernel
theorem dL_law_422 : decode cL_law 422 = .ok (.iconst 2, 1) := by decide +kernel
theorem dL_law_423 : decode cL_law 423 = .ok (.iadd, 1) := by decide +kernel
theorem dL_law_424 : decode cL_law 424 = .ok (.iaload, 1) := by decide +kernel
theorem dL_law_425 : decode cL_law 425 = .ok (.invokevirtual 63, 3) := by decide +kernel
theorem dL_law_428 : decode cL_law 428 = .ok (.if_icmp .eq 5, 3) := by decide +kernel
theorem dL_law_431 : decode cL_law 431 = .ok (.iconst 0, 1) := by decide +kernel
theorem dL_law_432 : decode cL_law 432 = .ok (.ireturn, 1) := by decide +kernel
theorem dL_law_433 : decode cL_law 433 = .ok (.iinc 3 6, 3) := by decide +kernel
theorem dL_law_436 : decode cL_law 436 = .ok (.goto (-408), 3) := by decide +kernel
theorem dL_law_439 : decode cL_law 439 = .ok (.iconst 1, 1) := by decide +kernel
theorem dL_law_440 : decode cL_law 440 = .ok (.ireturn, 1) := by decide +kernel
end
section
set_option maxHeartbeats 4000000 in
set_option maxRecDepth 100000 in
theorem cX_mode (l : Launch) (dC : Nat → ClassId) (dI : Nat → Nat → Nat) (aP : Nat) (aU : Nat) (aR : Nat) (aK : Nat) (aL : Nat) (ipc : Int32) (ist : Int32) (iln : Int32) (iwa : Int32) (isl : Int32) : Met l yX2_mode wsX2_mode ({ frames := 0, cells := 0, slots := 0, locals := 0 }) (va_Pc [.ref aP] (fun U => va_P (dC, dI) vwCl [(aP, .inr (2, [.ref aU, .ref aR, .ref aK, .ref aL, .int ipc, .int ist, .int iln, .int iwa, .int isl]))] U.heap ∧ va_K (dC, dI) vwCl [] U ∧ qN U)) (vp_Si (fun r : Int32 => r = ist &&& 7)) 0 0 (fun _ => False) := by
  refine Met.ofW (cc := cX2_mode) (maxL := 1) (ret := (some .int)) (by decide) rfl ?_
  intro p e s m args below meth c s₁ B hml hv
  obtain ⟨rfl, hP, hK, hN⟩ := hv
  have hx := B.exec
  have hb := B.bytes
  have hr := B.returns
  have hts := atoms_spec (ws := wsX2_mode) B.pre
  have htb : ∀ w ∈ qT, w.before _ s = true := fun w h => hts w (List.mem_cons_of_mem _ h)
  have hown : s.vm.findClass RX2 = some m.cls := findClass_of_methodNamed B.named
  have hlocks := B.notSynchronized
  have hP : va_P (dC, dI) vwCl [(aP, .inr (2, [.ref aU, .ref aR, .ref aK, .ref aL, .int ipc, .int ist, .int iln, .int iwa, .int isl]))] s.heap := hP
  have hl := lv_entry ([.ref aP]) (n := 1) (Nat.le_of_ble_eq_true rfl)
  rw [lg_entry_eq]
  generalize (lg_sl ([.ref aP]) ++ List.replicate (1 - (lg_sl ([.ref aP])).length) Slot.unset).toArray = ls at hl ⊢
  have hl : lv_has ls 1 [(0, .ref aP)] := hl
  refine lv_aload_n hx hb dX2_mode_0 rfl (lv_at hl 0 rfl) ?_
  refine va_get (D := (dC, dI)) (ci := 2) (v := .int ist) (C := RX2) (T := TX2) (N := 9) hx hb htb inX2 hown hK hP 0 rfl rfl 5 (by decide) (htb _ m1_61) (fun _ h9 => h9) rfl dX2_mode_1 ?_
  refine lv_bipush (v := 7) hx hb dX2_mode_4 (by decide) ?_
  refine lv_iand hx hb dX2_mode_6 ?_
  refine lv_topi (fun v6 e6 => ?_)
  exact W.iret (v := v6) hx hb hr (fun t ht hW => ⟨_, rfl, e6, ht⟩) (fun _ h => by cases h) dX2_mode_7
end
section
set_option maxHeartbeats 4000000 in
set_option maxRecDepth 100000 in
theorem cX_slot (l : Launch) (imd : Int32) (irg : Int32) (hm7 : bd imd 0 7) (hg7 : bd irg 0 7) : Met l yX2_slot wsX2_slot ({ frames := 0, cells := 0, slots := 0, locals := 0 }) (va_Pc [.int imd, .int irg] (fun _ => True)) (vp_Si (fun r : Int32 => bd r 0 21)) 0 0 (fun _ => False) := by
  refine Met.ofW (cc := cX2_slot) (maxL := 2) (ret := (some .int)) (by decide) rfl ?_
  intro p e s m args below meth c s₁ B hml hv
  obtain ⟨rfl, -⟩ := hv
  have hx := B.exec
  have hb := B.bytes
  have hr := B.returns
  have hts := atoms_spec (ws := wsX2_slot) B.pre
  have htb : ∀ w ∈ qT, w.before _ s = true := fun w h => hts w (List.mem_cons_of_mem _ h)
  have hown : s.vm.findClass RX2 = some m.cls := findClass_of_methodNamed B.named
  have hlocks := B.notSynchronized
  have hl := lv_entry ([.int imd, .int irg]) (n := 2) (Nat.le_of_ble_eq_true rfl)
  rw [lg_entry_eq]
  generalize (lg_sl ([.int imd, .int irg]) ++ List.replicate (2 - (lg_sl ([.int imd, .int irg])).length) Slot.unset).toArray = ls at hl ⊢
  have hl : lv_has ls 2 [(0, .int imd), (1, .int irg)] := hl
  refine lv_iload_n hx hb dX2_slot_0 rfl (lv_at hl 1 rfl) ?_
  refine lv_bipush (v := 6) hx hb dX2_slot_1 (by decide) ?_
  refine lv_icmp_ge (tgt := 10) hx hb dX2_slot_3 (by decide) (fun h3 => ?_) (fun h3 => ?_)
  · refine lv_iload_n hx hb dX2_slot_10 rfl (lv_at hl 1 rfl) ?_
    refine lv_iconst (v := 2) hx hb dX2_slot_11 (by decide) ?_
    refine lv_iload_n hx hb dX2_slot_12 rfl (lv_at hl 0 rfl) ?_
    refine lv_imul hx hb dX2_slot_13 ?_
    refine lv_topi (fun v13 e13 => ?_)
    refine lv_iadd hx hb dX2_slot_14 ?_
    refine lv_topi (fun v14 e14 => ?_)
    exact W.iret (v := v14) hx hb hr (fun t ht hW => ⟨_, rfl, (by rw [e14]; exact bd_w (bd_add hg7 (by rw [e13]; exact bd_mulc (n := 2) (by decide) (by decide) hm7 (by decide) (by decide)) (by decide) (by decide)) (by decide) (by decide)), ht⟩) (fun _ h => by cases h) dX2_slot_15
  · refine lv_iload_n hx hb dX2_slot_6 rfl (lv_at hl 1 rfl) ?_
    refine lv_goto (tgt := 15) hx hb dX2_slot_7 (by decide) ?_
    exact W.iret (v := irg) hx hb hr (fun t ht hW => ⟨_, rfl, (bd_w hg7 (by decide) (by decide)), ht⟩) (fun _ h => by cases h) dX2_slot_15
end
section
set_option maxHeartbeats 4000000 in
set_option maxRecDepth 100000 in
theorem cX_readRegister (l : Launch) (dC : Nat → ClassId) (dI : Nat → Nat → Nat) (aP : Nat) (irg : Int32) (aU : Nat) (aR : Nat) (aK : Nat) (aL : Nat) (ipc : Int32) (ist : Int32) (iln : Int32) (iwa : Int32) (isl : Int32) (kR : ClassId) (gR : Nat → Int32) (hg7 : bd irg 0 7) : Met l yX2_readRegister wsX2_readRegister ({ frames := 1, cells := 0, slots := 0, locals := 21 }) (va_Pc [.ref aP, .int irg] (fun U => va_P (dC, dI) vwCl [(aP, .inr (2, [.ref aU, .ref aR, .ref aK, .ref aL, .int ipc, .int ist, .int iln, .int iwa, .int isl])), (aR, .inl (kR, 22, .inl gR))] U.heap ∧ va_K (dC, dI) vwCl [(kR, .int)] U ∧ qN U)) (vp_Si (fun r : Int32 => ∃ i : Nat, r = gR i)) 0 0 (fun _ => False) := by
  refine Met.ofW (cc := cX2_readRegister) (maxL := 2) (ret := (some .int)) (by decide) rfl ?_
  intro p e s m args below meth c s₁ B hml hv
  obtain ⟨rfl, hP, hK, hN⟩ := hv
  have hx := B.exec
  have hb := B.bytes
  have hr := B.returns
  have hts := atoms_spec (ws := wsX2_readRegister) B.pre
  have htb : ∀ w ∈ qT, w.before _ s = true := fun w h => hts w (List.mem_cons_of_mem _ h)
  have hown : s.vm.findClass RX2 = some m.cls := findClass_of_methodNamed B.named
  have hlocks := B.notSynchronized
  have hP : va_P (dC, dI) vwCl [(aP, .inr (2, [.ref aU, .ref aR, .ref aK, .ref aL, .int ipc, .int ist, .int iln, .int iwa, .int isl])), (aR, .inl (kR, 22, .inl gR))] s.heap := hP
  have hl := lv_entry ([.ref aP, .int irg]) (n := 2) (Nat.le_of_ble_eq_true rfl)
  rw [lg_entry_eq]
  generalize (lg_sl ([.ref aP, .int irg]) ++ List.replicate (2 - (lg_sl ([.ref aP, .int irg])).length) Slot.unset).toArray = ls at hl ⊢
  have hl : lv_has ls 2 [(0, .ref aP), (1, .int irg)] := hl
  refine lv_aload_n hx hb dX2_readRegister_0 rfl (lv_at hl 0 rfl) ?_
  refine va_get (D := (dC, dI)) (ci := 2) (v := .ref aR) (C := RX2) (T := TX2) (N := 9) hx hb htb inX2 hown hK hP 0 rfl rfl 1 (by decide) (htb _ m1_57) (fun _ h9 => h9) rfl dX2_readRegister_1 ?_
  refine lv_aload_n hx hb dX2_readRegister_4 rfl (lv_at hl 0 rfl) ?_
  have hPc := hP.sub (ws' := [(aP, .inr (2, [.ref aU, .ref aR, .ref aK, .ref aL, .int ipc, .int ist, .int iln, .int iwa, .int isl]))]) [0] rfl
  have hKc := hK.sub (tys' := []) [] rfl
  refine vp_callSi (W.runV (As := []) (rest := [.ref aR]) ⟨hx, hb, hml, hown, htb⟩ (cX_mode l dC dI aP aU aR aK aL ipc ist iln iwa isl) (cwV 0 htb (q_gV m1_115 m1_117 ms_1 m1_1 m1_118) rfl rfl rfl (by decide +kernel) ⟨Nat.le_of_ble_eq_true rfl, Nat.le_of_ble_eq_true rfl⟩) ⟨fun a U g mk q => by obtain ⟨q0, qP, qK, qN9⟩ := q; exact ⟨q0, qP, va_K.moved (u := U) (U := U.calling g mk a) (Vm.Alike.refl U.vm) qK, qN_same (s := U) (U := U.calling g mk a) rfl qN9⟩, va_recv (q0 := 0) hK hP (rfl : vwCl[2]? = some (RX2, TX2, 9)) rfl, fun U hU hW => ⟨rfl, by rw [hU]; exact hPc, va_K.moved hW.alike hKc, qN_warm hW hN⟩⟩ rfl rfl hl.1 rfl (lv_room (Nat.le_of_ble_eq_true rfl)) dX2_readRegister_5 ⟨Nat.le_of_ble_eq_true rfl, Nat.le_of_ble_eq_true rfl⟩) (fun r5 p5 => ?_)
  try dsimp only at p5
  refine lv_iload_n hx hb dX2_readRegister_8 rfl (lv_at hl 1 rfl) ?_
  refine vp_callSi (W.runS (As := [.int r5, .int irg]) (rest := [.ref aR]) ⟨hx, hb, hml, hown, htb⟩ (cX_slot l r5 irg (by rw [p5]; exact bd_and _ 3 (by decide) (by decide) (by decide)) hg7) (va_cwS 2 htb (q_gS m1_119 m1_120 m1_1 m1_121) rfl rfl rfl (by decide +kernel) ⟨Nat.le_of_ble_eq_true rfl, Nat.le_of_ble_eq_true rfl⟩) ⟨fun _ _ _ _ q => q, fun U hU hW => ⟨rfl, trivial⟩⟩ rfl rfl hl.1 rfl (lv_room (Nat.le_of_ble_eq_true rfl)) dX2_readRegister_9 ⟨Nat.le_of_ble_eq_true rfl, Nat.le_of_ble_eq_true rfl⟩) (fun r9 p9 => ?_)
  try dsimp only at p9
  refine va_iald hx hb hK hP 1 0 rfl rfl (bd_in p9 (by decide) (by decide)) dX2_readRegister_12 ?_
  refine lv_topi (fun v12 e12 => ?_)
  exact W.iret (v := v12) hx hb hr (fun t ht hW => ⟨_, rfl, ⟨_, e12⟩, ht⟩) (fun _ h => by cases h) dX2_readRegister_13
end
section
set_option maxHeartbeats 4000000 in
set_option maxRecDepth 100000 in
theorem cX_writeRegister (l : Launch) (dC : Nat → ClassId) (dI : Nat → Nat → Nat) (sz : Nat) (aP : Nat) (irg : Int32) (iv : Int32) (aU : Nat) (aR : Nat) (aK : Nat) (aL : Nat) (ipc : Int32) (ist : Int32) (iln : Int32) (iwa : Int32) (isl : Int32) (kR : ClassId) (gR : Nat → Int32) (hg7 : bd irg 0 7) : Met l yX2_writeRegister wsX2_writeRegister ({ frames := 1, cells := 0, slots := 0, locals := 21 }) (va_Pc [.ref aP, .int irg, .int iv] (fun U => U.heap.size = sz ∧ va_P (dC, dI) vwCl [(aP, .inr (2, [.ref aU, .ref aR, .ref aK, .ref aL, .int ipc, .int ist, .int iln, .int iwa, .int isl])), (aR, .inl (kR, 22, .inl gR))] U.heap ∧ va_K (dC, dI) vwCl [(kR, .int)] U ∧ va_D (fun _ => True) [(aP, .inr (2, [.ref aU, .ref aR, .ref aK, .ref aL, .int ipc, .int ist, .int iln, .int iwa, .int isl])), (aR, .inl (kR, 22, .inl gR))] ∧ qN U)) (va_Qv (fun u : (Nat → Int32) => True) (fun (u : (Nat → Int32)) (t : State) => va_P (dC, dI) vwCl [(aP, .inr (2, [.ref aU, .ref aR, .ref aK, .ref aL, .int ipc, .int ist, .int iln, .int iwa, .int isl])), (aR, .inl (kR, 22, .inl u))] t.heap ∧ va_K (dC, dI) vwCl [(kR, .int)] t ∧ va_D (va_A [(aP, .inr (2, [.ref aU, .ref aR, .ref aK, .ref aL, .int ipc, .int ist, .int iln, .int iwa, .int isl])), (aR, .inl (kR, 22, .inl gR))] sz) [(aP, .inr (2, [.ref aU, .ref aR, .ref aK, .ref aL, .int ipc, .int ist, .int iln, .int iwa, .int isl])), (aR, .inl (kR, 22, .inl u))]) (va_A [(aP, .inr (2, [.ref aU, .ref aR, .ref aK, .ref aL, .int ipc, .int ist, .int iln, .int iwa, .int isl])), (aR, .inl (kR, 22, .inl gR))] sz)) 0 0 (va_A [(aP, .inr (2, [.ref aU, .ref aR, .ref aK, .ref aL, .int ipc, .int ist, .int iln, .int iwa, .int isl])), (aR, .inl (kR, 22, .inl gR))] sz) := by
  refine Met.ofW (cc := cX2_writeRegister) (maxL := 3) (ret := none) (by decide) rfl ?_
  intro p e s m args below meth c s₁ B hml hv
  obtain ⟨rfl, hsz, hP, hK, hD0, hN⟩ := hv
  have hx := B.exec
  have hb := B.bytes
  have hr := B.returns
  have hts := atoms_spec (ws := wsX2_writeRegister) B.pre
  have htb : ∀ w ∈ qT, w.before _ s = true := fun w h => hts w (List.mem_cons_of_mem _ h)
  have hown : s.vm.findClass RX2 = some m.cls := findClass_of_methodNamed B.named
  have hlocks := B.notSynchronized
  subst hsz
  have hD := hD0.self (sz := s.heap.size)
  generalize hAe : va_A [(aP, .inr (2, [.ref aU, .ref aR, .ref aK, .ref aL, .int ipc, .int ist, .int iln, .int iwa, .int isl])), (aR, .inl (kR, 22, .inl gR))] s.heap.size = A at hD ⊢
  have hA : ∀ q : Nat, s.heap.size ≤ q → A q := fun q h => by rw [← hAe]; exact Or.inr h
  have hS : va_S A s.heap s.heap [] := va_S.rf
  have hP : va_P (dC, dI) vwCl [(aP, .inr (2, [.ref aU, .ref aR, .ref aK, .ref aL, .int ipc, .int ist, .int iln, .int iwa, .int isl])), (aR, .inl (kR, 22, .inl gR))] s.heap := hP
  have hl := lv_entry ([.ref aP, .int irg, .int iv]) (n := 3) (Nat.le_of_ble_eq_true rfl)
  rw [lg_entry_eq]
  generalize (lg_sl ([.ref aP, .int irg, .int iv]) ++ List.replicate (3 - (lg_sl ([.ref aP, .int irg, .int iv])).length) Slot.unset).toArray = ls at hl ⊢
  have hl : lv_has ls 3 [(0, .ref aP), (1, .int irg), (2, .int iv)] := hl
  refine lv_aload_n hx hb dX2_writeRegister_0 rfl (lv_at hl 0 rfl) ?_
  refine va_get (D := (dC, dI)) (ci := 2) (v := .ref aR) (C := RX2) (T := TX2) (N := 9) hx hb htb inX2 hown hK hP 0 rfl rfl 1 (by decide) (htb _ m1_57) (fun _ h9 => h9) rfl dX2_writeRegister_1 ?_
  refine lv_aload_n hx hb dX2_writeRegister_4 rfl (lv_at hl 0 rfl) ?_
  have hPc := hP.sub (ws' := [(aP, .inr (2, [.ref aU, .ref aR, .ref aK, .ref aL, .int ipc, .int ist, .int iln, .int iwa, .int isl]))]) [0] rfl
  have hKc := hK.sub (tys' := []) [] rfl
  refine vp_callSi (W.runV (As := []) (rest := [.ref aR]) ⟨hx, hb, hml, hown, htb⟩ (cX_mode l dC dI aP aU aR aK aL ipc ist iln iwa isl) (cwV 0 htb (q_gV m1_115 m1_117 ms_1 m1_1 m1_118) rfl rfl rfl (by decide +kernel) ⟨Nat.le_of_ble_eq_true rfl, Nat.le_of_ble_eq_true rfl⟩) ⟨fun a U g mk q => by obtain ⟨q0, qP, qK, qN9⟩ := q; exact ⟨q0, qP, va_K.moved (u := U) (U := U.calling g mk a) (Vm.Alike.refl U.vm) qK, qN_same (s := U) (U := U.calling g mk a) rfl qN9⟩, va_recv (q0 := 0) hK hP (rfl : vwCl[2]? = some (RX2, TX2, 9)) rfl, fun U hU hW => ⟨rfl, by rw [hU]; exact hPc, va_K.moved hW.alike hKc, qN_warm hW hN⟩⟩ rfl rfl hl.1 rfl (lv_room (Nat.le_of_ble_eq_true rfl)) dX2_writeRegister_5 ⟨Nat.le_of_ble_eq_true rfl, Nat.le_of_ble_eq_true rfl⟩) (fun r5 p5 => ?_)
  try dsimp only at p5
  refine lv_iload_n hx hb dX2_writeRegister_8 rfl (lv_at hl 1 rfl) ?_
  refine vp_callSi (W.runS (As := [.int r5, .int irg]) (rest := [.ref aR]) ⟨hx, hb, hml, hown, htb⟩ (cX_slot l r5 irg (by rw [p5]; exact bd_and _ 3 (by decide) (by decide) (by decide)) hg7) (va_cwS 2 htb (q_gS m1_119 m1_120 m1_1 m1_121) rfl rfl rfl (by decide +kernel) ⟨Nat.le_of_ble_eq_true rfl, Nat.le_of_ble_eq_true rfl⟩) ⟨fun _ _ _ _ q => q, fun U hU hW => ⟨rfl, trivial⟩⟩ rfl rfl hl.1 rfl (lv_room (Nat.le_of_ble_eq_true rfl)) dX2_writeRegister_9 ⟨Nat.le_of_ble_eq_true rfl, Nat.le_of_ble_eq_true rfl⟩) (fun r9 p9 => ?_)
  try dsimp only at p9
  refine lv_iload_n hx hb dX2_writeRegister_12 rfl (lv_at hl 2 rfl) ?_
  refine va_iast hx hb hK hP hD hS 1 0 rfl rfl (bd_in p9 (by decide) (by decide)) dX2_writeRegister_13 (fun H locs hP hD hS => ?_)
  have hP : va_P (dC, dI) vwCl [(aP, .inr (2, [.ref aU, .ref aR, .ref aK, .ref aL, .int ipc, .int ist, .int iln, .int iwa, .int isl])), (aR, .inl (kR, 22, .inl (upd gR r9.toNatClampNeg iv)))] H := hP
  have hD : va_D A [(aP, .inr (2, [.ref aU, .ref aR, .ref aK, .ref aL, .int ipc, .int ist, .int iln, .int iwa, .int isl])), (aR, .inl (kR, 22, .inl (upd gR r9.toNatClampNeg iv)))] := hD
  have hP9 := hP.sub (ws' := [(aP, .inr (2, [.ref aU, .ref aR, .ref aK, .ref aL, .int ipc, .int ist, .int iln, .int iwa, .int isl])), (aR, .inl (kR, 22, .inl (upd gR r9.toNatClampNeg iv)))]) [0, 1] rfl
  have hD9 := hD.sub (ws' := [(aP, .inr (2, [.ref aU, .ref aR, .ref aK, .ref aL, .int ipc, .int ist, .int iln, .int iwa, .int isl])), (aR, .inl (kR, 22, .inl (upd gR r9.toNatClampNeg iv)))]) [0, 1] (by decide) rfl
  have hK9 := hK.sub (tys' := [(kR, .int)]) [0] rfl
  exact W.vret hx hb hr (fun t ht hW => ⟨⟨(upd gR r9.toNatClampNeg iv), rfl, by trivial, by rw [ht]; exact hP9, va_K.moved hW.alike hK9, hD9⟩, hS.F ht⟩) hS.2.2 dX2_writeRegister_14
end
section
set_option maxHeartbeats 4000000 in
set_option maxRecDepth 100000 in
theorem cX_writeControl (l : Launch) (dC : Nat → ClassId) (dI : Nat → Nat → Nat) (sz : Nat) (tB : Nat) (aU : Nat) (ic : Int32) (iv : Int32) (aM : Nat) (aC : Nat) (aB : Nat) (iwk : Int32) (kC : ClassId) (gC : Nat → Int32) (hc11 : bd ic 0 11) : Met l yX1_writeControl wsX1_writeControl ({ frames := 0, cells := 0, slots := 0, locals := 0 }) (va_Pc [.ref aU, .int ic, .int iv] (fun U => U.heap.size = sz ∧ va_P (dC, dI) vwCl [(aU, .inr (1, [.ref aM, .ref aC, .ref aB, .int iwk])), (aC, .inl (kC, 12, .inl gC))] U.heap ∧ va_K (dC, dI) vwCl [(kC, .int)] U ∧ va_D (fun _ => True) [(aU, .inr (1, [.ref aM, .ref aC, .ref aB, .int iwk])), (aC, .inl (kC, 12, .inl gC))] ∧ qN U ∧ va_Z "PageGuards" "CONTROL_BITS" "[I" (.ref tB) (va_A [(aU, .inr (1, [.ref aM, .ref aC, .ref aB, .int iwk])), (aC, .inl (kC, 12, .inl gC))] sz) U U.heap ∧ va_T .int tB 12 (fun j => .int (qBits j)) (va_A [(aU, .inr (1, [.ref aM, .ref aC, .ref aB, .int iwk])), (aC, .inl (kC, 12, .inl gC))] sz) U U.heap)) (va_Qv (fun u : (Nat → Int32) => qCtl gC → qCtl u) (fun (u : (Nat → Int32)) (t : State) => va_P (dC, dI) vwCl [(aU, .inr (1, [.ref aM, .ref aC, .ref aB, .int iwk])), (aC, .inl (kC, 12, .inl u))] t.heap ∧ va_K (dC, dI) vwCl [(kC, .int)] t ∧ va_D (va_A [(aU, .inr (1, [.ref aM, .ref aC, .ref aB, .int iwk])), (aC, .inl (kC, 12, .inl gC))] sz) [(aU, .inr (1, [.ref aM, .ref aC, .ref aB, .int iwk])), (aC, .inl (kC, 12, .inl u))]) (va_A [(aU, .inr (1, [.ref aM, .ref aC, .ref aB, .int iwk])), (aC, .inl (kC, 12, .inl gC))] sz)) 0 0 (va_A [(aU, .inr (1, [.ref aM, .ref aC, .ref aB, .int iwk])), (aC, .inl (kC, 12, .inl gC))] sz) := by
  refine Met.ofW (cc := cX1_writeControl) (maxL := 3) (ret := none) (by decide) rfl ?_
  intro p e s m args below meth c s₁ B hml hv
  obtain ⟨rfl, hsz, hP, hK, hD0, hN, hZB, hTB⟩ := hv
  have hx := B.exec
  have hb := B.bytes
  have hr := B.returns
  have hts := atoms_spec (ws := wsX1_writeControl) B.pre
  have htb : ∀ w ∈ qT, w.before _ s = true := fun w h => hts w (List.mem_cons_of_mem _ h)
  have hown : s.vm.findClass RX1 = some m.cls := findClass_of_methodNamed B.named
  have hlocks := B.notSynchronized
  subst hsz
  have hD := hD0.self (sz := s.heap.size)
  generalize hAe : va_A [(aU, .inr (1, [.ref aM, .ref aC, .ref aB, .int iwk])), (aC, .inl (kC, 12, .inl gC))] s.heap.size = A at hD hZB hTB ⊢
  have hA : ∀ q : Nat, s.heap.size ≤ q → A q := fun q h => by rw [← hAe]; exact Or.inr h
  have hS : va_S A s.heap s.heap [] := va_S.rf
  have hP : va_P (dC, dI) vwCl [(aU, .inr (1, [.ref aM, .ref aC, .ref aB, .int iwk])), (aC, .inl (kC, 12, .inl gC))] s.heap := hP
  have hl := lv_entry ([.ref aU, .int ic, .int iv]) (n := 3) (Nat.le_of_ble_eq_true rfl)
  rw [lg_entry_eq]
  generalize (lg_sl ([.ref aU, .int ic, .int iv]) ++ List.replicate (3 - (lg_sl ([.ref aU, .int ic, .int iv])).length) Slot.unset).toArray = ls at hl ⊢
  have hl : lv_has ls 3 [(0, .ref aU), (1, .int ic), (2, .int iv)] := hl
  refine lv_aload_n hx hb dX1_writeControl_0 rfl (lv_at hl 0 rfl) ?_
  refine va_get (D := (dC, dI)) (ci := 1) (v := .ref aC) (C := RX1) (T := TX1) (N := 4) hx hb htb inX1 hown hK hP 0 rfl rfl 1 (by decide) (htb _ m1_41) (fun _ h9 => h9) rfl dX1_writeControl_1 ?_
  refine lv_iload_n hx hb dX1_writeControl_4 rfl (lv_at hl 1 rfl) ?_
  refine lv_iload_n hx hb dX1_writeControl_5 rfl (lv_at hl 2 rfl) ?_
  refine lv_iconst (v := 1) hx hb dX1_writeControl_6 (by decide) ?_
  refine va_getsN hx hb hZB hS hown (va_Nw.use rfl hN.2.2.2.2.2) (fun _ h9 => h9) dX1_writeControl_7 ?_
  refine lv_iload_n hx hb dX1_writeControl_10 rfl (lv_at hl 1 rfl) ?_
  refine va_ti (v := .int (qBits ic.toNatClampNeg)) hx hb hTB hS (bd_in hc11 (by decide) (by decide)) rfl dX1_writeControl_11 ?_
  refine lv_topi (fun v11 e11 => ?_)
  refine lv_ishl hx hb dX1_writeControl_12 ?_
  refine lv_topi (fun v12 e12 => ?_)
  refine lv_iconst (v := 1) hx hb dX1_writeControl_13 (by decide) ?_
  refine lv_isub hx hb dX1_writeControl_14 ?_
  refine lv_topi (fun v14 e14 => ?_)
  refine lv_iand hx hb dX1_writeControl_15 ?_
  refine lv_topi (fun v15 e15 => ?_)
  refine va_iast hx hb hK hP hD hS 1 0 rfl rfl (bd_in hc11 (by decide) (by decide)) dX1_writeControl_16 (fun H locs hP hD hS => ?_)
  have hP : va_P (dC, dI) vwCl [(aU, .inr (1, [.ref aM, .ref aC, .ref aB, .int iwk])), (aC, .inl (kC, 12, .inl (upd gC ic.toNatClampNeg v15)))] H := hP
  have hD : va_D A [(aU, .inr (1, [.ref aM, .ref aC, .ref aB, .int iwk])), (aC, .inl (kC, 12, .inl (upd gC ic.toNatClampNeg v15)))] := hD
  have hP9 := hP.sub (ws' := [(aU, .inr (1, [.ref aM, .ref aC, .ref aB, .int iwk])), (aC, .inl (kC, 12, .inl (upd gC ic.toNatClampNeg v15)))]) [0, 1] rfl
  have hD9 := hD.sub (ws' := [(aU, .inr (1, [.ref aM, .ref aC, .ref aB, .int iwk])), (aC, .inl (kC, 12, .inl (upd gC ic.toNatClampNeg v15)))]) [0, 1] (by decide) rfl
  have hK9 := hK.sub (tys' := [(kC, .int)]) [0] rfl
  exact W.vret hx hb hr (fun t ht hW => ⟨⟨(upd gC ic.toNatClampNeg v15), rfl, (q_ctl (by rw [e15, e14, e12, e11])), by rw [ht]; exact hP9, va_K.moved hW.alike hK9, hD9⟩, hS.F ht⟩) hS.2.2 dX1_writeControl_17
end
section
set_option maxHeartbeats 4000000 in
set_option maxRecDepth 100000 in
theorem cX_forgetAll (l : Launch) (dC : Nat → ClassId) (dI : Nat → Nat → Nat) (sz : Nat) (aB : Nat) (aF : Nat) (ius : Int32) (ict : Int32) : Met l yX0_forgetAll wsX0_forgetAll ({ frames := 0, cells := 0, slots := 0, locals := 0 }) (va_Pc [.ref aB] (fun U => U.heap.size = sz ∧ va_P (dC, dI) vwCl [(aB, .inr (0, [.ref aF, .int ius, .int ict]))] U.heap ∧ va_K (dC, dI) vwCl [] U ∧ va_D (fun _ => True) [(aB, .inr (0, [.ref aF, .int ius, .int ict]))])) (va_Qv (fun u : Unit => True) (fun (u : Unit) (t : State) => va_P (dC, dI) vwCl [(aB, .inr (0, [.ref aF, .int ius, .int 0]))] t.heap ∧ va_K (dC, dI) vwCl [] t ∧ va_D (va_A [(aB, .inr (0, [.ref aF, .int ius, .int ict]))] sz) [(aB, .inr (0, [.ref aF, .int ius, .int 0]))]) (va_A [(aB, .inr (0, [.ref aF, .int ius, .int ict]))] sz)) 0 0 (va_A [(aB, .inr (0, [.ref aF, .int ius, .int ict]))] sz) := by
  refine Met.ofW (cc := cX0_forgetAll) (maxL := 1) (ret := none) (by decide) rfl ?_
  intro p e s m args below meth c s₁ B hml hv
  obtain ⟨rfl, hsz, hP, hK, hD0⟩ := hv
  have hx := B.exec
  have hb := B.bytes
  have hr := B.returns
  have hts := atoms_spec (ws := wsX0_forgetAll) B.pre
  have htb : ∀ w ∈ qT, w.before _ s = true := fun w h => hts w (List.mem_cons_of_mem _ h)
  have hown : s.vm.findClass RX0 = some m.cls := findClass_of_methodNamed B.named
  have hlocks := B.notSynchronized
  subst hsz
  have hD := hD0.self (sz := s.heap.size)
  generalize hAe : va_A [(aB, .inr (0, [.ref aF, .int ius, .int ict]))] s.heap.size = A at hD ⊢
  have hA : ∀ q : Nat, s.heap.size ≤ q → A q := fun q h => by rw [← hAe]; exact Or.inr h
  have hS : va_S A s.heap s.heap [] := va_S.rf
  have hP : va_P (dC, dI) vwCl [(aB, .inr (0, [.ref aF, .int ius, .int ict]))] s.heap := hP
  have hl := lv_entry ([.ref aB]) (n := 1) (Nat.le_of_ble_eq_true rfl)
  rw [lg_entry_eq]
  generalize (lg_sl ([.ref aB]) ++ List.replicate (1 - (lg_sl ([.ref aB])).length) Slot.unset).toArray = ls at hl ⊢
  have hl : lv_has ls 1 [(0, .ref aB)] := hl
  refine lv_aload_n hx hb dX0_forgetAll_0 rfl (lv_at hl 0 rfl) ?_
  refine lv_iconst (v := 0) hx hb dX0_forgetAll_1 (by decide) ?_
  refine va_put (D := (dC, dI)) (ci := 0) (v := .int 0) (ty := .int) (C := RX0) (T := TX0) (N := 3) hx hb htb inX0 tyX0 tyX0_ok nmX0 hown hK hP hD hS 0 rfl rfl 2 (by decide) (htb _ m1_29) (fun _ h9 => h9) rfl (by decide +kernel) (by first | rfl | decide +kernel) (by first | rfl | decide +kernel) (Nat.le_of_ble_eq_true rfl) dX0_forgetAll_2 (fun H locs hP hD hS => ?_)
  have hP : va_P (dC, dI) vwCl [(aB, .inr (0, [.ref aF, .int ius, .int 0]))] H := hP
  have hD : va_D A [(aB, .inr (0, [.ref aF, .int ius, .int 0]))] := hD
  have hP9 := hP.sub (ws' := [(aB, .inr (0, [.ref aF, .int ius, .int 0]))]) [0] rfl
  have hD9 := hD.sub (ws' := [(aB, .inr (0, [.ref aF, .int ius, .int 0]))]) [0] (by decide) rfl
  have hK9 := hK.sub (tys' := []) [] rfl
  exact W.vret hx hb hr (fun t ht hW => ⟨⟨(), rfl, by trivial, by rw [ht]; exact hP9, va_K.moved hW.alike hK9, hD9⟩, hS.F ht⟩) hS.2.2 dX0_forgetAll_5
end
section
set_option maxHeartbeats 4000000 in
set_option maxRecDepth 100000 in
theorem cX_field (l : Launch) (dC : Nat → ClassId) (dI : Nat → Nat → Nat) (aB : Nat) (ik : Int32) (iw : Int32) (aF : Nat) (ius : Int32) (ict : Int32) (kF : ClassId) (gF : Nat → Int32) (hk6 : bd ik 0 6) (hw6 : bd iw 0 6) : Met l yX0_field wsX0_field ({ frames := 0, cells := 0, slots := 0, locals := 0 }) (va_Pc [.ref aB, .int ik, .int iw] (fun U => va_P (dC, dI) vwCl [(aB, .inr (0, [.ref aF, .int ius, .int ict])), (aF, .inl (kF, 49, .inl gF))] U.heap ∧ va_K (dC, dI) vwCl [(kF, .int)] U)) (vp_Si (fun r : Int32 => ∃ i : Nat, r = gF i)) 0 0 (fun _ => False) := by
  refine Met.ofW (cc := cX0_field) (maxL := 3) (ret := (some .int)) (by decide) rfl ?_
  intro p e s m args below meth c s₁ B hml hv
  obtain ⟨rfl, hP, hK⟩ := hv
  have hx := B.exec
  have hb := B.bytes
  have hr := B.returns
  have hts := atoms_spec (ws := wsX0_field) B.pre
  have htb : ∀ w ∈ qT, w.before _ s = true := fun w h => hts w (List.mem_cons_of_mem _ h)
  have hown : s.vm.findClass RX0 = some m.cls := findClass_of_methodNamed B.named
  have hlocks := B.notSynchronized
  have hP : va_P (dC, dI) vwCl [(aB, .inr (0, [.ref aF, .int ius, .int ict])), (aF, .inl (kF, 49, .inl gF))] s.heap := hP
  have hl := lv_entry ([.ref aB, .int ik, .int iw]) (n := 3) (Nat.le_of_ble_eq_true rfl)
  rw [lg_entry_eq]
  generalize (lg_sl ([.ref aB, .int ik, .int iw]) ++ List.replicate (3 - (lg_sl ([.ref aB, .int ik, .int iw])).length) Slot.unset).toArray = ls at hl ⊢
  have hl : lv_has ls 3 [(0, .ref aB), (1, .int ik), (2, .int iw)] := hl
  refine lv_aload_n hx hb dX0_field_0 rfl (lv_at hl 0 rfl) ?_
  refine va_get (D := (dC, dI)) (ci := 0) (v := .ref aF) (C := RX0) (T := TX0) (N := 3) hx hb htb inX0 hown hK hP 0 rfl rfl 0 (by decide) (htb _ m1_27) (fun _ h9 => h9) rfl dX0_field_1 ?_
  refine lv_iload_n hx hb dX0_field_4 rfl (lv_at hl 1 rfl) ?_
  refine lv_bipush (v := 7) hx hb dX0_field_5 (by decide) ?_
  refine lv_imul hx hb dX0_field_7 ?_
  refine lv_topi (fun v7 e7 => ?_)
  refine lv_iload_n hx hb dX0_field_8 rfl (lv_at hl 2 rfl) ?_
  refine lv_iadd hx hb dX0_field_9 ?_
  refine lv_topi (fun v9 e9 => ?_)
  refine va_iald hx hb hK hP 1 0 rfl rfl (by rw [e9, e7]; exact bd_in (bd_add (bd_mulr (n := 7) (by decide) (by decide) hk6 (by decide) (by decide)) hw6 (by decide) (by decide)) (by decide) (by decide)) dX0_field_10 ?_
  refine lv_topi (fun v10 e10 => ?_)
  exact W.iret (v := v10) hx hb hr (fun t ht hW => ⟨_, rfl, ⟨_, e10⟩, ht⟩) (fun _ h => by cases h) dX0_field_11
end
section
set_option maxHeartbeats 4000000 in
set_option maxRecDepth 100000 in
theorem cX_Buffer (l : Launch) (dC : Nat → ClassId) (dI : Nat → Nat → Nat) (sz : Nat) (aB : Nat) (iub : Int32) (hub : iub = 0 ∨ iub = 1) : Met l yX0_init wsX0_init ({ frames := 1, cells := 1, slots := 49, locals := 12 }) (va_Pc [.ref aB, .int iub] (fun U => U.heap.size = sz ∧ va_P (dC, dI) vwCl [(aB, .inr (0, [.null, .int 0, .int 0]))] U.heap ∧ va_K (dC, dI) vwCl [] U ∧ va_D (fun _ => True) [(aB, .inr (0, [.null, .int 0, .int 0]))])) (va_Qv (fun u : Nat × ClassId => True) (fun (u : Nat × ClassId) (t : State) => va_P (dC, dI) vwCl [(aB, .inr (0, [.ref u.1, .int iub, .int 0])), (u.1, .inl (u.2, 49, .inl (fun _ => 0)))] t.heap ∧ va_K (dC, dI) vwCl [(u.2, .int)] t ∧ va_D (va_A [(aB, .inr (0, [.null, .int 0, .int 0]))] sz) [(aB, .inr (0, [.ref u.1, .int iub, .int 0])), (u.1, .inl (u.2, 49, .inl (fun _ => 0)))]) (va_A [(aB, .inr (0, [.null, .int 0, .int 0]))] sz)) 1 49 (va_A [(aB, .inr (0, [.null, .int 0, .int 0]))] sz) := by
  refine Met.ofW (cc := cX0_init) (maxL := 2) (ret := none) (by decide) rfl ?_
  intro p e s m args below meth c s₁ B hml hv
  obtain ⟨rfl, hsz, hP, hK, hD0⟩ := hv
  have hx := B.exec
  have hb := B.bytes
  have hr := B.returns
  have hts := atoms_spec (ws := wsX0_init) B.pre
  have htb : ∀ w ∈ qT, w.before _ s = true := fun w h => hts w (List.mem_cons_of_mem _ h)
  have hown : s.vm.findClass RX0 = some m.cls := findClass_of_methodNamed B.named
  have hlocks := B.notSynchronized
  have hin : meth.name = "<init>" := (name_of_methodNamed B.named B.method).1
  subst hsz
  have hD := hD0.self (sz := s.heap.size)
  generalize hAe : va_A [(aB, .inr (0, [.null, .int 0, .int 0]))] s.heap.size = A at hD ⊢
  have hA : ∀ q : Nat, s.heap.size ≤ q → A q := fun q h => by rw [← hAe]; exact Or.inr h
  have hS : va_S A s.heap s.heap [] := va_S.rf
  have hP : va_P (dC, dI) vwCl [(aB, .inr (0, [.null, .int 0, .int 0]))] s.heap := hP
  have hl := lv_entry ([.ref aB, .int iub]) (n := 2) (Nat.le_of_ble_eq_true rfl)
  rw [lg_entry_eq]
  generalize (lg_sl ([.ref aB, .int iub]) ++ List.replicate (2 - (lg_sl ([.ref aB, .int iub])).length) Slot.unset).toArray = ls at hl ⊢
  have hl : lv_has ls 2 [(0, .ref aB), (1, .int iub)] := hl
  refine lv_aload_n hx hb dX0_init_0 rfl (lv_at hl 0 rfl) ?_
  refine W.objInit hx hb hown (htb _ m1_26) (htb _ m1_13) (htb _ m1_14) rfl (by rw [hml]; exact hl.1) rfl dX0_init_1 (Nat.le_of_ble_eq_true rfl) (Nat.le_of_ble_eq_true rfl) ?_
  refine W.eq (g2 := F0 m 4 ls []) rfl ?_
  refine lv_aload_n hx hb dX0_init_4 rfl (lv_at hl 0 rfl) ?_
  refine lv_bipush (v := 49) hx hb dX0_init_5 (by decide) ?_
  refine va_newa (atype := .int) (ty := .int) (a0 := (49, .inl (fun _ => 0))) (N' := 49) hx hb (htb _ m1_38) rfl hK hP hD hS hA (fun _ => rfl) (by decide) (by decide) (Nat.le_of_ble_eq_true rfl) (Nat.le_of_ble_eq_true rfl) (Nat.le_of_ble_eq_true rfl) dX0_init_7 (fun q7 c7 H hK hP hD hS => ?_)
  have hP : va_P (dC, dI) vwCl [(aB, .inr (0, [.null, .int 0, .int 0])), (q7, .inl (c7, 49, .inl (fun _ => 0)))] H := hP
  have hD : va_D A [(aB, .inr (0, [.null, .int 0, .int 0])), (q7, .inl (c7, 49, .inl (fun _ => 0)))] := hD
  have hK : va_K (dC, dI) vwCl [(c7, .int)] s := hK
  refine W.widen (k := 1) (n := 49) (by omega) (by omega) ?_
  refine va_putF (D := (dC, dI)) (ci := 0) (v := .ref q7) (ty := .array .int) (C := RX0) (T := TX0) (N := 3) hx hb htb inX0 tyX0 tyX0_ok nmX0 hown hK hP hD hS 0 rfl rfl 0 (by decide) (htb _ m1_27) (fun _ h9 => h9) rfl hin rfl (by decide +kernel) (by first | rfl | decide +kernel) (by first | rfl | decide +kernel) (Nat.le_of_ble_eq_true rfl) dX0_init_9 (fun H locs hP hD hS => ?_)
  have hP : va_P (dC, dI) vwCl [(aB, .inr (0, [.ref q7, .int 0, .int 0])), (q7, .inl (c7, 49, .inl (fun _ => 0)))] H := hP
  have hD : va_D A [(aB, .inr (0, [.ref q7, .int 0, .int 0])), (q7, .inl (c7, 49, .inl (fun _ => 0)))] := hD
  refine lv_aload_n hx hb dX0_init_12 rfl (lv_at hl 0 rfl) ?_
  refine lv_iload_n hx hb dX0_init_13 rfl (lv_at hl 1 rfl) ?_
  refine va_putF (D := (dC, dI)) (ci := 0) (v := .int iub) (ty := .boolean) (C := RX0) (T := TX0) (N := 3) hx hb htb inX0 tyX0 tyX0_ok nmX0 hown hK hP hD hS 0 rfl rfl 1 (by decide) (htb _ m1_28) (fun _ h9 => h9) rfl hin rfl (by decide +kernel) (by rcases hub with h | h <;> rw [h] <;> first | rfl | decide +kernel) (by rcases hub with h | h <;> rw [h] <;> first | rfl | decide +kernel) (Nat.le_of_ble_eq_true rfl) dX0_init_14 (fun H locs hP hD hS => ?_)
  have hP : va_P (dC, dI) vwCl [(aB, .inr (0, [.ref q7, .int iub, .int 0])), (q7, .inl (c7, 49, .inl (fun _ => 0)))] H := hP
  have hD : va_D A [(aB, .inr (0, [.ref q7, .int iub, .int 0])), (q7, .inl (c7, 49, .inl (fun _ => 0)))] := hD
  have hP9 := hP.sub (ws' := [(aB, .inr (0, [.ref q7, .int iub, .int 0])), (q7, .inl (c7, 49, .inl (fun _ => 0)))]) [0, 1] rfl
  have hD9 := hD.sub (ws' := [(aB, .inr (0, [.ref q7, .int iub, .int 0])), (q7, .inl (c7, 49, .inl (fun _ => 0)))]) [0, 1] (by decide) rfl
  have hK9 := hK.sub (tys' := [(c7, .int)]) [0] rfl
  refine W.widen (k := 1) (n := 49) (by omega) (by omega) ?_
  exact W.vret hx hb hr (fun t ht hW => ⟨⟨(q7, c7), rfl, by trivial, by rw [ht]; exact hP9, va_K.moved hW.alike hK9, hD9⟩, hS.F ht⟩) hS.2.2 dX0_init_17
end
section
set_option maxHeartbeats 4000000 in
set_option maxRecDepth 100000 in
theorem cX_Unit (l : Launch) (dC : Nat → ClassId) (dI : Nat → Nat → Nat) (sz : Nat) (aU : Nat) (iub : Int32) (hub : iub = 0 ∨ iub = 1) : Met l yX1_init wsX1_init ({ frames := 2, cells := 4, slots := 576, locals := 33 }) (va_Pc [.ref aU, .int iub] (fun U => U.heap.size = sz ∧ va_P (dC, dI) vwCl [(aU, .inr (1, [.null, .null, .null, .int 0]))] U.heap ∧ va_K (dC, dI) vwCl [] U ∧ va_D (fun _ => True) [(aU, .inr (1, [.null, .null, .null, .int 0]))] ∧ qN U)) (va_Qv (fun u : Nat × ClassId × Nat × ClassId × Nat × Nat × ClassId => True) (fun (u : Nat × ClassId × Nat × ClassId × Nat × Nat × ClassId) (t : State) => va_P (dC, dI) vwCl [(aU, .inr (1, [.ref u.1, .ref u.2.2.1, .ref u.2.2.2.2.1, .int 0])), (u.1, .inl (u.2.1, 512, .inl (fun _ => 0))), (u.2.2.1, .inl (u.2.2.2.1, 12, .inl (fun _ => 0))), (u.2.2.2.2.1, .inr (0, [.ref u.2.2.2.2.2.1, .int iub, .int 0])), (u.2.2.2.2.2.1, .inl (u.2.2.2.2.2.2, 49, .inl (fun _ => 0)))] t.heap ∧ va_K (dC, dI) vwCl [(u.2.1, .int), (u.2.2.2.1, .int), (u.2.2.2.2.2.2, .int)] t ∧ va_D (va_A [(aU, .inr (1, [.null, .null, .null, .int 0]))] sz) [(aU, .inr (1, [.ref u.1, .ref u.2.2.1, .ref u.2.2.2.2.1, .int 0])), (u.1, .inl (u.2.1, 512, .inl (fun _ => 0))), (u.2.2.1, .inl (u.2.2.2.1, 12, .inl (fun _ => 0))), (u.2.2.2.2.1, .inr (0, [.ref u.2.2.2.2.2.1, .int iub, .int 0])), (u.2.2.2.2.2.1, .inl (u.2.2.2.2.2.2, 49, .inl (fun _ => 0)))]) (va_A [(aU, .inr (1, [.null, .null, .null, .int 0]))] sz)) 4 576 (va_A [(aU, .inr (1, [.null, .null, .null, .int 0]))] sz) := by
  refine Met.ofW (cc := cX1_init) (maxL := 2) (ret := none) (by decide) rfl ?_
  intro p e s m args below meth c s₁ B hml hv
  obtain ⟨rfl, hsz, hP, hK, hD0, hN⟩ := hv
  have hx := B.exec
  have hb := B.bytes
  have hr := B.returns
  have hts := atoms_spec (ws := wsX1_init) B.pre
  have htb : ∀ w ∈ qT, w.before _ s = true := fun w h => hts w (List.mem_cons_of_mem _ h)
  have hown : s.vm.findClass RX1 = some m.cls := findClass_of_methodNamed B.named
  have hlocks := B.notSynchronized
  have hin : meth.name = "<init>" := (name_of_methodNamed B.named B.method).1
  subst hsz
  have hD := hD0.self (sz := s.heap.size)
  generalize hAe : va_A [(aU, .inr (1, [.null, .null, .null, .int 0]))] s.heap.size = A at hD ⊢
  have hA : ∀ q : Nat, s.heap.size ≤ q → A q := fun q h => by rw [← hAe]; exact Or.inr h
  have hS : va_S A s.heap s.heap [] := va_S.rf
  have hP : va_P (dC, dI) vwCl [(aU, .inr (1, [.null, .null, .null, .int 0]))] s.heap := hP
  have hl := lv_entry ([.ref aU, .int iub]) (n := 2) (Nat.le_of_ble_eq_true rfl)
  rw [lg_entry_eq]
  generalize (lg_sl ([.ref aU, .int iub]) ++ List.replicate (2 - (lg_sl ([.ref aU, .int iub])).length) Slot.unset).toArray = ls at hl ⊢
  have hl : lv_has ls 2 [(0, .ref aU), (1, .int iub)] := hl
  refine lv_aload_n hx hb dX1_init_0 rfl (lv_at hl 0 rfl) ?_
  refine W.objInit hx hb hown (htb _ m1_20) (htb _ m1_13) (htb _ m1_14) rfl (by rw [hml]; exact hl.1) rfl dX1_init_1 (Nat.le_of_ble_eq_true rfl) (Nat.le_of_ble_eq_true rfl) ?_
  refine W.eq (g2 := F0 m 4 ls []) rfl ?_
  refine lv_aload_n hx hb dX1_init_4 rfl (lv_at hl 0 rfl) ?_
  refine lv_sipush (v := 512) hx hb dX1_init_5 (by decide) ?_
  refine va_newa (atype := .int) (ty := .int) (a0 := (512, .inl (fun _ => 0))) (N' := 512) hx hb (htb _ m1_38) rfl hK hP hD hS hA (fun _ => rfl) (by decide) (by decide) (Nat.le_of_ble_eq_true rfl) (Nat.le_of_ble_eq_true rfl) (Nat.le_of_ble_eq_true rfl) dX1_init_8 (fun q8 c8 H hK hP hD hS => ?_)
  have hP : va_P (dC, dI) vwCl [(aU, .inr (1, [.null, .null, .null, .int 0])), (q8, .inl (c8, 512, .inl (fun _ => 0)))] H := hP
  have hD : va_D A [(aU, .inr (1, [.null, .null, .null, .int 0])), (q8, .inl (c8, 512, .inl (fun _ => 0)))] := hD
  have hK : va_K (dC, dI) vwCl [(c8, .int)] s := hK
  refine W.widen (k := 1) (n := 512) (by omega) (by omega) ?_
  refine va_putF (D := (dC, dI)) (ci := 1) (v := .ref q8) (ty := .array .int) (C := RX1) (T := TX1) (N := 4) hx hb htb inX1 tyX1 tyX1_ok nmX1 hown hK hP hD hS 0 rfl rfl 0 (by decide) (htb _ m1_39) (fun _ h9 => h9) rfl hin rfl (by decide +kernel) (by first | rfl | decide +kernel) (by first | rfl | decide +kernel) (Nat.le_of_ble_eq_true rfl) dX1_init_10 (fun H locs hP hD hS => ?_)
  have hP : va_P (dC, dI) vwCl [(aU, .inr (1, [.ref q8, .null, .null, .int 0])), (q8, .inl (c8, 512, .inl (fun _ => 0)))] H := hP
  have hD : va_D A [(aU, .inr (1, [.ref q8, .null, .null, .int 0])), (q8, .inl (c8, 512, .inl (fun _ => 0)))] := hD
  refine lv_aload_n hx hb dX1_init_13 rfl (lv_at hl 0 rfl) ?_
  refine lv_bipush (v := 12) hx hb dX1_init_14 (by decide) ?_
  refine va_newa (atype := .int) (ty := .int) (a0 := (12, .inl (fun _ => 0))) (N' := 12) hx hb (htb _ m1_38) rfl hK hP hD hS hA (fun _ => rfl) (by decide) (by decide) (Nat.le_of_ble_eq_true rfl) (Nat.le_of_ble_eq_true rfl) (Nat.le_of_ble_eq_true rfl) dX1_init_16 (fun q16 c16 H hK hP hD hS => ?_)
  have hP : va_P (dC, dI) vwCl [(aU, .inr (1, [.ref q8, .null, .null, .int 0])), (q8, .inl (c8, 512, .inl (fun _ => 0))), (q16, .inl (c16, 12, .inl (fun _ => 0)))] H := hP
  have hD : va_D A [(aU, .inr (1, [.ref q8, .null, .null, .int 0])), (q8, .inl (c8, 512, .inl (fun _ => 0))), (q16, .inl (c16, 12, .inl (fun _ => 0)))] := hD
  have hK : va_K (dC, dI) vwCl [(c8, .int), (c16, .int)] s := hK
  refine W.widen (k := 2) (n := 524) (by omega) (by omega) ?_
  refine va_putF (D := (dC, dI)) (ci := 1) (v := .ref q16) (ty := .array .int) (C := RX1) (T := TX1) (N := 4) hx hb htb inX1 tyX1 tyX1_ok nmX1 hown hK hP hD hS 0 rfl rfl 1 (by decide) (htb _ m1_41) (fun _ h9 => h9) rfl hin rfl (by decide +kernel) (by first | rfl | decide +kernel) (by first | rfl | decide +kernel) (Nat.le_of_ble_eq_true rfl) dX1_init_18 (fun H locs hP hD hS => ?_)
  have hP : va_P (dC, dI) vwCl [(aU, .inr (1, [.ref q8, .ref q16, .null, .int 0])), (q8, .inl (c8, 512, .inl (fun _ => 0))), (q16, .inl (c16, 12, .inl (fun _ => 0)))] H := hP
  have hD : va_D A [(aU, .inr (1, [.ref q8, .ref q16, .null, .int 0])), (q8, .inl (c8, 512, .inl (fun _ => 0))), (q16, .inl (c16, 12, .inl (fun _ => 0)))] := hD
  refine lv_aload_n hx hb dX1_init_21 rfl (lv_at hl 0 rfl) ?_
  refine va_new (ci := 0) (fs := [.null, .int 0, .int 0]) (C := RX0) (T := TX0) (N := 3) hx hb htb inX0 tyX0 tyX0_ok hown (htb _ m1_21) (htb _ m1_22) (htb _ m1_3) hK hP hD hS hA rfl (fun j hj => by rcases (show j = 0 ∨ j = 1 ∨ j = 2 by omega) with rfl | rfl | rfl <;> rfl) (Nat.le_of_ble_eq_true rfl) (Nat.le_of_ble_eq_true rfl) dX1_init_22 (fun q22 H hP hD hS => ?_)
  have hP : va_P (dC, dI) vwCl [(aU, .inr (1, [.ref q8, .ref q16, .null, .int 0])), (q8, .inl (c8, 512, .inl (fun _ => 0))), (q16, .inl (c16, 12, .inl (fun _ => 0))), (q22, .inr (0, [.null, .int 0, .int 0]))] H := hP
  have hD : va_D A [(aU, .inr (1, [.ref q8, .ref q16, .null, .int 0])), (q8, .inl (c8, 512, .inl (fun _ => 0))), (q16, .inl (c16, 12, .inl (fun _ => 0))), (q22, .inr (0, [.null, .int 0, .int 0]))] := hD
  refine W.widen (k := 3) (n := 527) (by omega) (by omega) ?_
  refine lv_dup hx hb dX1_init_25 rfl ?_
  refine lv_iload_n hx hb dX1_init_26 rfl (lv_at hl 1 rfl) ?_
  have hPc := hP.sub (ws' := [(q22, .inr (0, [.null, .int 0, .int 0]))]) [3] rfl
  have hKc := hK.sub (tys' := []) [] rfl
  have hDc := hD.sub (ws' := [(q22, .inr (0, [.null, .int 0, .int 0]))]) [3] (by decide) rfl
  have hFc := va_free (wc := [(q22, .inr (0, [.null, .int 0, .int 0]))]) hD hS hA [3] rfl
  refine va_callv (va_runI (As := [.int iub]) (rest := [.ref q22, .ref aU]) ⟨hx, hb, hml, hown, htb⟩ (cX_Buffer l dC dI H.size q22 iub hub) (cwI 1 htb (q_gI m1_25) rfl rfl rfl (htb _ m1_3) (htb _ m1_23) (htb _ m1_24) rfl (by decide +kernel) ⟨Nat.le_of_ble_eq_true rfl, Nat.le_of_ble_eq_true rfl⟩) ⟨fun a U g mk q => by obtain ⟨q0, q1, qP, qK, qD⟩ := q; exact ⟨q0, q1, qP, va_K.moved (u := U) (U := U.calling g mk a) (Vm.Alike.refl U.vm) qK, qD⟩, fun U hU hW => ⟨rfl, by rw [hU], by rw [hU]; exact hPc, va_K.moved hW.alike hKc, hDc.weaken (fun _ _ _ _ => trivial)⟩⟩ rfl rfl hl.1 rfl (lv_room (Nat.le_of_ble_eq_true rfl)) dX1_init_27 ⟨Nat.le_of_ble_eq_true rfl, Nat.le_of_ble_eq_true rfl⟩) hS (fun q _ h => hFc q h) hFc (fun u t H1 locs ht hvm p27 hB hz1 hk1 hS => ?_)
  obtain ⟨aF_27, kF_27⟩ := u
  obtain ⟨hP1, hK1, hD1⟩ := hB
  rw [ht] at hP1
  have hK1 := va_K.moved hvm.symm hK1
  try dsimp only at p27
  obtain ⟨hP, hD⟩ := va_join (wr := [(aU, .inr (1, [.ref q8, .ref q16, .null, .int 0])), (q8, .inl (c8, 512, .inl (fun _ => 0))), (q16, .inl (c16, 12, .inl (fun _ => 0)))]) (w1 := [(q22, .inr (0, [.ref aF_27, .int iub, .int 0])), (aF_27, .inl (kF_27, 49, .inl (fun _ => 0)))]) hP hD [3] [0, 1, 2] rfl rfl (by decide) (by decide) hk1 hFc hP1 hD1
  have hK := (hK.sub (tys' := [(c8, .int), (c16, .int)]) [0, 1] rfl).app hK1
  generalize H1 = H at hP hS ⊢
  have hP : va_P (dC, dI) vwCl [(aU, .inr (1, [.ref q8, .ref q16, .null, .int 0])), (q8, .inl (c8, 512, .inl (fun _ => 0))), (q16, .inl (c16, 12, .inl (fun _ => 0))), (q22, .inr (0, [.ref aF_27, .int iub, .int 0])), (aF_27, .inl (kF_27, 49, .inl (fun _ => 0)))] H := hP
  have hD : va_D A [(aU, .inr (1, [.ref q8, .ref q16, .null, .int 0])), (q8, .inl (c8, 512, .inl (fun _ => 0))), (q16, .inl (c16, 12, .inl (fun _ => 0))), (q22, .inr (0, [.ref aF_27, .int iub, .int 0])), (aF_27, .inl (kF_27, 49, .inl (fun _ => 0)))] := hD
  have hK : va_K (dC, dI) vwCl [(c8, .int), (c16, .int), (kF_27, .int)] s := hK
  refine W.widen (k := 4) (n := 576) (by omega) (by omega) ?_
  refine va_putF (D := (dC, dI)) (ci := 1) (v := .ref q22) (ty := .object "PageGuards$Buffer") (C := RX1) (T := TX1) (N := 4) hx hb htb inX1 tyX1 tyX1_ok nmX1 hown hK hP hD hS 0 rfl rfl 2 (by decide) (htb _ m1_43) (fun _ h9 => h9) rfl hin rfl (by decide +kernel) (by first | rfl | decide +kernel) (by first | rfl | decide +kernel) (Nat.le_of_ble_eq_true rfl) dX1_init_30 (fun H locs hP hD hS => ?_)
  have hP : va_P (dC, dI) vwCl [(aU, .inr (1, [.ref q8, .ref q16, .ref q22, .int 0])), (q8, .inl (c8, 512, .inl (fun _ => 0))), (q16, .inl (c16, 12, .inl (fun _ => 0))), (q22, .inr (0, [.ref aF_27, .int iub, .int 0])), (aF_27, .inl (kF_27, 49, .inl (fun _ => 0)))] H := hP
  have hD : va_D A [(aU, .inr (1, [.ref q8, .ref q16, .ref q22, .int 0])), (q8, .inl (c8, 512, .inl (fun _ => 0))), (q16, .inl (c16, 12, .inl (fun _ => 0))), (q22, .inr (0, [.ref aF_27, .int iub, .int 0])), (aF_27, .inl (kF_27, 49, .inl (fun _ => 0)))] := hD
  have hP9 := hP.sub (ws' := [(aU, .inr (1, [.ref q8, .ref q16, .ref q22, .int 0])), (q8, .inl (c8, 512, .inl (fun _ => 0))), (q16, .inl (c16, 12, .inl (fun _ => 0))), (q22, .inr (0, [.ref aF_27, .int iub, .int 0])), (aF_27, .inl (kF_27, 49, .inl (fun _ => 0)))]) [0, 1, 2, 3, 4] rfl
  have hD9 := hD.sub (ws' := [(aU, .inr (1, [.ref q8, .ref q16, .ref q22, .int 0])), (q8, .inl (c8, 512, .inl (fun _ => 0))), (q16, .inl (c16, 12, .inl (fun _ => 0))), (q22, .inr (0, [.ref aF_27, .int iub, .int 0])), (aF_27, .inl (kF_27, 49, .inl (fun _ => 0)))]) [0, 1, 2, 3, 4] (by decide) rfl
  have hK9 := hK.sub (tys' := [(c8, .int), (c16, .int), (kF_27, .int)]) [0, 1, 2] rfl
  refine W.widen (k := 4) (n := 576) (by omega) (by omega) ?_
  exact W.vret hx hb hr (fun t ht hW => ⟨⟨(q8, c8, q16, c16, q22, aF_27, kF_27), rfl, by trivial, by rw [ht]; exact hP9, va_K.moved hW.alike hK9, hD9⟩, hS.F ht⟩) hS.2.2 dX1_init_33
end
section
set_option maxHeartbeats 4000000 in
set_option maxRecDepth 100000 in
theorem cX_init (l : Launch) (dC : Nat → ClassId) (dI : Nat → Nat → Nat) (sz : Nat) (aP : Nat) (ibu : Int32) : Met l yX2_init wsX2_init ({ frames := 3, cells := 8, slots := 618, locals := 54 }) (va_Pc [.ref aP, .int ibu] (fun U => U.heap.size = sz ∧ va_P (dC, dI) vwCl [(aP, .inr (2, [.null, .null, .null, .null, .int 0, .int 0, .int 0, .int 0, .int 0]))] U.heap ∧ va_K (dC, dI) vwCl [] U ∧ va_D (fun _ => True) [(aP, .inr (2, [.null, .null, .null, .null, .int 0, .int 0, .int 0, .int 0, .int 0]))] ∧ qN U)) (va_Qv (fun u : Nat × Nat × ClassId × Nat × ClassId × Nat × ClassId × Nat × ClassId × Nat × ClassId × Nat × Int32 × Nat × ClassId => True) (fun (u : Nat × Nat × ClassId × Nat × ClassId × Nat × ClassId × Nat × ClassId × Nat × ClassId × Nat × Int32 × Nat × ClassId) (t : State) => va_P (dC, dI) vwCl [(aP, .inr (2, [.ref u.1, .ref u.2.1, .ref u.2.2.2.1, .ref u.2.2.2.2.2.1, .int 0, .int 25, .int 0, .int 0, .int 1])), (u.1, .inr (1, [.ref u.2.2.2.2.2.2.2.1, .ref u.2.2.2.2.2.2.2.2.2.1, .ref u.2.2.2.2.2.2.2.2.2.2.2.1, .int 0])), (u.2.2.2.2.2.2.2.2.2.2.2.1, .inr (0, [.ref u.2.2.2.2.2.2.2.2.2.2.2.2.2.1, .int u.2.2.2.2.2.2.2.2.2.2.2.2.1, .int 0])), (u.2.1, .inl (u.2.2.1, 22, .inl (fun _ => 0))), (u.2.2.2.1, .inl (u.2.2.2.2.1, 8, .inl (fun _ => 0))), (u.2.2.2.2.2.1, .inl (u.2.2.2.2.2.2.1, 8, .inl (fun _ => 0))), (u.2.2.2.2.2.2.2.1, .inl (u.2.2.2.2.2.2.2.2.1, 512, .inl (fun _ => 0))), (u.2.2.2.2.2.2.2.2.2.1, .inl (u.2.2.2.2.2.2.2.2.2.2.1, 12, .inl (fun _ => 0))), (u.2.2.2.2.2.2.2.2.2.2.2.2.2.1, .inl (u.2.2.2.2.2.2.2.2.2.2.2.2.2.2, 49, .inl (fun _ => 0)))] t.heap ∧ va_K (dC, dI) vwCl [(u.2.2.1, .int), (u.2.2.2.2.1, .int), (u.2.2.2.2.2.2.1, .int), (u.2.2.2.2.2.2.2.2.1, .int), (u.2.2.2.2.2.2.2.2.2.2.1, .int), (u.2.2.2.2.2.2.2.2.2.2.2.2.2.2, .int)] t ∧ va_D (va_A [(aP, .inr (2, [.null, .null, .null, .null, .int 0, .int 0, .int 0, .int 0, .int 0]))] sz) [(aP, .inr (2, [.ref u.1, .ref u.2.1, .ref u.2.2.2.1, .ref u.2.2.2.2.2.1, .int 0, .int 25, .int 0, .int 0, .int 1])), (u.1, .inr (1, [.ref u.2.2.2.2.2.2.2.1, .ref u.2.2.2.2.2.2.2.2.2.1, .ref u.2.2.2.2.2.2.2.2.2.2.2.1, .int 0])), (u.2.2.2.2.2.2.2.2.2.2.2.1, .inr (0, [.ref u.2.2.2.2.2.2.2.2.2.2.2.2.2.1, .int u.2.2.2.2.2.2.2.2.2.2.2.2.1, .int 0])), (u.2.1, .inl (u.2.2.1, 22, .inl (fun _ => 0))), (u.2.2.2.1, .inl (u.2.2.2.2.1, 8, .inl (fun _ => 0))), (u.2.2.2.2.2.1, .inl (u.2.2.2.2.2.2.1, 8, .inl (fun _ => 0))), (u.2.2.2.2.2.2.2.1, .inl (u.2.2.2.2.2.2.2.2.1, 512, .inl (fun _ => 0))), (u.2.2.2.2.2.2.2.2.2.1, .inl (u.2.2.2.2.2.2.2.2.2.2.1, 12, .inl (fun _ => 0))), (u.2.2.2.2.2.2.2.2.2.2.2.2.2.1, .inl (u.2.2.2.2.2.2.2.2.2.2.2.2.2.2, 49, .inl (fun _ => 0)))]) (va_A [(aP, .inr (2, [.null, .null, .null, .null, .int 0, .int 0, .int 0, .int 0, .int 0]))] sz)) 8 618 (va_A [(aP, .inr (2, [.null, .null, .null, .null, .int 0, .int 0, .int 0, .int 0, .int 0]))] sz) := by
  refine Met.ofW (cc := cX2_init) (maxL := 2) (ret := none) (by decide) rfl ?_
  intro p e s m args below meth c s₁ B hml hv
  obtain ⟨rfl, hsz, hP, hK, hD0, hN⟩ := hv
  have hx := B.exec
  have hb := B.bytes
  have hr := B.returns
  have hts := atoms_spec (ws := wsX2_init) B.pre
  have htb : ∀ w ∈ qT, w.before _ s = true := fun w h => hts w (List.mem_cons_of_mem _ h)
  have hown : s.vm.findClass RX2 = some m.cls := findClass_of_methodNamed B.named
  have hlocks := B.notSynchronized
  have hin : meth.name = "<init>" := (name_of_methodNamed B.named B.method).1
  subst hsz
  have hD := hD0.self (sz := s.heap.size)
  generalize hAe : va_A [(aP, .inr (2, [.null, .null, .null, .null, .int 0, .int 0, .int 0, .int 0, .int 0]))] s.heap.size = A at hD ⊢
  have hA : ∀ q : Nat, s.heap.size ≤ q → A q := fun q h => by rw [← hAe]; exact Or.inr h
  have hS : va_S A s.heap s.heap [] := va_S.rf
  have hP : va_P (dC, dI) vwCl [(aP, .inr (2, [.null, .null, .null, .null, .int 0, .int 0, .int 0, .int 0, .int 0]))] s.heap := hP
  have hl := lv_entry ([.ref aP, .int ibu]) (n := 2) (Nat.le_of_ble_eq_true rfl)
  rw [lg_entry_eq]
  generalize (lg_sl ([.ref aP, .int ibu]) ++ List.replicate (2 - (lg_sl ([.ref aP, .int ibu])).length) Slot.unset).toArray = ls at hl ⊢
  have hl : lv_has ls 2 [(0, .ref aP), (1, .int ibu)] := hl
  refine lv_aload_n hx hb dX2_init_0 rfl (lv_at hl 0 rfl) ?_
  refine W.objInit hx hb hown (htb _ m1_12) (htb _ m1_13) (htb _ m1_14) rfl (by rw [hml]; exact hl.1) rfl dX2_init_1 (Nat.le_of_ble_eq_true rfl) (Nat.le_of_ble_eq_true rfl) ?_
  refine W.eq (g2 := F0 m 4 ls []) rfl ?_
  refine lv_aload_n hx hb dX2_init_4 rfl (lv_at hl 0 rfl) ?_
  refine lv_bipush (v := 22) hx hb dX2_init_5 (by decide) ?_
  refine va_newa (atype := .int) (ty := .int) (a0 := (22, .inl (fun _ => 0))) (N' := 22) hx hb (htb _ m1_38) rfl hK hP hD hS hA (fun _ => rfl) (by decide) (by decide) (Nat.le_of_ble_eq_true rfl) (Nat.le_of_ble_eq_true rfl) (Nat.le_of_ble_eq_true rfl) dX2_init_7 (fun q7 c7 H hK hP hD hS => ?_)
  have hP : va_P (dC, dI) vwCl [(aP, .inr (2, [.null, .null, .null, .null, .int 0, .int 0, .int 0, .int 0, .int 0])), (q7, .inl (c7, 22, .inl (fun _ => 0)))] H := hP
  have hD : va_D A [(aP, .inr (2, [.null, .null, .null, .null, .int 0, .int 0, .int 0, .int 0, .int 0])), (q7, .inl (c7, 22, .inl (fun _ => 0)))] := hD
  have hK : va_K (dC, dI) vwCl [(c7, .int)] s := hK
  refine W.widen (k := 1) (n := 22) (by omega) (by omega) ?_
  refine va_putF (D := (dC, dI)) (ci := 2) (v := .ref q7) (ty := .array .int) (C := RX2) (T := TX2) (N := 9) hx hb htb inX2 tyX2 tyX2_ok nmX2 hown hK hP hD hS 0 rfl rfl 1 (by decide) (htb _ m1_57) (fun _ h9 => h9) rfl hin rfl (by decide +kernel) (by first | rfl | decide +kernel) (by first | rfl | decide +kernel) (Nat.le_of_ble_eq_true rfl) dX2_init_9 (fun H locs hP hD hS => ?_)
  have hP : va_P (dC, dI) vwCl [(aP, .inr (2, [.null, .ref q7, .null, .null, .int 0, .int 0, .int 0, .int 0, .int 0])), (q7, .inl (c7, 22, .inl (fun _ => 0)))] H := hP
  have hD : va_D A [(aP, .inr (2, [.null, .ref q7, .null, .null, .int 0, .int 0, .int 0, .int 0, .int 0])), (q7, .inl (c7, 22, .inl (fun _ => 0)))] := hD
  refine lv_aload_n hx hb dX2_init_12 rfl (lv_at hl 0 rfl) ?_
  refine lv_bipush (v := 8) hx hb dX2_init_13 (by decide) ?_
  refine va_newa (atype := .int) (ty := .int) (a0 := (8, .inl (fun _ => 0))) (N' := 8) hx hb (htb _ m1_38) rfl hK hP hD hS hA (fun _ => rfl) (by decide) (by decide) (Nat.le_of_ble_eq_true rfl) (Nat.le_of_ble_eq_true rfl) (Nat.le_of_ble_eq_true rfl) dX2_init_15 (fun q15 c15 H hK hP hD hS => ?_)
  have hP : va_P (dC, dI) vwCl [(aP, .inr (2, [.null, .ref q7, .null, .null, .int 0, .int 0, .int 0, .int 0, .int 0])), (q7, .inl (c7, 22, .inl (fun _ => 0))), (q15, .inl (c15, 8, .inl (fun _ => 0)))] H := hP
  have hD : va_D A [(aP, .inr (2, [.null, .ref q7, .null, .null, .int 0, .int 0, .int 0, .int 0, .int 0])), (q7, .inl (c7, 22, .inl (fun _ => 0))), (q15, .inl (c15, 8, .inl (fun _ => 0)))] := hD
  have hK : va_K (dC, dI) vwCl [(c7, .int), (c15, .int)] s := hK
  refine W.widen (k := 2) (n := 30) (by omega) (by omega) ?_
  refine va_putF (D := (dC, dI)) (ci := 2) (v := .ref q15) (ty := .array .int) (C := RX2) (T := TX2) (N := 9) hx hb htb inX2 tyX2 tyX2_ok nmX2 hown hK hP hD hS 0 rfl rfl 2 (by decide) (htb _ m1_58) (fun _ h9 => h9) rfl hin rfl (by decide +kernel) (by first | rfl | decide +kernel) (by first | rfl | decide +kernel) (Nat.le_of_ble_eq_true rfl) dX2_init_17 (fun H locs hP hD hS => ?_)
  have hP : va_P (dC, dI) vwCl [(aP, .inr (2, [.null, .ref q7, .ref q15, .null, .int 0, .int 0, .int 0, .int 0, .int 0])), (q7, .inl (c7, 22, .inl (fun _ => 0))), (q15, .inl (c15, 8, .inl (fun _ => 0)))] H := hP
  have hD : va_D A [(aP, .inr (2, [.null, .ref q7, .ref q15, .null, .int 0, .int 0, .int 0, .int 0, .int 0])), (q7, .inl (c7, 22, .inl (fun _ => 0))), (q15, .inl (c15, 8, .inl (fun _ => 0)))] := hD
  refine lv_aload_n hx hb dX2_init_20 rfl (lv_at hl 0 rfl) ?_
  refine lv_bipush (v := 8) hx hb dX2_init_21 (by decide) ?_
  refine va_newa (atype := .int) (ty := .int) (a0 := (8, .inl (fun _ => 0))) (N' := 8) hx hb (htb _ m1_38) rfl hK hP hD hS hA (fun _ => rfl) (by decide) (by decide) (Nat.le_of_ble_eq_true rfl) (Nat.le_of_ble_eq_true rfl) (Nat.le_of_ble_eq_true rfl) dX2_init_23 (fun q23 c23 H hK hP hD hS => ?_)
  have hP : va_P (dC, dI) vwCl [(aP, .inr (2, [.null, .ref q7, .ref q15, .null, .int 0, .int 0, .int 0, .int 0, .int 0])), (q7, .inl (c7, 22, .inl (fun _ => 0))), (q15, .inl (c15, 8, .inl (fun _ => 0))), (q23, .inl (c23, 8, .inl (fun _ => 0)))] H := hP
  have hD : va_D A [(aP, .inr (2, [.null, .ref q7, .ref q15, .null, .int 0, .int 0, .int 0, .int 0, .int 0])), (q7, .inl (c7, 22, .inl (fun _ => 0))), (q15, .inl (c15, 8, .inl (fun _ => 0))), (q23, .inl (c23, 8, .inl (fun _ => 0)))] := hD
  have hK : va_K (dC, dI) vwCl [(c7, .int), (c15, .int), (c23, .int)] s := hK
  refine W.widen (k := 3) (n := 38) (by omega) (by omega) ?_
  refine va_putF (D := (dC, dI)) (ci := 2) (v := .ref q23) (ty := .array .int) (C := RX2) (T := TX2) (N := 9) hx hb htb inX2 tyX2 tyX2_ok nmX2 hown hK hP hD hS 0 rfl rfl 3 (by decide) (htb _ m1_59) (fun _ h9 => h9) rfl hin rfl (by decide +kernel) (by first | rfl | decide +kernel) (by first | rfl | decide +kernel) (Nat.le_of_ble_eq_true rfl) dX2_init_25 (fun H locs hP hD hS => ?_)
  have hP : va_P (dC, dI) vwCl [(aP, .inr (2, [.null, .ref q7, .ref q15, .ref q23, .int 0, .int 0, .int 0, .int 0, .int 0])), (q7, .inl (c7, 22, .inl (fun _ => 0))), (q15, .inl (c15, 8, .inl (fun _ => 0))), (q23, .inl (c23, 8, .inl (fun _ => 0)))] H := hP
  have hD : va_D A [(aP, .inr (2, [.null, .ref q7, .ref q15, .ref q23, .int 0, .int 0, .int 0, .int 0, .int 0])), (q7, .inl (c7, 22, .inl (fun _ => 0))), (q15, .inl (c15, 8, .inl (fun _ => 0))), (q23, .inl (c23, 8, .inl (fun _ => 0)))] := hD
  refine lv_aload_n hx hb dX2_init_28 rfl (lv_at hl 0 rfl) ?_
  refine lv_bipush (v := 25) hx hb dX2_init_29 (by decide) ?_
  refine va_put (D := (dC, dI)) (ci := 2) (v := .int 25) (ty := .int) (C := RX2) (T := TX2) (N := 9) hx hb htb inX2 tyX2 tyX2_ok nmX2 hown hK hP hD hS 0 rfl rfl 5 (by decide) (htb _ m1_61) (fun _ h9 => h9) rfl (by decide +kernel) (by first | rfl | decide +kernel) (by first | rfl | decide +kernel) (Nat.le_of_ble_eq_true rfl) dX2_init_31 (fun H locs hP hD hS => ?_)
  have hP : va_P (dC, dI) vwCl [(aP, .inr (2, [.null, .ref q7, .ref q15, .ref q23, .int 0, .int 25, .int 0, .int 0, .int 0])), (q7, .inl (c7, 22, .inl (fun _ => 0))), (q15, .inl (c15, 8, .inl (fun _ => 0))), (q23, .inl (c23, 8, .inl (fun _ => 0)))] H := hP
  have hD : va_D A [(aP, .inr (2, [.null, .ref q7, .ref q15, .ref q23, .int 0, .int 25, .int 0, .int 0, .int 0])), (q7, .inl (c7, 22, .inl (fun _ => 0))), (q15, .inl (c15, 8, .inl (fun _ => 0))), (q23, .inl (c23, 8, .inl (fun _ => 0)))] := hD
  refine lv_aload_n hx hb dX2_init_34 rfl (lv_at hl 0 rfl) ?_
  refine lv_iconst (v := 1) hx hb dX2_init_35 (by decide) ?_
  refine va_put (D := (dC, dI)) (ci := 2) (v := .int 1) (ty := .boolean) (C := RX2) (T := TX2) (N := 9) hx hb htb inX2 tyX2 tyX2_ok nmX2 hown hK hP hD hS 0 rfl rfl 8 (by decide) (htb _ m1_64) (fun _ h9 => h9) rfl (by decide +kernel) (by first | rfl | decide +kernel) (by first | rfl | decide +kernel) (Nat.le_of_ble_eq_true rfl) dX2_init_36 (fun H locs hP hD hS => ?_)
  have hP : va_P (dC, dI) vwCl [(aP, .inr (2, [.null, .ref q7, .ref q15, .ref q23, .int 0, .int 25, .int 0, .int 0, .int 1])), (q7, .inl (c7, 22, .inl (fun _ => 0))), (q15, .inl (c15, 8, .inl (fun _ => 0))), (q23, .inl (c23, 8, .inl (fun _ => 0)))] H := hP
  have hD : va_D A [(aP, .inr (2, [.null, .ref q7, .ref q15, .ref q23, .int 0, .int 25, .int 0, .int 0, .int 1])), (q7, .inl (c7, 22, .inl (fun _ => 0))), (q15, .inl (c15, 8, .inl (fun _ => 0))), (q23, .inl (c23, 8, .inl (fun _ => 0)))] := hD
  refine lv_aload_n hx hb dX2_init_39 rfl (lv_at hl 0 rfl) ?_
  refine va_new (ci := 1) (fs := [.null, .null, .null, .int 0]) (C := RX1) (T := TX1) (N := 4) hx hb htb inX1 tyX1 tyX1_ok hown (htb _ m1_15) (htb _ m1_16) (htb _ m1_2) hK hP hD hS hA rfl (fun j hj => by rcases (show j = 0 ∨ j = 1 ∨ j = 2 ∨ j = 3 by omega) with rfl | rfl | rfl | rfl <;> rfl) (Nat.le_of_ble_eq_true rfl) (Nat.le_of_ble_eq_true rfl) dX2_init_40 (fun q40 H hP hD hS => ?_)
  have hP : va_P (dC, dI) vwCl [(aP, .inr (2, [.null, .ref q7, .ref q15, .ref q23, .int 0, .int 25, .int 0, .int 0, .int 1])), (q7, .inl (c7, 22, .inl (fun _ => 0))), (q15, .inl (c15, 8, .inl (fun _ => 0))), (q23, .inl (c23, 8, .inl (fun _ => 0))), (q40, .inr (1, [.null, .null, .null, .int 0]))] H := hP
  have hD : va_D A [(aP, .inr (2, [.null, .ref q7, .ref q15, .ref q23, .int 0, .int 25, .int 0, .int 0, .int 1])), (q7, .inl (c7, 22, .inl (fun _ => 0))), (q15, .inl (c15, 8, .inl (fun _ => 0))), (q23, .inl (c23, 8, .inl (fun _ => 0))), (q40, .inr (1, [.null, .null, .null, .int 0]))] := hD
  refine W.widen (k := 4) (n := 42) (by omega) (by omega) ?_
  refine lv_dup hx hb dX2_init_43 rfl ?_
  refine lv_iload_n hx hb dX2_init_44 rfl (lv_at hl 1 rfl) ?_
  refine lv_if_eq (tgt := 52) hx hb dX2_init_45 (by decide) (fun h45 => ?_) (fun h45 => ?_)
  · refine lv_iconst (v := 0) hx hb dX2_init_52 (by decide) ?_
    have hPc := hP.sub (ws' := [(q40, .inr (1, [.null, .null, .null, .int 0]))]) [4] rfl
    have hKc := hK.sub (tys' := []) [] rfl
    have hDc := hD.sub (ws' := [(q40, .inr (1, [.null, .null, .null, .int 0]))]) [4] (by decide) rfl
    have hFc := va_free (wc := [(q40, .inr (1, [.null, .null, .null, .int 0]))]) hD hS hA [4] rfl
    refine va_callv (va_runI (As := [.int 0]) (rest := [.ref q40, .ref aP]) ⟨hx, hb, hml, hown, htb⟩ (cX_Unit l dC dI H.size q40 0 (Or.inl rfl)) (cwI 1 htb (q_gI m1_19) rfl rfl rfl (htb _ m1_2) (htb _ m1_17) (htb _ m1_18) rfl (by decide +kernel) ⟨Nat.le_of_ble_eq_true rfl, Nat.le_of_ble_eq_true rfl⟩) ⟨fun a U g mk q => by obtain ⟨q0, q1, qP, qK, qD, qN9⟩ := q; exact ⟨q0, q1, qP, va_K.moved (u := U) (U := U.calling g mk a) (Vm.Alike.refl U.vm) qK, qD, qN_same (s := U) (U := U.calling g mk a) rfl qN9⟩, fun U hU hW => ⟨rfl, by rw [hU], by rw [hU]; exact hPc, va_K.moved hW.alike hKc, hDc.weaken (fun _ _ _ _ => trivial), qN_warm hW hN⟩⟩ rfl rfl hl.1 rfl (lv_room (Nat.le_of_ble_eq_true rfl)) dX2_init_53 ⟨Nat.le_of_ble_eq_true rfl, Nat.le_of_ble_eq_true rfl⟩) hS (fun q _ h => hFc q h) hFc (fun u t H1 locs ht hvm p53 hB hz1 hk1 hS => ?_)
    obtain ⟨aM_53, kM_53, aC_53, kC_53, aB_53, aF_53, kF_53⟩ := u
    obtain ⟨hP1, hK1, hD1⟩ := hB
    rw [ht] at hP1
    have hK1 := va_K.moved hvm.symm hK1
    try dsimp only at p53
    obtain ⟨hP, hD⟩ := va_join (wr := [(aP, .inr (2, [.null, .ref q7, .ref q15, .ref q23, .int 0, .int 25, .int 0, .int 0, .int 1])), (q7, .inl (c7, 22, .inl (fun _ => 0))), (q15, .inl (c15, 8, .inl (fun _ => 0))), (q23, .inl (c23, 8, .inl (fun _ => 0)))]) (w1 := [(q40, .inr (1, [.ref aM_53, .ref aC_53, .ref aB_53, .int 0])), (aM_53, .inl (kM_53, 512, .inl (fun _ => 0))), (aC_53, .inl (kC_53, 12, .inl (fun _ => 0))), (aB_53, .inr (0, [.ref aF_53, .int 0, .int 0])), (aF_53, .inl (kF_53, 49, .inl (fun _ => 0)))]) hP hD [4] [0, 1, 2, 3] rfl rfl (by decide) (by decide) hk1 hFc hP1 hD1
    have hK := (hK.sub (tys' := [(c7, .int), (c15, .int), (c23, .int)]) [0, 1, 2] rfl).app hK1
    generalize H1 = H at hP hS ⊢
    have hP : va_P (dC, dI) vwCl [(aP, .inr (2, [.null, .ref q7, .ref q15, .ref q23, .int 0, .int 25, .int 0, .int 0, .int 1])), (q7, .inl (c7, 22, .inl (fun _ => 0))), (q15, .inl (c15, 8, .inl (fun _ => 0))), (q23, .inl (c23, 8, .inl (fun _ => 0))), (q40, .inr (1, [.ref aM_53, .ref aC_53, .ref aB_53, .int 0])), (aM_53, .inl (kM_53, 512, .inl (fun _ => 0))), (aC_53, .inl (kC_53, 12, .inl (fun _ => 0))), (aB_53, .inr (0, [.ref aF_53, .int 0, .int 0])), (aF_53, .inl (kF_53, 49, .inl (fun _ => 0)))] H := hP
    have hD : va_D A [(aP, .inr (2, [.null, .ref q7, .ref q15, .ref q23, .int 0, .int 25, .int 0, .int 0, .int 1])), (q7, .inl (c7, 22, .inl (fun _ => 0))), (q15, .inl (c15, 8, .inl (fun _ => 0))), (q23, .inl (c23, 8, .inl (fun _ => 0))), (q40, .inr (1, [.ref aM_53, .ref aC_53, .ref aB_53, .int 0])), (aM_53, .inl (kM_53, 512, .inl (fun _ => 0))), (aC_53, .inl (kC_53, 12, .inl (fun _ => 0))), (aB_53, .inr (0, [.ref aF_53, .int 0, .int 0])), (aF_53, .inl (kF_53, 49, .inl (fun _ => 0)))] := hD
    have hK : va_K (dC, dI) vwCl [(c7, .int), (c15, .int), (c23, .int), (kM_53, .int), (kC_53, .int), (kF_53, .int)] s := hK
    refine W.widen (k := 8) (n := 618) (by omega) (by omega) ?_
    refine va_putF (D := (dC, dI)) (ci := 2) (v := .ref q40) (ty := .object "PageGuards$Unit") (C := RX2) (T := TX2) (N := 9) hx hb htb inX2 tyX2 tyX2_ok nmX2 hown hK hP hD hS 0 rfl rfl 0 (by decide) (htb _ m1_56) (fun _ h9 => h9) rfl hin rfl (by decide +kernel) (by first | rfl | decide +kernel) (by first | rfl | decide +kernel) (Nat.le_of_ble_eq_true rfl) dX2_init_56 (fun H locs hP hD hS => ?_)
    have hP : va_P (dC, dI) vwCl [(aP, .inr (2, [.ref q40, .ref q7, .ref q15, .ref q23, .int 0, .int 25, .int 0, .int 0, .int 1])), (q7, .inl (c7, 22, .inl (fun _ => 0))), (q15, .inl (c15, 8, .inl (fun _ => 0))), (q23, .inl (c23, 8, .inl (fun _ => 0))), (q40, .inr (1, [.ref aM_53, .ref aC_53, .ref aB_53, .int 0])), (aM_53, .inl (kM_53, 512, .inl (fun _ => 0))), (aC_53, .inl (kC_53, 12, .inl (fun _ => 0))), (aB_53, .inr (0, [.ref aF_53, .int 0, .int 0])), (aF_53, .inl (kF_53, 49, .inl (fun _ => 0)))] H := hP
    have hD : va_D A [(aP, .inr (2, [.ref q40, .ref q7, .ref q15, .ref q23, .int 0, .int 25, .int 0, .int 0, .int 1])), (q7, .inl (c7, 22, .inl (fun _ => 0))), (q15, .inl (c15, 8, .inl (fun _ => 0))), (q23, .inl (c23, 8, .inl (fun _ => 0))), (q40, .inr (1, [.ref aM_53, .ref aC_53, .ref aB_53, .int 0])), (aM_53, .inl (kM_53, 512, .inl (fun _ => 0))), (aC_53, .inl (kC_53, 12, .inl (fun _ => 0))), (aB_53, .inr (0, [.ref aF_53, .int 0, .int 0])), (aF_53, .inl (kF_53, 49, .inl (fun _ => 0)))] := hD
    have hP9 := hP.sub (ws' := [(aP, .inr (2, [.ref q40, .ref q7, .ref q15, .ref q23, .int 0, .int 25, .int 0, .int 0, .int 1])), (q40, .inr (1, [.ref aM_53, .ref aC_53, .ref aB_53, .int 0])), (aB_53, .inr (0, [.ref aF_53, .int 0, .int 0])), (q7, .inl (c7, 22, .inl (fun _ => 0))), (q15, .inl (c15, 8, .inl (fun _ => 0))), (q23, .inl (c23, 8, .inl (fun _ => 0))), (aM_53, .inl (kM_53, 512, .inl (fun _ => 0))), (aC_53, .inl (kC_53, 12, .inl (fun _ => 0))), (aF_53, .inl (kF_53, 49, .inl (fun _ => 0)))]) [0, 4, 7, 1, 2, 3, 5, 6, 8] rfl
    have hD9 := hD.sub (ws' := [(aP, .inr (2, [.ref q40, .ref q7, .ref q15, .ref q23, .int 0, .int 25, .int 0, .int 0, .int 1])), (q40, .inr (1, [.ref aM_53, .ref aC_53, .ref aB_53, .int 0])), (aB_53, .inr (0, [.ref aF_53, .int 0, .int 0])), (q7, .inl (c7, 22, .inl (fun _ => 0))), (q15, .inl (c15, 8, .inl (fun _ => 0))), (q23, .inl (c23, 8, .inl (fun _ => 0))), (aM_53, .inl (kM_53, 512, .inl (fun _ => 0))), (aC_53, .inl (kC_53, 12, .inl (fun _ => 0))), (aF_53, .inl (kF_53, 49, .inl (fun _ => 0)))]) [0, 4, 7, 1, 2, 3, 5, 6, 8] (by decide) rfl
    have hK9 := hK.sub (tys' := [(c7, .int), (c15, .int), (c23, .int), (kM_53, .int), (kC_53, .int), (kF_53, .int)]) [0, 1, 2, 3, 4, 5] rfl
    refine W.widen (k := 8) (n := 618) (by omega) (by omega) ?_
    exact W.vret hx hb hr (fun t ht hW => ⟨⟨(q40, q7, c7, q15, c15, q23, c23, aM_53, kM_53, aC_53, kC_53, aB_53, 0, aF_53, kF_53), rfl, by trivial, by rw [ht]; exact hP9, va_K.moved hW.alike hK9, hD9⟩, hS.F ht⟩) hS.2.2 dX2_init_59
  · refine lv_iconst (v := 1) hx hb dX2_init_48 (by decide) ?_
    refine lv_goto (tgt := 53) hx hb dX2_init_49 (by decide) ?_
    have hPc := hP.sub (ws' := [(q40, .inr (1, [.null, .null, .null, .int 0]))]) [4] rfl
    have hKc := hK.sub (tys' := []) [] rfl
    have hDc := hD.sub (ws' := [(q40, .inr (1, [.null, .null, .null, .int 0]))]) [4] (by decide) rfl
    have hFc := va_free (wc := [(q40, .inr (1, [.null, .null, .null, .int 0]))]) hD hS hA [4] rfl
    refine va_callv (va_runI (As := [.int 1]) (rest := [.ref q40, .ref aP]) ⟨hx, hb, hml, hown, htb⟩ (cX_Unit l dC dI H.size q40 1 (Or.inr rfl)) (cwI 1 htb (q_gI m1_19) rfl rfl rfl (htb _ m1_2) (htb _ m1_17) (htb _ m1_18) rfl (by decide +kernel) ⟨Nat.le_of_ble_eq_true rfl, Nat.le_of_ble_eq_true rfl⟩) ⟨fun a U g mk q => by obtain ⟨q0, q1, qP, qK, qD, qN9⟩ := q; exact ⟨q0, q1, qP, va_K.moved (u := U) (U := U.calling g mk a) (Vm.Alike.refl U.vm) qK, qD, qN_same (s := U) (U := U.calling g mk a) rfl qN9⟩, fun U hU hW => ⟨rfl, by rw [hU], by rw [hU]; exact hPc, va_K.moved hW.alike hKc, hDc.weaken (fun _ _ _ _ => trivial), qN_warm hW hN⟩⟩ rfl rfl hl.1 rfl (lv_room (Nat.le_of_ble_eq_true rfl)) dX2_init_53 ⟨Nat.le_of_ble_eq_true rfl, Nat.le_of_ble_eq_true rfl⟩) hS (fun q _ h => hFc q h) hFc (fun u t H1 locs ht hvm p53 hB hz1 hk1 hS => ?_)
    obtain ⟨aM_53, kM_53, aC_53, kC_53, aB_53, aF_53, kF_53⟩ := u
    obtain ⟨hP1, hK1, hD1⟩ := hB
    rw [ht] at hP1
    have hK1 := va_K.moved hvm.symm hK1
    try dsimp only at p53
    obtain ⟨hP, hD⟩ := va_join (wr := [(aP, .inr (2, [.null, .ref q7, .ref q15, .ref q23, .int 0, .int 25, .int 0, .int 0, .int 1])), (q7, .inl (c7, 22, .inl (fun _ => 0))), (q15, .inl (c15, 8, .inl (fun _ => 0))), (q23, .inl (c23, 8, .inl (fun _ => 0)))]) (w1 := [(q40, .inr (1, [.ref aM_53, .ref aC_53, .ref aB_53, .int 0])), (aM_53, .inl (kM_53, 512, .inl (fun _ => 0))), (aC_53, .inl (kC_53, 12, .inl (fun _ => 0))), (aB_53, .inr (0, [.ref aF_53, .int 1, .int 0])), (aF_53, .inl (kF_53, 49, .inl (fun _ => 0)))]) hP hD [4] [0, 1, 2, 3] rfl rfl (by decide) (by decide) hk1 hFc hP1 hD1
    have hK := (hK.sub (tys' := [(c7, .int), (c15, .int), (c23, .int)]) [0, 1, 2] rfl).app hK1
    generalize H1 = H at hP hS ⊢
    have hP : va_P (dC, dI) vwCl [(aP, .inr (2, [.null, .ref q7, .ref q15, .ref q23, .int 0, .int 25, .int 0, .int 0, .int 1])), (q7, .inl (c7, 22, .inl (fun _ => 0))), (q15, .inl (c15, 8, .inl (fun _ => 0))), (q23, .inl (c23, 8, .inl (fun _ => 0))), (q40, .inr (1, [.ref aM_53, .ref aC_53, .ref aB_53, .int 0])), (aM_53, .inl (kM_53, 512, .inl (fun _ => 0))), (aC_53, .inl (kC_53, 12, .inl (fun _ => 0))), (aB_53, .inr (0, [.ref aF_53, .int 1, .int 0])), (aF_53, .inl (kF_53, 49, .inl (fun _ => 0)))] H := hP
    have hD : va_D A [(aP, .inr (2, [.null, .ref q7, .ref q15, .ref q23, .int 0, .int 25, .int 0, .int 0, .int 1])), (q7, .inl (c7, 22, .inl (fun _ => 0))), (q15, .inl (c15, 8, .inl (fun _ => 0))), (q23, .inl (c23, 8, .inl (fun _ => 0))), (q40, .inr (1, [.ref aM_53, .ref aC_53, .ref aB_53, .int 0])), (aM_53, .inl (kM_53, 512, .inl (fun _ => 0))), (aC_53, .inl (kC_53, 12, .inl (fun _ => 0))), (aB_53, .inr (0, [.ref aF_53, .int 1, .int 0])), (aF_53, .inl (kF_53, 49, .inl (fun _ => 0)))] := hD
    have hK : va_K (dC, dI) vwCl [(c7, .int), (c15, .int), (c23, .int), (kM_53, .int), (kC_53, .int), (kF_53, .int)] s := hK
    refine W.widen (k := 8) (n := 618) (by omega) (by omega) ?_
    refine va_putF (D := (dC, dI)) (ci := 2) (v := .ref q40) (ty := .object "PageGuards$Unit") (C := RX2) (T := TX2) (N := 9) hx hb htb inX2 tyX2 tyX2_ok nmX2 hown hK hP hD hS 0 rfl rfl 0 (by decide) (htb _ m1_56) (fun _ h9 => h9) rfl hin rfl (by decide +kernel) (by first | rfl | decide +kernel) (by first | rfl | decide +kernel) (Nat.le_of_ble_eq_true rfl) dX2_init_56 (fun H locs hP hD hS => ?_)
    have hP : va_P (dC, dI) vwCl [(aP, .inr (2, [.ref q40, .ref q7, .ref q15, .ref q23, .int 0, .int 25, .int 0, .int 0, .int 1])), (q7, .inl (c7, 22, .inl (fun _ => 0))), (q15, .inl (c15, 8, .inl (fun _ => 0))), (q23, .inl (c23, 8, .inl (fun _ => 0))), (q40, .inr (1, [.ref aM_53, .ref aC_53, .ref aB_53, .int 0])), (aM_53, .inl (kM_53, 512, .inl (fun _ => 0))), (aC_53, .inl (kC_53, 12, .inl (fun _ => 0))), (aB_53, .inr (0, [.ref aF_53, .int 1, .int 0])), (aF_53, .inl (kF_53, 49, .inl (fun _ => 0)))] H := hP
    have hD : va_D A [(aP, .inr (2, [.ref q40, .ref q7, .ref q15, .ref q23, .int 0, .int 25, .int 0, .int 0, .int 1])), (q7, .inl (c7, 22, .inl (fun _ => 0))), (q15, .inl (c15, 8, .inl (fun _ => 0))), (q23, .inl (c23, 8, .inl (fun _ => 0))), (q40, .inr (1, [.ref aM_53, .ref aC_53, .ref aB_53, .int 0])), (aM_53, .inl (kM_53, 512, .inl (fun _ => 0))), (aC_53, .inl (kC_53, 12, .inl (fun _ => 0))), (aB_53, .inr (0, [.ref aF_53, .int 1, .int 0])), (aF_53, .inl (kF_53, 49, .inl (fun _ => 0)))] := hD
    have hP9 := hP.sub (ws' := [(aP, .inr (2, [.ref q40, .ref q7, .ref q15, .ref q23, .int 0, .int 25, .int 0, .int 0, .int 1])), (q40, .inr (1, [.ref aM_53, .ref aC_53, .ref aB_53, .int 0])), (aB_53, .inr (0, [.ref aF_53, .int 1, .int 0])), (q7, .inl (c7, 22, .inl (fun _ => 0))), (q15, .inl (c15, 8, .inl (fun _ => 0))), (q23, .inl (c23, 8, .inl (fun _ => 0))), (aM_53, .inl (kM_53, 512, .inl (fun _ => 0))), (aC_53, .inl (kC_53, 12, .inl (fun _ => 0))), (aF_53, .inl (kF_53, 49, .inl (fun _ => 0)))]) [0, 4, 7, 1, 2, 3, 5, 6, 8] rfl
    have hD9 := hD.sub (ws' := [(aP, .inr (2, [.ref q40, .ref q7, .ref q15, .ref q23, .int 0, .int 25, .int 0, .int 0, .int 1])), (q40, .inr (1, [.ref aM_53, .ref aC_53, .ref aB_53, .int 0])), (aB_53, .inr (0, [.ref aF_53, .int 1, .int 0])), (q7, .inl (c7, 22, .inl (fun _ => 0))), (q15, .inl (c15, 8, .inl (fun _ => 0))), (q23, .inl (c23, 8, .inl (fun _ => 0))), (aM_53, .inl (kM_53, 512, .inl (fun _ => 0))), (aC_53, .inl (kC_53, 12, .inl (fun _ => 0))), (aF_53, .inl (kF_53, 49, .inl (fun _ => 0)))]) [0, 4, 7, 1, 2, 3, 5, 6, 8] (by decide) rfl
    have hK9 := hK.sub (tys' := [(c7, .int), (c15, .int), (c23, .int), (kM_53, .int), (kC_53, .int), (kF_53, .int)]) [0, 1, 2, 3, 4, 5] rfl
    refine W.widen (k := 8) (n := 618) (by omega) (by omega) ?_
    exact W.vret hx hb hr (fun t ht hW => ⟨⟨(q40, q7, c7, q15, c15, q23, c23, aM_53, kM_53, aC_53, kC_53, aB_53, 1, aF_53, kF_53), rfl, by trivial, by rw [ht]; exact hP9, va_K.moved hW.alike hK9, hD9⟩, hS.F ht⟩) hS.2.2 dX2_init_59
end
section
set_option maxHeartbeats 4000000 in
set_option maxRecDepth 100000 in
theorem cX_poke (l : Launch) (dC : Nat → ClassId) (dI : Nat → Nat → Nat) (sz : Nat) (aP : Nat) (ipl : Int32) (iwd : Int32) (aU : Nat) (aR : Nat) (aK : Nat) (aL : Nat) (ipc : Int32) (ist : Int32) (iln : Int32) (iwa : Int32) (isl : Int32) (aM : Nat) (aC : Nat) (aB : Nat) (iwk : Int32) (kM : ClassId) (gM : Nat → Int32) : Met l yX2_poke wsX2_poke ({ frames := 0, cells := 0, slots := 0, locals := 0 }) (va_Pc [.ref aP, .int ipl, .int iwd] (fun U => U.heap.size = sz ∧ va_P (dC, dI) vwCl [(aP, .inr (2, [.ref aU, .ref aR, .ref aK, .ref aL, .int ipc, .int ist, .int iln, .int iwa, .int isl])), (aU, .inr (1, [.ref aM, .ref aC, .ref aB, .int iwk])), (aM, .inl (kM, 512, .inl gM))] U.heap ∧ va_K (dC, dI) vwCl [(kM, .int)] U ∧ va_D (fun _ => True) [(aP, .inr (2, [.ref aU, .ref aR, .ref aK, .ref aL, .int ipc, .int ist, .int iln, .int iwa, .int isl])), (aU, .inr (1, [.ref aM, .ref aC, .ref aB, .int iwk])), (aM, .inl (kM, 512, .inl gM))] ∧ qN U)) (va_Qi (fun (r : Int32) (u : (Nat → Int32)) => r = 0 ∨ ∃ i : Nat, r = gM i) (fun (u : (Nat → Int32)) (t : State) => va_P (dC, dI) vwCl [(aP, .inr (2, [.ref aU, .ref aR, .ref aK, .ref aL, .int ipc, .int ist, .int iln, .int iwa, .int isl])), (aU, .inr (1, [.ref aM, .ref aC, .ref aB, .int iwk])), (aM, .inl (kM, 512, .inl u))] t.heap ∧ va_K (dC, dI) vwCl [(kM, .int)] t ∧ va_D (va_A [(aP, .inr (2, [.ref aU, .ref aR, .ref aK, .ref aL, .int ipc, .int ist, .int iln, .int iwa, .int isl])), (aU, .inr (1, [.ref aM, .ref aC, .ref aB, .int iwk])), (aM, .inl (kM, 512, .inl gM))] sz) [(aP, .inr (2, [.ref aU, .ref aR, .ref aK, .ref aL, .int ipc, .int ist, .int iln, .int iwa, .int isl])), (aU, .inr (1, [.ref aM, .ref aC, .ref aB, .int iwk])), (aM, .inl (kM, 512, .inl u))]) (va_A [(aP, .inr (2, [.ref aU, .ref aR, .ref aK, .ref aL, .int ipc, .int ist, .int iln, .int iwa, .int isl])), (aU, .inr (1, [.ref aM, .ref aC, .ref aB, .int iwk])), (aM, .inl (kM, 512, .inl gM))] sz)) 0 0 (va_A [(aP, .inr (2, [.ref aU, .ref aR, .ref aK, .ref aL, .int ipc, .int ist, .int iln, .int iwa, .int isl])), (aU, .inr (1, [.ref aM, .ref aC, .ref aB, .int iwk])), (aM, .inl (kM, 512, .inl gM))] sz) := by
  refine Met.ofW (cc := cX2_poke) (maxL := 4) (ret := (some .int)) (by decide) rfl ?_
  intro p e s m args below meth c s₁ B hml hv
  obtain ⟨rfl, hsz, hP, hK, hD0, hN⟩ := hv
  have hx := B.exec
  have hb := B.bytes
  have hr := B.returns
  have hts := atoms_spec (ws := wsX2_poke) B.pre
  have htb : ∀ w ∈ qT, w.before _ s = true := fun w h => hts w (List.mem_cons_of_mem _ h)
  have hown : s.vm.findClass RX2 = some m.cls := findClass_of_methodNamed B.named
  have hlocks := B.notSynchronized
  subst hsz
  have hD := hD0.self (sz := s.heap.size)
  generalize hAe : va_A [(aP, .inr (2, [.ref aU, .ref aR, .ref aK, .ref aL, .int ipc, .int ist, .int iln, .int iwa, .int isl])), (aU, .inr (1, [.ref aM, .ref aC, .ref aB, .int iwk])), (aM, .inl (kM, 512, .inl gM))] s.heap.size = A at hD ⊢
  have hA : ∀ q : Nat, s.heap.size ≤ q → A q := fun q h => by rw [← hAe]; exact Or.inr h
  have hS : va_S A s.heap s.heap [] := va_S.rf
  have hP : va_P (dC, dI) vwCl [(aP, .inr (2, [.ref aU, .ref aR, .ref aK, .ref aL, .int ipc, .int ist, .int iln, .int iwa, .int isl])), (aU, .inr (1, [.ref aM, .ref aC, .ref aB, .int iwk])), (aM, .inl (kM, 512, .inl gM))] s.heap := hP
  have hl := lv_entry ([.ref aP, .int ipl, .int iwd]) (n := 4) (Nat.le_of_ble_eq_true rfl)
  rw [lg_entry_eq]
  generalize (lg_sl ([.ref aP, .int ipl, .int iwd]) ++ List.replicate (4 - (lg_sl ([.ref aP, .int ipl, .int iwd])).length) Slot.unset).toArray = ls at hl ⊢
  have hl : lv_has ls 4 [(0, .ref aP), (1, .int ipl), (2, .int iwd)] := hl
  refine lv_iload_n hx hb dX2_poke_0 rfl (lv_at hl 1 rfl) ?_
  refine lv_if_lt (tgt := 11) hx hb dX2_poke_1 (by decide) (fun h1 => ?_) (fun h1 => ?_)
  · refine lv_iconst (v := 0) hx hb dX2_poke_11 (by decide) ?_
    have hP9 := hP.sub (ws' := [(aP, .inr (2, [.ref aU, .ref aR, .ref aK, .ref aL, .int ipc, .int ist, .int iln, .int iwa, .int isl])), (aU, .inr (1, [.ref aM, .ref aC, .ref aB, .int iwk])), (aM, .inl (kM, 512, .inl gM))]) [0, 1, 2] rfl
    have hD9 := hD.sub (ws' := [(aP, .inr (2, [.ref aU, .ref aR, .ref aK, .ref aL, .int ipc, .int ist, .int iln, .int iwa, .int isl])), (aU, .inr (1, [.ref aM, .ref aC, .ref aB, .int iwk])), (aM, .inl (kM, 512, .inl gM))]) [0, 1, 2] (by decide) rfl
    have hK9 := hK.sub (tys' := [(kM, .int)]) [0] rfl
    exact W.iret (v := 0) hx hb hr (fun t ht hW => ⟨⟨0, (gM), rfl, (Or.inl rfl), by rw [ht]; exact hP9, va_K.moved hW.alike hK9, hD9⟩, hS.F ht⟩) hS.2.2 dX2_poke_12
  · refine lv_iload_n hx hb dX2_poke_4 rfl (lv_at hl 1 rfl) ?_
    refine lv_sipush (v := 512) hx hb dX2_poke_5 (by decide) ?_
    refine lv_icmp_lt (tgt := 13) hx hb dX2_poke_8 (by decide) (fun h8 => ?_) (fun h8 => ?_)
    · refine lv_aload_n hx hb dX2_poke_13 rfl (lv_at hl 0 rfl) ?_
      refine va_get (D := (dC, dI)) (ci := 2) (v := .ref aU) (C := RX2) (T := TX2) (N := 9) hx hb htb inX2 hown hK hP 0 rfl rfl 0 (by decide) (htb _ m1_56) (fun _ h9 => h9) rfl dX2_poke_14 ?_
      refine va_getN (D := (dC, dI)) (ci := 1) (v := .ref aM) (C := RX1) (T := TX1) (N := 4) hx hb htb inX1 hown hK hP 1 rfl rfl 0 (by decide) (va_Nw.use rfl hN.2.1) (fun _ h9 => h9) rfl dX2_poke_17 ?_
      refine lv_iload_n hx hb dX2_poke_20 rfl (lv_at hl 1 rfl) ?_
      refine va_iald hx hb hK hP 2 0 rfl rfl (in_lt h1 h8 (by decide)) dX2_poke_21 ?_
      refine lv_topi (fun v21 e21 => ?_)
      refine lv_istore_n (lv' := [(3, .int v21), (0, .ref aP), (1, .int ipl), (2, .int iwd)]) hx hb dX2_poke_22 rfl hl (by decide) rfl (fun ls hl => ?_)
      refine lv_aload_n hx hb dX2_poke_23 rfl (lv_at hl 1 rfl) ?_
      refine va_get (D := (dC, dI)) (ci := 2) (v := .ref aU) (C := RX2) (T := TX2) (N := 9) hx hb htb inX2 hown hK hP 0 rfl rfl 0 (by decide) (htb _ m1_56) (fun _ h9 => h9) rfl dX2_poke_24 ?_
      refine va_getN (D := (dC, dI)) (ci := 1) (v := .ref aM) (C := RX1) (T := TX1) (N := 4) hx hb htb inX1 hown hK hP 1 rfl rfl 0 (by decide) (va_Nw.use rfl hN.2.1) (fun _ h9 => h9) rfl dX2_poke_27 ?_
      refine lv_iload_n hx hb dX2_poke_30 rfl (lv_at hl 2 rfl) ?_
      refine lv_iload_n hx hb dX2_poke_31 rfl (lv_at hl 3 rfl) ?_
      refine va_iast hx hb hK hP hD hS 2 0 rfl rfl (in_lt h1 h8 (by decide)) dX2_poke_32 (fun H locs hP hD hS => ?_)
      have hP : va_P (dC, dI) vwCl [(aP, .inr (2, [.ref aU, .ref aR, .ref aK, .ref aL, .int ipc, .int ist, .int iln, .int iwa, .int isl])), (aU, .inr (1, [.ref aM, .ref aC, .ref aB, .int iwk])), (aM, .inl (kM, 512, .inl (upd gM ipl.toNatClampNeg iwd)))] H := hP
      have hD : va_D A [(aP, .inr (2, [.ref aU, .ref aR, .ref aK, .ref aL, .int ipc, .int ist, .int iln, .int iwa, .int isl])), (aU, .inr (1, [.ref aM, .ref aC, .ref aB, .int iwk])), (aM, .inl (kM, 512, .inl (upd gM ipl.toNatClampNeg iwd)))] := hD
      refine lv_iload_n hx hb dX2_poke_33 rfl (lv_at hl 0 rfl) ?_
      have hP9 := hP.sub (ws' := [(aP, .inr (2, [.ref aU, .ref aR, .ref aK, .ref aL, .int ipc, .int ist, .int iln, .int iwa, .int isl])), (aU, .inr (1, [.ref aM, .ref aC, .ref aB, .int iwk])), (aM, .inl (kM, 512, .inl (upd gM ipl.toNatClampNeg iwd)))]) [0, 1, 2] rfl
      have hD9 := hD.sub (ws' := [(aP, .inr (2, [.ref aU, .ref aR, .ref aK, .ref aL, .int ipc, .int ist, .int iln, .int iwa, .int isl])), (aU, .inr (1, [.ref aM, .ref aC, .ref aB, .int iwk])), (aM, .inl (kM, 512, .inl (upd gM ipl.toNatClampNeg iwd)))]) [0, 1, 2] (by decide) rfl
      have hK9 := hK.sub (tys' := [(kM, .int)]) [0] rfl
      exact W.iret (v := v21) hx hb hr (fun t ht hW => ⟨⟨v21, (upd gM ipl.toNatClampNeg iwd), rfl, (Or.inr ⟨_, e21⟩), by rw [ht]; exact hP9, va_K.moved hW.alike hK9, hD9⟩, hS.F ht⟩) hS.2.2 dX2_poke_34
    · refine lv_iconst (v := 0) hx hb dX2_poke_11 (by decide) ?_
      have hP9 := hP.sub (ws' := [(aP, .inr (2, [.ref aU, .ref aR, .ref aK, .ref aL, .int ipc, .int ist, .int iln, .int iwa, .int isl])), (aU, .inr (1, [.ref aM, .ref aC, .ref aB, .int iwk])), (aM, .inl (kM, 512, .inl gM))]) [0, 1, 2] rfl
      have hD9 := hD.sub (ws' := [(aP, .inr (2, [.ref aU, .ref aR, .ref aK, .ref aL, .int ipc, .int ist, .int iln, .int iwa, .int isl])), (aU, .inr (1, [.ref aM, .ref aC, .ref aB, .int iwk])), (aM, .inl (kM, 512, .inl gM))]) [0, 1, 2] (by decide) rfl
      have hK9 := hK.sub (tys' := [(kM, .int)]) [0] rfl
      exact W.iret (v := 0) hx hb hr (fun t ht hW => ⟨⟨0, (gM), rfl, (Or.inl rfl), by rw [ht]; exact hP9, va_K.moved hW.alike hK9, hD9⟩, hS.F ht⟩) hS.2.2 dX2_poke_12
end
section
set_option maxHeartbeats 4000000 in
set_option maxRecDepth 100000 in
theorem cX_fill (l : Launch) (dC : Nat → ClassId) (dI : Nat → Nat → Nat) (sz : Nat) (aP : Nat) (ipl : Int32) (xlo : Int64) (xhi : Int64) (aU : Nat) (aR : Nat) (aK : Nat) (aL : Nat) (ipc : Int32) (ist : Int32) (iln : Int32) (iwa : Int32) (isl : Int32) (aM : Nat) (aC : Nat) (aB : Nat) (iwk : Int32) (kM : ClassId) (gM : Nat → Int32) : Met l yX2_fill wsX2_fill ({ frames := 0, cells := 0, slots := 0, locals := 0 }) (va_Pc [.ref aP, .int ipl, .long xlo, .long xhi] (fun U => U.heap.size = sz ∧ va_P (dC, dI) vwCl [(aP, .inr (2, [.ref aU, .ref aR, .ref aK, .ref aL, .int ipc, .int ist, .int iln, .int iwa, .int isl])), (aU, .inr (1, [.ref aM, .ref aC, .ref aB, .int iwk])), (aM, .inl (kM, 512, .inl gM))] U.heap ∧ va_K (dC, dI) vwCl [(kM, .int)] U ∧ va_D (fun _ => True) [(aP, .inr (2, [.ref aU, .ref aR, .ref aK, .ref aL, .int ipc, .int ist, .int iln, .int iwa, .int isl])), (aU, .inr (1, [.ref aM, .ref aC, .ref aB, .int iwk])), (aM, .inl (kM, 512, .inl gM))] ∧ qN U)) (va_Qi (fun (r : Int32) (u : (Nat → Int32)) => r = qFill ipl) (fun (u : (Nat → Int32)) (t : State) => va_P (dC, dI) vwCl [(aP, .inr (2, [.ref aU, .ref aR, .ref aK, .ref aL, .int ipc, .int ist, .int iln, .int iwa, .int isl])), (aU, .inr (1, [.ref aM, .ref aC, .ref aB, .int iwk])), (aM, .inl (kM, 512, .inl u))] t.heap ∧ va_K (dC, dI) vwCl [(kM, .int)] t ∧ va_D (va_A [(aP, .inr (2, [.ref aU, .ref aR, .ref aK, .ref aL, .int ipc, .int ist, .int iln, .int iwa, .int isl])), (aU, .inr (1, [.ref aM, .ref aC, .ref aB, .int iwk])), (aM, .inl (kM, 512, .inl gM))] sz) [(aP, .inr (2, [.ref aU, .ref aR, .ref aK, .ref aL, .int ipc, .int ist, .int iln, .int iwa, .int isl])), (aU, .inr (1, [.ref aM, .ref aC, .ref aB, .int iwk])), (aM, .inl (kM, 512, .inl u))]) (va_A [(aP, .inr (2, [.ref aU, .ref aR, .ref aK, .ref aL, .int ipc, .int ist, .int iln, .int iwa, .int isl])), (aU, .inr (1, [.ref aM, .ref aC, .ref aB, .int iwk])), (aM, .inl (kM, 512, .inl gM))] sz)) 0 0 (va_A [(aP, .inr (2, [.ref aU, .ref aR, .ref aK, .ref aL, .int ipc, .int ist, .int iln, .int iwa, .int isl])), (aU, .inr (1, [.ref aM, .ref aC, .ref aB, .int iwk])), (aM, .inl (kM, 512, .inl gM))] sz) := by
  refine Met.ofW (cc := cX2_fill) (maxL := 9) (ret := (some .boolean)) (by decide) rfl ?_
  intro p e s m args below meth c s₁ B hml hv
  obtain ⟨rfl, hsz, hP, hK, hD0, hN⟩ := hv
  have hx := B.exec
  have hb := B.bytes
  have hr := B.returns
  have hts := atoms_spec (ws := wsX2_fill) B.pre
  have htb : ∀ w ∈ qT, w.before _ s = true := fun w h => hts w (List.mem_cons_of_mem _ h)
  have hown : s.vm.findClass RX2 = some m.cls := findClass_of_methodNamed B.named
  have hlocks := B.notSynchronized
  subst hsz
  have hD := hD0.self (sz := s.heap.size)
  generalize hAe : va_A [(aP, .inr (2, [.ref aU, .ref aR, .ref aK, .ref aL, .int ipc, .int ist, .int iln, .int iwa, .int isl])), (aU, .inr (1, [.ref aM, .ref aC, .ref aB, .int iwk])), (aM, .inl (kM, 512, .inl gM))] s.heap.size = A at hD ⊢
  have hA : ∀ q : Nat, s.heap.size ≤ q → A q := fun q h => by rw [← hAe]; exact Or.inr h
  have hS : va_S A s.heap s.heap [] := va_S.rf
  have hP : va_P (dC, dI) vwCl [(aP, .inr (2, [.ref aU, .ref aR, .ref aK, .ref aL, .int ipc, .int ist, .int iln, .int iwa, .int isl])), (aU, .inr (1, [.ref aM, .ref aC, .ref aB, .int iwk])), (aM, .inl (kM, 512, .inl gM))] s.heap := hP
  have hl := lv_entry ([.ref aP, .int ipl, .long xlo, .long xhi]) (n := 9) (Nat.le_of_ble_eq_true rfl)
  rw [lg_entry_eq]
  generalize (lg_sl ([.ref aP, .int ipl, .long xlo, .long xhi]) ++ List.replicate (9 - (lg_sl ([.ref aP, .int ipl, .long xlo, .long xhi])).length) Slot.unset).toArray = ls at hl ⊢
  have hl : lv_has ls 9 [(0, .ref aP), (1, .int ipl), (2, .long xlo), (4, .long xhi)] := hl
  refine lv_iload_n hx hb dX2_fill_0 rfl (lv_at hl 1 rfl) ?_
  refine lv_if_lt (tgt := 11) hx hb dX2_fill_1 (by decide) (fun h1 => ?_) (fun h1 => ?_)
  · refine lv_iconst (v := 0) hx hb dX2_fill_11 (by decide) ?_
    have hP9 := hP.sub (ws' := [(aP, .inr (2, [.ref aU, .ref aR, .ref aK, .ref aL, .int ipc, .int ist, .int iln, .int iwa, .int isl])), (aU, .inr (1, [.ref aM, .ref aC, .ref aB, .int iwk])), (aM, .inl (kM, 512, .inl gM))]) [0, 1, 2] rfl
    have hD9 := hD.sub (ws' := [(aP, .inr (2, [.ref aU, .ref aR, .ref aK, .ref aL, .int ipc, .int ist, .int iln, .int iwa, .int isl])), (aU, .inr (1, [.ref aM, .ref aC, .ref aB, .int iwk])), (aM, .inl (kM, 512, .inl gM))]) [0, 1, 2] (by decide) rfl
    have hK9 := hK.sub (tys' := [(kM, .int)]) [0] rfl
    exact W.zret (ty := .boolean) (v := 0) hx hb hr (by first | rfl | decide +kernel) (fun t ht hW => ⟨⟨0, (gM), rfl, (by unfold qFill; rw [if_neg (by intro q; first | exact absurd (q_lt h1 (n := 0) (by decide)) (by omega) | exact absurd (q_nle h8 (n := 508) (by decide)) (by omega))]), by rw [ht]; exact hP9, va_K.moved hW.alike hK9, hD9⟩, hS.F ht⟩) hS.2.2 dX2_fill_12
  · refine lv_iload_n hx hb dX2_fill_4 rfl (lv_at hl 1 rfl) ?_
    refine lv_sipush (v := 508) hx hb dX2_fill_5 (by decide) ?_
    refine lv_icmp_le (tgt := 13) hx hb dX2_fill_8 (by decide) (fun h8 => ?_) (fun h8 => ?_)
    · refine lv_iconst (v := 0) hx hb dX2_fill_13 (by decide) ?_
      refine lv_istore (lv' := [(6, .int 0), (0, .ref aP), (1, .int ipl), (2, .long xlo), (4, .long xhi)]) hx hb dX2_fill_14 hl (by decide) rfl (fun ls hl => ?_)
      refine lv_iload hx hb dX2_fill_16 (lv_at hl 0 rfl) ?_
      refine lv_iconst (v := 4) hx hb dX2_fill_18 (by decide) ?_
      refine lv_icmp_ge (tgt := 72) hx hb dX2_fill_19 (by decide) (fun h19 => ?_) (fun h19 => ?_)
      · exact absurd h19 (by decide)
      · refine lv_lload_n hx hb dX2_fill_22 rfl (lv_at hl 3 rfl) ?_
        refine lv_bipush (v := 16) hx hb dX2_fill_23 (by decide) ?_
        refine lv_iload hx hb dX2_fill_25 (lv_at hl 0 rfl) ?_
        refine lv_imul hx hb dX2_fill_27 ?_
        refine q_casti (y := 0) (by decide) ?_
        refine lv_lushr hx hb dX2_fill_28 rfl ?_
        refine lv_topl (fun v28 e28 => ?_)
        refine lv_l2i hx hb dX2_fill_29 rfl ?_
        refine lv_topi (fun v29 e29 => ?_)
        refine lv_ldc (v := 65535) hx hb hown (htb _ m1_92) dX2_fill_30 ?_
        refine lv_iand hx hb dX2_fill_32 ?_
        refine lv_topi (fun v32 e32 => ?_)
        refine lv_istore (lv' := [(7, .int v32), (6, .int 0), (0, .ref aP), (1, .int ipl), (2, .long xlo), (4, .long xhi)]) hx hb dX2_fill_33 hl (by decide) rfl (fun ls hl => ?_)
        refine lv_lload hx hb dX2_fill_35 (lv_at hl 5 rfl) ?_
        refine lv_bipush (v := 16) hx hb dX2_fill_37 (by decide) ?_
        refine lv_iload hx hb dX2_fill_39 (lv_at hl 1 rfl) ?_
        refine lv_imul hx hb dX2_fill_41 ?_
        refine q_casti (y := 0) (by decide) ?_
        refine lv_lushr hx hb dX2_fill_42 rfl ?_
        refine lv_topl (fun v42 e42 => ?_)
        refine lv_l2i hx hb dX2_fill_43 rfl ?_
        refine lv_topi (fun v43 e43 => ?_)
        refine lv_bipush (v := 16) hx hb dX2_fill_44 (by decide) ?_
        refine lv_ishl hx hb dX2_fill_46 ?_
        refine lv_topi (fun v46 e46 => ?_)
        refine lv_istore (lv' := [(8, .int v46), (7, .int v32), (6, .int 0), (0, .ref aP), (1, .int ipl), (2, .long xlo), (4, .long xhi)]) hx hb dX2_fill_47 hl (by decide) rfl (fun ls hl => ?_)
        refine lv_aload_n hx hb dX2_fill_49 rfl (lv_at hl 3 rfl) ?_
        refine va_get (D := (dC, dI)) (ci := 2) (v := .ref aU) (C := RX2) (T := TX2) (N := 9) hx hb htb inX2 hown hK hP 0 rfl rfl 0 (by decide) (htb _ m1_56) (fun _ h9 => h9) rfl dX2_fill_50 ?_
        refine va_getN (D := (dC, dI)) (ci := 1) (v := .ref aM) (C := RX1) (T := TX1) (N := 4) hx hb htb inX1 hown hK hP 1 rfl rfl 0 (by decide) (va_Nw.use rfl hN.2.1) (fun _ h9 => h9) rfl dX2_fill_53 ?_
        refine lv_iload_n hx hb dX2_fill_56 rfl (lv_at hl 4 rfl) ?_
        refine lv_iload hx hb dX2_fill_57 (lv_at hl 2 rfl) ?_
        refine lv_iadd hx hb dX2_fill_59 ?_
        refine lv_topi (fun v59 e59 => ?_)
        refine lv_iload hx hb dX2_fill_60 (lv_at hl 0 rfl) ?_
        refine lv_iload hx hb dX2_fill_62 (lv_at hl 1 rfl) ?_
        refine lv_ior hx hb dX2_fill_64 ?_
        refine lv_topi (fun v64 e64 => ?_)
        refine va_iast hx hb hK hP hD hS 2 0 rfl rfl (by rw [e59]; exact bd_in (bd_add (a := 0) (b := 508) (c := 0) (d := 0) ⟨q_nlt h1 (by decide), q_le h8 (by decide)⟩ (bd_lit (by decide)) (by decide) (by decide)) (by decide) (by decide)) dX2_fill_65 (fun H locs hP hD hS => ?_)
        have hP : va_P (dC, dI) vwCl [(aP, .inr (2, [.ref aU, .ref aR, .ref aK, .ref aL, .int ipc, .int ist, .int iln, .int iwa, .int isl])), (aU, .inr (1, [.ref aM, .ref aC, .ref aB, .int iwk])), (aM, .inl (kM, 512, .inl (upd gM v59.toNatClampNeg v64)))] H := hP
        have hD : va_D A [(aP, .inr (2, [.ref aU, .ref aR, .ref aK, .ref aL, .int ipc, .int ist, .int iln, .int iwa, .int isl])), (aU, .inr (1, [.ref aM, .ref aC, .ref aB, .int iwk])), (aM, .inl (kM, 512, .inl (upd gM v59.toNatClampNeg v64)))] := hD
        refine lv_iinc (k := 2) (v := 1) (lv' := [(6, .int 1), (8, .int v46), (7, .int v32), (0, .ref aP), (1, .int ipl), (2, .long xlo), (4, .long xhi)]) hx hb dX2_fill_66 hl rfl (by decide) (by decide) rfl (fun ls hl => ?_)
        refine lv_goto (tgt := 16) hx hb dX2_fill_69 (by decide) ?_
        refine lv_iload hx hb dX2_fill_16 (lv_at hl 0 rfl) ?_
        refine lv_iconst (v := 4) hx hb dX2_fill_18 (by decide) ?_
        refine lv_icmp_ge (tgt := 72) hx hb dX2_fill_19 (by decide) (fun h19_2 => ?_) (fun h19_2 => ?_)
        · exact absurd h19_2 (by decide)
        · refine lv_lload_n hx hb dX2_fill_22 rfl (lv_at hl 5 rfl) ?_
          refine lv_bipush (v := 16) hx hb dX2_fill_23 (by decide) ?_
          refine lv_iload hx hb dX2_fill_25 (lv_at hl 0 rfl) ?_
          refine lv_imul hx hb dX2_fill_27 ?_
          refine q_casti (y := 16) (by decide) ?_
          refine lv_lushr hx hb dX2_fill_28 rfl ?_
          refine lv_topl (fun v28_2 e28_2 => ?_)
          refine lv_l2i hx hb dX2_fill_29 rfl ?_
          refine lv_topi (fun v29_2 e29_2 => ?_)
          refine lv_ldc (v := 65535) hx hb hown (htb _ m1_92) dX2_fill_30 ?_
          refine lv_iand hx hb dX2_fill_32 ?_
          refine lv_topi (fun v32_2 e32_2 => ?_)
          refine lv_istore (lv' := [(7, .int v32_2), (6, .int 1), (8, .int v46), (0, .ref aP), (1, .int ipl), (2, .long xlo), (4, .long xhi)]) hx hb dX2_fill_33 hl (by decide) rfl (fun ls hl => ?_)
          refine lv_lload hx hb dX2_fill_35 (lv_at hl 6 rfl) ?_
          refine lv_bipush (v := 16) hx hb dX2_fill_37 (by decide) ?_
          refine lv_iload hx hb dX2_fill_39 (lv_at hl 1 rfl) ?_
          refine lv_imul hx hb dX2_fill_41 ?_
          refine q_casti (y := 16) (by decide) ?_
          refine lv_lushr hx hb dX2_fill_42 rfl ?_
          refine lv_topl (fun v42_2 e42_2 => ?_)
          refine lv_l2i hx hb dX2_fill_43 rfl ?_
          refine lv_topi (fun v43_2 e43_2 => ?_)
          refine lv_bipush (v := 16) hx hb dX2_fill_44 (by decide) ?_
          refine lv_ishl hx hb dX2_fill_46 ?_
          refine lv_topi (fun v46_2 e46_2 => ?_)
          refine lv_istore (lv' := [(8, .int v46_2), (7, .int v32_2), (6, .int 1), (0, .ref aP), (1, .int ipl), (2, .long xlo), (4, .long xhi)]) hx hb dX2_fill_47 hl (by decide) rfl (fun ls hl => ?_)
          refine lv_aload_n hx hb dX2_fill_49 rfl (lv_at hl 3 rfl) ?_
          refine va_get (D := (dC, dI)) (ci := 2) (v := .ref aU) (C := RX2) (T := TX2) (N := 9) hx hb htb inX2 hown hK hP 0 rfl rfl 0 (by decide) (htb _ m1_56) (fun _ h9 => h9) rfl dX2_fill_50 ?_
          refine va_getN (D := (dC, dI)) (ci := 1) (v := .ref aM) (C := RX1) (T := TX1) (N := 4) hx hb htb inX1 hown hK hP 1 rfl rfl 0 (by decide) (va_Nw.use rfl hN.2.1) (fun _ h9 => h9) rfl dX2_fill_53 ?_
          refine lv_iload_n hx hb dX2_fill_56 rfl (lv_at hl 4 rfl) ?_
          refine lv_iload hx hb dX2_fill_57 (lv_at hl 2 rfl) ?_
          refine lv_iadd hx hb dX2_fill_59 ?_
          refine lv_topi (fun v59_2 e59_2 => ?_)
          refine lv_iload hx hb dX2_fill_60 (lv_at hl 0 rfl) ?_
          refine lv_iload hx hb dX2_fill_62 (lv_at hl 1 rfl) ?_
          refine lv_ior hx hb dX2_fill_64 ?_
          refine lv_topi (fun v64_2 e64_2 => ?_)
          refine va_iast hx hb hK hP hD hS 2 0 rfl rfl (by rw [e59_2]; exact bd_in (bd_add (a := 0) (b := 508) (c := 1) (d := 1) ⟨q_nlt h1 (by decide), q_le h8 (by decide)⟩ (bd_lit (by decide)) (by decide) (by decide)) (by decide) (by decide)) dX2_fill_65 (fun H locs hP hD hS => ?_)
          have hP : va_P (dC, dI) vwCl [(aP, .inr (2, [.ref aU, .ref aR, .ref aK, .ref aL, .int ipc, .int ist, .int iln, .int iwa, .int isl])), (aU, .inr (1, [.ref aM, .ref aC, .ref aB, .int iwk])), (aM, .inl (kM, 512, .inl (upd (upd gM v59.toNatClampNeg v64) v59_2.toNatClampNeg v64_2)))] H := hP
          have hD : va_D A [(aP, .inr (2, [.ref aU, .ref aR, .ref aK, .ref aL, .int ipc, .int ist, .int iln, .int iwa, .int isl])), (aU, .inr (1, [.ref aM, .ref aC, .ref aB, .int iwk])), (aM, .inl (kM, 512, .inl (upd (upd gM v59.toNatClampNeg v64) v59_2.toNatClampNeg v64_2)))] := hD
          refine lv_iinc (k := 2) (v := 2) (lv' := [(6, .int 2), (8, .int v46_2), (7, .int v32_2), (0, .ref aP), (1, .int ipl), (2, .long xlo), (4, .long xhi)]) hx hb dX2_fill_66 hl rfl (by decide) (by decide) rfl (fun ls hl => ?_)
          refine lv_goto (tgt := 16) hx hb dX2_fill_69 (by decide) ?_
          refine lv_iload hx hb dX2_fill_16 (lv_at hl 0 rfl) ?_
          refine lv_iconst (v := 4) hx hb dX2_fill_18 (by decide) ?_
          refine lv_icmp_ge (tgt := 72) hx hb dX2_fill_19 (by decide) (fun h19_3 => ?_) (fun h19_3 => ?_)
          · exact absurd h19_3 (by decide)
          · refine lv_lload_n hx hb dX2_fill_22 rfl (lv_at hl 5 rfl) ?_
            refine lv_bipush (v := 16) hx hb dX2_fill_23 (by decide) ?_
            refine lv_iload hx hb dX2_fill_25 (lv_at hl 0 rfl) ?_
            refine lv_imul hx hb dX2_fill_27 ?_
            refine q_casti (y := 32) (by decide) ?_
            refine lv_lushr hx hb dX2_fill_28 rfl ?_
            refine lv_topl (fun v28_3 e28_3 => ?_)
            refine lv_l2i hx hb dX2_fill_29 rfl ?_
            refine lv_topi (fun v29_3 e29_3 => ?_)
            refine lv_ldc (v := 65535) hx hb hown (htb _ m1_92) dX2_fill_30 ?_
            refine lv_iand hx hb dX2_fill_32 ?_
            refine lv_topi (fun v32_3 e32_3 => ?_)
            refine lv_istore (lv' := [(7, .int v32_3), (6, .int 2), (8, .int v46_2), (0, .ref aP), (1, .int ipl), (2, .long xlo), (4, .long xhi)]) hx hb dX2_fill_33 hl (by decide) rfl (fun ls hl => ?_)
            refine lv_lload hx hb dX2_fill_35 (lv_at hl 6 rfl) ?_
            refine lv_bipush (v := 16) hx hb dX2_fill_37 (by decide) ?_
            refine lv_iload hx hb dX2_fill_39 (lv_at hl 1 rfl) ?_
            refine lv_imul hx hb dX2_fill_41 ?_
            refine q_casti (y := 32) (by decide) ?_
            refine lv_lushr hx hb dX2_fill_42 rfl ?_
            refine lv_topl (fun v42_3 e42_3 => ?_)
            refine lv_l2i hx hb dX2_fill_43 rfl ?_
            refine lv_topi (fun v43_3 e43_3 => ?_)
            refine lv_bipush (v := 16) hx hb dX2_fill_44 (by decide) ?_
            refine lv_ishl hx hb dX2_fill_46 ?_
            refine lv_topi (fun v46_3 e46_3 => ?_)
            refine lv_istore (lv' := [(8, .int v46_3), (7, .int v32_3), (6, .int 2), (0, .ref aP), (1, .int ipl), (2, .long xlo), (4, .long xhi)]) hx hb dX2_fill_47 hl (by decide) rfl (fun ls hl => ?_)
            refine lv_aload_n hx hb dX2_fill_49 rfl (lv_at hl 3 rfl) ?_
            refine va_get (D := (dC, dI)) (ci := 2) (v := .ref aU) (C := RX2) (T := TX2) (N := 9) hx hb htb inX2 hown hK hP 0 rfl rfl 0 (by decide) (htb _ m1_56) (fun _ h9 => h9) rfl dX2_fill_50 ?_
            refine va_getN (D := (dC, dI)) (ci := 1) (v := .ref aM) (C := RX1) (T := TX1) (N := 4) hx hb htb inX1 hown hK hP 1 rfl rfl 0 (by decide) (va_Nw.use rfl hN.2.1) (fun _ h9 => h9) rfl dX2_fill_53 ?_
            refine lv_iload_n hx hb dX2_fill_56 rfl (lv_at hl 4 rfl) ?_
            refine lv_iload hx hb dX2_fill_57 (lv_at hl 2 rfl) ?_
            refine lv_iadd hx hb dX2_fill_59 ?_
            refine lv_topi (fun v59_3 e59_3 => ?_)
            refine lv_iload hx hb dX2_fill_60 (lv_at hl 0 rfl) ?_
            refine lv_iload hx hb dX2_fill_62 (lv_at hl 1 rfl) ?_
            refine lv_ior hx hb dX2_fill_64 ?_
            refine lv_topi (fun v64_3 e64_3 => ?_)
            refine va_iast hx hb hK hP hD hS 2 0 rfl rfl (by rw [e59_3]; exact bd_in (bd_add (a := 0) (b := 508) (c := 2) (d := 2) ⟨q_nlt h1 (by decide), q_le h8 (by decide)⟩ (bd_lit (by decide)) (by decide) (by decide)) (by decide) (by decide)) dX2_fill_65 (fun H locs hP hD hS => ?_)
            have hP : va_P (dC, dI) vwCl [(aP, .inr (2, [.ref aU, .ref aR, .ref aK, .ref aL, .int ipc, .int ist, .int iln, .int iwa, .int isl])), (aU, .inr (1, [.ref aM, .ref aC, .ref aB, .int iwk])), (aM, .inl (kM, 512, .inl (upd (upd (upd gM v59.toNatClampNeg v64) v59_2.toNatClampNeg v64_2) v59_3.toNatClampNeg v64_3)))] H := hP
            have hD : va_D A [(aP, .inr (2, [.ref aU, .ref aR, .ref aK, .ref aL, .int ipc, .int ist, .int iln, .int iwa, .int isl])), (aU, .inr (1, [.ref aM, .ref aC, .ref aB, .int iwk])), (aM, .inl (kM, 512, .inl (upd (upd (upd gM v59.toNatClampNeg v64) v59_2.toNatClampNeg v64_2) v59_3.toNatClampNeg v64_3)))] := hD
            refine lv_iinc (k := 2) (v := 3) (lv' := [(6, .int 3), (8, .int v46_3), (7, .int v32_3), (0, .ref aP), (1, .int ipl), (2, .long xlo), (4, .long xhi)]) hx hb dX2_fill_66 hl rfl (by decide) (by decide) rfl (fun ls hl => ?_)
            refine lv_goto (tgt := 16) hx hb dX2_fill_69 (by decide) ?_
            refine lv_iload hx hb dX2_fill_16 (lv_at hl 0 rfl) ?_
            refine lv_iconst (v := 4) hx hb dX2_fill_18 (by decide) ?_
            refine lv_icmp_ge (tgt := 72) hx hb dX2_fill_19 (by decide) (fun h19_4 => ?_) (fun h19_4 => ?_)
            · exact absurd h19_4 (by decide)
            · refine lv_lload_n hx hb dX2_fill_22 rfl (lv_at hl 5 rfl) ?_
              refine lv_bipush (v := 16) hx hb dX2_fill_23 (by decide) ?_
              refine lv_iload hx hb dX2_fill_25 (lv_at hl 0 rfl) ?_
              refine lv_imul hx hb dX2_fill_27 ?_
              refine q_casti (y := 48) (by decide) ?_
              refine lv_lushr hx hb dX2_fill_28 rfl ?_
              refine lv_topl (fun v28_4 e28_4 => ?_)
              refine lv_l2i hx hb dX2_fill_29 rfl ?_
              refine lv_topi (fun v29_4 e29_4 => ?_)
              refine lv_ldc (v := 65535) hx hb hown (htb _ m1_92) dX2_fill_30 ?_
              refine lv_iand hx hb dX2_fill_32 ?_
              refine lv_topi (fun v32_4 e32_4 => ?_)
              refine lv_istore (lv' := [(7, .int v32_4), (6, .int 3), (8, .int v46_3), (0, .ref aP), (1, .int ipl), (2, .long xlo), (4, .long xhi)]) hx hb dX2_fill_33 hl (by decide) rfl (fun ls hl => ?_)
              refine lv_lload hx hb dX2_fill_35 (lv_at hl 6 rfl) ?_
              refine lv_bipush (v := 16) hx hb dX2_fill_37 (by decide) ?_
              refine lv_iload hx hb dX2_fill_39 (lv_at hl 1 rfl) ?_
              refine lv_imul hx hb dX2_fill_41 ?_
              refine q_casti (y := 48) (by decide) ?_
              refine lv_lushr hx hb dX2_fill_42 rfl ?_
              refine lv_topl (fun v42_4 e42_4 => ?_)
              refine lv_l2i hx hb dX2_fill_43 rfl ?_
              refine lv_topi (fun v43_4 e43_4 => ?_)
              refine lv_bipush (v := 16) hx hb dX2_fill_44 (by decide) ?_
              refine lv_ishl hx hb dX2_fill_46 ?_
              refine lv_topi (fun v46_4 e46_4 => ?_)
              refine lv_istore (lv' := [(8, .int v46_4), (7, .int v32_4), (6, .int 3), (0, .ref aP), (1, .int ipl), (2, .long xlo), (4, .long xhi)]) hx hb dX2_fill_47 hl (by decide) rfl (fun ls hl => ?_)
              refine lv_aload_n hx hb dX2_fill_49 rfl (lv_at hl 3 rfl) ?_
              refine va_get (D := (dC, dI)) (ci := 2) (v := .ref aU) (C := RX2) (T := TX2) (N := 9) hx hb htb inX2 hown hK hP 0 rfl rfl 0 (by decide) (htb _ m1_56) (fun _ h9 => h9) rfl dX2_fill_50 ?_
              refine va_getN (D := (dC, dI)) (ci := 1) (v := .ref aM) (C := RX1) (T := TX1) (N := 4) hx hb htb inX1 hown hK hP 1 rfl rfl 0 (by decide) (va_Nw.use rfl hN.2.1) (fun _ h9 => h9) rfl dX2_fill_53 ?_
              refine lv_iload_n hx hb dX2_fill_56 rfl (lv_at hl 4 rfl) ?_
              refine lv_iload hx hb dX2_fill_57 (lv_at hl 2 rfl) ?_
              refine lv_iadd hx hb dX2_fill_59 ?_
              refine lv_topi (fun v59_4 e59_4 => ?_)
              refine lv_iload hx hb dX2_fill_60 (lv_at hl 0 rfl) ?_
              refine lv_iload hx hb dX2_fill_62 (lv_at hl 1 rfl) ?_
              refine lv_ior hx hb dX2_fill_64 ?_
              refine lv_topi (fun v64_4 e64_4 => ?_)
              refine va_iast hx hb hK hP hD hS 2 0 rfl rfl (by rw [e59_4]; exact bd_in (bd_add (a := 0) (b := 508) (c := 3) (d := 3) ⟨q_nlt h1 (by decide), q_le h8 (by decide)⟩ (bd_lit (by decide)) (by decide) (by decide)) (by decide) (by decide)) dX2_fill_65 (fun H locs hP hD hS => ?_)
              have hP : va_P (dC, dI) vwCl [(aP, .inr (2, [.ref aU, .ref aR, .ref aK, .ref aL, .int ipc, .int ist, .int iln, .int iwa, .int isl])), (aU, .inr (1, [.ref aM, .ref aC, .ref aB, .int iwk])), (aM, .inl (kM, 512, .inl (upd (upd (upd (upd gM v59.toNatClampNeg v64) v59_2.toNatClampNeg v64_2) v59_3.toNatClampNeg v64_3) v59_4.toNatClampNeg v64_4)))] H := hP
              have hD : va_D A [(aP, .inr (2, [.ref aU, .ref aR, .ref aK, .ref aL, .int ipc, .int ist, .int iln, .int iwa, .int isl])), (aU, .inr (1, [.ref aM, .ref aC, .ref aB, .int iwk])), (aM, .inl (kM, 512, .inl (upd (upd (upd (upd gM v59.toNatClampNeg v64) v59_2.toNatClampNeg v64_2) v59_3.toNatClampNeg v64_3) v59_4.toNatClampNeg v64_4)))] := hD
              refine lv_iinc (k := 2) (v := 4) (lv' := [(6, .int 4), (8, .int v46_4), (7, .int v32_4), (0, .ref aP), (1, .int ipl), (2, .long xlo), (4, .long xhi)]) hx hb dX2_fill_66 hl rfl (by decide) (by decide) rfl (fun ls hl => ?_)
              refine lv_goto (tgt := 16) hx hb dX2_fill_69 (by decide) ?_
              refine lv_iload hx hb dX2_fill_16 (lv_at hl 0 rfl) ?_
              refine lv_iconst (v := 4) hx hb dX2_fill_18 (by decide) ?_
              refine lv_icmp_ge (tgt := 72) hx hb dX2_fill_19 (by decide) (fun h19_5 => ?_) (fun h19_5 => ?_)
              · refine lv_iconst (v := 1) hx hb dX2_fill_72 (by decide) ?_
                have hP9 := hP.sub (ws' := [(aP, .inr (2, [.ref aU, .ref aR, .ref aK, .ref aL, .int ipc, .int ist, .int iln, .int iwa, .int isl])), (aU, .inr (1, [.ref aM, .ref aC, .ref aB, .int iwk])), (aM, .inl (kM, 512, .inl (upd (upd (upd (upd gM v59.toNatClampNeg v64) v59_2.toNatClampNeg v64_2) v59_3.toNatClampNeg v64_3) v59_4.toNatClampNeg v64_4)))]) [0, 1, 2] rfl
                have hD9 := hD.sub (ws' := [(aP, .inr (2, [.ref aU, .ref aR, .ref aK, .ref aL, .int ipc, .int ist, .int iln, .int iwa, .int isl])), (aU, .inr (1, [.ref aM, .ref aC, .ref aB, .int iwk])), (aM, .inl (kM, 512, .inl (upd (upd (upd (upd gM v59.toNatClampNeg v64) v59_2.toNatClampNeg v64_2) v59_3.toNatClampNeg v64_3) v59_4.toNatClampNeg v64_4)))]) [0, 1, 2] (by decide) rfl
                have hK9 := hK.sub (tys' := [(kM, .int)]) [0] rfl
                exact W.zret (ty := .boolean) (v := 1) hx hb hr (by first | rfl | decide +kernel) (fun t ht hW => ⟨⟨1, (upd (upd (upd (upd gM v59.toNatClampNeg v64) v59_2.toNatClampNeg v64_2) v59_3.toNatClampNeg v64_3) v59_4.toNatClampNeg v64_4), rfl, (by unfold qFill; rw [if_pos ⟨q_nlt h1 (by decide), q_le h8 (by decide)⟩]), by rw [ht]; exact hP9, va_K.moved hW.alike hK9, hD9⟩, hS.F ht⟩) hS.2.2 dX2_fill_73
              · exact absurd h19_5 (by decide)
    · refine lv_iconst (v := 0) hx hb dX2_fill_11 (by decide) ?_
      have hP9 := hP.sub (ws' := [(aP, .inr (2, [.ref aU, .ref aR, .ref aK, .ref aL, .int ipc, .int ist, .int iln, .int iwa, .int isl])), (aU, .inr (1, [.ref aM, .ref aC, .ref aB, .int iwk])), (aM, .inl (kM, 512, .inl gM))]) [0, 1, 2] rfl
      have hD9 := hD.sub (ws' := [(aP, .inr (2, [.ref aU, .ref aR, .ref aK, .ref aL, .int ipc, .int ist, .int iln, .int iwa, .int isl])), (aU, .inr (1, [.ref aM, .ref aC, .ref aB, .int iwk])), (aM, .inl (kM, 512, .inl gM))]) [0, 1, 2] (by decide) rfl
      have hK9 := hK.sub (tys' := [(kM, .int)]) [0] rfl
      exact W.zret (ty := .boolean) (v := 0) hx hb hr (by first | rfl | decide +kernel) (fun t ht hW => ⟨⟨0, (gM), rfl, (by unfold qFill; rw [if_neg (by intro q; first | exact absurd (q_lt h1 (n := 0) (by decide)) (by omega) | exact absurd (q_nle h8 (n := 508) (by decide)) (by omega))]), by rw [ht]; exact hP9, va_K.moved hW.alike hK9, hD9⟩, hS.F ht⟩) hS.2.2 dX2_fill_12
end
section
set_option maxHeartbeats 4000000 in
set_option maxRecDepth 100000 in
theorem cX_begin (l : Launch) (dC : Nat → ClassId) (dI : Nat → Nat → Nat) (sz : Nat) (tB : Nat) (aP : Nat) (iad : Int32) (aU : Nat) (aR : Nat) (aK : Nat) (aL : Nat) (ipc : Int32) (ist : Int32) (iln : Int32) (iwa : Int32) (isl : Int32) (aM : Nat) (aC : Nat) (aB : Nat) (iwk : Int32) (kC : ClassId) (gC : Nat → Int32) (aF : Nat) (ius : Int32) (ict : Int32) : Met l yX2_begin wsX2_begin ({ frames := 1, cells := 0, slots := 0, locals := 22 }) (va_Pc [.ref aP, .int iad] (fun U => U.heap.size = sz ∧ va_P (dC, dI) vwCl [(aP, .inr (2, [.ref aU, .ref aR, .ref aK, .ref aL, .int ipc, .int ist, .int iln, .int iwa, .int isl])), (aU, .inr (1, [.ref aM, .ref aC, .ref aB, .int iwk])), (aC, .inl (kC, 12, .inl gC)), (aB, .inr (0, [.ref aF, .int ius, .int ict]))] U.heap ∧ va_K (dC, dI) vwCl [(kC, .int)] U ∧ va_D (fun _ => True) [(aP, .inr (2, [.ref aU, .ref aR, .ref aK, .ref aL, .int ipc, .int ist, .int iln, .int iwa, .int isl])), (aU, .inr (1, [.ref aM, .ref aC, .ref aB, .int iwk])), (aC, .inl (kC, 12, .inl gC)), (aB, .inr (0, [.ref aF, .int ius, .int ict]))] ∧ qN U ∧ va_Z "PageGuards" "CONTROL_BITS" "[I" (.ref tB) (va_A [(aP, .inr (2, [.ref aU, .ref aR, .ref aK, .ref aL, .int ipc, .int ist, .int iln, .int iwa, .int isl])), (aU, .inr (1, [.ref aM, .ref aC, .ref aB, .int iwk])), (aC, .inl (kC, 12, .inl gC)), (aB, .inr (0, [.ref aF, .int ius, .int ict]))] sz) U U.heap ∧ va_T .int tB 12 (fun j => .int (qBits j)) (va_A [(aP, .inr (2, [.ref aU, .ref aR, .ref aK, .ref aL, .int ipc, .int ist, .int iln, .int iwa, .int isl])), (aU, .inr (1, [.ref aM, .ref aC, .ref aB, .int iwk])), (aC, .inl (kC, 12, .inl gC)), (aB, .inr (0, [.ref aF, .int ius, .int ict]))] sz) U U.heap)) (va_Qv (fun u : Int32 × (Nat → Int32) => qCtl gC → qCtl u.2) (fun (u : Int32 × (Nat → Int32)) (t : State) => va_P (dC, dI) vwCl [(aP, .inr (2, [.ref aU, .ref aR, .ref aK, .ref aL, .int u.1, .int 25, .int iln, .int 0, .int 0])), (aU, .inr (1, [.ref aM, .ref aC, .ref aB, .int iwk])), (aC, .inl (kC, 12, .inl u.2)), (aB, .inr (0, [.ref aF, .int ius, .int 0]))] t.heap ∧ va_K (dC, dI) vwCl [(kC, .int)] t ∧ va_D (va_A [(aP, .inr (2, [.ref aU, .ref aR, .ref aK, .ref aL, .int ipc, .int ist, .int iln, .int iwa, .int isl])), (aU, .inr (1, [.ref aM, .ref aC, .ref aB, .int iwk])), (aC, .inl (kC, 12, .inl gC)), (aB, .inr (0, [.ref aF, .int ius, .int ict]))] sz) [(aP, .inr (2, [.ref aU, .ref aR, .ref aK, .ref aL, .int u.1, .int 25, .int iln, .int 0, .int 0])), (aU, .inr (1, [.ref aM, .ref aC, .ref aB, .int iwk])), (aC, .inl (kC, 12, .inl u.2)), (aB, .inr (0, [.ref aF, .int ius, .int 0]))]) (va_A [(aP, .inr (2, [.ref aU, .ref aR, .ref aK, .ref aL, .int ipc, .int ist, .int iln, .int iwa, .int isl])), (aU, .inr (1, [.ref aM, .ref aC, .ref aB, .int iwk])), (aC, .inl (kC, 12, .inl gC)), (aB, .inr (0, [.ref aF, .int ius, .int ict]))] sz)) 0 0 (va_A [(aP, .inr (2, [.ref aU, .ref aR, .ref aK, .ref aL, .int ipc, .int ist, .int iln, .int iwa, .int isl])), (aU, .inr (1, [.ref aM, .ref aC, .ref aB, .int iwk])), (aC, .inl (kC, 12, .inl gC)), (aB, .inr (0, [.ref aF, .int ius, .int ict]))] sz) := by
  refine Met.ofW (cc := cX2_begin) (maxL := 2) (ret := none) (by decide) rfl ?_
  intro p e s m args below meth c s₁ B hml hv
  obtain ⟨rfl, hsz, hP, hK, hD0, hN, hZB, hTB⟩ := hv
  have hx := B.exec
  have hb := B.bytes
  have hr := B.returns
  have hts := atoms_spec (ws := wsX2_begin) B.pre
  have htb : ∀ w ∈ qT, w.before _ s = true := fun w h => hts w (List.mem_cons_of_mem _ h)
  have hown : s.vm.findClass RX2 = some m.cls := findClass_of_methodNamed B.named
  have hlocks := B.notSynchronized
  subst hsz
  have hD := hD0.self (sz := s.heap.size)
  generalize hAe : va_A [(aP, .inr (2, [.ref aU, .ref aR, .ref aK, .ref aL, .int ipc, .int ist, .int iln, .int iwa, .int isl])), (aU, .inr (1, [.ref aM, .ref aC, .ref aB, .int iwk])), (aC, .inl (kC, 12, .inl gC)), (aB, .inr (0, [.ref aF, .int ius, .int ict]))] s.heap.size = A at hD hZB hTB ⊢
  have hA : ∀ q : Nat, s.heap.size ≤ q → A q := fun q h => by rw [← hAe]; exact Or.inr h
  have hS : va_S A s.heap s.heap [] := va_S.rf
  have hP : va_P (dC, dI) vwCl [(aP, .inr (2, [.ref aU, .ref aR, .ref aK, .ref aL, .int ipc, .int ist, .int iln, .int iwa, .int isl])), (aU, .inr (1, [.ref aM, .ref aC, .ref aB, .int iwk])), (aC, .inl (kC, 12, .inl gC)), (aB, .inr (0, [.ref aF, .int ius, .int ict]))] s.heap := hP
  have hl := lv_entry ([.ref aP, .int iad]) (n := 2) (Nat.le_of_ble_eq_true rfl)
  rw [lg_entry_eq]
  generalize (lg_sl ([.ref aP, .int iad]) ++ List.replicate (2 - (lg_sl ([.ref aP, .int iad])).length) Slot.unset).toArray = ls at hl ⊢
  have hl : lv_has ls 2 [(0, .ref aP), (1, .int iad)] := hl
  refine lv_aload_n hx hb dX2_begin_0 rfl (lv_at hl 0 rfl) ?_
  refine lv_iload_n hx hb dX2_begin_1 rfl (lv_at hl 1 rfl) ?_
  refine lv_sipush (v := 4095) hx hb dX2_begin_2 (by decide) ?_
  refine lv_iand hx hb dX2_begin_5 ?_
  refine lv_topi (fun v5 e5 => ?_)
  refine va_put (D := (dC, dI)) (ci := 2) (v := .int v5) (ty := .int) (C := RX2) (T := TX2) (N := 9) hx hb htb inX2 tyX2 tyX2_ok nmX2 hown hK hP hD hS 0 rfl rfl 4 (by decide) (htb _ m1_60) (fun _ h9 => h9) rfl (by decide +kernel) (by first | rfl | decide +kernel) (by first | rfl | decide +kernel) (Nat.le_of_ble_eq_true rfl) dX2_begin_6 (fun H locs hP hD hS => ?_)
  have hP : va_P (dC, dI) vwCl [(aP, .inr (2, [.ref aU, .ref aR, .ref aK, .ref aL, .int v5, .int ist, .int iln, .int iwa, .int isl])), (aU, .inr (1, [.ref aM, .ref aC, .ref aB, .int iwk])), (aC, .inl (kC, 12, .inl gC)), (aB, .inr (0, [.ref aF, .int ius, .int ict]))] H := hP
  have hD : va_D A [(aP, .inr (2, [.ref aU, .ref aR, .ref aK, .ref aL, .int v5, .int ist, .int iln, .int iwa, .int isl])), (aU, .inr (1, [.ref aM, .ref aC, .ref aB, .int iwk])), (aC, .inl (kC, 12, .inl gC)), (aB, .inr (0, [.ref aF, .int ius, .int ict]))] := hD
  refine lv_aload_n hx hb dX2_begin_9 rfl (lv_at hl 0 rfl) ?_
  refine lv_bipush (v := 25) hx hb dX2_begin_10 (by decide) ?_
  refine va_put (D := (dC, dI)) (ci := 2) (v := .int 25) (ty := .int) (C := RX2) (T := TX2) (N := 9) hx hb htb inX2 tyX2 tyX2_ok nmX2 hown hK hP hD hS 0 rfl rfl 5 (by decide) (htb _ m1_61) (fun _ h9 => h9) rfl (by decide +kernel) (by first | rfl | decide +kernel) (by first | rfl | decide +kernel) (Nat.le_of_ble_eq_true rfl) dX2_begin_12 (fun H locs hP hD hS => ?_)
  have hP : va_P (dC, dI) vwCl [(aP, .inr (2, [.ref aU, .ref aR, .ref aK, .ref aL, .int v5, .int 25, .int iln, .int iwa, .int isl])), (aU, .inr (1, [.ref aM, .ref aC, .ref aB, .int iwk])), (aC, .inl (kC, 12, .inl gC)), (aB, .inr (0, [.ref aF, .int ius, .int ict]))] H := hP
  have hD : va_D A [(aP, .inr (2, [.ref aU, .ref aR, .ref aK, .ref aL, .int v5, .int 25, .int iln, .int iwa, .int isl])), (aU, .inr (1, [.ref aM, .ref aC, .ref aB, .int iwk])), (aC, .inl (kC, 12, .inl gC)), (aB, .inr (0, [.ref aF, .int ius, .int ict]))] := hD
  refine lv_aload_n hx hb dX2_begin_15 rfl (lv_at hl 0 rfl) ?_
  refine va_get (D := (dC, dI)) (ci := 2) (v := .ref aU) (C := RX2) (T := TX2) (N := 9) hx hb htb inX2 hown hK hP 0 rfl rfl 0 (by decide) (htb _ m1_56) (fun _ h9 => h9) rfl dX2_begin_16 ?_
  refine lv_iconst (v := 0) hx hb dX2_begin_19 (by decide) ?_
  refine lv_iconst (v := 0) hx hb dX2_begin_20 (by decide) ?_
  have hPc := hP.sub (ws' := [(aU, .inr (1, [.ref aM, .ref aC, .ref aB, .int iwk])), (aC, .inl (kC, 12, .inl gC))]) [1, 2] rfl
  have hKc := hK.sub (tys' := [(kC, .int)]) [0] rfl
  have hDc := hD.sub (ws' := [(aU, .inr (1, [.ref aM, .ref aC, .ref aB, .int iwk])), (aC, .inl (kC, 12, .inl gC))]) [1, 2] (by decide) rfl
  have hFc := va_free (wc := [(aU, .inr (1, [.ref aM, .ref aC, .ref aB, .int iwk])), (aC, .inl (kC, 12, .inl gC))]) hD hS hA [1, 2] rfl
  refine va_callv (va_runV (As := [.int 0, .int 0]) (rest := []) ⟨hx, hb, hml, hown, htb⟩ (cX_writeControl l dC dI H.size tB aU 0 0 aM aC aB iwk kC gC (bd_w (bd_lit (a := 0) (by decide)) (by decide) (by decide))) (cwV 2 htb (q_gV m1_97 m1_98 m1_99 m1_2 m1_100) rfl rfl rfl (by decide +kernel) ⟨Nat.le_of_ble_eq_true rfl, Nat.le_of_ble_eq_true rfl⟩) ⟨fun a U g mk q => by obtain ⟨q0, q1, qP, qK, qD, qN9, qZ0, qT0⟩ := q; exact ⟨q0, q1, qP, va_K.moved (u := U) (U := U.calling g mk a) (Vm.Alike.refl U.vm) qK, qD, qN_same (s := U) (U := U.calling g mk a) rfl qN9, va_Z.moved (u := U) (U := U.calling g mk a) (Vm.Alike.refl U.vm) qZ0, va_T.moved (u := U) (U := U.calling g mk a) (Vm.Alike.refl U.vm) qT0⟩, va_recv (q0 := 1) hK hP (rfl : vwCl[1]? = some (RX1, TX1, 4)) rfl, fun U hU hW => ⟨rfl, by rw [hU], by rw [hU]; exact hPc, va_K.moved hW.alike hKc, hDc.weaken (fun _ _ _ _ => trivial), qN_warm hW hN, by rw [hU]; exact ((hZB.kept hS.2.1).narrow hFc).moved hW.alike, by rw [hU]; exact ((hTB.kept hS.2.1).narrow hFc).moved hW.alike⟩⟩ rfl rfl hl.1 rfl (lv_room (Nat.le_of_ble_eq_true rfl)) dX2_begin_21 ⟨Nat.le_of_ble_eq_true rfl, Nat.le_of_ble_eq_true rfl⟩) hS (fun q _ h => hFc q h) hFc (fun u t H1 locs ht hvm p21 hB hz1 hk1 hS => ?_)
  obtain ⟨gC2_21, rfl⟩ : ∃ z, z = u := ⟨_, rfl⟩
  obtain ⟨hP1, hK1, hD1⟩ := hB
  rw [ht] at hP1
  have hK1 := va_K.moved hvm.symm hK1
  try dsimp only at p21
  obtain ⟨hP, hD⟩ := va_join (wr := [(aP, .inr (2, [.ref aU, .ref aR, .ref aK, .ref aL, .int v5, .int 25, .int iln, .int iwa, .int isl])), (aB, .inr (0, [.ref aF, .int ius, .int ict]))]) (w1 := [(aU, .inr (1, [.ref aM, .ref aC, .ref aB, .int iwk])), (aC, .inl (kC, 12, .inl gC2_21))]) hP hD [1, 2] [0, 3] rfl rfl (by decide) (by decide) hk1 hFc hP1 hD1
  have hK := (hK.sub (tys' := []) [] rfl).app hK1
  generalize H1 = H at hP hS ⊢
  have hP : va_P (dC, dI) vwCl [(aP, .inr (2, [.ref aU, .ref aR, .ref aK, .ref aL, .int v5, .int 25, .int iln, .int iwa, .int isl])), (aB, .inr (0, [.ref aF, .int ius, .int ict])), (aU, .inr (1, [.ref aM, .ref aC, .ref aB, .int iwk])), (aC, .inl (kC, 12, .inl gC2_21))] H := hP
  have hD : va_D A [(aP, .inr (2, [.ref aU, .ref aR, .ref aK, .ref aL, .int v5, .int 25, .int iln, .int iwa, .int isl])), (aB, .inr (0, [.ref aF, .int ius, .int ict])), (aU, .inr (1, [.ref aM, .ref aC, .ref aB, .int iwk])), (aC, .inl (kC, 12, .inl gC2_21))] := hD
  have hK : va_K (dC, dI) vwCl [(kC, .int)] s := hK
  refine lv_aload_n hx hb dX2_begin_24 rfl (lv_at hl 0 rfl) ?_
  refine va_get (D := (dC, dI)) (ci := 2) (v := .ref aU) (C := RX2) (T := TX2) (N := 9) hx hb htb inX2 hown hK hP 0 rfl rfl 0 (by decide) (htb _ m1_56) (fun _ h9 => h9) rfl dX2_begin_25 ?_
  refine va_getN (D := (dC, dI)) (ci := 1) (v := .ref aB) (C := RX1) (T := TX1) (N := 4) hx hb htb inX1 hown hK hP 2 rfl rfl 2 (by decide) (va_Nw.use rfl hN.2.2.2.1) (fun _ h9 => h9) rfl dX2_begin_28 ?_
  have hPc := hP.sub (ws' := [(aB, .inr (0, [.ref aF, .int ius, .int ict]))]) [1] rfl
  have hKc := hK.sub (tys' := []) [] rfl
  have hDc := hD.sub (ws' := [(aB, .inr (0, [.ref aF, .int ius, .int ict]))]) [1] (by decide) rfl
  have hFc := va_free (wc := [(aB, .inr (0, [.ref aF, .int ius, .int ict]))]) hD hS hA [1] rfl
  refine va_callv (va_runV (As := []) (rest := []) ⟨hx, hb, hml, hown, htb⟩ (cX_forgetAll l dC dI H.size aB aF ius ict) (cwV 0 htb (q_gV m1_103 m1_104 m1_105 m1_3 m1_106) rfl rfl rfl (by decide +kernel) ⟨Nat.le_of_ble_eq_true rfl, Nat.le_of_ble_eq_true rfl⟩) ⟨fun a U g mk q => by obtain ⟨q0, q1, qP, qK, qD⟩ := q; exact ⟨q0, q1, qP, va_K.moved (u := U) (U := U.calling g mk a) (Vm.Alike.refl U.vm) qK, qD⟩, va_recv (q0 := 1) hK hP (rfl : vwCl[0]? = some (RX0, TX0, 3)) rfl, fun U hU hW => ⟨rfl, by rw [hU], by rw [hU]; exact hPc, va_K.moved hW.alike hKc, hDc.weaken (fun _ _ _ _ => trivial)⟩⟩ rfl rfl hl.1 rfl (lv_room (Nat.le_of_ble_eq_true rfl)) dX2_begin_31 ⟨Nat.le_of_ble_eq_true rfl, Nat.le_of_ble_eq_true rfl⟩) hS (fun q _ h => hFc q h) hFc (fun u t H1 locs ht hvm p31 hB hz1 hk1 hS => ?_)
  obtain ⟨hP1, hK1, hD1⟩ := hB
  rw [ht] at hP1
  have hK1 := va_K.moved hvm.symm hK1
  try dsimp only at p31
  obtain ⟨hP, hD⟩ := va_join (wr := [(aP, .inr (2, [.ref aU, .ref aR, .ref aK, .ref aL, .int v5, .int 25, .int iln, .int iwa, .int isl])), (aU, .inr (1, [.ref aM, .ref aC, .ref aB, .int iwk])), (aC, .inl (kC, 12, .inl gC2_21))]) (w1 := [(aB, .inr (0, [.ref aF, .int ius, .int 0]))]) hP hD [1] [0, 2, 3] rfl rfl (by decide) (by decide) hk1 hFc hP1 hD1
  have hK := (hK.sub (tys' := [(kC, .int)]) [0] rfl).app hK1
  generalize H1 = H at hP hS ⊢
  have hP : va_P (dC, dI) vwCl [(aP, .inr (2, [.ref aU, .ref aR, .ref aK, .ref aL, .int v5, .int 25, .int iln, .int iwa, .int isl])), (aU, .inr (1, [.ref aM, .ref aC, .ref aB, .int iwk])), (aC, .inl (kC, 12, .inl gC2_21)), (aB, .inr (0, [.ref aF, .int ius, .int 0]))] H := hP
  have hD : va_D A [(aP, .inr (2, [.ref aU, .ref aR, .ref aK, .ref aL, .int v5, .int 25, .int iln, .int iwa, .int isl])), (aU, .inr (1, [.ref aM, .ref aC, .ref aB, .int iwk])), (aC, .inl (kC, 12, .inl gC2_21)), (aB, .inr (0, [.ref aF, .int ius, .int 0]))] := hD
  have hK : va_K (dC, dI) vwCl [(kC, .int)] s := hK
  refine lv_aload_n hx hb dX2_begin_34 rfl (lv_at hl 0 rfl) ?_
  refine lv_iconst (v := 0) hx hb dX2_begin_35 (by decide) ?_
  refine va_put (D := (dC, dI)) (ci := 2) (v := .int 0) (ty := .boolean) (C := RX2) (T := TX2) (N := 9) hx hb htb inX2 tyX2 tyX2_ok nmX2 hown hK hP hD hS 0 rfl rfl 7 (by decide) (htb _ m1_63) (fun _ h9 => h9) rfl (by decide +kernel) (by first | rfl | decide +kernel) (by first | rfl | decide +kernel) (Nat.le_of_ble_eq_true rfl) dX2_begin_36 (fun H locs hP hD hS => ?_)
  have hP : va_P (dC, dI) vwCl [(aP, .inr (2, [.ref aU, .ref aR, .ref aK, .ref aL, .int v5, .int 25, .int iln, .int 0, .int isl])), (aU, .inr (1, [.ref aM, .ref aC, .ref aB, .int iwk])), (aC, .inl (kC, 12, .inl gC2_21)), (aB, .inr (0, [.ref aF, .int ius, .int 0]))] H := hP
  have hD : va_D A [(aP, .inr (2, [.ref aU, .ref aR, .ref aK, .ref aL, .int v5, .int 25, .int iln, .int 0, .int isl])), (aU, .inr (1, [.ref aM, .ref aC, .ref aB, .int iwk])), (aC, .inl (kC, 12, .inl gC2_21)), (aB, .inr (0, [.ref aF, .int ius, .int 0]))] := hD
  refine lv_aload_n hx hb dX2_begin_39 rfl (lv_at hl 0 rfl) ?_
  refine lv_iconst (v := 0) hx hb dX2_begin_40 (by decide) ?_
  refine va_put (D := (dC, dI)) (ci := 2) (v := .int 0) (ty := .boolean) (C := RX2) (T := TX2) (N := 9) hx hb htb inX2 tyX2 tyX2_ok nmX2 hown hK hP hD hS 0 rfl rfl 8 (by decide) (htb _ m1_64) (fun _ h9 => h9) rfl (by decide +kernel) (by first | rfl | decide +kernel) (by first | rfl | decide +kernel) (Nat.le_of_ble_eq_true rfl) dX2_begin_41 (fun H locs hP hD hS => ?_)
  have hP : va_P (dC, dI) vwCl [(aP, .inr (2, [.ref aU, .ref aR, .ref aK, .ref aL, .int v5, .int 25, .int iln, .int 0, .int 0])), (aU, .inr (1, [.ref aM, .ref aC, .ref aB, .int iwk])), (aC, .inl (kC, 12, .inl gC2_21)), (aB, .inr (0, [.ref aF, .int ius, .int 0]))] H := hP
  have hD : va_D A [(aP, .inr (2, [.ref aU, .ref aR, .ref aK, .ref aL, .int v5, .int 25, .int iln, .int 0, .int 0])), (aU, .inr (1, [.ref aM, .ref aC, .ref aB, .int iwk])), (aC, .inl (kC, 12, .inl gC2_21)), (aB, .inr (0, [.ref aF, .int ius, .int 0]))] := hD
  have hP9 := hP.sub (ws' := [(aP, .inr (2, [.ref aU, .ref aR, .ref aK, .ref aL, .int v5, .int 25, .int iln, .int 0, .int 0])), (aU, .inr (1, [.ref aM, .ref aC, .ref aB, .int iwk])), (aC, .inl (kC, 12, .inl gC2_21)), (aB, .inr (0, [.ref aF, .int ius, .int 0]))]) [0, 1, 2, 3] rfl
  have hD9 := hD.sub (ws' := [(aP, .inr (2, [.ref aU, .ref aR, .ref aK, .ref aL, .int v5, .int 25, .int iln, .int 0, .int 0])), (aU, .inr (1, [.ref aM, .ref aC, .ref aB, .int iwk])), (aC, .inl (kC, 12, .inl gC2_21)), (aB, .inr (0, [.ref aF, .int ius, .int 0]))]) [0, 1, 2, 3] (by decide) rfl
  have hK9 := hK.sub (tys' := [(kC, .int)]) [0] rfl
  exact W.vret hx hb hr (fun t ht hW => ⟨⟨(v5, gC2_21), rfl, p21, by rw [ht]; exact hP9, va_K.moved hW.alike hK9, hD9⟩, hS.F ht⟩) hS.2.2 dX2_begin_44
end
section
set_option maxHeartbeats 4000000 in
set_option maxRecDepth 100000 in
theorem cX_set (l : Launch) (dC : Nat → ClassId) (dI : Nat → Nat → Nat) (sz : Nat) (aP : Nat) (irg : Int32) (iv : Int32) (aU : Nat) (aR : Nat) (aK : Nat) (aL : Nat) (ipc : Int32) (ist : Int32) (iln : Int32) (iwa : Int32) (isl : Int32) (kR : ClassId) (gR : Nat → Int32) : Met l yX2_set wsX2_set ({ frames := 2, cells := 0, slots := 0, locals := 43 }) (va_Pc [.ref aP, .int irg, .int iv] (fun U => U.heap.size = sz ∧ va_P (dC, dI) vwCl [(aP, .inr (2, [.ref aU, .ref aR, .ref aK, .ref aL, .int ipc, .int ist, .int iln, .int iwa, .int isl])), (aR, .inl (kR, 22, .inl gR))] U.heap ∧ va_K (dC, dI) vwCl [(kR, .int)] U ∧ va_D (fun _ => True) [(aP, .inr (2, [.ref aU, .ref aR, .ref aK, .ref aL, .int ipc, .int ist, .int iln, .int iwa, .int isl])), (aR, .inl (kR, 22, .inl gR))] ∧ qN U)) (va_Qi (fun (r : Int32) (u : (Nat → Int32)) => r = qSet irg) (fun (u : (Nat → Int32)) (t : State) => va_P (dC, dI) vwCl [(aP, .inr (2, [.ref aU, .ref aR, .ref aK, .ref aL, .int ipc, .int ist, .int iln, .int iwa, .int isl])), (aR, .inl (kR, 22, .inl u))] t.heap ∧ va_K (dC, dI) vwCl [(kR, .int)] t ∧ va_D (va_A [(aP, .inr (2, [.ref aU, .ref aR, .ref aK, .ref aL, .int ipc, .int ist, .int iln, .int iwa, .int isl])), (aR, .inl (kR, 22, .inl gR))] sz) [(aP, .inr (2, [.ref aU, .ref aR, .ref aK, .ref aL, .int ipc, .int ist, .int iln, .int iwa, .int isl])), (aR, .inl (kR, 22, .inl u))]) (va_A [(aP, .inr (2, [.ref aU, .ref aR, .ref aK, .ref aL, .int ipc, .int ist, .int iln, .int iwa, .int isl])), (aR, .inl (kR, 22, .inl gR))] sz)) 0 0 (va_A [(aP, .inr (2, [.ref aU, .ref aR, .ref aK, .ref aL, .int ipc, .int ist, .int iln, .int iwa, .int isl])), (aR, .inl (kR, 22, .inl gR))] sz) := by
  refine Met.ofW (cc := cX2_set) (maxL := 3) (ret := (some .boolean)) (by decide) rfl ?_
  intro p e s m args below meth c s₁ B hml hv
  obtain ⟨rfl, hsz, hP, hK, hD0, hN⟩ := hv
  have hx := B.exec
  have hb := B.bytes
  have hr := B.returns
  have hts := atoms_spec (ws := wsX2_set) B.pre
  have htb : ∀ w ∈ qT, w.before _ s = true := fun w h => hts w (List.mem_cons_of_mem _ h)
  have hown : s.vm.findClass RX2 = some m.cls := findClass_of_methodNamed B.named
  have hlocks := B.notSynchronized
  subst hsz
  have hD := hD0.self (sz := s.heap.size)
  generalize hAe : va_A [(aP, .inr (2, [.ref aU, .ref aR, .ref aK, .ref aL, .int ipc, .int ist, .int iln, .int iwa, .int isl])), (aR, .inl (kR, 22, .inl gR))] s.heap.size = A at hD ⊢
  have hA : ∀ q : Nat, s.heap.size ≤ q → A q := fun q h => by rw [← hAe]; exact Or.inr h
  have hS : va_S A s.heap s.heap [] := va_S.rf
  have hP : va_P (dC, dI) vwCl [(aP, .inr (2, [.ref aU, .ref aR, .ref aK, .ref aL, .int ipc, .int ist, .int iln, .int iwa, .int isl])), (aR, .inl (kR, 22, .inl gR))] s.heap := hP
  have hl := lv_entry ([.ref aP, .int irg, .int iv]) (n := 3) (Nat.le_of_ble_eq_true rfl)
  rw [lg_entry_eq]
  generalize (lg_sl ([.ref aP, .int irg, .int iv]) ++ List.replicate (3 - (lg_sl ([.ref aP, .int irg, .int iv])).length) Slot.unset).toArray = ls at hl ⊢
  have hl : lv_has ls 3 [(0, .ref aP), (1, .int irg), (2, .int iv)] := hl
  refine lv_iload_n hx hb dX2_set_0 rfl (lv_at hl 1 rfl) ?_
  refine lv_if_lt (tgt := 10) hx hb dX2_set_1 (by decide) (fun h1 => ?_) (fun h1 => ?_)
  · refine lv_iconst (v := 0) hx hb dX2_set_10 (by decide) ?_
    have hP9 := hP.sub (ws' := [(aP, .inr (2, [.ref aU, .ref aR, .ref aK, .ref aL, .int ipc, .int ist, .int iln, .int iwa, .int isl])), (aR, .inl (kR, 22, .inl gR))]) [0, 1] rfl
    have hD9 := hD.sub (ws' := [(aP, .inr (2, [.ref aU, .ref aR, .ref aK, .ref aL, .int ipc, .int ist, .int iln, .int iwa, .int isl])), (aR, .inl (kR, 22, .inl gR))]) [0, 1] (by decide) rfl
    have hK9 := hK.sub (tys' := [(kR, .int)]) [0] rfl
    exact W.zret (ty := .boolean) (v := 0) hx hb hr (by first | rfl | decide +kernel) (fun t ht hW => ⟨⟨0, (gR), rfl, (by unfold qSet; rw [if_neg (by intro q; first | exact absurd (q_lt h1 (n := 0) (by decide)) (by omega) | exact absurd (q_nlt h7 (n := 8) (by decide)) (by omega))]), by rw [ht]; exact hP9, va_K.moved hW.alike hK9, hD9⟩, hS.F ht⟩) hS.2.2 dX2_set_11
  · refine lv_iload_n hx hb dX2_set_4 rfl (lv_at hl 1 rfl) ?_
    refine lv_bipush (v := 8) hx hb dX2_set_5 (by decide) ?_
    refine lv_icmp_lt (tgt := 12) hx hb dX2_set_7 (by decide) (fun h7 => ?_) (fun h7 => ?_)
    · refine lv_aload_n hx hb dX2_set_12 rfl (lv_at hl 0 rfl) ?_
      refine lv_iload_n hx hb dX2_set_13 rfl (lv_at hl 1 rfl) ?_
      refine lv_iload_n hx hb dX2_set_14 rfl (lv_at hl 2 rfl) ?_
      have hPc := hP.sub (ws' := [(aP, .inr (2, [.ref aU, .ref aR, .ref aK, .ref aL, .int ipc, .int ist, .int iln, .int iwa, .int isl])), (aR, .inl (kR, 22, .inl gR))]) [0, 1] rfl
      have hKc := hK.sub (tys' := [(kR, .int)]) [0] rfl
      have hDc := hD.sub (ws' := [(aP, .inr (2, [.ref aU, .ref aR, .ref aK, .ref aL, .int ipc, .int ist, .int iln, .int iwa, .int isl])), (aR, .inl (kR, 22, .inl gR))]) [0, 1] (by decide) rfl
      have hFc := va_free (wc := [(aP, .inr (2, [.ref aU, .ref aR, .ref aK, .ref aL, .int ipc, .int ist, .int iln, .int iwa, .int isl])), (aR, .inl (kR, 22, .inl gR))]) hD hS hA [0, 1] rfl
      refine va_callv (va_runV (As := [.int irg, .int iv]) (rest := []) ⟨hx, hb, hml, hown, htb⟩ (cX_writeRegister l dC dI s.heap.size aP irg iv aU aR aK aL ipc ist iln iwa isl kR gR ⟨q_nlt h1 (by decide), by have := q_lt h7 (n := 8) (by decide); omega⟩) (cwV 2 htb (q_gV m1_111 m1_113 ms_0 m1_1 m1_114) rfl rfl rfl (by decide +kernel) ⟨Nat.le_of_ble_eq_true rfl, Nat.le_of_ble_eq_true rfl⟩) ⟨fun a U g mk q => by obtain ⟨q0, q1, qP, qK, qD, qN9⟩ := q; exact ⟨q0, q1, qP, va_K.moved (u := U) (U := U.calling g mk a) (Vm.Alike.refl U.vm) qK, qD, qN_same (s := U) (U := U.calling g mk a) rfl qN9⟩, va_recv (q0 := 0) hK hP (rfl : vwCl[2]? = some (RX2, TX2, 9)) rfl, fun U hU hW => ⟨rfl, by rw [hU], by rw [hU]; exact hPc, va_K.moved hW.alike hKc, hDc.weaken (fun _ _ _ _ => trivial), qN_warm hW hN⟩⟩ rfl rfl hl.1 rfl (lv_room (Nat.le_of_ble_eq_true rfl)) dX2_set_15 ⟨Nat.le_of_ble_eq_true rfl, Nat.le_of_ble_eq_true rfl⟩) hS (fun q _ h => hFc q h) hFc (fun u t H1 locs ht hvm p15 hB hz1 hk1 hS => ?_)
      obtain ⟨gR2_15, rfl⟩ : ∃ z, z = u := ⟨_, rfl⟩
      obtain ⟨hP1, hK1, hD1⟩ := hB
      rw [ht] at hP1
      have hK1 := va_K.moved hvm.symm hK1
      try dsimp only at p15
      obtain ⟨hP, hD⟩ := va_join (wr := []) (w1 := [(aP, .inr (2, [.ref aU, .ref aR, .ref aK, .ref aL, .int ipc, .int ist, .int iln, .int iwa, .int isl])), (aR, .inl (kR, 22, .inl gR2_15))]) hP hD [0, 1] [] rfl rfl (by decide) (by decide) hk1 hFc hP1 hD1
      have hK := (hK.sub (tys' := []) [] rfl).app hK1
      generalize H1 = H at hP hS ⊢
      have hP : va_P (dC, dI) vwCl [(aP, .inr (2, [.ref aU, .ref aR, .ref aK, .ref aL, .int ipc, .int ist, .int iln, .int iwa, .int isl])), (aR, .inl (kR, 22, .inl gR2_15))] H := hP
      have hD : va_D A [(aP, .inr (2, [.ref aU, .ref aR, .ref aK, .ref aL, .int ipc, .int ist, .int iln, .int iwa, .int isl])), (aR, .inl (kR, 22, .inl gR2_15))] := hD
      have hK : va_K (dC, dI) vwCl [(kR, .int)] s := hK
      refine lv_iconst (v := 1) hx hb dX2_set_18 (by decide) ?_
      have hP9 := hP.sub (ws' := [(aP, .inr (2, [.ref aU, .ref aR, .ref aK, .ref aL, .int ipc, .int ist, .int iln, .int iwa, .int isl])), (aR, .inl (kR, 22, .inl gR2_15))]) [0, 1] rfl
      have hD9 := hD.sub (ws' := [(aP, .inr (2, [.ref aU, .ref aR, .ref aK, .ref aL, .int ipc, .int ist, .int iln, .int iwa, .int isl])), (aR, .inl (kR, 22, .inl gR2_15))]) [0, 1] (by decide) rfl
      have hK9 := hK.sub (tys' := [(kR, .int)]) [0] rfl
      exact W.zret (ty := .boolean) (v := 1) hx hb hr (by first | rfl | decide +kernel) (fun t ht hW => ⟨⟨1, (gR2_15), rfl, (by unfold qSet; rw [if_pos ⟨q_nlt h1 (by decide), by have := q_lt h7 (n := 8) (by decide); omega⟩]), by rw [ht]; exact hP9, va_K.moved hW.alike hK9, hD9⟩, hS.F ht⟩) hS.2.2 dX2_set_19
    · refine lv_iconst (v := 0) hx hb dX2_set_10 (by decide) ?_
      have hP9 := hP.sub (ws' := [(aP, .inr (2, [.ref aU, .ref aR, .ref aK, .ref aL, .int ipc, .int ist, .int iln, .int iwa, .int isl])), (aR, .inl (kR, 22, .inl gR))]) [0, 1] rfl
      have hD9 := hD.sub (ws' := [(aP, .inr (2, [.ref aU, .ref aR, .ref aK, .ref aL, .int ipc, .int ist, .int iln, .int iwa, .int isl])), (aR, .inl (kR, 22, .inl gR))]) [0, 1] (by decide) rfl
      have hK9 := hK.sub (tys' := [(kR, .int)]) [0] rfl
      exact W.zret (ty := .boolean) (v := 0) hx hb hr (by first | rfl | decide +kernel) (fun t ht hW => ⟨⟨0, (gR), rfl, (by unfold qSet; rw [if_neg (by intro q; first | exact absurd (q_lt h1 (n := 0) (by decide)) (by omega) | exact absurd (q_nlt h7 (n := 8) (by decide)) (by omega))]), by rw [ht]; exact hP9, va_K.moved hW.alike hK9, hD9⟩, hS.F ht⟩) hS.2.2 dX2_set_11
end
section
set_option maxHeartbeats 4000000 in
set_option maxRecDepth 100000 in
theorem cX_line (l : Launch) (dC : Nat → ClassId) (dI : Nat → Nat → Nat) (sz : Nat) (aP : Nat) (iln9 : Int32) (iup : Int32) (aU : Nat) (aR : Nat) (aK : Nat) (aL : Nat) (ipc : Int32) (ist : Int32) (iln : Int32) (iwa : Int32) (isl : Int32) : Met l yX2_line wsX2_line ({ frames := 0, cells := 0, slots := 0, locals := 0 }) (va_Pc [.ref aP, .int iln9, .int iup] (fun U => U.heap.size = sz ∧ va_P (dC, dI) vwCl [(aP, .inr (2, [.ref aU, .ref aR, .ref aK, .ref aL, .int ipc, .int ist, .int iln, .int iwa, .int isl]))] U.heap ∧ va_K (dC, dI) vwCl [] U ∧ va_D (fun _ => True) [(aP, .inr (2, [.ref aU, .ref aR, .ref aK, .ref aL, .int ipc, .int ist, .int iln, .int iwa, .int isl]))] ∧ qN U)) (va_Qi (fun (r : Int32) (u : Int32) => r = qLine iln9) (fun (u : Int32) (t : State) => va_P (dC, dI) vwCl [(aP, .inr (2, [.ref aU, .ref aR, .ref aK, .ref aL, .int ipc, .int ist, .int u, .int iwa, .int isl]))] t.heap ∧ va_K (dC, dI) vwCl [] t ∧ va_D (va_A [(aP, .inr (2, [.ref aU, .ref aR, .ref aK, .ref aL, .int ipc, .int ist, .int iln, .int iwa, .int isl]))] sz) [(aP, .inr (2, [.ref aU, .ref aR, .ref aK, .ref aL, .int ipc, .int ist, .int u, .int iwa, .int isl]))]) (va_A [(aP, .inr (2, [.ref aU, .ref aR, .ref aK, .ref aL, .int ipc, .int ist, .int iln, .int iwa, .int isl]))] sz)) 0 0 (va_A [(aP, .inr (2, [.ref aU, .ref aR, .ref aK, .ref aL, .int ipc, .int ist, .int iln, .int iwa, .int isl]))] sz) := by
  refine Met.ofW (cc := cX2_line) (maxL := 4) (ret := (some .boolean)) (by decide) rfl ?_
  intro p e s m args below meth c s₁ B hml hv
  obtain ⟨rfl, hsz, hP, hK, hD0, hN⟩ := hv
  have hx := B.exec
  have hb := B.bytes
  have hr := B.returns
  have hts := atoms_spec (ws := wsX2_line) B.pre
  have htb : ∀ w ∈ qT, w.before _ s = true := fun w h => hts w (List.mem_cons_of_mem _ h)
  have hown : s.vm.findClass RX2 = some m.cls := findClass_of_methodNamed B.named
  have hlocks := B.notSynchronized
  subst hsz
  have hD := hD0.self (sz := s.heap.size)
  generalize hAe : va_A [(aP, .inr (2, [.ref aU, .ref aR, .ref aK, .ref aL, .int ipc, .int ist, .int iln, .int iwa, .int isl]))] s.heap.size = A at hD ⊢
  have hA : ∀ q : Nat, s.heap.size ≤ q → A q := fun q h => by rw [← hAe]; exact Or.inr h
  have hS : va_S A s.heap s.heap [] := va_S.rf
  have hP : va_P (dC, dI) vwCl [(aP, .inr (2, [.ref aU, .ref aR, .ref aK, .ref aL, .int ipc, .int ist, .int iln, .int iwa, .int isl]))] s.heap := hP
  have hl := lv_entry ([.ref aP, .int iln9, .int iup]) (n := 4) (Nat.le_of_ble_eq_true rfl)
  rw [lg_entry_eq]
  generalize (lg_sl ([.ref aP, .int iln9, .int iup]) ++ List.replicate (4 - (lg_sl ([.ref aP, .int iln9, .int iup])).length) Slot.unset).toArray = ls at hl ⊢
  have hl : lv_has ls 4 [(0, .ref aP), (1, .int iln9), (2, .int iup)] := hl
  refine lv_iload_n hx hb dX2_line_0 rfl (lv_at hl 1 rfl) ?_
  refine lv_if_lt (tgt := 9) hx hb dX2_line_1 (by decide) (fun h1 => ?_) (fun h1 => ?_)
  · refine lv_iconst (v := 0) hx hb dX2_line_9 (by decide) ?_
    have hP9 := hP.sub (ws' := [(aP, .inr (2, [.ref aU, .ref aR, .ref aK, .ref aL, .int ipc, .int ist, .int iln, .int iwa, .int isl]))]) [0] rfl
    have hD9 := hD.sub (ws' := [(aP, .inr (2, [.ref aU, .ref aR, .ref aK, .ref aL, .int ipc, .int ist, .int iln, .int iwa, .int isl]))]) [0] (by decide) rfl
    have hK9 := hK.sub (tys' := []) [] rfl
    exact W.zret (ty := .boolean) (v := 0) hx hb hr (by first | rfl | decide +kernel) (fun t ht hW => ⟨⟨0, (iln), rfl, (by unfold qLine; rw [if_neg (by intro q; first | exact absurd (q_lt h1 (n := 0) (by decide)) (by omega) | exact absurd (q_nlt h6 (n := 4) (by decide)) (by omega))]), by rw [ht]; exact hP9, va_K.moved hW.alike hK9, hD9⟩, hS.F ht⟩) hS.2.2 dX2_line_10
  · refine lv_iload_n hx hb dX2_line_4 rfl (lv_at hl 1 rfl) ?_
    refine lv_iconst (v := 4) hx hb dX2_line_5 (by decide) ?_
    refine lv_icmp_lt (tgt := 11) hx hb dX2_line_6 (by decide) (fun h6 => ?_) (fun h6 => ?_)
    · refine lv_iconst (v := 1) hx hb dX2_line_11 (by decide) ?_
      refine lv_iload_n hx hb dX2_line_12 rfl (lv_at hl 1 rfl) ?_
      refine lv_ishl hx hb dX2_line_13 ?_
      refine lv_topi (fun v13 e13 => ?_)
      refine lv_istore_n (lv' := [(3, .int v13), (0, .ref aP), (1, .int iln9), (2, .int iup)]) hx hb dX2_line_14 rfl hl (by decide) rfl (fun ls hl => ?_)
      refine lv_aload_n hx hb dX2_line_15 rfl (lv_at hl 1 rfl) ?_
      refine lv_iload_n hx hb dX2_line_16 rfl (lv_at hl 3 rfl) ?_
      refine lv_if_eq (tgt := 29) hx hb dX2_line_17 (by decide) (fun h17 => ?_) (fun h17 => ?_)
      · refine lv_aload_n hx hb dX2_line_29 rfl (lv_at hl 1 rfl) ?_
        refine va_get (D := (dC, dI)) (ci := 2) (v := .int iln) (C := RX2) (T := TX2) (N := 9) hx hb htb inX2 hown hK hP 0 rfl rfl 6 (by decide) (htb _ m1_62) (fun _ h9 => h9) rfl dX2_line_30 ?_
        refine lv_iload_n hx hb dX2_line_33 rfl (lv_at hl 0 rfl) ?_
        refine lv_iconst (v := (-1)) hx hb dX2_line_34 (by decide) ?_
        refine lv_ixor hx hb dX2_line_35 ?_
        refine lv_topi (fun v35 e35 => ?_)
        refine lv_iand hx hb dX2_line_36 ?_
        refine lv_topi (fun v36 e36 => ?_)
        refine va_put (D := (dC, dI)) (ci := 2) (v := .int v36) (ty := .int) (C := RX2) (T := TX2) (N := 9) hx hb htb inX2 tyX2 tyX2_ok nmX2 hown hK hP hD hS 0 rfl rfl 6 (by decide) (htb _ m1_62) (fun _ h9 => h9) rfl (by decide +kernel) (by first | rfl | decide +kernel) (by first | rfl | decide +kernel) (Nat.le_of_ble_eq_true rfl) dX2_line_37 (fun H locs hP hD hS => ?_)
        have hP : va_P (dC, dI) vwCl [(aP, .inr (2, [.ref aU, .ref aR, .ref aK, .ref aL, .int ipc, .int ist, .int v36, .int iwa, .int isl]))] H := hP
        have hD : va_D A [(aP, .inr (2, [.ref aU, .ref aR, .ref aK, .ref aL, .int ipc, .int ist, .int v36, .int iwa, .int isl]))] := hD
        refine lv_iconst (v := 1) hx hb dX2_line_40 (by decide) ?_
        have hP9 := hP.sub (ws' := [(aP, .inr (2, [.ref aU, .ref aR, .ref aK, .ref aL, .int ipc, .int ist, .int v36, .int iwa, .int isl]))]) [0] rfl
        have hD9 := hD.sub (ws' := [(aP, .inr (2, [.ref aU, .ref aR, .ref aK, .ref aL, .int ipc, .int ist, .int v36, .int iwa, .int isl]))]) [0] (by decide) rfl
        have hK9 := hK.sub (tys' := []) [] rfl
        exact W.zret (ty := .boolean) (v := 1) hx hb hr (by first | rfl | decide +kernel) (fun t ht hW => ⟨⟨1, (v36), rfl, (by unfold qLine; rw [if_pos ⟨q_nlt h1 (by decide), by have := q_lt h6 (n := 4) (by decide); omega⟩]), by rw [ht]; exact hP9, va_K.moved hW.alike hK9, hD9⟩, hS.F ht⟩) hS.2.2 dX2_line_41
      · refine lv_aload_n hx hb dX2_line_20 rfl (lv_at hl 1 rfl) ?_
        refine va_get (D := (dC, dI)) (ci := 2) (v := .int iln) (C := RX2) (T := TX2) (N := 9) hx hb htb inX2 hown hK hP 0 rfl rfl 6 (by decide) (htb _ m1_62) (fun _ h9 => h9) rfl dX2_line_21 ?_
        refine lv_iload_n hx hb dX2_line_24 rfl (lv_at hl 0 rfl) ?_
        refine lv_ior hx hb dX2_line_25 ?_
        refine lv_topi (fun v25 e25 => ?_)
        refine lv_goto (tgt := 37) hx hb dX2_line_26 (by decide) ?_
        refine va_put (D := (dC, dI)) (ci := 2) (v := .int v25) (ty := .int) (C := RX2) (T := TX2) (N := 9) hx hb htb inX2 tyX2 tyX2_ok nmX2 hown hK hP hD hS 0 rfl rfl 6 (by decide) (htb _ m1_62) (fun _ h9 => h9) rfl (by decide +kernel) (by first | rfl | decide +kernel) (by first | rfl | decide +kernel) (Nat.le_of_ble_eq_true rfl) dX2_line_37 (fun H locs hP hD hS => ?_)
        have hP : va_P (dC, dI) vwCl [(aP, .inr (2, [.ref aU, .ref aR, .ref aK, .ref aL, .int ipc, .int ist, .int v25, .int iwa, .int isl]))] H := hP
        have hD : va_D A [(aP, .inr (2, [.ref aU, .ref aR, .ref aK, .ref aL, .int ipc, .int ist, .int v25, .int iwa, .int isl]))] := hD
        refine lv_iconst (v := 1) hx hb dX2_line_40 (by decide) ?_
        have hP9 := hP.sub (ws' := [(aP, .inr (2, [.ref aU, .ref aR, .ref aK, .ref aL, .int ipc, .int ist, .int v25, .int iwa, .int isl]))]) [0] rfl
        have hD9 := hD.sub (ws' := [(aP, .inr (2, [.ref aU, .ref aR, .ref aK, .ref aL, .int ipc, .int ist, .int v25, .int iwa, .int isl]))]) [0] (by decide) rfl
        have hK9 := hK.sub (tys' := []) [] rfl
        exact W.zret (ty := .boolean) (v := 1) hx hb hr (by first | rfl | decide +kernel) (fun t ht hW => ⟨⟨1, (v25), rfl, (by unfold qLine; rw [if_pos ⟨q_nlt h1 (by decide), by have := q_lt h6 (n := 4) (by decide); omega⟩]), by rw [ht]; exact hP9, va_K.moved hW.alike hK9, hD9⟩, hS.F ht⟩) hS.2.2 dX2_line_41
    · refine lv_iconst (v := 0) hx hb dX2_line_9 (by decide) ?_
      have hP9 := hP.sub (ws' := [(aP, .inr (2, [.ref aU, .ref aR, .ref aK, .ref aL, .int ipc, .int ist, .int iln, .int iwa, .int isl]))]) [0] rfl
      have hD9 := hD.sub (ws' := [(aP, .inr (2, [.ref aU, .ref aR, .ref aK, .ref aL, .int ipc, .int ist, .int iln, .int iwa, .int isl]))]) [0] (by decide) rfl
      have hK9 := hK.sub (tys' := []) [] rfl
      exact W.zret (ty := .boolean) (v := 0) hx hb hr (by first | rfl | decide +kernel) (fun t ht hW => ⟨⟨0, (iln), rfl, (by unfold qLine; rw [if_neg (by intro q; first | exact absurd (q_lt h1 (n := 0) (by decide)) (by omega) | exact absurd (q_nlt h6 (n := 4) (by decide)) (by omega))]), by rw [ht]; exact hP9, va_K.moved hW.alike hK9, hD9⟩, hS.F ht⟩) hS.2.2 dX2_line_10
end
section
set_option maxHeartbeats 4000000 in
set_option maxRecDepth 100000 in
theorem cX_run1 (l : Launch) (dC : Nat → ClassId) (dI : Nat → Nat → Nat) (aP : Nat) (inn : Int32) (aU : Nat) (aR : Nat) (aK : Nat) (aL : Nat) (ipc : Int32) (ist : Int32) (iln : Int32) (iwa : Int32) (isl : Int32) (hsl : ¬ isl = 0) : Met l yX2_run wsX2_run ({ frames := 0, cells := 0, slots := 0, locals := 0 }) (va_Pc [.ref aP, .int inn] (fun U => va_P (dC, dI) vwCl [(aP, .inr (2, [.ref aU, .ref aR, .ref aK, .ref aL, .int ipc, .int ist, .int iln, .int iwa, .int isl]))] U.heap ∧ va_K (dC, dI) vwCl [] U ∧ qN U)) (vp_Si (fun r : Int32 => r = qRun inn)) 0 0 (fun _ => False) := by
  refine Met.ofW (cc := cX2_run) (maxL := 3) (ret := (some .int)) (by decide) rfl ?_
  intro p e s m args below meth c s₁ B hml hv
  obtain ⟨rfl, hP, hK, hN⟩ := hv
  have hx := B.exec
  have hb := B.bytes
  have hr := B.returns
  have hts := atoms_spec (ws := wsX2_run) B.pre
  have htb : ∀ w ∈ qT, w.before _ s = true := fun w h => hts w (List.mem_cons_of_mem _ h)
  have hown : s.vm.findClass RX2 = some m.cls := findClass_of_methodNamed B.named
  have hlocks := B.notSynchronized
  have hP : va_P (dC, dI) vwCl [(aP, .inr (2, [.ref aU, .ref aR, .ref aK, .ref aL, .int ipc, .int ist, .int iln, .int iwa, .int isl]))] s.heap := hP
  have hl := lv_entry ([.ref aP, .int inn]) (n := 3) (Nat.le_of_ble_eq_true rfl)
  rw [lg_entry_eq]
  generalize (lg_sl ([.ref aP, .int inn]) ++ List.replicate (3 - (lg_sl ([.ref aP, .int inn])).length) Slot.unset).toArray = ls at hl ⊢
  have hl : lv_has ls 3 [(0, .ref aP), (1, .int inn)] := hl
  refine lv_iload_n hx hb dX2_run_0 rfl (lv_at hl 1 rfl) ?_
  refine lv_if_lt (tgt := 11) hx hb dX2_run_1 (by decide) (fun h1 => ?_) (fun h1 => ?_)
  · refine lv_iconst (v := (-1)) hx hb dX2_run_11 (by decide) ?_
    exact W.iret (v := (-1)) hx hb hr (fun t ht hW => ⟨_, rfl, (by unfold qRun; rw [if_neg (by intro q; first | exact absurd (q_lt h1 (n := 0) (by decide)) (by omega) | exact absurd (q_nle h8 (n := 300) (by decide)) (by omega))]), ht⟩) (fun _ h => by cases h) dX2_run_12
  · refine lv_iload_n hx hb dX2_run_4 rfl (lv_at hl 1 rfl) ?_
    refine lv_sipush (v := 300) hx hb dX2_run_5 (by decide) ?_
    refine lv_icmp_le (tgt := 13) hx hb dX2_run_8 (by decide) (fun h8 => ?_) (fun h8 => ?_)
    · refine lv_iconst (v := 0) hx hb dX2_run_13 (by decide) ?_
      refine lv_istore_n (lv' := [(2, .int 0), (0, .ref aP), (1, .int inn)]) hx hb dX2_run_14 rfl hl (by decide) rfl (fun ls hl => ?_)
      refine lv_iload_n hx hb dX2_run_15 rfl (lv_at hl 0 rfl) ?_
      refine lv_iload_n hx hb dX2_run_16 rfl (lv_at hl 2 rfl) ?_
      refine lv_icmp_ge (tgt := 37) hx hb dX2_run_17 (by decide) (fun h17 => ?_) (fun h17 => ?_)
      · refine lv_iload_n hx hb dX2_run_37 rfl (lv_at hl 0 rfl) ?_
        exact W.iret (v := 0) hx hb hr (fun t ht hW => ⟨_, rfl, (by unfold qRun; rw [if_pos ⟨q_nlt h1 (by decide), q_le h8 (by decide)⟩]), ht⟩) (fun _ h => by cases h) dX2_run_38
      · refine lv_aload_n hx hb dX2_run_20 rfl (lv_at hl 1 rfl) ?_
        refine va_get (D := (dC, dI)) (ci := 2) (v := .int isl) (C := RX2) (T := TX2) (N := 9) hx hb htb inX2 hown hK hP 0 rfl rfl 8 (by decide) (htb _ m1_64) (fun _ h9 => h9) rfl dX2_run_21 ?_
        refine lv_if_ne (tgt := 37) hx hb dX2_run_24 (by decide) (fun h24 => ?_) (fun h24 => ?_)
        · refine lv_iload_n hx hb dX2_run_37 rfl (lv_at hl 0 rfl) ?_
          exact W.iret (v := 0) hx hb hr (fun t ht hW => ⟨_, rfl, (by unfold qRun; rw [if_pos ⟨q_nlt h1 (by decide), q_le h8 (by decide)⟩]), ht⟩) (fun _ h => by cases h) dX2_run_38
        · first | exact absurd hsl h24 | exact absurd h24 hsl | simp_all
    · refine lv_iconst (v := (-1)) hx hb dX2_run_11 (by decide) ?_
      exact W.iret (v := (-1)) hx hb hr (fun t ht hW => ⟨_, rfl, (by unfold qRun; rw [if_neg (by intro q; first | exact absurd (q_lt h1 (n := 0) (by decide)) (by omega) | exact absurd (q_nle h8 (n := 300) (by decide)) (by omega))]), ht⟩) (fun _ h => by cases h) dX2_run_12
end
section
set_option maxHeartbeats 4000000 in
set_option maxRecDepth 100000 in
theorem cX_word (l : Launch) (dC : Nat → ClassId) (dI : Nat → Nat → Nat) (aP : Nat) (ipl : Int32) (aU : Nat) (aR : Nat) (aK : Nat) (aL : Nat) (ipc : Int32) (ist : Int32) (iln : Int32) (iwa : Int32) (isl : Int32) (aM : Nat) (aC : Nat) (aB : Nat) (iwk : Int32) (kM : ClassId) (gM : Nat → Int32) : Met l yX2_word wsX2_word ({ frames := 0, cells := 0, slots := 0, locals := 0 }) (va_Pc [.ref aP, .int ipl] (fun U => va_P (dC, dI) vwCl [(aP, .inr (2, [.ref aU, .ref aR, .ref aK, .ref aL, .int ipc, .int ist, .int iln, .int iwa, .int isl])), (aU, .inr (1, [.ref aM, .ref aC, .ref aB, .int iwk])), (aM, .inl (kM, 512, .inl gM))] U.heap ∧ va_K (dC, dI) vwCl [(kM, .int)] U ∧ qN U)) (vp_Si (fun r : Int32 => qWord r ipl (∃ i : Nat, r = gM i))) 0 0 (fun _ => False) := by
  refine Met.ofW (cc := cX2_word) (maxL := 2) (ret := (some .int)) (by decide) rfl ?_
  intro p e s m args below meth c s₁ B hml hv
  obtain ⟨rfl, hP, hK, hN⟩ := hv
  have hx := B.exec
  have hb := B.bytes
  have hr := B.returns
  have hts := atoms_spec (ws := wsX2_word) B.pre
  have htb : ∀ w ∈ qT, w.before _ s = true := fun w h => hts w (List.mem_cons_of_mem _ h)
  have hown : s.vm.findClass RX2 = some m.cls := findClass_of_methodNamed B.named
  have hlocks := B.notSynchronized
  have hP : va_P (dC, dI) vwCl [(aP, .inr (2, [.ref aU, .ref aR, .ref aK, .ref aL, .int ipc, .int ist, .int iln, .int iwa, .int isl])), (aU, .inr (1, [.ref aM, .ref aC, .ref aB, .int iwk])), (aM, .inl (kM, 512, .inl gM))] s.heap := hP
  have hl := lv_entry ([.ref aP, .int ipl]) (n := 2) (Nat.le_of_ble_eq_true rfl)
  rw [lg_entry_eq]
  generalize (lg_sl ([.ref aP, .int ipl]) ++ List.replicate (2 - (lg_sl ([.ref aP, .int ipl])).length) Slot.unset).toArray = ls at hl ⊢
  have hl : lv_has ls 2 [(0, .ref aP), (1, .int ipl)] := hl
  refine lv_iload_n hx hb dX2_word_0 rfl (lv_at hl 1 rfl) ?_
  refine lv_if_lt (tgt := 11) hx hb dX2_word_1 (by decide) (fun h1 => ?_) (fun h1 => ?_)
  · refine lv_iconst (v := (-1)) hx hb dX2_word_11 (by decide) ?_
    refine lv_goto (tgt := 24) hx hb dX2_word_12 (by decide) ?_
    exact W.iret (v := (-1)) hx hb hr (fun t ht hW => ⟨_, rfl, (Or.inl ⟨rfl, by first | exact Or.inl (q_lt h1 (by decide)) | exact Or.inr (q_nlt h8 (by decide))⟩), ht⟩) (fun _ h => by cases h) dX2_word_24
  · refine lv_iload_n hx hb dX2_word_4 rfl (lv_at hl 1 rfl) ?_
    refine lv_sipush (v := 512) hx hb dX2_word_5 (by decide) ?_
    refine lv_icmp_lt (tgt := 15) hx hb dX2_word_8 (by decide) (fun h8 => ?_) (fun h8 => ?_)
    · refine lv_aload_n hx hb dX2_word_15 rfl (lv_at hl 0 rfl) ?_
      refine va_get (D := (dC, dI)) (ci := 2) (v := .ref aU) (C := RX2) (T := TX2) (N := 9) hx hb htb inX2 hown hK hP 0 rfl rfl 0 (by decide) (htb _ m1_56) (fun _ h9 => h9) rfl dX2_word_16 ?_
      refine va_getN (D := (dC, dI)) (ci := 1) (v := .ref aM) (C := RX1) (T := TX1) (N := 4) hx hb htb inX1 hown hK hP 1 rfl rfl 0 (by decide) (va_Nw.use rfl hN.2.1) (fun _ h9 => h9) rfl dX2_word_19 ?_
      refine lv_iload_n hx hb dX2_word_22 rfl (lv_at hl 1 rfl) ?_
      refine va_iald hx hb hK hP 2 0 rfl rfl (in_lt h1 h8 (by decide)) dX2_word_23 ?_
      refine lv_topi (fun v23 e23 => ?_)
      exact W.iret (v := v23) hx hb hr (fun t ht hW => ⟨_, rfl, (Or.inr ⟨q_nlt h1 (by decide), q_lt h8 (by decide), _, e23⟩), ht⟩) (fun _ h => by cases h) dX2_word_24
    · refine lv_iconst (v := (-1)) hx hb dX2_word_11 (by decide) ?_
      refine lv_goto (tgt := 24) hx hb dX2_word_12 (by decide) ?_
      exact W.iret (v := (-1)) hx hb hr (fun t ht hW => ⟨_, rfl, (Or.inl ⟨rfl, by first | exact Or.inl (q_lt h1 (by decide)) | exact Or.inr (q_nlt h8 (by decide))⟩), ht⟩) (fun _ h => by cases h) dX2_word_24
end
section
set_option maxHeartbeats 4000000 in
set_option maxRecDepth 100000 in
theorem cX_state (l : Launch) (dC : Nat → ClassId) (dI : Nat → Nat → Nat) (aP : Nat) (iwh : Int32) (aU : Nat) (aR : Nat) (aK : Nat) (aL : Nat) (ipc : Int32) (ist : Int32) (iln : Int32) (iwa : Int32) (isl : Int32) (aM : Nat) (aC : Nat) (aB : Nat) (iwk : Int32) (aF : Nat) (ius : Int32) (ict : Int32) (kR : ClassId) (gR : Nat → Int32) (kK : ClassId) (gK : Nat → Int32) (kL : ClassId) (gL : Nat → Int32) (kM : ClassId) (gM : Nat → Int32) (kC : ClassId) (gC : Nat → Int32) (kF : ClassId) (gF : Nat → Int32) : Met l yX2_state wsX2_state ({ frames := 2, cells := 0, slots := 0, locals := 42 }) (va_Pc [.ref aP, .int iwh] (fun U => va_P (dC, dI) vwCl [(aP, .inr (2, [.ref aU, .ref aR, .ref aK, .ref aL, .int ipc, .int ist, .int iln, .int iwa, .int isl])), (aU, .inr (1, [.ref aM, .ref aC, .ref aB, .int iwk])), (aB, .inr (0, [.ref aF, .int ius, .int ict])), (aR, .inl (kR, 22, .inl gR)), (aK, .inl (kK, 8, .inl gK)), (aL, .inl (kL, 8, .inl gL)), (aM, .inl (kM, 512, .inl gM)), (aC, .inl (kC, 12, .inl gC)), (aF, .inl (kF, 49, .inl gF))] U.heap ∧ va_K (dC, dI) vwCl [(kR, .int), (kK, .int), (kL, .int), (kM, .int), (kC, .int), (kF, .int)] U ∧ qN U)) (vp_Si (fun r : Int32 => qSt r iwh (∃ i : Nat, r = gR i) (∃ i : Nat, r = gC i) (∃ i : Nat, r = gK i) ipc ist iln ict iwk isl)) 0 0 (fun _ => False) := by
  refine Met.ofW (cc := cX2_state) (maxL := 2) (ret := (some .int)) (by decide) rfl ?_
  intro p e s m args below meth c s₁ B hml hv
  obtain ⟨rfl, hP, hK, hN⟩ := hv
  have hx := B.exec
  have hb := B.bytes
  have hr := B.returns
  have hts := atoms_spec (ws := wsX2_state) B.pre
  have htb : ∀ w ∈ qT, w.before _ s = true := fun w h => hts w (List.mem_cons_of_mem _ h)
  have hown : s.vm.findClass RX2 = some m.cls := findClass_of_methodNamed B.named
  have hlocks := B.notSynchronized
  have hP : va_P (dC, dI) vwCl [(aP, .inr (2, [.ref aU, .ref aR, .ref aK, .ref aL, .int ipc, .int ist, .int iln, .int iwa, .int isl])), (aU, .inr (1, [.ref aM, .ref aC, .ref aB, .int iwk])), (aB, .inr (0, [.ref aF, .int ius, .int ict])), (aR, .inl (kR, 22, .inl gR)), (aK, .inl (kK, 8, .inl gK)), (aL, .inl (kL, 8, .inl gL)), (aM, .inl (kM, 512, .inl gM)), (aC, .inl (kC, 12, .inl gC)), (aF, .inl (kF, 49, .inl gF))] s.heap := hP
  have hl := lv_entry ([.ref aP, .int iwh]) (n := 2) (Nat.le_of_ble_eq_true rfl)
  rw [lg_entry_eq]
  generalize (lg_sl ([.ref aP, .int iwh]) ++ List.replicate (2 - (lg_sl ([.ref aP, .int iwh])).length) Slot.unset).toArray = ls at hl ⊢
  have hl : lv_has ls 2 [(0, .ref aP), (1, .int iwh)] := hl
  refine lv_iload_n hx hb dX2_state_0 rfl (lv_at hl 1 rfl) ?_
  refine lv_if_lt (tgt := 16) hx hb dX2_state_1 (by decide) (fun h1 => ?_) (fun h1 => ?_)
  · refine lv_iload_n hx hb dX2_state_16 rfl (lv_at hl 1 rfl) ?_
    refine lv_bipush (v := 20) hx hb dX2_state_17 (by decide) ?_
    refine lv_icmp_lt (tgt := 41) hx hb dX2_state_19 (by decide) (fun h19 => ?_) (fun h19 => ?_)
    · refine lv_iload_n hx hb dX2_state_41 rfl (lv_at hl 1 rfl) ?_
      by_cases h42_8 : iwh = 8
      · refine lv_tableIn (off := 42) (tgt := 84) hx hb dX2_state_42 (by rw [h42_8]; decide) (by rw [h42_8]; decide) (by rw [h42_8]; decide) (by decide) ?_
        refine lv_aload_n hx hb dX2_state_84 rfl (lv_at hl 0 rfl) ?_
        refine va_get (D := (dC, dI)) (ci := 2) (v := .int ipc) (C := RX2) (T := TX2) (N := 9) hx hb htb inX2 hown hK hP 0 rfl rfl 4 (by decide) (htb _ m1_60) (fun _ h9 => h9) rfl dX2_state_85 ?_
        exact W.iret (v := ipc) hx hb hr (fun t ht hW => ⟨_, rfl, (Or.inr (Or.inr (Or.inl ⟨h42_8, rfl⟩))), ht⟩) (fun _ h => by cases h) dX2_state_88
      by_cases h42_9 : iwh = 9
      · refine lv_tableIn (off := 47) (tgt := 89) hx hb dX2_state_42 (by rw [h42_9]; decide) (by rw [h42_9]; decide) (by rw [h42_9]; decide) (by decide) ?_
        refine lv_aload_n hx hb dX2_state_89 rfl (lv_at hl 0 rfl) ?_
        refine va_get (D := (dC, dI)) (ci := 2) (v := .int ist) (C := RX2) (T := TX2) (N := 9) hx hb htb inX2 hown hK hP 0 rfl rfl 5 (by decide) (htb _ m1_61) (fun _ h9 => h9) rfl dX2_state_90 ?_
        exact W.iret (v := ist) hx hb hr (fun t ht hW => ⟨_, rfl, (Or.inr (Or.inr (Or.inr (Or.inl ⟨h42_9, rfl⟩)))), ht⟩) (fun _ h => by cases h) dX2_state_93
      by_cases h42_10 : iwh = 10
      · refine lv_tableIn (off := 52) (tgt := 94) hx hb dX2_state_42 (by rw [h42_10]; decide) (by rw [h42_10]; decide) (by rw [h42_10]; decide) (by decide) ?_
        refine lv_aload_n hx hb dX2_state_94 rfl (lv_at hl 0 rfl) ?_
        refine va_get (D := (dC, dI)) (ci := 2) (v := .ref aK) (C := RX2) (T := TX2) (N := 9) hx hb htb inX2 hown hK hP 0 rfl rfl 2 (by decide) (htb _ m1_58) (fun _ h9 => h9) rfl dX2_state_95 ?_
        refine lv_aload_n hx hb dX2_state_98 rfl (lv_at hl 0 rfl) ?_
        have hPc := hP.sub (ws' := [(aP, .inr (2, [.ref aU, .ref aR, .ref aK, .ref aL, .int ipc, .int ist, .int iln, .int iwa, .int isl]))]) [0] rfl
        have hKc := hK.sub (tys' := []) [] rfl
        refine vp_callSi (W.runV (As := []) (rest := [.ref aK]) ⟨hx, hb, hml, hown, htb⟩ (cX_mode l dC dI aP aU aR aK aL ipc ist iln iwa isl) (cwV 0 htb (q_gV m1_115 m1_117 ms_1 m1_1 m1_118) rfl rfl rfl (by decide +kernel) ⟨Nat.le_of_ble_eq_true rfl, Nat.le_of_ble_eq_true rfl⟩) ⟨fun a U g mk q => by obtain ⟨q0, qP, qK, qN9⟩ := q; exact ⟨q0, qP, va_K.moved (u := U) (U := U.calling g mk a) (Vm.Alike.refl U.vm) qK, qN_same (s := U) (U := U.calling g mk a) rfl qN9⟩, va_recv (q0 := 0) hK hP (rfl : vwCl[2]? = some (RX2, TX2, 9)) rfl, fun U hU hW => ⟨rfl, by rw [hU]; exact hPc, va_K.moved hW.alike hKc, qN_warm hW hN⟩⟩ rfl rfl hl.1 rfl (lv_room (Nat.le_of_ble_eq_true rfl)) dX2_state_99 ⟨Nat.le_of_ble_eq_true rfl, Nat.le_of_ble_eq_true rfl⟩) (fun r99 p99 => ?_)
        try dsimp only at p99
        refine va_iald hx hb hK hP 4 1 rfl rfl (by rw [p99]; exact bd_in (bd_and _ 3 (b := 7) (by decide) (by decide) (by decide)) (by decide) (by decide)) dX2_state_102 ?_
        refine lv_topi (fun v102 e102 => ?_)
        exact W.iret (v := v102) hx hb hr (fun t ht hW => ⟨_, rfl, (Or.inr (Or.inr (Or.inr (Or.inr (Or.inl ⟨h42_10, _, e102⟩))))), ht⟩) (fun _ h => by cases h) dX2_state_103
      by_cases h42_11 : iwh = 11
      · refine lv_tableIn (off := 62) (tgt := 104) hx hb dX2_state_42 (by rw [h42_11]; decide) (by rw [h42_11]; decide) (by rw [h42_11]; decide) (by decide) ?_
        refine lv_aload_n hx hb dX2_state_104 rfl (lv_at hl 0 rfl) ?_
        refine va_get (D := (dC, dI)) (ci := 2) (v := .int isl) (C := RX2) (T := TX2) (N := 9) hx hb htb inX2 hown hK hP 0 rfl rfl 8 (by decide) (htb _ m1_64) (fun _ h9 => h9) rfl dX2_state_105 ?_
        refine lv_if_eq (tgt := 115) hx hb dX2_state_108 (by decide) (fun h108 => ?_) (fun h108 => ?_)
        · refine lv_aload_n hx hb dX2_state_115 rfl (lv_at hl 0 rfl) ?_
          refine va_get (D := (dC, dI)) (ci := 2) (v := .int iwa) (C := RX2) (T := TX2) (N := 9) hx hb htb inX2 hown hK hP 0 rfl rfl 7 (by decide) (htb _ m1_63) (fun _ h9 => h9) rfl dX2_state_116 ?_
          refine lv_if_eq (tgt := 126) hx hb dX2_state_119 (by decide) (fun h119 => ?_) (fun h119 => ?_)
          · refine lv_iconst (v := 0) hx hb dX2_state_126 (by decide) ?_
            exact W.iret (v := 0) hx hb hr (fun t ht hW => ⟨_, rfl, (Or.inr (Or.inr (Or.inr (Or.inr (Or.inr (Or.inl ⟨h42_11, fun q => absurd h108 q⟩)))))), ht⟩) (fun _ h => by cases h) dX2_state_127
          · refine lv_iconst (v := 1) hx hb dX2_state_122 (by decide) ?_
            refine lv_goto (tgt := 127) hx hb dX2_state_123 (by decide) ?_
            exact W.iret (v := 1) hx hb hr (fun t ht hW => ⟨_, rfl, (Or.inr (Or.inr (Or.inr (Or.inr (Or.inr (Or.inl ⟨h42_11, fun q => absurd h108 q⟩)))))), ht⟩) (fun _ h => by cases h) dX2_state_127
        · refine lv_iconst (v := 2) hx hb dX2_state_111 (by decide) ?_
          refine lv_goto (tgt := 127) hx hb dX2_state_112 (by decide) ?_
          exact W.iret (v := 2) hx hb hr (fun t ht hW => ⟨_, rfl, (Or.inr (Or.inr (Or.inr (Or.inr (Or.inr (Or.inl ⟨h42_11, fun _ => rfl⟩)))))), ht⟩) (fun _ h => by cases h) dX2_state_127
      by_cases h42_12 : iwh = 12
      · refine lv_tableIn (off := 86) (tgt := 128) hx hb dX2_state_42 (by rw [h42_12]; decide) (by rw [h42_12]; decide) (by rw [h42_12]; decide) (by decide) ?_
        refine lv_aload_n hx hb dX2_state_128 rfl (lv_at hl 0 rfl) ?_
        refine va_get (D := (dC, dI)) (ci := 2) (v := .int iln) (C := RX2) (T := TX2) (N := 9) hx hb htb inX2 hown hK hP 0 rfl rfl 6 (by decide) (htb _ m1_62) (fun _ h9 => h9) rfl dX2_state_129 ?_
        exact W.iret (v := iln) hx hb hr (fun t ht hW => ⟨_, rfl, (Or.inr (Or.inr (Or.inr (Or.inr (Or.inr (Or.inr (Or.inl ⟨h42_12, rfl⟩))))))), ht⟩) (fun _ h => by cases h) dX2_state_132
      by_cases h42_13 : iwh = 13
      · refine lv_tableIn (off := 91) (tgt := 133) hx hb dX2_state_42 (by rw [h42_13]; decide) (by rw [h42_13]; decide) (by rw [h42_13]; decide) (by decide) ?_
        refine lv_aload_n hx hb dX2_state_133 rfl (lv_at hl 0 rfl) ?_
        refine va_get (D := (dC, dI)) (ci := 2) (v := .ref aU) (C := RX2) (T := TX2) (N := 9) hx hb htb inX2 hown hK hP 0 rfl rfl 0 (by decide) (htb _ m1_56) (fun _ h9 => h9) rfl dX2_state_134 ?_
        refine va_getN (D := (dC, dI)) (ci := 1) (v := .ref aB) (C := RX1) (T := TX1) (N := 4) hx hb htb inX1 hown hK hP 1 rfl rfl 2 (by decide) (va_Nw.use rfl hN.2.2.2.1) (fun _ h9 => h9) rfl dX2_state_137 ?_
        refine va_getN (D := (dC, dI)) (ci := 0) (v := .int ict) (C := RX0) (T := TX0) (N := 3) hx hb htb inX0 hown hK hP 2 rfl rfl 2 (by decide) (va_Nw.use rfl hN.1) (fun _ h9 => h9) rfl dX2_state_140 ?_
        exact W.iret (v := ict) hx hb hr (fun t ht hW => ⟨_, rfl, (Or.inr (Or.inr (Or.inr (Or.inr (Or.inr (Or.inr (Or.inr (Or.inl ⟨h42_13, rfl⟩)))))))), ht⟩) (fun _ h => by cases h) dX2_state_143
      by_cases h42_14 : iwh = 14
      · refine lv_tableIn (off := 102) (tgt := 144) hx hb dX2_state_42 (by rw [h42_14]; decide) (by rw [h42_14]; decide) (by rw [h42_14]; decide) (by decide) ?_
        refine lv_aload_n hx hb dX2_state_144 rfl (lv_at hl 0 rfl) ?_
        refine va_get (D := (dC, dI)) (ci := 2) (v := .ref aU) (C := RX2) (T := TX2) (N := 9) hx hb htb inX2 hown hK hP 0 rfl rfl 0 (by decide) (htb _ m1_56) (fun _ h9 => h9) rfl dX2_state_145 ?_
        refine va_getN (D := (dC, dI)) (ci := 1) (v := .int iwk) (C := RX1) (T := TX1) (N := 4) hx hb htb inX1 hown hK hP 1 rfl rfl 3 (by decide) (va_Nw.use rfl hN.2.2.2.2.1) (fun _ h9 => h9) rfl dX2_state_148 ?_
        exact W.iret (v := iwk) hx hb hr (fun t ht hW => ⟨_, rfl, (Or.inr (Or.inr (Or.inr (Or.inr (Or.inr (Or.inr (Or.inr (Or.inr (Or.inl ⟨h42_14, rfl⟩))))))))), ht⟩) (fun _ h => by cases h) dX2_state_151
      refine lv_tableOut (tgt := 152) hx hb dX2_state_42 (by have z8 := lv_neT h42_8 (show (8 : Int32).toInt = 8 from by decide); have z9 := lv_neT h42_9 (show (9 : Int32).toInt = 9 from by decide); have z10 := lv_neT h42_10 (show (10 : Int32).toInt = 10 from by decide); have z11 := lv_neT h42_11 (show (11 : Int32).toInt = 11 from by decide); have z12 := lv_neT h42_12 (show (12 : Int32).toInt = 12 from by decide); have z13 := lv_neT h42_13 (show (13 : Int32).toInt = 13 from by decide); have z14 := lv_neT h42_14 (show (14 : Int32).toInt = 14 from by decide); omega) (by decide) ?_
      refine lv_iconst (v := (-1)) hx hb dX2_state_152 (by decide) ?_
      exact W.iret (v := (-1)) hx hb hr (fun t ht hW => ⟨_, rfl, (Or.inr (Or.inr (Or.inr (Or.inr (Or.inr (Or.inr (Or.inr (Or.inr (Or.inr (⟨rfl, (by intro q; first | exact absurd (q_lt h1 (n := 0) (by decide)) (by omega) | exact absurd (q_ge h7 (n := 8) (by decide)) (by omega)), (by intro q; first | exact absurd (q_lt h19 (n := 20) (by decide)) (by omega) | exact absurd (q_ge h25 (n := 32) (by decide)) (by omega)), h42_8, h42_9, h42_10, h42_11, h42_12, h42_13, h42_14⟩)))))))))), ht⟩) (fun _ h => by cases h) dX2_state_153
    · refine lv_iload_n hx hb dX2_state_22 rfl (lv_at hl 1 rfl) ?_
      refine lv_bipush (v := 32) hx hb dX2_state_23 (by decide) ?_
      refine lv_icmp_ge (tgt := 41) hx hb dX2_state_25 (by decide) (fun h25 => ?_) (fun h25 => ?_)
      · refine lv_iload_n hx hb dX2_state_41 rfl (lv_at hl 1 rfl) ?_
        by_cases h42_8 : iwh = 8
        · refine lv_tableIn (off := 42) (tgt := 84) hx hb dX2_state_42 (by rw [h42_8]; decide) (by rw [h42_8]; decide) (by rw [h42_8]; decide) (by decide) ?_
          refine lv_aload_n hx hb dX2_state_84 rfl (lv_at hl 0 rfl) ?_
          refine va_get (D := (dC, dI)) (ci := 2) (v := .int ipc) (C := RX2) (T := TX2) (N := 9) hx hb htb inX2 hown hK hP 0 rfl rfl 4 (by decide) (htb _ m1_60) (fun _ h9 => h9) rfl dX2_state_85 ?_
          exact W.iret (v := ipc) hx hb hr (fun t ht hW => ⟨_, rfl, (Or.inr (Or.inr (Or.inl ⟨h42_8, rfl⟩))), ht⟩) (fun _ h => by cases h) dX2_state_88
        by_cases h42_9 : iwh = 9
        · refine lv_tableIn (off := 47) (tgt := 89) hx hb dX2_state_42 (by rw [h42_9]; decide) (by rw [h42_9]; decide) (by rw [h42_9]; decide) (by decide) ?_
          refine lv_aload_n hx hb dX2_state_89 rfl (lv_at hl 0 rfl) ?_
          refine va_get (D := (dC, dI)) (ci := 2) (v := .int ist) (C := RX2) (T := TX2) (N := 9) hx hb htb inX2 hown hK hP 0 rfl rfl 5 (by decide) (htb _ m1_61) (fun _ h9 => h9) rfl dX2_state_90 ?_
          exact W.iret (v := ist) hx hb hr (fun t ht hW => ⟨_, rfl, (Or.inr (Or.inr (Or.inr (Or.inl ⟨h42_9, rfl⟩)))), ht⟩) (fun _ h => by cases h) dX2_state_93
        by_cases h42_10 : iwh = 10
        · refine lv_tableIn (off := 52) (tgt := 94) hx hb dX2_state_42 (by rw [h42_10]; decide) (by rw [h42_10]; decide) (by rw [h42_10]; decide) (by decide) ?_
          refine lv_aload_n hx hb dX2_state_94 rfl (lv_at hl 0 rfl) ?_
          refine va_get (D := (dC, dI)) (ci := 2) (v := .ref aK) (C := RX2) (T := TX2) (N := 9) hx hb htb inX2 hown hK hP 0 rfl rfl 2 (by decide) (htb _ m1_58) (fun _ h9 => h9) rfl dX2_state_95 ?_
          refine lv_aload_n hx hb dX2_state_98 rfl (lv_at hl 0 rfl) ?_
          have hPc := hP.sub (ws' := [(aP, .inr (2, [.ref aU, .ref aR, .ref aK, .ref aL, .int ipc, .int ist, .int iln, .int iwa, .int isl]))]) [0] rfl
          have hKc := hK.sub (tys' := []) [] rfl
          refine vp_callSi (W.runV (As := []) (rest := [.ref aK]) ⟨hx, hb, hml, hown, htb⟩ (cX_mode l dC dI aP aU aR aK aL ipc ist iln iwa isl) (cwV 0 htb (q_gV m1_115 m1_117 ms_1 m1_1 m1_118) rfl rfl rfl (by decide +kernel) ⟨Nat.le_of_ble_eq_true rfl, Nat.le_of_ble_eq_true rfl⟩) ⟨fun a U g mk q => by obtain ⟨q0, qP, qK, qN9⟩ := q; exact ⟨q0, qP, va_K.moved (u := U) (U := U.calling g mk a) (Vm.Alike.refl U.vm) qK, qN_same (s := U) (U := U.calling g mk a) rfl qN9⟩, va_recv (q0 := 0) hK hP (rfl : vwCl[2]? = some (RX2, TX2, 9)) rfl, fun U hU hW => ⟨rfl, by rw [hU]; exact hPc, va_K.moved hW.alike hKc, qN_warm hW hN⟩⟩ rfl rfl hl.1 rfl (lv_room (Nat.le_of_ble_eq_true rfl)) dX2_state_99 ⟨Nat.le_of_ble_eq_true rfl, Nat.le_of_ble_eq_true rfl⟩) (fun r99 p99 => ?_)
          try dsimp only at p99
          refine va_iald hx hb hK hP 4 1 rfl rfl (by rw [p99]; exact bd_in (bd_and _ 3 (b := 7) (by decide) (by decide) (by decide)) (by decide) (by decide)) dX2_state_102 ?_
          refine lv_topi (fun v102 e102 => ?_)
          exact W.iret (v := v102) hx hb hr (fun t ht hW => ⟨_, rfl, (Or.inr (Or.inr (Or.inr (Or.inr (Or.inl ⟨h42_10, _, e102⟩))))), ht⟩) (fun _ h => by cases h) dX2_state_103
        by_cases h42_11 : iwh = 11
        · refine lv_tableIn (off := 62) (tgt := 104) hx hb dX2_state_42 (by rw [h42_11]; decide) (by rw [h42_11]; decide) (by rw [h42_11]; decide) (by decide) ?_
          refine lv_aload_n hx hb dX2_state_104 rfl (lv_at hl 0 rfl) ?_
          refine va_get (D := (dC, dI)) (ci := 2) (v := .int isl) (C := RX2) (T := TX2) (N := 9) hx hb htb inX2 hown hK hP 0 rfl rfl 8 (by decide) (htb _ m1_64) (fun _ h9 => h9) rfl dX2_state_105 ?_
          refine lv_if_eq (tgt := 115) hx hb dX2_state_108 (by decide) (fun h108 => ?_) (fun h108 => ?_)
          · refine lv_aload_n hx hb dX2_state_115 rfl (lv_at hl 0 rfl) ?_
            refine va_get (D := (dC, dI)) (ci := 2) (v := .int iwa) (C := RX2) (T := TX2) (N := 9) hx hb htb inX2 hown hK hP 0 rfl rfl 7 (by decide) (htb _ m1_63) (fun _ h9 => h9) rfl dX2_state_116 ?_
            refine lv_if_eq (tgt := 126) hx hb dX2_state_119 (by decide) (fun h119 => ?_) (fun h119 => ?_)
            · refine lv_iconst (v := 0) hx hb dX2_state_126 (by decide) ?_
              exact W.iret (v := 0) hx hb hr (fun t ht hW => ⟨_, rfl, (Or.inr (Or.inr (Or.inr (Or.inr (Or.inr (Or.inl ⟨h42_11, fun q => absurd h108 q⟩)))))), ht⟩) (fun _ h => by cases h) dX2_state_127
            · refine lv_iconst (v := 1) hx hb dX2_state_122 (by decide) ?_
              refine lv_goto (tgt := 127) hx hb dX2_state_123 (by decide) ?_
              exact W.iret (v := 1) hx hb hr (fun t ht hW => ⟨_, rfl, (Or.inr (Or.inr (Or.inr (Or.inr (Or.inr (Or.inl ⟨h42_11, fun q => absurd h108 q⟩)))))), ht⟩) (fun _ h => by cases h) dX2_state_127
          · refine lv_iconst (v := 2) hx hb dX2_state_111 (by decide) ?_
            refine lv_goto (tgt := 127) hx hb dX2_state_112 (by decide) ?_
            exact W.iret (v := 2) hx hb hr (fun t ht hW => ⟨_, rfl, (Or.inr (Or.inr (Or.inr (Or.inr (Or.inr (Or.inl ⟨h42_11, fun _ => rfl⟩)))))), ht⟩) (fun _ h => by cases h) dX2_state_127
        by_cases h42_12 : iwh = 12
        · refine lv_tableIn (off := 86) (tgt := 128) hx hb dX2_state_42 (by rw [h42_12]; decide) (by rw [h42_12]; decide) (by rw [h42_12]; decide) (by decide) ?_
          refine lv_aload_n hx hb dX2_state_128 rfl (lv_at hl 0 rfl) ?_
          refine va_get (D := (dC, dI)) (ci := 2) (v := .int iln) (C := RX2) (T := TX2) (N := 9) hx hb htb inX2 hown hK hP 0 rfl rfl 6 (by decide) (htb _ m1_62) (fun _ h9 => h9) rfl dX2_state_129 ?_
          exact W.iret (v := iln) hx hb hr (fun t ht hW => ⟨_, rfl, (Or.inr (Or.inr (Or.inr (Or.inr (Or.inr (Or.inr (Or.inl ⟨h42_12, rfl⟩))))))), ht⟩) (fun _ h => by cases h) dX2_state_132
        by_cases h42_13 : iwh = 13
        · refine lv_tableIn (off := 91) (tgt := 133) hx hb dX2_state_42 (by rw [h42_13]; decide) (by rw [h42_13]; decide) (by rw [h42_13]; decide) (by decide) ?_
          refine lv_aload_n hx hb dX2_state_133 rfl (lv_at hl 0 rfl) ?_
          refine va_get (D := (dC, dI)) (ci := 2) (v := .ref aU) (C := RX2) (T := TX2) (N := 9) hx hb htb inX2 hown hK hP 0 rfl rfl 0 (by decide) (htb _ m1_56) (fun _ h9 => h9) rfl dX2_state_134 ?_
          refine va_getN (D := (dC, dI)) (ci := 1) (v := .ref aB) (C := RX1) (T := TX1) (N := 4) hx hb htb inX1 hown hK hP 1 rfl rfl 2 (by decide) (va_Nw.use rfl hN.2.2.2.1) (fun _ h9 => h9) rfl dX2_state_137 ?_
          refine va_getN (D := (dC, dI)) (ci := 0) (v := .int ict) (C := RX0) (T := TX0) (N := 3) hx hb htb inX0 hown hK hP 2 rfl rfl 2 (by decide) (va_Nw.use rfl hN.1) (fun _ h9 => h9) rfl dX2_state_140 ?_
          exact W.iret (v := ict) hx hb hr (fun t ht hW => ⟨_, rfl, (Or.inr (Or.inr (Or.inr (Or.inr (Or.inr (Or.inr (Or.inr (Or.inl ⟨h42_13, rfl⟩)))))))), ht⟩) (fun _ h => by cases h) dX2_state_143
        by_cases h42_14 : iwh = 14
        · refine lv_tableIn (off := 102) (tgt := 144) hx hb dX2_state_42 (by rw [h42_14]; decide) (by rw [h42_14]; decide) (by rw [h42_14]; decide) (by decide) ?_
          refine lv_aload_n hx hb dX2_state_144 rfl (lv_at hl 0 rfl) ?_
          refine va_get (D := (dC, dI)) (ci := 2) (v := .ref aU) (C := RX2) (T := TX2) (N := 9) hx hb htb inX2 hown hK hP 0 rfl rfl 0 (by decide) (htb _ m1_56) (fun _ h9 => h9) rfl dX2_state_145 ?_
          refine va_getN (D := (dC, dI)) (ci := 1) (v := .int iwk) (C := RX1) (T := TX1) (N := 4) hx hb htb inX1 hown hK hP 1 rfl rfl 3 (by decide) (va_Nw.use rfl hN.2.2.2.2.1) (fun _ h9 => h9) rfl dX2_state_148 ?_
          exact W.iret (v := iwk) hx hb hr (fun t ht hW => ⟨_, rfl, (Or.inr (Or.inr (Or.inr (Or.inr (Or.inr (Or.inr (Or.inr (Or.inr (Or.inl ⟨h42_14, rfl⟩))))))))), ht⟩) (fun _ h => by cases h) dX2_state_151
        refine lv_tableOut (tgt := 152) hx hb dX2_state_42 (by have z8 := lv_neT h42_8 (show (8 : Int32).toInt = 8 from by decide); have z9 := lv_neT h42_9 (show (9 : Int32).toInt = 9 from by decide); have z10 := lv_neT h42_10 (show (10 : Int32).toInt = 10 from by decide); have z11 := lv_neT h42_11 (show (11 : Int32).toInt = 11 from by decide); have z12 := lv_neT h42_12 (show (12 : Int32).toInt = 12 from by decide); have z13 := lv_neT h42_13 (show (13 : Int32).toInt = 13 from by decide); have z14 := lv_neT h42_14 (show (14 : Int32).toInt = 14 from by decide); omega) (by decide) ?_
        refine lv_iconst (v := (-1)) hx hb dX2_state_152 (by decide) ?_
        exact W.iret (v := (-1)) hx hb hr (fun t ht hW => ⟨_, rfl, (Or.inr (Or.inr (Or.inr (Or.inr (Or.inr (Or.inr (Or.inr (Or.inr (Or.inr (⟨rfl, (by intro q; first | exact absurd (q_lt h1 (n := 0) (by decide)) (by omega) | exact absurd (q_ge h7 (n := 8) (by decide)) (by omega)), (by intro q; first | exact absurd (q_lt h19 (n := 20) (by decide)) (by omega) | exact absurd (q_ge h25 (n := 32) (by decide)) (by omega)), h42_8, h42_9, h42_10, h42_11, h42_12, h42_13, h42_14⟩)))))))))), ht⟩) (fun _ h => by cases h) dX2_state_153
      · refine lv_aload_n hx hb dX2_state_28 rfl (lv_at hl 0 rfl) ?_
        refine va_get (D := (dC, dI)) (ci := 2) (v := .ref aU) (C := RX2) (T := TX2) (N := 9) hx hb htb inX2 hown hK hP 0 rfl rfl 0 (by decide) (htb _ m1_56) (fun _ h9 => h9) rfl dX2_state_29 ?_
        refine va_getN (D := (dC, dI)) (ci := 1) (v := .ref aC) (C := RX1) (T := TX1) (N := 4) hx hb htb inX1 hown hK hP 1 rfl rfl 1 (by decide) (va_Nw.use rfl hN.2.2.1) (fun _ h9 => h9) rfl dX2_state_32 ?_
        refine lv_iload_n hx hb dX2_state_35 rfl (lv_at hl 1 rfl) ?_
        refine lv_bipush (v := 20) hx hb dX2_state_36 (by decide) ?_
        refine lv_isub hx hb dX2_state_38 ?_
        refine lv_topi (fun v38 e38 => ?_)
        refine va_iald hx hb hK hP 7 4 rfl rfl (by rw [e38]; exact bd_in (bd_sub (a := 20) (b := 31) ⟨q_nlt h19 (by decide), by have := q_nge h25 (n := 32) (by decide); omega⟩ (bd_lit (a := 20) (by decide)) (by decide) (by decide)) (by decide) (by decide)) dX2_state_39 ?_
        refine lv_topi (fun v39 e39 => ?_)
        exact W.iret (v := v39) hx hb hr (fun t ht hW => ⟨_, rfl, (Or.inr (Or.inl ⟨q_nlt h19 (by decide), (by have := q_nge h25 (n := 32) (by decide); omega), _, e39⟩)), ht⟩) (fun _ h => by cases h) dX2_state_40
  · refine lv_iload_n hx hb dX2_state_4 rfl (lv_at hl 1 rfl) ?_
    refine lv_bipush (v := 8) hx hb dX2_state_5 (by decide) ?_
    refine lv_icmp_ge (tgt := 16) hx hb dX2_state_7 (by decide) (fun h7 => ?_) (fun h7 => ?_)
    · refine lv_iload_n hx hb dX2_state_16 rfl (lv_at hl 1 rfl) ?_
      refine lv_bipush (v := 20) hx hb dX2_state_17 (by decide) ?_
      refine lv_icmp_lt (tgt := 41) hx hb dX2_state_19 (by decide) (fun h19 => ?_) (fun h19 => ?_)
      · refine lv_iload_n hx hb dX2_state_41 rfl (lv_at hl 1 rfl) ?_
        by_cases h42_8 : iwh = 8
        · refine lv_tableIn (off := 42) (tgt := 84) hx hb dX2_state_42 (by rw [h42_8]; decide) (by rw [h42_8]; decide) (by rw [h42_8]; decide) (by decide) ?_
          refine lv_aload_n hx hb dX2_state_84 rfl (lv_at hl 0 rfl) ?_
          refine va_get (D := (dC, dI)) (ci := 2) (v := .int ipc) (C := RX2) (T := TX2) (N := 9) hx hb htb inX2 hown hK hP 0 rfl rfl 4 (by decide) (htb _ m1_60) (fun _ h9 => h9) rfl dX2_state_85 ?_
          exact W.iret (v := ipc) hx hb hr (fun t ht hW => ⟨_, rfl, (Or.inr (Or.inr (Or.inl ⟨h42_8, rfl⟩))), ht⟩) (fun _ h => by cases h) dX2_state_88
        by_cases h42_9 : iwh = 9
        · refine lv_tableIn (off := 47) (tgt := 89) hx hb dX2_state_42 (by rw [h42_9]; decide) (by rw [h42_9]; decide) (by rw [h42_9]; decide) (by decide) ?_
          refine lv_aload_n hx hb dX2_state_89 rfl (lv_at hl 0 rfl) ?_
          refine va_get (D := (dC, dI)) (ci := 2) (v := .int ist) (C := RX2) (T := TX2) (N := 9) hx hb htb inX2 hown hK hP 0 rfl rfl 5 (by decide) (htb _ m1_61) (fun _ h9 => h9) rfl dX2_state_90 ?_
          exact W.iret (v := ist) hx hb hr (fun t ht hW => ⟨_, rfl, (Or.inr (Or.inr (Or.inr (Or.inl ⟨h42_9, rfl⟩)))), ht⟩) (fun _ h => by cases h) dX2_state_93
        by_cases h42_10 : iwh = 10
        · refine lv_tableIn (off := 52) (tgt := 94) hx hb dX2_state_42 (by rw [h42_10]; decide) (by rw [h42_10]; decide) (by rw [h42_10]; decide) (by decide) ?_
          refine lv_aload_n hx hb dX2_state_94 rfl (lv_at hl 0 rfl) ?_
          refine va_get (D := (dC, dI)) (ci := 2) (v := .ref aK) (C := RX2) (T := TX2) (N := 9) hx hb htb inX2 hown hK hP 0 rfl rfl 2 (by decide) (htb _ m1_58) (fun _ h9 => h9) rfl dX2_state_95 ?_
          refine lv_aload_n hx hb dX2_state_98 rfl (lv_at hl 0 rfl) ?_
          have hPc := hP.sub (ws' := [(aP, .inr (2, [.ref aU, .ref aR, .ref aK, .ref aL, .int ipc, .int ist, .int iln, .int iwa, .int isl]))]) [0] rfl
          have hKc := hK.sub (tys' := []) [] rfl
          refine vp_callSi (W.runV (As := []) (rest := [.ref aK]) ⟨hx, hb, hml, hown, htb⟩ (cX_mode l dC dI aP aU aR aK aL ipc ist iln iwa isl) (cwV 0 htb (q_gV m1_115 m1_117 ms_1 m1_1 m1_118) rfl rfl rfl (by decide +kernel) ⟨Nat.le_of_ble_eq_true rfl, Nat.le_of_ble_eq_true rfl⟩) ⟨fun a U g mk q => by obtain ⟨q0, qP, qK, qN9⟩ := q; exact ⟨q0, qP, va_K.moved (u := U) (U := U.calling g mk a) (Vm.Alike.refl U.vm) qK, qN_same (s := U) (U := U.calling g mk a) rfl qN9⟩, va_recv (q0 := 0) hK hP (rfl : vwCl[2]? = some (RX2, TX2, 9)) rfl, fun U hU hW => ⟨rfl, by rw [hU]; exact hPc, va_K.moved hW.alike hKc, qN_warm hW hN⟩⟩ rfl rfl hl.1 rfl (lv_room (Nat.le_of_ble_eq_true rfl)) dX2_state_99 ⟨Nat.le_of_ble_eq_true rfl, Nat.le_of_ble_eq_true rfl⟩) (fun r99 p99 => ?_)
          try dsimp only at p99
          refine va_iald hx hb hK hP 4 1 rfl rfl (by rw [p99]; exact bd_in (bd_and _ 3 (b := 7) (by decide) (by decide) (by decide)) (by decide) (by decide)) dX2_state_102 ?_
          refine lv_topi (fun v102 e102 => ?_)
          exact W.iret (v := v102) hx hb hr (fun t ht hW => ⟨_, rfl, (Or.inr (Or.inr (Or.inr (Or.inr (Or.inl ⟨h42_10, _, e102⟩))))), ht⟩) (fun _ h => by cases h) dX2_state_103
        by_cases h42_11 : iwh = 11
        · refine lv_tableIn (off := 62) (tgt := 104) hx hb dX2_state_42 (by rw [h42_11]; decide) (by rw [h42_11]; decide) (by rw [h42_11]; decide) (by decide) ?_
          refine lv_aload_n hx hb dX2_state_104 rfl (lv_at hl 0 rfl) ?_
          refine va_get (D := (dC, dI)) (ci := 2) (v := .int isl) (C := RX2) (T := TX2) (N := 9) hx hb htb inX2 hown hK hP 0 rfl rfl 8 (by decide) (htb _ m1_64) (fun _ h9 => h9) rfl dX2_state_105 ?_
          refine lv_if_eq (tgt := 115) hx hb dX2_state_108 (by decide) (fun h108 => ?_) (fun h108 => ?_)
          · refine lv_aload_n hx hb dX2_state_115 rfl (lv_at hl 0 rfl) ?_
            refine va_get (D := (dC, dI)) (ci := 2) (v := .int iwa) (C := RX2) (T := TX2) (N := 9) hx hb htb inX2 hown hK hP 0 rfl rfl 7 (by decide) (htb _ m1_63) (fun _ h9 => h9) rfl dX2_state_116 ?_
            refine lv_if_eq (tgt := 126) hx hb dX2_state_119 (by decide) (fun h119 => ?_) (fun h119 => ?_)
            · refine lv_iconst (v := 0) hx hb dX2_state_126 (by decide) ?_
              exact W.iret (v := 0) hx hb hr (fun t ht hW => ⟨_, rfl, (Or.inr (Or.inr (Or.inr (Or.inr (Or.inr (Or.inl ⟨h42_11, fun q => absurd h108 q⟩)))))), ht⟩) (fun _ h => by cases h) dX2_state_127
            · refine lv_iconst (v := 1) hx hb dX2_state_122 (by decide) ?_
              refine lv_goto (tgt := 127) hx hb dX2_state_123 (by decide) ?_
              exact W.iret (v := 1) hx hb hr (fun t ht hW => ⟨_, rfl, (Or.inr (Or.inr (Or.inr (Or.inr (Or.inr (Or.inl ⟨h42_11, fun q => absurd h108 q⟩)))))), ht⟩) (fun _ h => by cases h) dX2_state_127
          · refine lv_iconst (v := 2) hx hb dX2_state_111 (by decide) ?_
            refine lv_goto (tgt := 127) hx hb dX2_state_112 (by decide) ?_
            exact W.iret (v := 2) hx hb hr (fun t ht hW => ⟨_, rfl, (Or.inr (Or.inr (Or.inr (Or.inr (Or.inr (Or.inl ⟨h42_11, fun _ => rfl⟩)))))), ht⟩) (fun _ h => by cases h) dX2_state_127
        by_cases h42_12 : iwh = 12
        · refine lv_tableIn (off := 86) (tgt := 128) hx hb dX2_state_42 (by rw [h42_12]; decide) (by rw [h42_12]; decide) (by rw [h42_12]; decide) (by decide) ?_
          refine lv_aload_n hx hb dX2_state_128 rfl (lv_at hl 0 rfl) ?_
          refine va_get (D := (dC, dI)) (ci := 2) (v := .int iln) (C := RX2) (T := TX2) (N := 9) hx hb htb inX2 hown hK hP 0 rfl rfl 6 (by decide) (htb _ m1_62) (fun _ h9 => h9) rfl dX2_state_129 ?_
          exact W.iret (v := iln) hx hb hr (fun t ht hW => ⟨_, rfl, (Or.inr (Or.inr (Or.inr (Or.inr (Or.inr (Or.inr (Or.inl ⟨h42_12, rfl⟩))))))), ht⟩) (fun _ h => by cases h) dX2_state_132
        by_cases h42_13 : iwh = 13
        · refine lv_tableIn (off := 91) (tgt := 133) hx hb dX2_state_42 (by rw [h42_13]; decide) (by rw [h42_13]; decide) (by rw [h42_13]; decide) (by decide) ?_
          refine lv_aload_n hx hb dX2_state_133 rfl (lv_at hl 0 rfl) ?_
          refine va_get (D := (dC, dI)) (ci := 2) (v := .ref aU) (C := RX2) (T := TX2) (N := 9) hx hb htb inX2 hown hK hP 0 rfl rfl 0 (by decide) (htb _ m1_56) (fun _ h9 => h9) rfl dX2_state_134 ?_
          refine va_getN (D := (dC, dI)) (ci := 1) (v := .ref aB) (C := RX1) (T := TX1) (N := 4) hx hb htb inX1 hown hK hP 1 rfl rfl 2 (by decide) (va_Nw.use rfl hN.2.2.2.1) (fun _ h9 => h9) rfl dX2_state_137 ?_
          refine va_getN (D := (dC, dI)) (ci := 0) (v := .int ict) (C := RX0) (T := TX0) (N := 3) hx hb htb inX0 hown hK hP 2 rfl rfl 2 (by decide) (va_Nw.use rfl hN.1) (fun _ h9 => h9) rfl dX2_state_140 ?_
          exact W.iret (v := ict) hx hb hr (fun t ht hW => ⟨_, rfl, (Or.inr (Or.inr (Or.inr (Or.inr (Or.inr (Or.inr (Or.inr (Or.inl ⟨h42_13, rfl⟩)))))))), ht⟩) (fun _ h => by cases h) dX2_state_143
        by_cases h42_14 : iwh = 14
        · refine lv_tableIn (off := 102) (tgt := 144) hx hb dX2_state_42 (by rw [h42_14]; decide) (by rw [h42_14]; decide) (by rw [h42_14]; decide) (by decide) ?_
          refine lv_aload_n hx hb dX2_state_144 rfl (lv_at hl 0 rfl) ?_
          refine va_get (D := (dC, dI)) (ci := 2) (v := .ref aU) (C := RX2) (T := TX2) (N := 9) hx hb htb inX2 hown hK hP 0 rfl rfl 0 (by decide) (htb _ m1_56) (fun _ h9 => h9) rfl dX2_state_145 ?_
          refine va_getN (D := (dC, dI)) (ci := 1) (v := .int iwk) (C := RX1) (T := TX1) (N := 4) hx hb htb inX1 hown hK hP 1 rfl rfl 3 (by decide) (va_Nw.use rfl hN.2.2.2.2.1) (fun _ h9 => h9) rfl dX2_state_148 ?_
          exact W.iret (v := iwk) hx hb hr (fun t ht hW => ⟨_, rfl, (Or.inr (Or.inr (Or.inr (Or.inr (Or.inr (Or.inr (Or.inr (Or.inr (Or.inl ⟨h42_14, rfl⟩))))))))), ht⟩) (fun _ h => by cases h) dX2_state_151
        refine lv_tableOut (tgt := 152) hx hb dX2_state_42 (by have z8 := lv_neT h42_8 (show (8 : Int32).toInt = 8 from by decide); have z9 := lv_neT h42_9 (show (9 : Int32).toInt = 9 from by decide); have z10 := lv_neT h42_10 (show (10 : Int32).toInt = 10 from by decide); have z11 := lv_neT h42_11 (show (11 : Int32).toInt = 11 from by decide); have z12 := lv_neT h42_12 (show (12 : Int32).toInt = 12 from by decide); have z13 := lv_neT h42_13 (show (13 : Int32).toInt = 13 from by decide); have z14 := lv_neT h42_14 (show (14 : Int32).toInt = 14 from by decide); omega) (by decide) ?_
        refine lv_iconst (v := (-1)) hx hb dX2_state_152 (by decide) ?_
        exact W.iret (v := (-1)) hx hb hr (fun t ht hW => ⟨_, rfl, (Or.inr (Or.inr (Or.inr (Or.inr (Or.inr (Or.inr (Or.inr (Or.inr (Or.inr (⟨rfl, (by intro q; first | exact absurd (q_lt h1 (n := 0) (by decide)) (by omega) | exact absurd (q_ge h7 (n := 8) (by decide)) (by omega)), (by intro q; first | exact absurd (q_lt h19 (n := 20) (by decide)) (by omega) | exact absurd (q_ge h25 (n := 32) (by decide)) (by omega)), h42_8, h42_9, h42_10, h42_11, h42_12, h42_13, h42_14⟩)))))))))), ht⟩) (fun _ h => by cases h) dX2_state_153
      · refine lv_iload_n hx hb dX2_state_22 rfl (lv_at hl 1 rfl) ?_
        refine lv_bipush (v := 32) hx hb dX2_state_23 (by decide) ?_
        refine lv_icmp_ge (tgt := 41) hx hb dX2_state_25 (by decide) (fun h25 => ?_) (fun h25 => ?_)
        · refine lv_iload_n hx hb dX2_state_41 rfl (lv_at hl 1 rfl) ?_
          by_cases h42_8 : iwh = 8
          · refine lv_tableIn (off := 42) (tgt := 84) hx hb dX2_state_42 (by rw [h42_8]; decide) (by rw [h42_8]; decide) (by rw [h42_8]; decide) (by decide) ?_
            refine lv_aload_n hx hb dX2_state_84 rfl (lv_at hl 0 rfl) ?_
            refine va_get (D := (dC, dI)) (ci := 2) (v := .int ipc) (C := RX2) (T := TX2) (N := 9) hx hb htb inX2 hown hK hP 0 rfl rfl 4 (by decide) (htb _ m1_60) (fun _ h9 => h9) rfl dX2_state_85 ?_
            exact W.iret (v := ipc) hx hb hr (fun t ht hW => ⟨_, rfl, (Or.inr (Or.inr (Or.inl ⟨h42_8, rfl⟩))), ht⟩) (fun _ h => by cases h) dX2_state_88
          by_cases h42_9 : iwh = 9
          · refine lv_tableIn (off := 47) (tgt := 89) hx hb dX2_state_42 (by rw [h42_9]; decide) (by rw [h42_9]; decide) (by rw [h42_9]; decide) (by decide) ?_
            refine lv_aload_n hx hb dX2_state_89 rfl (lv_at hl 0 rfl) ?_
            refine va_get (D := (dC, dI)) (ci := 2) (v := .int ist) (C := RX2) (T := TX2) (N := 9) hx hb htb inX2 hown hK hP 0 rfl rfl 5 (by decide) (htb _ m1_61) (fun _ h9 => h9) rfl dX2_state_90 ?_
            exact W.iret (v := ist) hx hb hr (fun t ht hW => ⟨_, rfl, (Or.inr (Or.inr (Or.inr (Or.inl ⟨h42_9, rfl⟩)))), ht⟩) (fun _ h => by cases h) dX2_state_93
          by_cases h42_10 : iwh = 10
          · refine lv_tableIn (off := 52) (tgt := 94) hx hb dX2_state_42 (by rw [h42_10]; decide) (by rw [h42_10]; decide) (by rw [h42_10]; decide) (by decide) ?_
            refine lv_aload_n hx hb dX2_state_94 rfl (lv_at hl 0 rfl) ?_
            refine va_get (D := (dC, dI)) (ci := 2) (v := .ref aK) (C := RX2) (T := TX2) (N := 9) hx hb htb inX2 hown hK hP 0 rfl rfl 2 (by decide) (htb _ m1_58) (fun _ h9 => h9) rfl dX2_state_95 ?_
            refine lv_aload_n hx hb dX2_state_98 rfl (lv_at hl 0 rfl) ?_
            have hPc := hP.sub (ws' := [(aP, .inr (2, [.ref aU, .ref aR, .ref aK, .ref aL, .int ipc, .int ist, .int iln, .int iwa, .int isl]))]) [0] rfl
            have hKc := hK.sub (tys' := []) [] rfl
            refine vp_callSi (W.runV (As := []) (rest := [.ref aK]) ⟨hx, hb, hml, hown, htb⟩ (cX_mode l dC dI aP aU aR aK aL ipc ist iln iwa isl) (cwV 0 htb (q_gV m1_115 m1_117 ms_1 m1_1 m1_118) rfl rfl rfl (by decide +kernel) ⟨Nat.le_of_ble_eq_true rfl, Nat.le_of_ble_eq_true rfl⟩) ⟨fun a U g mk q => by obtain ⟨q0, qP, qK, qN9⟩ := q; exact ⟨q0, qP, va_K.moved (u := U) (U := U.calling g mk a) (Vm.Alike.refl U.vm) qK, qN_same (s := U) (U := U.calling g mk a) rfl qN9⟩, va_recv (q0 := 0) hK hP (rfl : vwCl[2]? = some (RX2, TX2, 9)) rfl, fun U hU hW => ⟨rfl, by rw [hU]; exact hPc, va_K.moved hW.alike hKc, qN_warm hW hN⟩⟩ rfl rfl hl.1 rfl (lv_room (Nat.le_of_ble_eq_true rfl)) dX2_state_99 ⟨Nat.le_of_ble_eq_true rfl, Nat.le_of_ble_eq_true rfl⟩) (fun r99 p99 => ?_)
            try dsimp only at p99
            refine va_iald hx hb hK hP 4 1 rfl rfl (by rw [p99]; exact bd_in (bd_and _ 3 (b := 7) (by decide) (by decide) (by decide)) (by decide) (by decide)) dX2_state_102 ?_
            refine lv_topi (fun v102 e102 => ?_)
            exact W.iret (v := v102) hx hb hr (fun t ht hW => ⟨_, rfl, (Or.inr (Or.inr (Or.inr (Or.inr (Or.inl ⟨h42_10, _, e102⟩))))), ht⟩) (fun _ h => by cases h) dX2_state_103
          by_cases h42_11 : iwh = 11
          · refine lv_tableIn (off := 62) (tgt := 104) hx hb dX2_state_42 (by rw [h42_11]; decide) (by rw [h42_11]; decide) (by rw [h42_11]; decide) (by decide) ?_
            refine lv_aload_n hx hb dX2_state_104 rfl (lv_at hl 0 rfl) ?_
            refine va_get (D := (dC, dI)) (ci := 2) (v := .int isl) (C := RX2) (T := TX2) (N := 9) hx hb htb inX2 hown hK hP 0 rfl rfl 8 (by decide) (htb _ m1_64) (fun _ h9 => h9) rfl dX2_state_105 ?_
            refine lv_if_eq (tgt := 115) hx hb dX2_state_108 (by decide) (fun h108 => ?_) (fun h108 => ?_)
            · refine lv_aload_n hx hb dX2_state_115 rfl (lv_at hl 0 rfl) ?_
              refine va_get (D := (dC, dI)) (ci := 2) (v := .int iwa) (C := RX2) (T := TX2) (N := 9) hx hb htb inX2 hown hK hP 0 rfl rfl 7 (by decide) (htb _ m1_63) (fun _ h9 => h9) rfl dX2_state_116 ?_
              refine lv_if_eq (tgt := 126) hx hb dX2_state_119 (by decide) (fun h119 => ?_) (fun h119 => ?_)
              · refine lv_iconst (v := 0) hx hb dX2_state_126 (by decide) ?_
                exact W.iret (v := 0) hx hb hr (fun t ht hW => ⟨_, rfl, (Or.inr (Or.inr (Or.inr (Or.inr (Or.inr (Or.inl ⟨h42_11, fun q => absurd h108 q⟩)))))), ht⟩) (fun _ h => by cases h) dX2_state_127
              · refine lv_iconst (v := 1) hx hb dX2_state_122 (by decide) ?_
                refine lv_goto (tgt := 127) hx hb dX2_state_123 (by decide) ?_
                exact W.iret (v := 1) hx hb hr (fun t ht hW => ⟨_, rfl, (Or.inr (Or.inr (Or.inr (Or.inr (Or.inr (Or.inl ⟨h42_11, fun q => absurd h108 q⟩)))))), ht⟩) (fun _ h => by cases h) dX2_state_127
            · refine lv_iconst (v := 2) hx hb dX2_state_111 (by decide) ?_
              refine lv_goto (tgt := 127) hx hb dX2_state_112 (by decide) ?_
              exact W.iret (v := 2) hx hb hr (fun t ht hW => ⟨_, rfl, (Or.inr (Or.inr (Or.inr (Or.inr (Or.inr (Or.inl ⟨h42_11, fun _ => rfl⟩)))))), ht⟩) (fun _ h => by cases h) dX2_state_127
          by_cases h42_12 : iwh = 12
          · refine lv_tableIn (off := 86) (tgt := 128) hx hb dX2_state_42 (by rw [h42_12]; decide) (by rw [h42_12]; decide) (by rw [h42_12]; decide) (by decide) ?_
            refine lv_aload_n hx hb dX2_state_128 rfl (lv_at hl 0 rfl) ?_
            refine va_get (D := (dC, dI)) (ci := 2) (v := .int iln) (C := RX2) (T := TX2) (N := 9) hx hb htb inX2 hown hK hP 0 rfl rfl 6 (by decide) (htb _ m1_62) (fun _ h9 => h9) rfl dX2_state_129 ?_
            exact W.iret (v := iln) hx hb hr (fun t ht hW => ⟨_, rfl, (Or.inr (Or.inr (Or.inr (Or.inr (Or.inr (Or.inr (Or.inl ⟨h42_12, rfl⟩))))))), ht⟩) (fun _ h => by cases h) dX2_state_132
          by_cases h42_13 : iwh = 13
          · refine lv_tableIn (off := 91) (tgt := 133) hx hb dX2_state_42 (by rw [h42_13]; decide) (by rw [h42_13]; decide) (by rw [h42_13]; decide) (by decide) ?_
            refine lv_aload_n hx hb dX2_state_133 rfl (lv_at hl 0 rfl) ?_
            refine va_get (D := (dC, dI)) (ci := 2) (v := .ref aU) (C := RX2) (T := TX2) (N := 9) hx hb htb inX2 hown hK hP 0 rfl rfl 0 (by decide) (htb _ m1_56) (fun _ h9 => h9) rfl dX2_state_134 ?_
            refine va_getN (D := (dC, dI)) (ci := 1) (v := .ref aB) (C := RX1) (T := TX1) (N := 4) hx hb htb inX1 hown hK hP 1 rfl rfl 2 (by decide) (va_Nw.use rfl hN.2.2.2.1) (fun _ h9 => h9) rfl dX2_state_137 ?_
            refine va_getN (D := (dC, dI)) (ci := 0) (v := .int ict) (C := RX0) (T := TX0) (N := 3) hx hb htb inX0 hown hK hP 2 rfl rfl 2 (by decide) (va_Nw.use rfl hN.1) (fun _ h9 => h9) rfl dX2_state_140 ?_
            exact W.iret (v := ict) hx hb hr (fun t ht hW => ⟨_, rfl, (Or.inr (Or.inr (Or.inr (Or.inr (Or.inr (Or.inr (Or.inr (Or.inl ⟨h42_13, rfl⟩)))))))), ht⟩) (fun _ h => by cases h) dX2_state_143
          by_cases h42_14 : iwh = 14
          · refine lv_tableIn (off := 102) (tgt := 144) hx hb dX2_state_42 (by rw [h42_14]; decide) (by rw [h42_14]; decide) (by rw [h42_14]; decide) (by decide) ?_
            refine lv_aload_n hx hb dX2_state_144 rfl (lv_at hl 0 rfl) ?_
            refine va_get (D := (dC, dI)) (ci := 2) (v := .ref aU) (C := RX2) (T := TX2) (N := 9) hx hb htb inX2 hown hK hP 0 rfl rfl 0 (by decide) (htb _ m1_56) (fun _ h9 => h9) rfl dX2_state_145 ?_
            refine va_getN (D := (dC, dI)) (ci := 1) (v := .int iwk) (C := RX1) (T := TX1) (N := 4) hx hb htb inX1 hown hK hP 1 rfl rfl 3 (by decide) (va_Nw.use rfl hN.2.2.2.2.1) (fun _ h9 => h9) rfl dX2_state_148 ?_
            exact W.iret (v := iwk) hx hb hr (fun t ht hW => ⟨_, rfl, (Or.inr (Or.inr (Or.inr (Or.inr (Or.inr (Or.inr (Or.inr (Or.inr (Or.inl ⟨h42_14, rfl⟩))))))))), ht⟩) (fun _ h => by cases h) dX2_state_151
          refine lv_tableOut (tgt := 152) hx hb dX2_state_42 (by have z8 := lv_neT h42_8 (show (8 : Int32).toInt = 8 from by decide); have z9 := lv_neT h42_9 (show (9 : Int32).toInt = 9 from by decide); have z10 := lv_neT h42_10 (show (10 : Int32).toInt = 10 from by decide); have z11 := lv_neT h42_11 (show (11 : Int32).toInt = 11 from by decide); have z12 := lv_neT h42_12 (show (12 : Int32).toInt = 12 from by decide); have z13 := lv_neT h42_13 (show (13 : Int32).toInt = 13 from by decide); have z14 := lv_neT h42_14 (show (14 : Int32).toInt = 14 from by decide); omega) (by decide) ?_
          refine lv_iconst (v := (-1)) hx hb dX2_state_152 (by decide) ?_
          exact W.iret (v := (-1)) hx hb hr (fun t ht hW => ⟨_, rfl, (Or.inr (Or.inr (Or.inr (Or.inr (Or.inr (Or.inr (Or.inr (Or.inr (Or.inr (⟨rfl, (by intro q; first | exact absurd (q_lt h1 (n := 0) (by decide)) (by omega) | exact absurd (q_ge h7 (n := 8) (by decide)) (by omega)), (by intro q; first | exact absurd (q_lt h19 (n := 20) (by decide)) (by omega) | exact absurd (q_ge h25 (n := 32) (by decide)) (by omega)), h42_8, h42_9, h42_10, h42_11, h42_12, h42_13, h42_14⟩)))))))))), ht⟩) (fun _ h => by cases h) dX2_state_153
        · refine lv_aload_n hx hb dX2_state_28 rfl (lv_at hl 0 rfl) ?_
          refine va_get (D := (dC, dI)) (ci := 2) (v := .ref aU) (C := RX2) (T := TX2) (N := 9) hx hb htb inX2 hown hK hP 0 rfl rfl 0 (by decide) (htb _ m1_56) (fun _ h9 => h9) rfl dX2_state_29 ?_
          refine va_getN (D := (dC, dI)) (ci := 1) (v := .ref aC) (C := RX1) (T := TX1) (N := 4) hx hb htb inX1 hown hK hP 1 rfl rfl 1 (by decide) (va_Nw.use rfl hN.2.2.1) (fun _ h9 => h9) rfl dX2_state_32 ?_
          refine lv_iload_n hx hb dX2_state_35 rfl (lv_at hl 1 rfl) ?_
          refine lv_bipush (v := 20) hx hb dX2_state_36 (by decide) ?_
          refine lv_isub hx hb dX2_state_38 ?_
          refine lv_topi (fun v38 e38 => ?_)
          refine va_iald hx hb hK hP 7 4 rfl rfl (by rw [e38]; exact bd_in (bd_sub (a := 20) (b := 31) ⟨q_nlt h19 (by decide), by have := q_nge h25 (n := 32) (by decide); omega⟩ (bd_lit (a := 20) (by decide)) (by decide) (by decide)) (by decide) (by decide)) dX2_state_39 ?_
          refine lv_topi (fun v39 e39 => ?_)
          exact W.iret (v := v39) hx hb hr (fun t ht hW => ⟨_, rfl, (Or.inr (Or.inl ⟨q_nlt h19 (by decide), (by have := q_nge h25 (n := 32) (by decide); omega), _, e39⟩)), ht⟩) (fun _ h => by cases h) dX2_state_40
    · refine lv_aload_n hx hb dX2_state_10 rfl (lv_at hl 0 rfl) ?_
      refine lv_iload_n hx hb dX2_state_11 rfl (lv_at hl 1 rfl) ?_
      have hPc := hP.sub (ws' := [(aP, .inr (2, [.ref aU, .ref aR, .ref aK, .ref aL, .int ipc, .int ist, .int iln, .int iwa, .int isl])), (aR, .inl (kR, 22, .inl gR))]) [0, 3] rfl
      have hKc := hK.sub (tys' := [(kR, .int)]) [0] rfl
      refine vp_callSi (W.runV (As := [.int iwh]) (rest := []) ⟨hx, hb, hml, hown, htb⟩ (cX_readRegister l dC dI aP iwh aU aR aK aL ipc ist iln iwa isl kR gR ⟨q_nlt h1 (by decide), by have := q_nge h7 (n := 8) (by decide); omega⟩) (cwV 1 htb (q_gV m1_229 m1_231 ms_17 m1_1 m1_232) rfl rfl rfl (by decide +kernel) ⟨Nat.le_of_ble_eq_true rfl, Nat.le_of_ble_eq_true rfl⟩) ⟨fun a U g mk q => by obtain ⟨q0, qP, qK, qN9⟩ := q; exact ⟨q0, qP, va_K.moved (u := U) (U := U.calling g mk a) (Vm.Alike.refl U.vm) qK, qN_same (s := U) (U := U.calling g mk a) rfl qN9⟩, va_recv (q0 := 0) hK hP (rfl : vwCl[2]? = some (RX2, TX2, 9)) rfl, fun U hU hW => ⟨rfl, by rw [hU]; exact hPc, va_K.moved hW.alike hKc, qN_warm hW hN⟩⟩ rfl rfl hl.1 rfl (lv_room (Nat.le_of_ble_eq_true rfl)) dX2_state_12 ⟨Nat.le_of_ble_eq_true rfl, Nat.le_of_ble_eq_true rfl⟩) (fun r12 p12 => ?_)
      try dsimp only at p12
      exact W.iret (v := r12) hx hb hr (fun t ht hW => ⟨_, rfl, (Or.inl ⟨q_nlt h1 (by decide), (by have := q_nge h7 (n := 8) (by decide); omega), p12⟩), ht⟩) (fun _ h => by cases h) dX2_state_15
end
section
set_option maxHeartbeats 4000000 in
set_option maxRecDepth 100000 in
theorem cX_entry (l : Launch) (dC : Nat → ClassId) (dI : Nat → Nat → Nat) (aP : Nat) (ik : Int32) (iw : Int32) (aU : Nat) (aR : Nat) (aK : Nat) (aL : Nat) (ipc : Int32) (ist : Int32) (iln : Int32) (iwa : Int32) (isl : Int32) (aM : Nat) (aC : Nat) (aB : Nat) (iwk : Int32) (aF : Nat) (ius : Int32) (ict : Int32) (kF : ClassId) (gF : Nat → Int32) (hct : bd ict 0 6) : Met l yX2_entry wsX2_entry ({ frames := 1, cells := 0, slots := 0, locals := 22 }) (va_Pc [.ref aP, .int ik, .int iw] (fun U => va_P (dC, dI) vwCl [(aP, .inr (2, [.ref aU, .ref aR, .ref aK, .ref aL, .int ipc, .int ist, .int iln, .int iwa, .int isl])), (aU, .inr (1, [.ref aM, .ref aC, .ref aB, .int iwk])), (aB, .inr (0, [.ref aF, .int ius, .int ict])), (aF, .inl (kF, 49, .inl gF))] U.heap ∧ va_K (dC, dI) vwCl [(kF, .int)] U ∧ qN U)) (vp_Si (fun r : Int32 => (ik.toInt < 0 ∨ ict.toInt ≤ ik.toInt) → r = -1)) 0 0 (fun _ => False) := by
  refine Met.ofW (cc := cX2_entry) (maxL := 3) (ret := (some .int)) (by decide) rfl ?_
  intro p e s m args below meth c s₁ B hml hv
  obtain ⟨rfl, hP, hK, hN⟩ := hv
  have hx := B.exec
  have hb := B.bytes
  have hr := B.returns
  have hts := atoms_spec (ws := wsX2_entry) B.pre
  have htb : ∀ w ∈ qT, w.before _ s = true := fun w h => hts w (List.mem_cons_of_mem _ h)
  have hown : s.vm.findClass RX2 = some m.cls := findClass_of_methodNamed B.named
  have hlocks := B.notSynchronized
  have hP : va_P (dC, dI) vwCl [(aP, .inr (2, [.ref aU, .ref aR, .ref aK, .ref aL, .int ipc, .int ist, .int iln, .int iwa, .int isl])), (aU, .inr (1, [.ref aM, .ref aC, .ref aB, .int iwk])), (aB, .inr (0, [.ref aF, .int ius, .int ict])), (aF, .inl (kF, 49, .inl gF))] s.heap := hP
  have hl := lv_entry ([.ref aP, .int ik, .int iw]) (n := 3) (Nat.le_of_ble_eq_true rfl)
  rw [lg_entry_eq]
  generalize (lg_sl ([.ref aP, .int ik, .int iw]) ++ List.replicate (3 - (lg_sl ([.ref aP, .int ik, .int iw])).length) Slot.unset).toArray = ls at hl ⊢
  have hl : lv_has ls 3 [(0, .ref aP), (1, .int ik), (2, .int iw)] := hl
  refine lv_iload_n hx hb dX2_entry_0 rfl (lv_at hl 1 rfl) ?_
  refine lv_if_lt (tgt := 28) hx hb dX2_entry_1 (by decide) (fun h1 => ?_) (fun h1 => ?_)
  · refine lv_iconst (v := (-1)) hx hb dX2_entry_28 (by decide) ?_
    exact W.iret (v := (-1)) hx hb hr (fun t ht hW => ⟨_, rfl, (fun _ => rfl), ht⟩) (fun _ h => by cases h) dX2_entry_29
  · refine lv_iload_n hx hb dX2_entry_4 rfl (lv_at hl 1 rfl) ?_
    refine lv_aload_n hx hb dX2_entry_5 rfl (lv_at hl 0 rfl) ?_
    refine va_get (D := (dC, dI)) (ci := 2) (v := .ref aU) (C := RX2) (T := TX2) (N := 9) hx hb htb inX2 hown hK hP 0 rfl rfl 0 (by decide) (htb _ m1_56) (fun _ h9 => h9) rfl dX2_entry_6 ?_
    refine va_getN (D := (dC, dI)) (ci := 1) (v := .ref aB) (C := RX1) (T := TX1) (N := 4) hx hb htb inX1 hown hK hP 1 rfl rfl 2 (by decide) (va_Nw.use rfl hN.2.2.2.1) (fun _ h9 => h9) rfl dX2_entry_9 ?_
    refine va_getN (D := (dC, dI)) (ci := 0) (v := .int ict) (C := RX0) (T := TX0) (N := 3) hx hb htb inX0 hown hK hP 2 rfl rfl 2 (by decide) (va_Nw.use rfl hN.1) (fun _ h9 => h9) rfl dX2_entry_12 ?_
    refine lv_icmp_ge (tgt := 28) hx hb dX2_entry_15 (by decide) (fun h15 => ?_) (fun h15 => ?_)
    · refine lv_iconst (v := (-1)) hx hb dX2_entry_28 (by decide) ?_
      exact W.iret (v := (-1)) hx hb hr (fun t ht hW => ⟨_, rfl, (fun _ => rfl), ht⟩) (fun _ h => by cases h) dX2_entry_29
    · refine lv_iload_n hx hb dX2_entry_18 rfl (lv_at hl 2 rfl) ?_
      refine lv_if_lt (tgt := 28) hx hb dX2_entry_19 (by decide) (fun h19 => ?_) (fun h19 => ?_)
      · refine lv_iconst (v := (-1)) hx hb dX2_entry_28 (by decide) ?_
        exact W.iret (v := (-1)) hx hb hr (fun t ht hW => ⟨_, rfl, (fun _ => rfl), ht⟩) (fun _ h => by cases h) dX2_entry_29
      · refine lv_iload_n hx hb dX2_entry_22 rfl (lv_at hl 2 rfl) ?_
        refine lv_bipush (v := 7) hx hb dX2_entry_23 (by decide) ?_
        refine lv_icmp_lt (tgt := 30) hx hb dX2_entry_25 (by decide) (fun h25 => ?_) (fun h25 => ?_)
        · refine lv_aload_n hx hb dX2_entry_30 rfl (lv_at hl 0 rfl) ?_
          refine va_get (D := (dC, dI)) (ci := 2) (v := .ref aU) (C := RX2) (T := TX2) (N := 9) hx hb htb inX2 hown hK hP 0 rfl rfl 0 (by decide) (htb _ m1_56) (fun _ h9 => h9) rfl dX2_entry_31 ?_
          refine va_getN (D := (dC, dI)) (ci := 1) (v := .ref aB) (C := RX1) (T := TX1) (N := 4) hx hb htb inX1 hown hK hP 1 rfl rfl 2 (by decide) (va_Nw.use rfl hN.2.2.2.1) (fun _ h9 => h9) rfl dX2_entry_34 ?_
          refine lv_iload_n hx hb dX2_entry_37 rfl (lv_at hl 1 rfl) ?_
          refine lv_iload_n hx hb dX2_entry_38 rfl (lv_at hl 2 rfl) ?_
          have hPc := hP.sub (ws' := [(aB, .inr (0, [.ref aF, .int ius, .int ict])), (aF, .inl (kF, 49, .inl gF))]) [2, 3] rfl
          have hKc := hK.sub (tys' := [(kF, .int)]) [0] rfl
          refine vp_callSi (W.runV (As := [.int ik, .int iw]) (rest := []) ⟨hx, hb, hml, hown, htb⟩ (cX_field l dC dI aB ik iw aF ius ict kF gF ⟨q_nlt h1 (by decide), by have := hct.2; have := Int.not_le.mp (fun q => h15 (Int32.le_iff_toInt_le.mpr q)); omega⟩ ⟨q_nlt h19 (by decide), by have := q_lt h25 (n := 7) (by decide); omega⟩) (cwV 2 htb (q_gV m2_76 m1_199 m1_200 m1_3 m1_201) rfl rfl rfl (by decide +kernel) ⟨Nat.le_of_ble_eq_true rfl, Nat.le_of_ble_eq_true rfl⟩) ⟨fun a U g mk q => by obtain ⟨q0, qP, qK⟩ := q; exact ⟨q0, qP, va_K.moved (u := U) (U := U.calling g mk a) (Vm.Alike.refl U.vm) qK⟩, va_recv (q0 := 2) hK hP (rfl : vwCl[0]? = some (RX0, TX0, 3)) rfl, fun U hU hW => ⟨rfl, by rw [hU]; exact hPc, va_K.moved hW.alike hKc⟩⟩ rfl rfl hl.1 rfl (lv_room (Nat.le_of_ble_eq_true rfl)) dX2_entry_39 ⟨Nat.le_of_ble_eq_true rfl, Nat.le_of_ble_eq_true rfl⟩) (fun r39 p39 => ?_)
          try dsimp only at p39
          exact W.iret (v := r39) hx hb hr (fun t ht hW => ⟨_, rfl, (fun q => by rcases q with q | q; exact absurd (q_nlt h1 (n := 0) (by decide)) (by omega); exact absurd (Int32.le_iff_toInt_le.mpr q) h15), ht⟩) (fun _ h => by cases h) dX2_entry_42
        · refine lv_iconst (v := (-1)) hx hb dX2_entry_28 (by decide) ?_
          exact W.iret (v := (-1)) hx hb hr (fun t ht hW => ⟨_, rfl, (fun _ => rfl), ht⟩) (fun _ h => by cases h) dX2_entry_29
end
section
set_option maxHeartbeats 4000000 in
set_option maxRecDepth 100000 in
theorem cM_isPlace (l : Launch) (ipl : Int32) : Met l yX3_isPlace wsX3_isPlace ({ frames := 0, cells := 0, slots := 0, locals := 0 }) (va_Pc [.int ipl] (fun _ => True)) (vp_Si (fun r : Int32 => r = qPlace ipl)) 0 0 (fun _ => False) := by
  refine Met.ofW (cc := cX3_isPlace) (maxL := 1) (ret := (some .boolean)) (by decide) rfl ?_
  intro p e s m args below meth c s₁ B hml hv
  obtain ⟨rfl, -⟩ := hv
  have hx := B.exec
  have hb := B.bytes
  have hr := B.returns
  have hts := atoms_spec (ws := wsX3_isPlace) B.pre
  have htb : ∀ w ∈ qT, w.before _ s = true := fun w h => hts w (List.mem_cons_of_mem _ h)
  have hown : s.vm.findClass RX3 = some m.cls := findClass_of_methodNamed B.named
  have hlocks := B.notSynchronized
  have hl := lv_entry ([.int ipl]) (n := 1) (Nat.le_of_ble_eq_true rfl)
  rw [lg_entry_eq]
  generalize (lg_sl ([.int ipl]) ++ List.replicate (1 - (lg_sl ([.int ipl])).length) Slot.unset).toArray = ls at hl ⊢
  have hl : lv_has ls 1 [(0, .int ipl)] := hl
  refine lv_iload_n hx hb dX3_isPlace_0 rfl (lv_at hl 0 rfl) ?_
  refine lv_if_lt (tgt := 15) hx hb dX3_isPlace_1 (by decide) (fun h1 => ?_) (fun h1 => ?_)
  · refine lv_iconst (v := 0) hx hb dX3_isPlace_15 (by decide) ?_
    exact W.zret (ty := .boolean) (v := 0) hx hb hr (by first | rfl | decide +kernel) (fun t ht hW => ⟨_, rfl, (by unfold qPlace; rw [if_neg (by intro q; first | exact absurd (q_lt h1 (n := 0) (by decide)) (by omega) | exact absurd (q_ge h8 (n := 512) (by decide)) (by omega))]), ht⟩) (fun _ h => by cases h) dX3_isPlace_16
  · refine lv_iload_n hx hb dX3_isPlace_4 rfl (lv_at hl 0 rfl) ?_
    refine lv_sipush (v := 512) hx hb dX3_isPlace_5 (by decide) ?_
    refine lv_icmp_ge (tgt := 15) hx hb dX3_isPlace_8 (by decide) (fun h8 => ?_) (fun h8 => ?_)
    · refine lv_iconst (v := 0) hx hb dX3_isPlace_15 (by decide) ?_
      exact W.zret (ty := .boolean) (v := 0) hx hb hr (by first | rfl | decide +kernel) (fun t ht hW => ⟨_, rfl, (by unfold qPlace; rw [if_neg (by intro q; first | exact absurd (q_lt h1 (n := 0) (by decide)) (by omega) | exact absurd (q_ge h8 (n := 512) (by decide)) (by omega))]), ht⟩) (fun _ h => by cases h) dX3_isPlace_16
    · refine lv_iconst (v := 1) hx hb dX3_isPlace_11 (by decide) ?_
      refine lv_goto (tgt := 16) hx hb dX3_isPlace_12 (by decide) ?_
      exact W.zret (ty := .boolean) (v := 1) hx hb hr (by first | rfl | decide +kernel) (fun t ht hW => ⟨_, rfl, (by unfold qPlace; rw [if_pos ⟨q_nlt h1 (by decide), q_nge h8 (by decide)⟩]), ht⟩) (fun _ h => by cases h) dX3_isPlace_16
end
section
set_option maxHeartbeats 4000000 in
set_option maxRecDepth 100000 in
theorem cM_mode (l : Launch) (dC : Nat → ClassId) (dI : Nat → Nat → Nat) (bO : Nat) (jbu : Int32) (bM : Nat) (bLo : Nat) (bS6 : Nat) (bS7 : Nat) (bKe : Nat) (bCo : Nat) (jpc : Int32) (jst : Int32) (jln : Int32) (jwa : Int32) (jsn : Int32) (jwk : Int32) (jen : Int32) (bFr : Nat) (bSi : Nat) (bTo : Nat) (bSp : Nat) (bDo : Nat) (bRi : Nat) (bNf : Nat) (jwr : Int32) (bLd : Nat) : Met l yX3_mode wsX3_mode ({ frames := 0, cells := 0, slots := 0, locals := 0 }) (va_Pc [.ref bO] (fun U => va_P (dC, dI) vwCl [(bO, .inr (3, [.int jbu, .ref bM, .ref bLo, .ref bS6, .ref bS7, .ref bKe, .ref bCo, .int jpc, .int jst, .int jln, .int jwa, .int jsn, .int jwk, .int jen, .ref bFr, .ref bSi, .ref bTo, .ref bSp, .ref bDo, .ref bRi, .ref bNf, .int jwr, .ref bLd]))] U.heap ∧ va_K (dC, dI) vwCl [] U)) (vp_Si (fun r : Int32 => r = jst &&& 7)) 0 0 (fun _ => False) := by
  refine Met.ofW (cc := cX3_mode) (maxL := 1) (ret := (some .int)) (by decide) rfl ?_
  intro p e s m args below meth c s₁ B hml hv
  obtain ⟨rfl, hP, hK⟩ := hv
  have hx := B.exec
  have hb := B.bytes
  have hr := B.returns
  have hts := atoms_spec (ws := wsX3_mode) B.pre
  have htb : ∀ w ∈ qT, w.before _ s = true := fun w h => hts w (List.mem_cons_of_mem _ h)
  have hown : s.vm.findClass RX3 = some m.cls := findClass_of_methodNamed B.named
  have hlocks := B.notSynchronized
  have hP : va_P (dC, dI) vwCl [(bO, .inr (3, [.int jbu, .ref bM, .ref bLo, .ref bS6, .ref bS7, .ref bKe, .ref bCo, .int jpc, .int jst, .int jln, .int jwa, .int jsn, .int jwk, .int jen, .ref bFr, .ref bSi, .ref bTo, .ref bSp, .ref bDo, .ref bRi, .ref bNf, .int jwr, .ref bLd]))] s.heap := hP
  have hl := lv_entry ([.ref bO]) (n := 1) (Nat.le_of_ble_eq_true rfl)
  rw [lg_entry_eq]
  generalize (lg_sl ([.ref bO]) ++ List.replicate (1 - (lg_sl ([.ref bO])).length) Slot.unset).toArray = ls at hl ⊢
  have hl : lv_has ls 1 [(0, .ref bO)] := hl
  refine lv_aload_n hx hb dX3_mode_0 rfl (lv_at hl 0 rfl) ?_
  refine va_get (D := (dC, dI)) (ci := 3) (v := .int jst) (C := RX3) (T := TX3) (N := 23) hx hb htb inX3 hown hK hP 0 rfl rfl 8 (by decide) (htb _ m2_94) (fun _ h9 => h9) rfl dX3_mode_1 ?_
  refine lv_bipush (v := 7) hx hb dX3_mode_4 (by decide) ?_
  refine lv_iand hx hb dX3_mode_6 ?_
  refine lv_topi (fun v6 e6 => ?_)
  exact W.iret (v := v6) hx hb hr (fun t ht hW => ⟨_, rfl, e6, ht⟩) (fun _ h => by cases h) dX3_mode_7
end
section
set_option maxHeartbeats 4000000 in
set_option maxRecDepth 100000 in
theorem cM_get (l : Launch) (dC : Nat → ClassId) (dI : Nat → Nat → Nat) (bO : Nat) (ik : Int32) (jbu : Int32) (bM : Nat) (bLo : Nat) (bS6 : Nat) (bS7 : Nat) (bKe : Nat) (bCo : Nat) (jpc : Int32) (jst : Int32) (jln : Int32) (jwa : Int32) (jsn : Int32) (jwk : Int32) (jen : Int32) (bFr : Nat) (bSi : Nat) (bTo : Nat) (bSp : Nat) (bDo : Nat) (bRi : Nat) (bNf : Nat) (jwr : Int32) (bLd : Nat) (jLo : ClassId) (wLo : Nat → Int32) (jS6 : ClassId) (wS6 : Nat → Int32) (jS7 : ClassId) (wS7 : Nat → Int32) (hk7 : bd ik 0 7) (hm5 : bd (jst &&& 7) 0 5) : Met l yX3_get wsX3_get ({ frames := 1, cells := 0, slots := 0, locals := 20 }) (va_Pc [.ref bO, .int ik] (fun U => va_P (dC, dI) vwCl [(bO, .inr (3, [.int jbu, .ref bM, .ref bLo, .ref bS6, .ref bS7, .ref bKe, .ref bCo, .int jpc, .int jst, .int jln, .int jwa, .int jsn, .int jwk, .int jen, .ref bFr, .ref bSi, .ref bTo, .ref bSp, .ref bDo, .ref bRi, .ref bNf, .int jwr, .ref bLd])), (bLo, .inl (jLo, 6, .inl wLo)), (bS6, .inl (jS6, 6, .inl wS6)), (bS7, .inl (jS7, 6, .inl wS7))] U.heap ∧ va_K (dC, dI) vwCl [(jLo, .int), (jS6, .int), (jS7, .int)] U)) (vp_Si (fun r : Int32 => ∃ i : Nat, r = wLo i ∨ r = wS6 i ∨ r = wS7 i)) 0 0 (fun _ => False) := by
  refine Met.ofW (cc := cX3_get) (maxL := 2) (ret := (some .int)) (by decide) rfl ?_
  intro p e s m args below meth c s₁ B hml hv
  obtain ⟨rfl, hP, hK⟩ := hv
  have hx := B.exec
  have hb := B.bytes
  have hr := B.returns
  have hts := atoms_spec (ws := wsX3_get) B.pre
  have htb : ∀ w ∈ qT, w.before _ s = true := fun w h => hts w (List.mem_cons_of_mem _ h)
  have hown : s.vm.findClass RX3 = some m.cls := findClass_of_methodNamed B.named
  have hlocks := B.notSynchronized
  have hP : va_P (dC, dI) vwCl [(bO, .inr (3, [.int jbu, .ref bM, .ref bLo, .ref bS6, .ref bS7, .ref bKe, .ref bCo, .int jpc, .int jst, .int jln, .int jwa, .int jsn, .int jwk, .int jen, .ref bFr, .ref bSi, .ref bTo, .ref bSp, .ref bDo, .ref bRi, .ref bNf, .int jwr, .ref bLd])), (bLo, .inl (jLo, 6, .inl wLo)), (bS6, .inl (jS6, 6, .inl wS6)), (bS7, .inl (jS7, 6, .inl wS7))] s.heap := hP
  have hl := lv_entry ([.ref bO, .int ik]) (n := 2) (Nat.le_of_ble_eq_true rfl)
  rw [lg_entry_eq]
  generalize (lg_sl ([.ref bO, .int ik]) ++ List.replicate (2 - (lg_sl ([.ref bO, .int ik])).length) Slot.unset).toArray = ls at hl ⊢
  have hl : lv_has ls 2 [(0, .ref bO), (1, .int ik)] := hl
  refine lv_iload_n hx hb dX3_get_0 rfl (lv_at hl 1 rfl) ?_
  refine lv_bipush (v := 6) hx hb dX3_get_1 (by decide) ?_
  refine lv_icmp_ge (tgt := 15) hx hb dX3_get_3 (by decide) (fun h3 => ?_) (fun h3 => ?_)
  · refine lv_iload_n hx hb dX3_get_15 rfl (lv_at hl 1 rfl) ?_
    refine lv_bipush (v := 6) hx hb dX3_get_16 (by decide) ?_
    refine lv_icmp_ne (tgt := 33) hx hb dX3_get_18 (by decide) (fun h18 => ?_) (fun h18 => ?_)
    · refine lv_aload_n hx hb dX3_get_33 rfl (lv_at hl 0 rfl) ?_
      refine va_get (D := (dC, dI)) (ci := 3) (v := .ref bS7) (C := RX3) (T := TX3) (N := 23) hx hb htb inX3 hown hK hP 0 rfl rfl 4 (by decide) (htb _ m2_90) (fun _ h9 => h9) rfl dX3_get_34 ?_
      refine lv_aload_n hx hb dX3_get_37 rfl (lv_at hl 0 rfl) ?_
      have hPc := hP.sub (ws' := [(bO, .inr (3, [.int jbu, .ref bM, .ref bLo, .ref bS6, .ref bS7, .ref bKe, .ref bCo, .int jpc, .int jst, .int jln, .int jwa, .int jsn, .int jwk, .int jen, .ref bFr, .ref bSi, .ref bTo, .ref bSp, .ref bDo, .ref bRi, .ref bNf, .int jwr, .ref bLd]))]) [0] rfl
      have hKc := hK.sub (tys' := []) [] rfl
      refine vp_callSi (W.runV (As := []) (rest := [.ref bS7]) ⟨hx, hb, hml, hown, htb⟩ (cM_mode l dC dI bO jbu bM bLo bS6 bS7 bKe bCo jpc jst jln jwa jsn jwk jen bFr bSi bTo bSp bDo bRi bNf jwr bLd) (cwV 0 htb (q_gV m2_180 m2_182 ms_29 m1_4 m2_183) rfl rfl rfl (by decide +kernel) ⟨Nat.le_of_ble_eq_true rfl, Nat.le_of_ble_eq_true rfl⟩) ⟨fun a U g mk q => by obtain ⟨q0, qP, qK⟩ := q; exact ⟨q0, qP, va_K.moved (u := U) (U := U.calling g mk a) (Vm.Alike.refl U.vm) qK⟩, va_recv (q0 := 0) hK hP (rfl : vwCl[3]? = some (RX3, TX3, 23)) rfl, fun U hU hW => ⟨rfl, by rw [hU]; exact hPc, va_K.moved hW.alike hKc⟩⟩ rfl rfl hl.1 rfl (lv_room (Nat.le_of_ble_eq_true rfl)) dX3_get_38 ⟨Nat.le_of_ble_eq_true rfl, Nat.le_of_ble_eq_true rfl⟩) (fun r38 p38 => ?_)
      try dsimp only at p38
      refine va_iald hx hb hK hP 3 2 rfl rfl (by rw [p38]; exact bd_in hm5 (by decide) (by decide)) dX3_get_41 ?_
      refine lv_topi (fun v41 e41 => ?_)
      exact W.iret (v := v41) hx hb hr (fun t ht hW => ⟨_, rfl, ⟨_, Or.inr (Or.inr e41)⟩, ht⟩) (fun _ h => by cases h) dX3_get_42
    · refine lv_aload_n hx hb dX3_get_21 rfl (lv_at hl 0 rfl) ?_
      refine va_get (D := (dC, dI)) (ci := 3) (v := .ref bS6) (C := RX3) (T := TX3) (N := 23) hx hb htb inX3 hown hK hP 0 rfl rfl 3 (by decide) (htb _ m2_89) (fun _ h9 => h9) rfl dX3_get_22 ?_
      refine lv_aload_n hx hb dX3_get_25 rfl (lv_at hl 0 rfl) ?_
      have hPc := hP.sub (ws' := [(bO, .inr (3, [.int jbu, .ref bM, .ref bLo, .ref bS6, .ref bS7, .ref bKe, .ref bCo, .int jpc, .int jst, .int jln, .int jwa, .int jsn, .int jwk, .int jen, .ref bFr, .ref bSi, .ref bTo, .ref bSp, .ref bDo, .ref bRi, .ref bNf, .int jwr, .ref bLd]))]) [0] rfl
      have hKc := hK.sub (tys' := []) [] rfl
      refine vp_callSi (W.runV (As := []) (rest := [.ref bS6]) ⟨hx, hb, hml, hown, htb⟩ (cM_mode l dC dI bO jbu bM bLo bS6 bS7 bKe bCo jpc jst jln jwa jsn jwk jen bFr bSi bTo bSp bDo bRi bNf jwr bLd) (cwV 0 htb (q_gV m2_180 m2_182 ms_29 m1_4 m2_183) rfl rfl rfl (by decide +kernel) ⟨Nat.le_of_ble_eq_true rfl, Nat.le_of_ble_eq_true rfl⟩) ⟨fun a U g mk q => by obtain ⟨q0, qP, qK⟩ := q; exact ⟨q0, qP, va_K.moved (u := U) (U := U.calling g mk a) (Vm.Alike.refl U.vm) qK⟩, va_recv (q0 := 0) hK hP (rfl : vwCl[3]? = some (RX3, TX3, 23)) rfl, fun U hU hW => ⟨rfl, by rw [hU]; exact hPc, va_K.moved hW.alike hKc⟩⟩ rfl rfl hl.1 rfl (lv_room (Nat.le_of_ble_eq_true rfl)) dX3_get_26 ⟨Nat.le_of_ble_eq_true rfl, Nat.le_of_ble_eq_true rfl⟩) (fun r26 p26 => ?_)
      try dsimp only at p26
      refine va_iald hx hb hK hP 2 1 rfl rfl (by rw [p26]; exact bd_in hm5 (by decide) (by decide)) dX3_get_29 ?_
      refine lv_topi (fun v29 e29 => ?_)
      refine lv_goto (tgt := 42) hx hb dX3_get_30 (by decide) ?_
      exact W.iret (v := v29) hx hb hr (fun t ht hW => ⟨_, rfl, ⟨_, Or.inr (Or.inl e29)⟩, ht⟩) (fun _ h => by cases h) dX3_get_42
  · refine lv_aload_n hx hb dX3_get_6 rfl (lv_at hl 0 rfl) ?_
    refine va_get (D := (dC, dI)) (ci := 3) (v := .ref bLo) (C := RX3) (T := TX3) (N := 23) hx hb htb inX3 hown hK hP 0 rfl rfl 2 (by decide) (htb _ m2_88) (fun _ h9 => h9) rfl dX3_get_7 ?_
    refine lv_iload_n hx hb dX3_get_10 rfl (lv_at hl 1 rfl) ?_
    refine va_iald hx hb hK hP 1 0 rfl rfl (vp_in_iff.mpr ⟨hk7.1, by have := q_nge h3 (n := 6) (by decide); omega⟩) dX3_get_11 ?_
    refine lv_topi (fun v11 e11 => ?_)
    refine lv_goto (tgt := 42) hx hb dX3_get_12 (by decide) ?_
    exact W.iret (v := v11) hx hb hr (fun t ht hW => ⟨_, rfl, ⟨_, Or.inl e11⟩, ht⟩) (fun _ h => by cases h) dX3_get_42
end
section
set_option maxHeartbeats 4000000 in
set_option maxRecDepth 100000 in
theorem cM_put (l : Launch) (dC : Nat → ClassId) (dI : Nat → Nat → Nat) (sz : Nat) (bO : Nat) (ik : Int32) (iv : Int32) (jbu : Int32) (bM : Nat) (bLo : Nat) (bS6 : Nat) (bS7 : Nat) (bKe : Nat) (bCo : Nat) (jpc : Int32) (jst : Int32) (jln : Int32) (jwa : Int32) (jsn : Int32) (jwk : Int32) (jen : Int32) (bFr : Nat) (bSi : Nat) (bTo : Nat) (bSp : Nat) (bDo : Nat) (bRi : Nat) (bNf : Nat) (jwr : Int32) (bLd : Nat) (jLo : ClassId) (wLo : Nat → Int32) (jS6 : ClassId) (wS6 : Nat → Int32) (jS7 : ClassId) (wS7 : Nat → Int32) (hk7 : bd ik 0 7) (hm5 : bd (jst &&& 7) 0 5) : Met l yX3_put wsX3_put ({ frames := 1, cells := 0, slots := 0, locals := 20 }) (va_Pc [.ref bO, .int ik, .int iv] (fun U => U.heap.size = sz ∧ va_P (dC, dI) vwCl [(bO, .inr (3, [.int jbu, .ref bM, .ref bLo, .ref bS6, .ref bS7, .ref bKe, .ref bCo, .int jpc, .int jst, .int jln, .int jwa, .int jsn, .int jwk, .int jen, .ref bFr, .ref bSi, .ref bTo, .ref bSp, .ref bDo, .ref bRi, .ref bNf, .int jwr, .ref bLd])), (bLo, .inl (jLo, 6, .inl wLo)), (bS6, .inl (jS6, 6, .inl wS6)), (bS7, .inl (jS7, 6, .inl wS7))] U.heap ∧ va_K (dC, dI) vwCl [(jLo, .int), (jS6, .int), (jS7, .int)] U ∧ va_D (fun _ => True) [(bO, .inr (3, [.int jbu, .ref bM, .ref bLo, .ref bS6, .ref bS7, .ref bKe, .ref bCo, .int jpc, .int jst, .int jln, .int jwa, .int jsn, .int jwk, .int jen, .ref bFr, .ref bSi, .ref bTo, .ref bSp, .ref bDo, .ref bRi, .ref bNf, .int jwr, .ref bLd])), (bLo, .inl (jLo, 6, .inl wLo)), (bS6, .inl (jS6, 6, .inl wS6)), (bS7, .inl (jS7, 6, .inl wS7))])) (va_Qv (fun u : (Nat → Int32) × (Nat → Int32) × (Nat → Int32) => True) (fun (u : (Nat → Int32) × (Nat → Int32) × (Nat → Int32)) (t : State) => va_P (dC, dI) vwCl [(bO, .inr (3, [.int jbu, .ref bM, .ref bLo, .ref bS6, .ref bS7, .ref bKe, .ref bCo, .int jpc, .int jst, .int jln, .int jwa, .int jsn, .int jwk, .int jen, .ref bFr, .ref bSi, .ref bTo, .ref bSp, .ref bDo, .ref bRi, .ref bNf, .int jwr, .ref bLd])), (bLo, .inl (jLo, 6, .inl u.1)), (bS6, .inl (jS6, 6, .inl u.2.1)), (bS7, .inl (jS7, 6, .inl u.2.2))] t.heap ∧ va_K (dC, dI) vwCl [(jLo, .int), (jS6, .int), (jS7, .int)] t ∧ va_D (va_A [(bO, .inr (3, [.int jbu, .ref bM, .ref bLo, .ref bS6, .ref bS7, .ref bKe, .ref bCo, .int jpc, .int jst, .int jln, .int jwa, .int jsn, .int jwk, .int jen, .ref bFr, .ref bSi, .ref bTo, .ref bSp, .ref bDo, .ref bRi, .ref bNf, .int jwr, .ref bLd])), (bLo, .inl (jLo, 6, .inl wLo)), (bS6, .inl (jS6, 6, .inl wS6)), (bS7, .inl (jS7, 6, .inl wS7))] sz) [(bO, .inr (3, [.int jbu, .ref bM, .ref bLo, .ref bS6, .ref bS7, .ref bKe, .ref bCo, .int jpc, .int jst, .int jln, .int jwa, .int jsn, .int jwk, .int jen, .ref bFr, .ref bSi, .ref bTo, .ref bSp, .ref bDo, .ref bRi, .ref bNf, .int jwr, .ref bLd])), (bLo, .inl (jLo, 6, .inl u.1)), (bS6, .inl (jS6, 6, .inl u.2.1)), (bS7, .inl (jS7, 6, .inl u.2.2))]) (va_A [(bO, .inr (3, [.int jbu, .ref bM, .ref bLo, .ref bS6, .ref bS7, .ref bKe, .ref bCo, .int jpc, .int jst, .int jln, .int jwa, .int jsn, .int jwk, .int jen, .ref bFr, .ref bSi, .ref bTo, .ref bSp, .ref bDo, .ref bRi, .ref bNf, .int jwr, .ref bLd])), (bLo, .inl (jLo, 6, .inl wLo)), (bS6, .inl (jS6, 6, .inl wS6)), (bS7, .inl (jS7, 6, .inl wS7))] sz)) 0 0 (va_A [(bO, .inr (3, [.int jbu, .ref bM, .ref bLo, .ref bS6, .ref bS7, .ref bKe, .ref bCo, .int jpc, .int jst, .int jln, .int jwa, .int jsn, .int jwk, .int jen, .ref bFr, .ref bSi, .ref bTo, .ref bSp, .ref bDo, .ref bRi, .ref bNf, .int jwr, .ref bLd])), (bLo, .inl (jLo, 6, .inl wLo)), (bS6, .inl (jS6, 6, .inl wS6)), (bS7, .inl (jS7, 6, .inl wS7))] sz) := by
  refine Met.ofW (cc := cX3_put) (maxL := 3) (ret := none) (by decide) rfl ?_
  intro p e s m args below meth c s₁ B hml hv
  obtain ⟨rfl, hsz, hP, hK, hD0⟩ := hv
  have hx := B.exec
  have hb := B.bytes
  have hr := B.returns
  have hts := atoms_spec (ws := wsX3_put) B.pre
  have htb : ∀ w ∈ qT, w.before _ s = true := fun w h => hts w (List.mem_cons_of_mem _ h)
  have hown : s.vm.findClass RX3 = some m.cls := findClass_of_methodNamed B.named
  have hlocks := B.notSynchronized
  subst hsz
  have hD := hD0.self (sz := s.heap.size)
  generalize hAe : va_A [(bO, .inr (3, [.int jbu, .ref bM, .ref bLo, .ref bS6, .ref bS7, .ref bKe, .ref bCo, .int jpc, .int jst, .int jln, .int jwa, .int jsn, .int jwk, .int jen, .ref bFr, .ref bSi, .ref bTo, .ref bSp, .ref bDo, .ref bRi, .ref bNf, .int jwr, .ref bLd])), (bLo, .inl (jLo, 6, .inl wLo)), (bS6, .inl (jS6, 6, .inl wS6)), (bS7, .inl (jS7, 6, .inl wS7))] s.heap.size = A at hD ⊢
  have hA : ∀ q : Nat, s.heap.size ≤ q → A q := fun q h => by rw [← hAe]; exact Or.inr h
  have hS : va_S A s.heap s.heap [] := va_S.rf
  have hP : va_P (dC, dI) vwCl [(bO, .inr (3, [.int jbu, .ref bM, .ref bLo, .ref bS6, .ref bS7, .ref bKe, .ref bCo, .int jpc, .int jst, .int jln, .int jwa, .int jsn, .int jwk, .int jen, .ref bFr, .ref bSi, .ref bTo, .ref bSp, .ref bDo, .ref bRi, .ref bNf, .int jwr, .ref bLd])), (bLo, .inl (jLo, 6, .inl wLo)), (bS6, .inl (jS6, 6, .inl wS6)), (bS7, .inl (jS7, 6, .inl wS7))] s.heap := hP
  have hl := lv_entry ([.ref bO, .int ik, .int iv]) (n := 3) (Nat.le_of_ble_eq_true rfl)
  rw [lg_entry_eq]
  generalize (lg_sl ([.ref bO, .int ik, .int iv]) ++ List.replicate (3 - (lg_sl ([.ref bO, .int ik, .int iv])).length) Slot.unset).toArray = ls at hl ⊢
  have hl : lv_has ls 3 [(0, .ref bO), (1, .int ik), (2, .int iv)] := hl
  refine lv_iload_n hx hb dX3_put_0 rfl (lv_at hl 1 rfl) ?_
  refine lv_bipush (v := 6) hx hb dX3_put_1 (by decide) ?_
  refine lv_icmp_ge (tgt := 16) hx hb dX3_put_3 (by decide) (fun h3 => ?_) (fun h3 => ?_)
  · refine lv_iload_n hx hb dX3_put_16 rfl (lv_at hl 1 rfl) ?_
    refine lv_bipush (v := 6) hx hb dX3_put_17 (by decide) ?_
    refine lv_icmp_ne (tgt := 35) hx hb dX3_put_19 (by decide) (fun h19 => ?_) (fun h19 => ?_)
    · refine lv_aload_n hx hb dX3_put_35 rfl (lv_at hl 0 rfl) ?_
      refine va_get (D := (dC, dI)) (ci := 3) (v := .ref bS7) (C := RX3) (T := TX3) (N := 23) hx hb htb inX3 hown hK hP 0 rfl rfl 4 (by decide) (htb _ m2_90) (fun _ h9 => h9) rfl dX3_put_36 ?_
      refine lv_aload_n hx hb dX3_put_39 rfl (lv_at hl 0 rfl) ?_
      have hPc := hP.sub (ws' := [(bO, .inr (3, [.int jbu, .ref bM, .ref bLo, .ref bS6, .ref bS7, .ref bKe, .ref bCo, .int jpc, .int jst, .int jln, .int jwa, .int jsn, .int jwk, .int jen, .ref bFr, .ref bSi, .ref bTo, .ref bSp, .ref bDo, .ref bRi, .ref bNf, .int jwr, .ref bLd]))]) [0] rfl
      have hKc := hK.sub (tys' := []) [] rfl
      refine vp_callSi (W.runV (As := []) (rest := [.ref bS7]) ⟨hx, hb, hml, hown, htb⟩ (cM_mode l dC dI bO jbu bM bLo bS6 bS7 bKe bCo jpc jst jln jwa jsn jwk jen bFr bSi bTo bSp bDo bRi bNf jwr bLd) (cwV 0 htb (q_gV m2_180 m2_182 ms_29 m1_4 m2_183) rfl rfl rfl (by decide +kernel) ⟨Nat.le_of_ble_eq_true rfl, Nat.le_of_ble_eq_true rfl⟩) ⟨fun a U g mk q => by obtain ⟨q0, qP, qK⟩ := q; exact ⟨q0, qP, va_K.moved (u := U) (U := U.calling g mk a) (Vm.Alike.refl U.vm) qK⟩, va_recv (q0 := 0) hK hP (rfl : vwCl[3]? = some (RX3, TX3, 23)) rfl, fun U hU hW => ⟨rfl, by rw [hU]; exact hPc, va_K.moved hW.alike hKc⟩⟩ rfl rfl hl.1 rfl (lv_room (Nat.le_of_ble_eq_true rfl)) dX3_put_40 ⟨Nat.le_of_ble_eq_true rfl, Nat.le_of_ble_eq_true rfl⟩) (fun r40 p40 => ?_)
      try dsimp only at p40
      refine lv_iload_n hx hb dX3_put_43 rfl (lv_at hl 2 rfl) ?_
      refine va_iast hx hb hK hP hD hS 3 2 rfl rfl (by rw [p40]; exact bd_in hm5 (by decide) (by decide)) dX3_put_44 (fun H locs hP hD hS => ?_)
      have hP : va_P (dC, dI) vwCl [(bO, .inr (3, [.int jbu, .ref bM, .ref bLo, .ref bS6, .ref bS7, .ref bKe, .ref bCo, .int jpc, .int jst, .int jln, .int jwa, .int jsn, .int jwk, .int jen, .ref bFr, .ref bSi, .ref bTo, .ref bSp, .ref bDo, .ref bRi, .ref bNf, .int jwr, .ref bLd])), (bLo, .inl (jLo, 6, .inl wLo)), (bS6, .inl (jS6, 6, .inl wS6)), (bS7, .inl (jS7, 6, .inl (upd wS7 r40.toNatClampNeg iv)))] H := hP
      have hD : va_D A [(bO, .inr (3, [.int jbu, .ref bM, .ref bLo, .ref bS6, .ref bS7, .ref bKe, .ref bCo, .int jpc, .int jst, .int jln, .int jwa, .int jsn, .int jwk, .int jen, .ref bFr, .ref bSi, .ref bTo, .ref bSp, .ref bDo, .ref bRi, .ref bNf, .int jwr, .ref bLd])), (bLo, .inl (jLo, 6, .inl wLo)), (bS6, .inl (jS6, 6, .inl wS6)), (bS7, .inl (jS7, 6, .inl (upd wS7 r40.toNatClampNeg iv)))] := hD
      have hP9 := hP.sub (ws' := [(bO, .inr (3, [.int jbu, .ref bM, .ref bLo, .ref bS6, .ref bS7, .ref bKe, .ref bCo, .int jpc, .int jst, .int jln, .int jwa, .int jsn, .int jwk, .int jen, .ref bFr, .ref bSi, .ref bTo, .ref bSp, .ref bDo, .ref bRi, .ref bNf, .int jwr, .ref bLd])), (bLo, .inl (jLo, 6, .inl wLo)), (bS6, .inl (jS6, 6, .inl wS6)), (bS7, .inl (jS7, 6, .inl (upd wS7 r40.toNatClampNeg iv)))]) [0, 1, 2, 3] rfl
      have hD9 := hD.sub (ws' := [(bO, .inr (3, [.int jbu, .ref bM, .ref bLo, .ref bS6, .ref bS7, .ref bKe, .ref bCo, .int jpc, .int jst, .int jln, .int jwa, .int jsn, .int jwk, .int jen, .ref bFr, .ref bSi, .ref bTo, .ref bSp, .ref bDo, .ref bRi, .ref bNf, .int jwr, .ref bLd])), (bLo, .inl (jLo, 6, .inl wLo)), (bS6, .inl (jS6, 6, .inl wS6)), (bS7, .inl (jS7, 6, .inl (upd wS7 r40.toNatClampNeg iv)))]) [0, 1, 2, 3] (by decide) rfl
      have hK9 := hK.sub (tys' := [(jLo, .int), (jS6, .int), (jS7, .int)]) [0, 1, 2] rfl
      exact W.vret hx hb hr (fun t ht hW => ⟨⟨(wLo, wS6, upd wS7 r40.toNatClampNeg iv), rfl, by trivial, by rw [ht]; exact hP9, va_K.moved hW.alike hK9, hD9⟩, hS.F ht⟩) hS.2.2 dX3_put_45
    · refine lv_aload_n hx hb dX3_put_22 rfl (lv_at hl 0 rfl) ?_
      refine va_get (D := (dC, dI)) (ci := 3) (v := .ref bS6) (C := RX3) (T := TX3) (N := 23) hx hb htb inX3 hown hK hP 0 rfl rfl 3 (by decide) (htb _ m2_89) (fun _ h9 => h9) rfl dX3_put_23 ?_
      refine lv_aload_n hx hb dX3_put_26 rfl (lv_at hl 0 rfl) ?_
      have hPc := hP.sub (ws' := [(bO, .inr (3, [.int jbu, .ref bM, .ref bLo, .ref bS6, .ref bS7, .ref bKe, .ref bCo, .int jpc, .int jst, .int jln, .int jwa, .int jsn, .int jwk, .int jen, .ref bFr, .ref bSi, .ref bTo, .ref bSp, .ref bDo, .ref bRi, .ref bNf, .int jwr, .ref bLd]))]) [0] rfl
      have hKc := hK.sub (tys' := []) [] rfl
      refine vp_callSi (W.runV (As := []) (rest := [.ref bS6]) ⟨hx, hb, hml, hown, htb⟩ (cM_mode l dC dI bO jbu bM bLo bS6 bS7 bKe bCo jpc jst jln jwa jsn jwk jen bFr bSi bTo bSp bDo bRi bNf jwr bLd) (cwV 0 htb (q_gV m2_180 m2_182 ms_29 m1_4 m2_183) rfl rfl rfl (by decide +kernel) ⟨Nat.le_of_ble_eq_true rfl, Nat.le_of_ble_eq_true rfl⟩) ⟨fun a U g mk q => by obtain ⟨q0, qP, qK⟩ := q; exact ⟨q0, qP, va_K.moved (u := U) (U := U.calling g mk a) (Vm.Alike.refl U.vm) qK⟩, va_recv (q0 := 0) hK hP (rfl : vwCl[3]? = some (RX3, TX3, 23)) rfl, fun U hU hW => ⟨rfl, by rw [hU]; exact hPc, va_K.moved hW.alike hKc⟩⟩ rfl rfl hl.1 rfl (lv_room (Nat.le_of_ble_eq_true rfl)) dX3_put_27 ⟨Nat.le_of_ble_eq_true rfl, Nat.le_of_ble_eq_true rfl⟩) (fun r27 p27 => ?_)
      try dsimp only at p27
      refine lv_iload_n hx hb dX3_put_30 rfl (lv_at hl 2 rfl) ?_
      refine va_iast hx hb hK hP hD hS 2 1 rfl rfl (by rw [p27]; exact bd_in hm5 (by decide) (by decide)) dX3_put_31 (fun H locs hP hD hS => ?_)
      have hP : va_P (dC, dI) vwCl [(bO, .inr (3, [.int jbu, .ref bM, .ref bLo, .ref bS6, .ref bS7, .ref bKe, .ref bCo, .int jpc, .int jst, .int jln, .int jwa, .int jsn, .int jwk, .int jen, .ref bFr, .ref bSi, .ref bTo, .ref bSp, .ref bDo, .ref bRi, .ref bNf, .int jwr, .ref bLd])), (bLo, .inl (jLo, 6, .inl wLo)), (bS6, .inl (jS6, 6, .inl (upd wS6 r27.toNatClampNeg iv))), (bS7, .inl (jS7, 6, .inl wS7))] H := hP
      have hD : va_D A [(bO, .inr (3, [.int jbu, .ref bM, .ref bLo, .ref bS6, .ref bS7, .ref bKe, .ref bCo, .int jpc, .int jst, .int jln, .int jwa, .int jsn, .int jwk, .int jen, .ref bFr, .ref bSi, .ref bTo, .ref bSp, .ref bDo, .ref bRi, .ref bNf, .int jwr, .ref bLd])), (bLo, .inl (jLo, 6, .inl wLo)), (bS6, .inl (jS6, 6, .inl (upd wS6 r27.toNatClampNeg iv))), (bS7, .inl (jS7, 6, .inl wS7))] := hD
      refine lv_goto (tgt := 45) hx hb dX3_put_32 (by decide) ?_
      have hP9 := hP.sub (ws' := [(bO, .inr (3, [.int jbu, .ref bM, .ref bLo, .ref bS6, .ref bS7, .ref bKe, .ref bCo, .int jpc, .int jst, .int jln, .int jwa, .int jsn, .int jwk, .int jen, .ref bFr, .ref bSi, .ref bTo, .ref bSp, .ref bDo, .ref bRi, .ref bNf, .int jwr, .ref bLd])), (bLo, .inl (jLo, 6, .inl wLo)), (bS6, .inl (jS6, 6, .inl (upd wS6 r27.toNatClampNeg iv))), (bS7, .inl (jS7, 6, .inl wS7))]) [0, 1, 2, 3] rfl
      have hD9 := hD.sub (ws' := [(bO, .inr (3, [.int jbu, .ref bM, .ref bLo, .ref bS6, .ref bS7, .ref bKe, .ref bCo, .int jpc, .int jst, .int jln, .int jwa, .int jsn, .int jwk, .int jen, .ref bFr, .ref bSi, .ref bTo, .ref bSp, .ref bDo, .ref bRi, .ref bNf, .int jwr, .ref bLd])), (bLo, .inl (jLo, 6, .inl wLo)), (bS6, .inl (jS6, 6, .inl (upd wS6 r27.toNatClampNeg iv))), (bS7, .inl (jS7, 6, .inl wS7))]) [0, 1, 2, 3] (by decide) rfl
      have hK9 := hK.sub (tys' := [(jLo, .int), (jS6, .int), (jS7, .int)]) [0, 1, 2] rfl
      exact W.vret hx hb hr (fun t ht hW => ⟨⟨(wLo, upd wS6 r27.toNatClampNeg iv, wS7), rfl, by trivial, by rw [ht]; exact hP9, va_K.moved hW.alike hK9, hD9⟩, hS.F ht⟩) hS.2.2 dX3_put_45
  · refine lv_aload_n hx hb dX3_put_6 rfl (lv_at hl 0 rfl) ?_
    refine va_get (D := (dC, dI)) (ci := 3) (v := .ref bLo) (C := RX3) (T := TX3) (N := 23) hx hb htb inX3 hown hK hP 0 rfl rfl 2 (by decide) (htb _ m2_88) (fun _ h9 => h9) rfl dX3_put_7 ?_
    refine lv_iload_n hx hb dX3_put_10 rfl (lv_at hl 1 rfl) ?_
    refine lv_iload_n hx hb dX3_put_11 rfl (lv_at hl 2 rfl) ?_
    refine va_iast hx hb hK hP hD hS 1 0 rfl rfl (vp_in_iff.mpr ⟨hk7.1, by have := q_nge h3 (n := 6) (by decide); omega⟩) dX3_put_12 (fun H locs hP hD hS => ?_)
    have hP : va_P (dC, dI) vwCl [(bO, .inr (3, [.int jbu, .ref bM, .ref bLo, .ref bS6, .ref bS7, .ref bKe, .ref bCo, .int jpc, .int jst, .int jln, .int jwa, .int jsn, .int jwk, .int jen, .ref bFr, .ref bSi, .ref bTo, .ref bSp, .ref bDo, .ref bRi, .ref bNf, .int jwr, .ref bLd])), (bLo, .inl (jLo, 6, .inl (upd wLo ik.toNatClampNeg iv))), (bS6, .inl (jS6, 6, .inl wS6)), (bS7, .inl (jS7, 6, .inl wS7))] H := hP
    have hD : va_D A [(bO, .inr (3, [.int jbu, .ref bM, .ref bLo, .ref bS6, .ref bS7, .ref bKe, .ref bCo, .int jpc, .int jst, .int jln, .int jwa, .int jsn, .int jwk, .int jen, .ref bFr, .ref bSi, .ref bTo, .ref bSp, .ref bDo, .ref bRi, .ref bNf, .int jwr, .ref bLd])), (bLo, .inl (jLo, 6, .inl (upd wLo ik.toNatClampNeg iv))), (bS6, .inl (jS6, 6, .inl wS6)), (bS7, .inl (jS7, 6, .inl wS7))] := hD
    refine lv_goto (tgt := 45) hx hb dX3_put_13 (by decide) ?_
    have hP9 := hP.sub (ws' := [(bO, .inr (3, [.int jbu, .ref bM, .ref bLo, .ref bS6, .ref bS7, .ref bKe, .ref bCo, .int jpc, .int jst, .int jln, .int jwa, .int jsn, .int jwk, .int jen, .ref bFr, .ref bSi, .ref bTo, .ref bSp, .ref bDo, .ref bRi, .ref bNf, .int jwr, .ref bLd])), (bLo, .inl (jLo, 6, .inl (upd wLo ik.toNatClampNeg iv))), (bS6, .inl (jS6, 6, .inl wS6)), (bS7, .inl (jS7, 6, .inl wS7))]) [0, 1, 2, 3] rfl
    have hD9 := hD.sub (ws' := [(bO, .inr (3, [.int jbu, .ref bM, .ref bLo, .ref bS6, .ref bS7, .ref bKe, .ref bCo, .int jpc, .int jst, .int jln, .int jwa, .int jsn, .int jwk, .int jen, .ref bFr, .ref bSi, .ref bTo, .ref bSp, .ref bDo, .ref bRi, .ref bNf, .int jwr, .ref bLd])), (bLo, .inl (jLo, 6, .inl (upd wLo ik.toNatClampNeg iv))), (bS6, .inl (jS6, 6, .inl wS6)), (bS7, .inl (jS7, 6, .inl wS7))]) [0, 1, 2, 3] (by decide) rfl
    have hK9 := hK.sub (tys' := [(jLo, .int), (jS6, .int), (jS7, .int)]) [0, 1, 2] rfl
    exact W.vret hx hb hr (fun t ht hW => ⟨⟨(upd wLo ik.toNatClampNeg iv, wS6, wS7), rfl, by trivial, by rw [ht]; exact hP9, va_K.moved hW.alike hK9, hD9⟩, hS.F ht⟩) hS.2.2 dX3_put_45
end
section
set_option maxHeartbeats 4000000 in
set_option maxRecDepth 100000 in
theorem cM_poke (l : Launch) (dC : Nat → ClassId) (dI : Nat → Nat → Nat) (sz : Nat) (bO : Nat) (ipl : Int32) (iwd : Int32) (jbu : Int32) (bM : Nat) (bLo : Nat) (bS6 : Nat) (bS7 : Nat) (bKe : Nat) (bCo : Nat) (jpc : Int32) (jst : Int32) (jln : Int32) (jwa : Int32) (jsn : Int32) (jwk : Int32) (jen : Int32) (bFr : Nat) (bSi : Nat) (bTo : Nat) (bSp : Nat) (bDo : Nat) (bRi : Nat) (bNf : Nat) (jwr : Int32) (bLd : Nat) (jM : ClassId) (wM : Nat → Int32) : Met l yX3_poke wsX3_poke ({ frames := 1, cells := 0, slots := 0, locals := 20 }) (va_Pc [.ref bO, .int ipl, .int iwd] (fun U => U.heap.size = sz ∧ va_P (dC, dI) vwCl [(bO, .inr (3, [.int jbu, .ref bM, .ref bLo, .ref bS6, .ref bS7, .ref bKe, .ref bCo, .int jpc, .int jst, .int jln, .int jwa, .int jsn, .int jwk, .int jen, .ref bFr, .ref bSi, .ref bTo, .ref bSp, .ref bDo, .ref bRi, .ref bNf, .int jwr, .ref bLd])), (bM, .inl (jM, 512, .inl wM))] U.heap ∧ va_K (dC, dI) vwCl [(jM, .int)] U ∧ va_D (fun _ => True) [(bO, .inr (3, [.int jbu, .ref bM, .ref bLo, .ref bS6, .ref bS7, .ref bKe, .ref bCo, .int jpc, .int jst, .int jln, .int jwa, .int jsn, .int jwk, .int jen, .ref bFr, .ref bSi, .ref bTo, .ref bSp, .ref bDo, .ref bRi, .ref bNf, .int jwr, .ref bLd])), (bM, .inl (jM, 512, .inl wM))])) (va_Qi (fun (r : Int32) (u : (Nat → Int32)) => r = 0 ∨ ∃ i : Nat, r = wM i) (fun (u : (Nat → Int32)) (t : State) => va_P (dC, dI) vwCl [(bO, .inr (3, [.int jbu, .ref bM, .ref bLo, .ref bS6, .ref bS7, .ref bKe, .ref bCo, .int jpc, .int jst, .int jln, .int jwa, .int jsn, .int jwk, .int jen, .ref bFr, .ref bSi, .ref bTo, .ref bSp, .ref bDo, .ref bRi, .ref bNf, .int jwr, .ref bLd])), (bM, .inl (jM, 512, .inl u))] t.heap ∧ va_K (dC, dI) vwCl [(jM, .int)] t ∧ va_D (va_A [(bO, .inr (3, [.int jbu, .ref bM, .ref bLo, .ref bS6, .ref bS7, .ref bKe, .ref bCo, .int jpc, .int jst, .int jln, .int jwa, .int jsn, .int jwk, .int jen, .ref bFr, .ref bSi, .ref bTo, .ref bSp, .ref bDo, .ref bRi, .ref bNf, .int jwr, .ref bLd])), (bM, .inl (jM, 512, .inl wM))] sz) [(bO, .inr (3, [.int jbu, .ref bM, .ref bLo, .ref bS6, .ref bS7, .ref bKe, .ref bCo, .int jpc, .int jst, .int jln, .int jwa, .int jsn, .int jwk, .int jen, .ref bFr, .ref bSi, .ref bTo, .ref bSp, .ref bDo, .ref bRi, .ref bNf, .int jwr, .ref bLd])), (bM, .inl (jM, 512, .inl u))]) (va_A [(bO, .inr (3, [.int jbu, .ref bM, .ref bLo, .ref bS6, .ref bS7, .ref bKe, .ref bCo, .int jpc, .int jst, .int jln, .int jwa, .int jsn, .int jwk, .int jen, .ref bFr, .ref bSi, .ref bTo, .ref bSp, .ref bDo, .ref bRi, .ref bNf, .int jwr, .ref bLd])), (bM, .inl (jM, 512, .inl wM))] sz)) 0 0 (va_A [(bO, .inr (3, [.int jbu, .ref bM, .ref bLo, .ref bS6, .ref bS7, .ref bKe, .ref bCo, .int jpc, .int jst, .int jln, .int jwa, .int jsn, .int jwk, .int jen, .ref bFr, .ref bSi, .ref bTo, .ref bSp, .ref bDo, .ref bRi, .ref bNf, .int jwr, .ref bLd])), (bM, .inl (jM, 512, .inl wM))] sz) := by
  refine Met.ofW (cc := cX3_poke) (maxL := 4) (ret := (some .int)) (by decide) rfl ?_
  intro p e s m args below meth c s₁ B hml hv
  obtain ⟨rfl, hsz, hP, hK, hD0⟩ := hv
  have hx := B.exec
  have hb := B.bytes
  have hr := B.returns
  have hts := atoms_spec (ws := wsX3_poke) B.pre
  have htb : ∀ w ∈ qT, w.before _ s = true := fun w h => hts w (List.mem_cons_of_mem _ h)
  have hown : s.vm.findClass RX3 = some m.cls := findClass_of_methodNamed B.named
  have hlocks := B.notSynchronized
  subst hsz
  have hD := hD0.self (sz := s.heap.size)
  generalize hAe : va_A [(bO, .inr (3, [.int jbu, .ref bM, .ref bLo, .ref bS6, .ref bS7, .ref bKe, .ref bCo, .int jpc, .int jst, .int jln, .int jwa, .int jsn, .int jwk, .int jen, .ref bFr, .ref bSi, .ref bTo, .ref bSp, .ref bDo, .ref bRi, .ref bNf, .int jwr, .ref bLd])), (bM, .inl (jM, 512, .inl wM))] s.heap.size = A at hD ⊢
  have hA : ∀ q : Nat, s.heap.size ≤ q → A q := fun q h => by rw [← hAe]; exact Or.inr h
  have hS : va_S A s.heap s.heap [] := va_S.rf
  have hP : va_P (dC, dI) vwCl [(bO, .inr (3, [.int jbu, .ref bM, .ref bLo, .ref bS6, .ref bS7, .ref bKe, .ref bCo, .int jpc, .int jst, .int jln, .int jwa, .int jsn, .int jwk, .int jen, .ref bFr, .ref bSi, .ref bTo, .ref bSp, .ref bDo, .ref bRi, .ref bNf, .int jwr, .ref bLd])), (bM, .inl (jM, 512, .inl wM))] s.heap := hP
  have hl := lv_entry ([.ref bO, .int ipl, .int iwd]) (n := 4) (Nat.le_of_ble_eq_true rfl)
  rw [lg_entry_eq]
  generalize (lg_sl ([.ref bO, .int ipl, .int iwd]) ++ List.replicate (4 - (lg_sl ([.ref bO, .int ipl, .int iwd])).length) Slot.unset).toArray = ls at hl ⊢
  have hl : lv_has ls 4 [(0, .ref bO), (1, .int ipl), (2, .int iwd)] := hl
  refine lv_iload_n hx hb dX3_poke_0 rfl (lv_at hl 1 rfl) ?_
  refine vp_callSi (W.runS (As := [.int ipl]) (rest := []) ⟨hx, hb, hml, hown, htb⟩ (cM_isPlace l ipl) (va_cwS 1 htb (q_gS m2_160 m2_161 m1_4 m2_162) rfl rfl rfl (by decide +kernel) ⟨Nat.le_of_ble_eq_true rfl, Nat.le_of_ble_eq_true rfl⟩) ⟨fun _ _ _ _ q => q, fun U hU hW => ⟨rfl, trivial⟩⟩ rfl rfl hl.1 rfl (lv_room (Nat.le_of_ble_eq_true rfl)) dX3_poke_1 ⟨Nat.le_of_ble_eq_true rfl, Nat.le_of_ble_eq_true rfl⟩) (fun r1 p1 => ?_)
  try dsimp only at p1
  refine lv_if_ne (tgt := 9) hx hb dX3_poke_4 (by decide) (fun h4 => ?_) (fun h4 => ?_)
  · refine lv_aload_n hx hb dX3_poke_9 rfl (lv_at hl 0 rfl) ?_
    refine va_get (D := (dC, dI)) (ci := 3) (v := .ref bM) (C := RX3) (T := TX3) (N := 23) hx hb htb inX3 hown hK hP 0 rfl rfl 1 (by decide) (htb _ m2_87) (fun _ h9 => h9) rfl dX3_poke_10 ?_
    refine lv_iload_n hx hb dX3_poke_13 rfl (lv_at hl 1 rfl) ?_
    refine va_iald hx hb hK hP 1 0 rfl rfl (q_place p1 h4) dX3_poke_14 ?_
    refine lv_topi (fun v14 e14 => ?_)
    refine lv_istore_n (lv' := [(3, .int v14), (0, .ref bO), (1, .int ipl), (2, .int iwd)]) hx hb dX3_poke_15 rfl hl (by decide) rfl (fun ls hl => ?_)
    refine lv_aload_n hx hb dX3_poke_16 rfl (lv_at hl 1 rfl) ?_
    refine va_get (D := (dC, dI)) (ci := 3) (v := .ref bM) (C := RX3) (T := TX3) (N := 23) hx hb htb inX3 hown hK hP 0 rfl rfl 1 (by decide) (htb _ m2_87) (fun _ h9 => h9) rfl dX3_poke_17 ?_
    refine lv_iload_n hx hb dX3_poke_20 rfl (lv_at hl 2 rfl) ?_
    refine lv_iload_n hx hb dX3_poke_21 rfl (lv_at hl 3 rfl) ?_
    refine va_iast hx hb hK hP hD hS 1 0 rfl rfl (q_place p1 h4) dX3_poke_22 (fun H locs hP hD hS => ?_)
    have hP : va_P (dC, dI) vwCl [(bO, .inr (3, [.int jbu, .ref bM, .ref bLo, .ref bS6, .ref bS7, .ref bKe, .ref bCo, .int jpc, .int jst, .int jln, .int jwa, .int jsn, .int jwk, .int jen, .ref bFr, .ref bSi, .ref bTo, .ref bSp, .ref bDo, .ref bRi, .ref bNf, .int jwr, .ref bLd])), (bM, .inl (jM, 512, .inl (upd wM ipl.toNatClampNeg iwd)))] H := hP
    have hD : va_D A [(bO, .inr (3, [.int jbu, .ref bM, .ref bLo, .ref bS6, .ref bS7, .ref bKe, .ref bCo, .int jpc, .int jst, .int jln, .int jwa, .int jsn, .int jwk, .int jen, .ref bFr, .ref bSi, .ref bTo, .ref bSp, .ref bDo, .ref bRi, .ref bNf, .int jwr, .ref bLd])), (bM, .inl (jM, 512, .inl (upd wM ipl.toNatClampNeg iwd)))] := hD
    refine lv_iload_n hx hb dX3_poke_23 rfl (lv_at hl 0 rfl) ?_
    have hP9 := hP.sub (ws' := [(bO, .inr (3, [.int jbu, .ref bM, .ref bLo, .ref bS6, .ref bS7, .ref bKe, .ref bCo, .int jpc, .int jst, .int jln, .int jwa, .int jsn, .int jwk, .int jen, .ref bFr, .ref bSi, .ref bTo, .ref bSp, .ref bDo, .ref bRi, .ref bNf, .int jwr, .ref bLd])), (bM, .inl (jM, 512, .inl (upd wM ipl.toNatClampNeg iwd)))]) [0, 1] rfl
    have hD9 := hD.sub (ws' := [(bO, .inr (3, [.int jbu, .ref bM, .ref bLo, .ref bS6, .ref bS7, .ref bKe, .ref bCo, .int jpc, .int jst, .int jln, .int jwa, .int jsn, .int jwk, .int jen, .ref bFr, .ref bSi, .ref bTo, .ref bSp, .ref bDo, .ref bRi, .ref bNf, .int jwr, .ref bLd])), (bM, .inl (jM, 512, .inl (upd wM ipl.toNatClampNeg iwd)))]) [0, 1] (by decide) rfl
    have hK9 := hK.sub (tys' := [(jM, .int)]) [0] rfl
    exact W.iret (v := v14) hx hb hr (fun t ht hW => ⟨⟨v14, (upd wM ipl.toNatClampNeg iwd), rfl, (Or.inr ⟨_, e14⟩), by rw [ht]; exact hP9, va_K.moved hW.alike hK9, hD9⟩, hS.F ht⟩) hS.2.2 dX3_poke_24
  · refine lv_iconst (v := 0) hx hb dX3_poke_7 (by decide) ?_
    have hP9 := hP.sub (ws' := [(bO, .inr (3, [.int jbu, .ref bM, .ref bLo, .ref bS6, .ref bS7, .ref bKe, .ref bCo, .int jpc, .int jst, .int jln, .int jwa, .int jsn, .int jwk, .int jen, .ref bFr, .ref bSi, .ref bTo, .ref bSp, .ref bDo, .ref bRi, .ref bNf, .int jwr, .ref bLd])), (bM, .inl (jM, 512, .inl wM))]) [0, 1] rfl
    have hD9 := hD.sub (ws' := [(bO, .inr (3, [.int jbu, .ref bM, .ref bLo, .ref bS6, .ref bS7, .ref bKe, .ref bCo, .int jpc, .int jst, .int jln, .int jwa, .int jsn, .int jwk, .int jen, .ref bFr, .ref bSi, .ref bTo, .ref bSp, .ref bDo, .ref bRi, .ref bNf, .int jwr, .ref bLd])), (bM, .inl (jM, 512, .inl wM))]) [0, 1] (by decide) rfl
    have hK9 := hK.sub (tys' := [(jM, .int)]) [0] rfl
    exact W.iret (v := 0) hx hb hr (fun t ht hW => ⟨⟨0, (wM), rfl, (Or.inl rfl), by rw [ht]; exact hP9, va_K.moved hW.alike hK9, hD9⟩, hS.F ht⟩) hS.2.2 dX3_poke_8
end
section
set_option maxHeartbeats 4000000 in
set_option maxRecDepth 100000 in
theorem cM_fill (l : Launch) (dC : Nat → ClassId) (dI : Nat → Nat → Nat) (sz : Nat) (bO : Nat) (ipl : Int32) (xlo : Int64) (xhi : Int64) (jbu : Int32) (bM : Nat) (bLo : Nat) (bS6 : Nat) (bS7 : Nat) (bKe : Nat) (bCo : Nat) (jpc : Int32) (jst : Int32) (jln : Int32) (jwa : Int32) (jsn : Int32) (jwk : Int32) (jen : Int32) (bFr : Nat) (bSi : Nat) (bTo : Nat) (bSp : Nat) (bDo : Nat) (bRi : Nat) (bNf : Nat) (jwr : Int32) (bLd : Nat) (jM : ClassId) (wM : Nat → Int32) : Met l yX3_fill wsX3_fill ({ frames := 0, cells := 0, slots := 0, locals := 0 }) (va_Pc [.ref bO, .int ipl, .long xlo, .long xhi] (fun U => U.heap.size = sz ∧ va_P (dC, dI) vwCl [(bO, .inr (3, [.int jbu, .ref bM, .ref bLo, .ref bS6, .ref bS7, .ref bKe, .ref bCo, .int jpc, .int jst, .int jln, .int jwa, .int jsn, .int jwk, .int jen, .ref bFr, .ref bSi, .ref bTo, .ref bSp, .ref bDo, .ref bRi, .ref bNf, .int jwr, .ref bLd])), (bM, .inl (jM, 512, .inl wM))] U.heap ∧ va_K (dC, dI) vwCl [(jM, .int)] U ∧ va_D (fun _ => True) [(bO, .inr (3, [.int jbu, .ref bM, .ref bLo, .ref bS6, .ref bS7, .ref bKe, .ref bCo, .int jpc, .int jst, .int jln, .int jwa, .int jsn, .int jwk, .int jen, .ref bFr, .ref bSi, .ref bTo, .ref bSp, .ref bDo, .ref bRi, .ref bNf, .int jwr, .ref bLd])), (bM, .inl (jM, 512, .inl wM))])) (va_Qi (fun (r : Int32) (u : (Nat → Int32)) => r = qFill ipl) (fun (u : (Nat → Int32)) (t : State) => va_P (dC, dI) vwCl [(bO, .inr (3, [.int jbu, .ref bM, .ref bLo, .ref bS6, .ref bS7, .ref bKe, .ref bCo, .int jpc, .int jst, .int jln, .int jwa, .int jsn, .int jwk, .int jen, .ref bFr, .ref bSi, .ref bTo, .ref bSp, .ref bDo, .ref bRi, .ref bNf, .int jwr, .ref bLd])), (bM, .inl (jM, 512, .inl u))] t.heap ∧ va_K (dC, dI) vwCl [(jM, .int)] t ∧ va_D (va_A [(bO, .inr (3, [.int jbu, .ref bM, .ref bLo, .ref bS6, .ref bS7, .ref bKe, .ref bCo, .int jpc, .int jst, .int jln, .int jwa, .int jsn, .int jwk, .int jen, .ref bFr, .ref bSi, .ref bTo, .ref bSp, .ref bDo, .ref bRi, .ref bNf, .int jwr, .ref bLd])), (bM, .inl (jM, 512, .inl wM))] sz) [(bO, .inr (3, [.int jbu, .ref bM, .ref bLo, .ref bS6, .ref bS7, .ref bKe, .ref bCo, .int jpc, .int jst, .int jln, .int jwa, .int jsn, .int jwk, .int jen, .ref bFr, .ref bSi, .ref bTo, .ref bSp, .ref bDo, .ref bRi, .ref bNf, .int jwr, .ref bLd])), (bM, .inl (jM, 512, .inl u))]) (va_A [(bO, .inr (3, [.int jbu, .ref bM, .ref bLo, .ref bS6, .ref bS7, .ref bKe, .ref bCo, .int jpc, .int jst, .int jln, .int jwa, .int jsn, .int jwk, .int jen, .ref bFr, .ref bSi, .ref bTo, .ref bSp, .ref bDo, .ref bRi, .ref bNf, .int jwr, .ref bLd])), (bM, .inl (jM, 512, .inl wM))] sz)) 0 0 (va_A [(bO, .inr (3, [.int jbu, .ref bM, .ref bLo, .ref bS6, .ref bS7, .ref bKe, .ref bCo, .int jpc, .int jst, .int jln, .int jwa, .int jsn, .int jwk, .int jen, .ref bFr, .ref bSi, .ref bTo, .ref bSp, .ref bDo, .ref bRi, .ref bNf, .int jwr, .ref bLd])), (bM, .inl (jM, 512, .inl wM))] sz) := by
  refine Met.ofW (cc := cX3_fill) (maxL := 7) (ret := (some .boolean)) (by decide) rfl ?_
  intro p e s m args below meth c s₁ B hml hv
  obtain ⟨rfl, hsz, hP, hK, hD0⟩ := hv
  have hx := B.exec
  have hb := B.bytes
  have hr := B.returns
  have hts := atoms_spec (ws := wsX3_fill) B.pre
  have htb : ∀ w ∈ qT, w.before _ s = true := fun w h => hts w (List.mem_cons_of_mem _ h)
  have hown : s.vm.findClass RX3 = some m.cls := findClass_of_methodNamed B.named
  have hlocks := B.notSynchronized
  subst hsz
  have hD := hD0.self (sz := s.heap.size)
  generalize hAe : va_A [(bO, .inr (3, [.int jbu, .ref bM, .ref bLo, .ref bS6, .ref bS7, .ref bKe, .ref bCo, .int jpc, .int jst, .int jln, .int jwa, .int jsn, .int jwk, .int jen, .ref bFr, .ref bSi, .ref bTo, .ref bSp, .ref bDo, .ref bRi, .ref bNf, .int jwr, .ref bLd])), (bM, .inl (jM, 512, .inl wM))] s.heap.size = A at hD ⊢
  have hA : ∀ q : Nat, s.heap.size ≤ q → A q := fun q h => by rw [← hAe]; exact Or.inr h
  have hS : va_S A s.heap s.heap [] := va_S.rf
  have hP : va_P (dC, dI) vwCl [(bO, .inr (3, [.int jbu, .ref bM, .ref bLo, .ref bS6, .ref bS7, .ref bKe, .ref bCo, .int jpc, .int jst, .int jln, .int jwa, .int jsn, .int jwk, .int jen, .ref bFr, .ref bSi, .ref bTo, .ref bSp, .ref bDo, .ref bRi, .ref bNf, .int jwr, .ref bLd])), (bM, .inl (jM, 512, .inl wM))] s.heap := hP
  have hl := lv_entry ([.ref bO, .int ipl, .long xlo, .long xhi]) (n := 7) (Nat.le_of_ble_eq_true rfl)
  rw [lg_entry_eq]
  generalize (lg_sl ([.ref bO, .int ipl, .long xlo, .long xhi]) ++ List.replicate (7 - (lg_sl ([.ref bO, .int ipl, .long xlo, .long xhi])).length) Slot.unset).toArray = ls at hl ⊢
  have hl : lv_has ls 7 [(0, .ref bO), (1, .int ipl), (2, .long xlo), (4, .long xhi)] := hl
  refine lv_iload_n hx hb dX3_fill_0 rfl (lv_at hl 1 rfl) ?_
  refine lv_if_lt (tgt := 11) hx hb dX3_fill_1 (by decide) (fun h1 => ?_) (fun h1 => ?_)
  · refine lv_iconst (v := 0) hx hb dX3_fill_11 (by decide) ?_
    have hP9 := hP.sub (ws' := [(bO, .inr (3, [.int jbu, .ref bM, .ref bLo, .ref bS6, .ref bS7, .ref bKe, .ref bCo, .int jpc, .int jst, .int jln, .int jwa, .int jsn, .int jwk, .int jen, .ref bFr, .ref bSi, .ref bTo, .ref bSp, .ref bDo, .ref bRi, .ref bNf, .int jwr, .ref bLd])), (bM, .inl (jM, 512, .inl wM))]) [0, 1] rfl
    have hD9 := hD.sub (ws' := [(bO, .inr (3, [.int jbu, .ref bM, .ref bLo, .ref bS6, .ref bS7, .ref bKe, .ref bCo, .int jpc, .int jst, .int jln, .int jwa, .int jsn, .int jwk, .int jen, .ref bFr, .ref bSi, .ref bTo, .ref bSp, .ref bDo, .ref bRi, .ref bNf, .int jwr, .ref bLd])), (bM, .inl (jM, 512, .inl wM))]) [0, 1] (by decide) rfl
    have hK9 := hK.sub (tys' := [(jM, .int)]) [0] rfl
    exact W.zret (ty := .boolean) (v := 0) hx hb hr (by first | rfl | decide +kernel) (fun t ht hW => ⟨⟨0, (wM), rfl, (by unfold qFill; rw [if_neg (by intro q; first | exact absurd (q_lt h1 (n := 0) (by decide)) (by omega) | exact absurd (q_nle h8 (n := 508) (by decide)) (by omega))]), by rw [ht]; exact hP9, va_K.moved hW.alike hK9, hD9⟩, hS.F ht⟩) hS.2.2 dX3_fill_12
  · refine lv_iload_n hx hb dX3_fill_4 rfl (lv_at hl 1 rfl) ?_
    refine lv_sipush (v := 508) hx hb dX3_fill_5 (by decide) ?_
    refine lv_icmp_le (tgt := 13) hx hb dX3_fill_8 (by decide) (fun h8 => ?_) (fun h8 => ?_)
    · refine lv_iconst (v := 0) hx hb dX3_fill_13 (by decide) ?_
      refine lv_istore (lv' := [(6, .int 0), (0, .ref bO), (1, .int ipl), (2, .long xlo), (4, .long xhi)]) hx hb dX3_fill_14 hl (by decide) rfl (fun ls hl => ?_)
      refine lv_iload hx hb dX3_fill_16 (lv_at hl 0 rfl) ?_
      refine lv_iconst (v := 4) hx hb dX3_fill_18 (by decide) ?_
      refine lv_icmp_ge (tgt := 66) hx hb dX3_fill_19 (by decide) (fun h19 => ?_) (fun h19 => ?_)
      · exact absurd h19 (by decide)
      · refine lv_aload_n hx hb dX3_fill_22 rfl (lv_at hl 1 rfl) ?_
        refine va_get (D := (dC, dI)) (ci := 3) (v := .ref bM) (C := RX3) (T := TX3) (N := 23) hx hb htb inX3 hown hK hP 0 rfl rfl 1 (by decide) (htb _ m2_87) (fun _ h9 => h9) rfl dX3_fill_23 ?_
        refine lv_iload_n hx hb dX3_fill_26 rfl (lv_at hl 2 rfl) ?_
        refine lv_iload hx hb dX3_fill_27 (lv_at hl 0 rfl) ?_
        refine lv_iadd hx hb dX3_fill_29 ?_
        refine lv_topi (fun v29 e29 => ?_)
        refine lv_lload_n hx hb dX3_fill_30 rfl (lv_at hl 3 rfl) ?_
        refine lv_bipush (v := 16) hx hb dX3_fill_31 (by decide) ?_
        refine lv_iload hx hb dX3_fill_33 (lv_at hl 0 rfl) ?_
        refine lv_imul hx hb dX3_fill_35 ?_
        refine q_casti (y := 0) (by decide) ?_
        refine lv_lshr hx hb dX3_fill_36 rfl ?_
        refine lv_topl (fun v36 e36 => ?_)
        refine lv_ldc2 (v := 65535) hx hb hown (htb _ m2_167) dX3_fill_37 ?_
        refine lv_land hx hb dX3_fill_40 ?_
        refine lv_topl (fun v40 e40 => ?_)
        refine lv_l2i hx hb dX3_fill_41 rfl ?_
        refine lv_topi (fun v41 e41 => ?_)
        refine lv_lload hx hb dX3_fill_42 (lv_at hl 4 rfl) ?_
        refine lv_bipush (v := 16) hx hb dX3_fill_44 (by decide) ?_
        refine lv_iload hx hb dX3_fill_46 (lv_at hl 0 rfl) ?_
        refine lv_imul hx hb dX3_fill_48 ?_
        refine q_casti (y := 0) (by decide) ?_
        refine lv_lshr hx hb dX3_fill_49 rfl ?_
        refine lv_topl (fun v49 e49 => ?_)
        refine lv_ldc2 (v := 65535) hx hb hown (htb _ m2_167) dX3_fill_50 ?_
        refine lv_land hx hb dX3_fill_53 ?_
        refine lv_topl (fun v53 e53 => ?_)
        refine lv_l2i hx hb dX3_fill_54 rfl ?_
        refine lv_topi (fun v54 e54 => ?_)
        refine lv_bipush (v := 16) hx hb dX3_fill_55 (by decide) ?_
        refine lv_ishl hx hb dX3_fill_57 ?_
        refine lv_topi (fun v57 e57 => ?_)
        refine lv_ior hx hb dX3_fill_58 ?_
        refine lv_topi (fun v58 e58 => ?_)
        refine va_iast hx hb hK hP hD hS 1 0 rfl rfl (by rw [e29]; exact bd_in (bd_add (a := 0) (b := 508) (c := 0) (d := 0) ⟨q_nlt h1 (by decide), q_le h8 (by decide)⟩ (bd_lit (by decide)) (by decide) (by decide)) (by decide) (by decide)) dX3_fill_59 (fun H locs hP hD hS => ?_)
        have hP : va_P (dC, dI) vwCl [(bO, .inr (3, [.int jbu, .ref bM, .ref bLo, .ref bS6, .ref bS7, .ref bKe, .ref bCo, .int jpc, .int jst, .int jln, .int jwa, .int jsn, .int jwk, .int jen, .ref bFr, .ref bSi, .ref bTo, .ref bSp, .ref bDo, .ref bRi, .ref bNf, .int jwr, .ref bLd])), (bM, .inl (jM, 512, .inl (upd wM v29.toNatClampNeg v58)))] H := hP
        have hD : va_D A [(bO, .inr (3, [.int jbu, .ref bM, .ref bLo, .ref bS6, .ref bS7, .ref bKe, .ref bCo, .int jpc, .int jst, .int jln, .int jwa, .int jsn, .int jwk, .int jen, .ref bFr, .ref bSi, .ref bTo, .ref bSp, .ref bDo, .ref bRi, .ref bNf, .int jwr, .ref bLd])), (bM, .inl (jM, 512, .inl (upd wM v29.toNatClampNeg v58)))] := hD
        refine lv_iinc (k := 0) (v := 1) (lv' := [(6, .int 1), (0, .ref bO), (1, .int ipl), (2, .long xlo), (4, .long xhi)]) hx hb dX3_fill_60 hl rfl (by decide) (by decide) rfl (fun ls hl => ?_)
        refine lv_goto (tgt := 16) hx hb dX3_fill_63 (by decide) ?_
        refine lv_iload hx hb dX3_fill_16 (lv_at hl 0 rfl) ?_
        refine lv_iconst (v := 4) hx hb dX3_fill_18 (by decide) ?_
        refine lv_icmp_ge (tgt := 66) hx hb dX3_fill_19 (by decide) (fun h19_2 => ?_) (fun h19_2 => ?_)
        · exact absurd h19_2 (by decide)
        · refine lv_aload_n hx hb dX3_fill_22 rfl (lv_at hl 1 rfl) ?_
          refine va_get (D := (dC, dI)) (ci := 3) (v := .ref bM) (C := RX3) (T := TX3) (N := 23) hx hb htb inX3 hown hK hP 0 rfl rfl 1 (by decide) (htb _ m2_87) (fun _ h9 => h9) rfl dX3_fill_23 ?_
          refine lv_iload_n hx hb dX3_fill_26 rfl (lv_at hl 2 rfl) ?_
          refine lv_iload hx hb dX3_fill_27 (lv_at hl 0 rfl) ?_
          refine lv_iadd hx hb dX3_fill_29 ?_
          refine lv_topi (fun v29_2 e29_2 => ?_)
          refine lv_lload_n hx hb dX3_fill_30 rfl (lv_at hl 3 rfl) ?_
          refine lv_bipush (v := 16) hx hb dX3_fill_31 (by decide) ?_
          refine lv_iload hx hb dX3_fill_33 (lv_at hl 0 rfl) ?_
          refine lv_imul hx hb dX3_fill_35 ?_
          refine q_casti (y := 16) (by decide) ?_
          refine lv_lshr hx hb dX3_fill_36 rfl ?_
          refine lv_topl (fun v36_2 e36_2 => ?_)
          refine lv_ldc2 (v := 65535) hx hb hown (htb _ m2_167) dX3_fill_37 ?_
          refine lv_land hx hb dX3_fill_40 ?_
          refine lv_topl (fun v40_2 e40_2 => ?_)
          refine lv_l2i hx hb dX3_fill_41 rfl ?_
          refine lv_topi (fun v41_2 e41_2 => ?_)
          refine lv_lload hx hb dX3_fill_42 (lv_at hl 4 rfl) ?_
          refine lv_bipush (v := 16) hx hb dX3_fill_44 (by decide) ?_
          refine lv_iload hx hb dX3_fill_46 (lv_at hl 0 rfl) ?_
          refine lv_imul hx hb dX3_fill_48 ?_
          refine q_casti (y := 16) (by decide) ?_
          refine lv_lshr hx hb dX3_fill_49 rfl ?_
          refine lv_topl (fun v49_2 e49_2 => ?_)
          refine lv_ldc2 (v := 65535) hx hb hown (htb _ m2_167) dX3_fill_50 ?_
          refine lv_land hx hb dX3_fill_53 ?_
          refine lv_topl (fun v53_2 e53_2 => ?_)
          refine lv_l2i hx hb dX3_fill_54 rfl ?_
          refine lv_topi (fun v54_2 e54_2 => ?_)
          refine lv_bipush (v := 16) hx hb dX3_fill_55 (by decide) ?_
          refine lv_ishl hx hb dX3_fill_57 ?_
          refine lv_topi (fun v57_2 e57_2 => ?_)
          refine lv_ior hx hb dX3_fill_58 ?_
          refine lv_topi (fun v58_2 e58_2 => ?_)
          refine va_iast hx hb hK hP hD hS 1 0 rfl rfl (by rw [e29_2]; exact bd_in (bd_add (a := 0) (b := 508) (c := 1) (d := 1) ⟨q_nlt h1 (by decide), q_le h8 (by decide)⟩ (bd_lit (by decide)) (by decide) (by decide)) (by decide) (by decide)) dX3_fill_59 (fun H locs hP hD hS => ?_)
          have hP : va_P (dC, dI) vwCl [(bO, .inr (3, [.int jbu, .ref bM, .ref bLo, .ref bS6, .ref bS7, .ref bKe, .ref bCo, .int jpc, .int jst, .int jln, .int jwa, .int jsn, .int jwk, .int jen, .ref bFr, .ref bSi, .ref bTo, .ref bSp, .ref bDo, .ref bRi, .ref bNf, .int jwr, .ref bLd])), (bM, .inl (jM, 512, .inl (upd (upd wM v29.toNatClampNeg v58) v29_2.toNatClampNeg v58_2)))] H := hP
          have hD : va_D A [(bO, .inr (3, [.int jbu, .ref bM, .ref bLo, .ref bS6, .ref bS7, .ref bKe, .ref bCo, .int jpc, .int jst, .int jln, .int jwa, .int jsn, .int jwk, .int jen, .ref bFr, .ref bSi, .ref bTo, .ref bSp, .ref bDo, .ref bRi, .ref bNf, .int jwr, .ref bLd])), (bM, .inl (jM, 512, .inl (upd (upd wM v29.toNatClampNeg v58) v29_2.toNatClampNeg v58_2)))] := hD
          refine lv_iinc (k := 0) (v := 2) (lv' := [(6, .int 2), (0, .ref bO), (1, .int ipl), (2, .long xlo), (4, .long xhi)]) hx hb dX3_fill_60 hl rfl (by decide) (by decide) rfl (fun ls hl => ?_)
          refine lv_goto (tgt := 16) hx hb dX3_fill_63 (by decide) ?_
          refine lv_iload hx hb dX3_fill_16 (lv_at hl 0 rfl) ?_
          refine lv_iconst (v := 4) hx hb dX3_fill_18 (by decide) ?_
          refine lv_icmp_ge (tgt := 66) hx hb dX3_fill_19 (by decide) (fun h19_3 => ?_) (fun h19_3 => ?_)
          · exact absurd h19_3 (by decide)
          · refine lv_aload_n hx hb dX3_fill_22 rfl (lv_at hl 1 rfl) ?_
            refine va_get (D := (dC, dI)) (ci := 3) (v := .ref bM) (C := RX3) (T := TX3) (N := 23) hx hb htb inX3 hown hK hP 0 rfl rfl 1 (by decide) (htb _ m2_87) (fun _ h9 => h9) rfl dX3_fill_23 ?_
            refine lv_iload_n hx hb dX3_fill_26 rfl (lv_at hl 2 rfl) ?_
            refine lv_iload hx hb dX3_fill_27 (lv_at hl 0 rfl) ?_
            refine lv_iadd hx hb dX3_fill_29 ?_
            refine lv_topi (fun v29_3 e29_3 => ?_)
            refine lv_lload_n hx hb dX3_fill_30 rfl (lv_at hl 3 rfl) ?_
            refine lv_bipush (v := 16) hx hb dX3_fill_31 (by decide) ?_
            refine lv_iload hx hb dX3_fill_33 (lv_at hl 0 rfl) ?_
            refine lv_imul hx hb dX3_fill_35 ?_
            refine q_casti (y := 32) (by decide) ?_
            refine lv_lshr hx hb dX3_fill_36 rfl ?_
            refine lv_topl (fun v36_3 e36_3 => ?_)
            refine lv_ldc2 (v := 65535) hx hb hown (htb _ m2_167) dX3_fill_37 ?_
            refine lv_land hx hb dX3_fill_40 ?_
            refine lv_topl (fun v40_3 e40_3 => ?_)
            refine lv_l2i hx hb dX3_fill_41 rfl ?_
            refine lv_topi (fun v41_3 e41_3 => ?_)
            refine lv_lload hx hb dX3_fill_42 (lv_at hl 4 rfl) ?_
            refine lv_bipush (v := 16) hx hb dX3_fill_44 (by decide) ?_
            refine lv_iload hx hb dX3_fill_46 (lv_at hl 0 rfl) ?_
            refine lv_imul hx hb dX3_fill_48 ?_
            refine q_casti (y := 32) (by decide) ?_
            refine lv_lshr hx hb dX3_fill_49 rfl ?_
            refine lv_topl (fun v49_3 e49_3 => ?_)
            refine lv_ldc2 (v := 65535) hx hb hown (htb _ m2_167) dX3_fill_50 ?_
            refine lv_land hx hb dX3_fill_53 ?_
            refine lv_topl (fun v53_3 e53_3 => ?_)
            refine lv_l2i hx hb dX3_fill_54 rfl ?_
            refine lv_topi (fun v54_3 e54_3 => ?_)
            refine lv_bipush (v := 16) hx hb dX3_fill_55 (by decide) ?_
            refine lv_ishl hx hb dX3_fill_57 ?_
            refine lv_topi (fun v57_3 e57_3 => ?_)
            refine lv_ior hx hb dX3_fill_58 ?_
            refine lv_topi (fun v58_3 e58_3 => ?_)
            refine va_iast hx hb hK hP hD hS 1 0 rfl rfl (by rw [e29_3]; exact bd_in (bd_add (a := 0) (b := 508) (c := 2) (d := 2) ⟨q_nlt h1 (by decide), q_le h8 (by decide)⟩ (bd_lit (by decide)) (by decide) (by decide)) (by decide) (by decide)) dX3_fill_59 (fun H locs hP hD hS => ?_)
            have hP : va_P (dC, dI) vwCl [(bO, .inr (3, [.int jbu, .ref bM, .ref bLo, .ref bS6, .ref bS7, .ref bKe, .ref bCo, .int jpc, .int jst, .int jln, .int jwa, .int jsn, .int jwk, .int jen, .ref bFr, .ref bSi, .ref bTo, .ref bSp, .ref bDo, .ref bRi, .ref bNf, .int jwr, .ref bLd])), (bM, .inl (jM, 512, .inl (upd (upd (upd wM v29.toNatClampNeg v58) v29_2.toNatClampNeg v58_2) v29_3.toNatClampNeg v58_3)))] H := hP
            have hD : va_D A [(bO, .inr (3, [.int jbu, .ref bM, .ref bLo, .ref bS6, .ref bS7, .ref bKe, .ref bCo, .int jpc, .int jst, .int jln, .int jwa, .int jsn, .int jwk, .int jen, .ref bFr, .ref bSi, .ref bTo, .ref bSp, .ref bDo, .ref bRi, .ref bNf, .int jwr, .ref bLd])), (bM, .inl (jM, 512, .inl (upd (upd (upd wM v29.toNatClampNeg v58) v29_2.toNatClampNeg v58_2) v29_3.toNatClampNeg v58_3)))] := hD
            refine lv_iinc (k := 0) (v := 3) (lv' := [(6, .int 3), (0, .ref bO), (1, .int ipl), (2, .long xlo), (4, .long xhi)]) hx hb dX3_fill_60 hl rfl (by decide) (by decide) rfl (fun ls hl => ?_)
            refine lv_goto (tgt := 16) hx hb dX3_fill_63 (by decide) ?_
            refine lv_iload hx hb dX3_fill_16 (lv_at hl 0 rfl) ?_
            refine lv_iconst (v := 4) hx hb dX3_fill_18 (by decide) ?_
            refine lv_icmp_ge (tgt := 66) hx hb dX3_fill_19 (by decide) (fun h19_4 => ?_) (fun h19_4 => ?_)
            · exact absurd h19_4 (by decide)
            · refine lv_aload_n hx hb dX3_fill_22 rfl (lv_at hl 1 rfl) ?_
              refine va_get (D := (dC, dI)) (ci := 3) (v := .ref bM) (C := RX3) (T := TX3) (N := 23) hx hb htb inX3 hown hK hP 0 rfl rfl 1 (by decide) (htb _ m2_87) (fun _ h9 => h9) rfl dX3_fill_23 ?_
              refine lv_iload_n hx hb dX3_fill_26 rfl (lv_at hl 2 rfl) ?_
              refine lv_iload hx hb dX3_fill_27 (lv_at hl 0 rfl) ?_
              refine lv_iadd hx hb dX3_fill_29 ?_
              refine lv_topi (fun v29_4 e29_4 => ?_)
              refine lv_lload_n hx hb dX3_fill_30 rfl (lv_at hl 3 rfl) ?_
              refine lv_bipush (v := 16) hx hb dX3_fill_31 (by decide) ?_
              refine lv_iload hx hb dX3_fill_33 (lv_at hl 0 rfl) ?_
              refine lv_imul hx hb dX3_fill_35 ?_
              refine q_casti (y := 48) (by decide) ?_
              refine lv_lshr hx hb dX3_fill_36 rfl ?_
              refine lv_topl (fun v36_4 e36_4 => ?_)
              refine lv_ldc2 (v := 65535) hx hb hown (htb _ m2_167) dX3_fill_37 ?_
              refine lv_land hx hb dX3_fill_40 ?_
              refine lv_topl (fun v40_4 e40_4 => ?_)
              refine lv_l2i hx hb dX3_fill_41 rfl ?_
              refine lv_topi (fun v41_4 e41_4 => ?_)
              refine lv_lload hx hb dX3_fill_42 (lv_at hl 4 rfl) ?_
              refine lv_bipush (v := 16) hx hb dX3_fill_44 (by decide) ?_
              refine lv_iload hx hb dX3_fill_46 (lv_at hl 0 rfl) ?_
              refine lv_imul hx hb dX3_fill_48 ?_
              refine q_casti (y := 48) (by decide) ?_
              refine lv_lshr hx hb dX3_fill_49 rfl ?_
              refine lv_topl (fun v49_4 e49_4 => ?_)
              refine lv_ldc2 (v := 65535) hx hb hown (htb _ m2_167) dX3_fill_50 ?_
              refine lv_land hx hb dX3_fill_53 ?_
              refine lv_topl (fun v53_4 e53_4 => ?_)
              refine lv_l2i hx hb dX3_fill_54 rfl ?_
              refine lv_topi (fun v54_4 e54_4 => ?_)
              refine lv_bipush (v := 16) hx hb dX3_fill_55 (by decide) ?_
              refine lv_ishl hx hb dX3_fill_57 ?_
              refine lv_topi (fun v57_4 e57_4 => ?_)
              refine lv_ior hx hb dX3_fill_58 ?_
              refine lv_topi (fun v58_4 e58_4 => ?_)
              refine va_iast hx hb hK hP hD hS 1 0 rfl rfl (by rw [e29_4]; exact bd_in (bd_add (a := 0) (b := 508) (c := 3) (d := 3) ⟨q_nlt h1 (by decide), q_le h8 (by decide)⟩ (bd_lit (by decide)) (by decide) (by decide)) (by decide) (by decide)) dX3_fill_59 (fun H locs hP hD hS => ?_)
              have hP : va_P (dC, dI) vwCl [(bO, .inr (3, [.int jbu, .ref bM, .ref bLo, .ref bS6, .ref bS7, .ref bKe, .ref bCo, .int jpc, .int jst, .int jln, .int jwa, .int jsn, .int jwk, .int jen, .ref bFr, .ref bSi, .ref bTo, .ref bSp, .ref bDo, .ref bRi, .ref bNf, .int jwr, .ref bLd])), (bM, .inl (jM, 512, .inl (upd (upd (upd (upd wM v29.toNatClampNeg v58) v29_2.toNatClampNeg v58_2) v29_3.toNatClampNeg v58_3) v29_4.toNatClampNeg v58_4)))] H := hP
              have hD : va_D A [(bO, .inr (3, [.int jbu, .ref bM, .ref bLo, .ref bS6, .ref bS7, .ref bKe, .ref bCo, .int jpc, .int jst, .int jln, .int jwa, .int jsn, .int jwk, .int jen, .ref bFr, .ref bSi, .ref bTo, .ref bSp, .ref bDo, .ref bRi, .ref bNf, .int jwr, .ref bLd])), (bM, .inl (jM, 512, .inl (upd (upd (upd (upd wM v29.toNatClampNeg v58) v29_2.toNatClampNeg v58_2) v29_3.toNatClampNeg v58_3) v29_4.toNatClampNeg v58_4)))] := hD
              refine lv_iinc (k := 0) (v := 4) (lv' := [(6, .int 4), (0, .ref bO), (1, .int ipl), (2, .long xlo), (4, .long xhi)]) hx hb dX3_fill_60 hl rfl (by decide) (by decide) rfl (fun ls hl => ?_)
              refine lv_goto (tgt := 16) hx hb dX3_fill_63 (by decide) ?_
              refine lv_iload hx hb dX3_fill_16 (lv_at hl 0 rfl) ?_
              refine lv_iconst (v := 4) hx hb dX3_fill_18 (by decide) ?_
              refine lv_icmp_ge (tgt := 66) hx hb dX3_fill_19 (by decide) (fun h19_5 => ?_) (fun h19_5 => ?_)
              · refine lv_iconst (v := 1) hx hb dX3_fill_66 (by decide) ?_
                have hP9 := hP.sub (ws' := [(bO, .inr (3, [.int jbu, .ref bM, .ref bLo, .ref bS6, .ref bS7, .ref bKe, .ref bCo, .int jpc, .int jst, .int jln, .int jwa, .int jsn, .int jwk, .int jen, .ref bFr, .ref bSi, .ref bTo, .ref bSp, .ref bDo, .ref bRi, .ref bNf, .int jwr, .ref bLd])), (bM, .inl (jM, 512, .inl (upd (upd (upd (upd wM v29.toNatClampNeg v58) v29_2.toNatClampNeg v58_2) v29_3.toNatClampNeg v58_3) v29_4.toNatClampNeg v58_4)))]) [0, 1] rfl
                have hD9 := hD.sub (ws' := [(bO, .inr (3, [.int jbu, .ref bM, .ref bLo, .ref bS6, .ref bS7, .ref bKe, .ref bCo, .int jpc, .int jst, .int jln, .int jwa, .int jsn, .int jwk, .int jen, .ref bFr, .ref bSi, .ref bTo, .ref bSp, .ref bDo, .ref bRi, .ref bNf, .int jwr, .ref bLd])), (bM, .inl (jM, 512, .inl (upd (upd (upd (upd wM v29.toNatClampNeg v58) v29_2.toNatClampNeg v58_2) v29_3.toNatClampNeg v58_3) v29_4.toNatClampNeg v58_4)))]) [0, 1] (by decide) rfl
                have hK9 := hK.sub (tys' := [(jM, .int)]) [0] rfl
                exact W.zret (ty := .boolean) (v := 1) hx hb hr (by first | rfl | decide +kernel) (fun t ht hW => ⟨⟨1, (upd (upd (upd (upd wM v29.toNatClampNeg v58) v29_2.toNatClampNeg v58_2) v29_3.toNatClampNeg v58_3) v29_4.toNatClampNeg v58_4), rfl, (by unfold qFill; rw [if_pos ⟨q_nlt h1 (by decide), q_le h8 (by decide)⟩]), by rw [ht]; exact hP9, va_K.moved hW.alike hK9, hD9⟩, hS.F ht⟩) hS.2.2 dX3_fill_67
              · exact absurd h19_5 (by decide)
    · refine lv_iconst (v := 0) hx hb dX3_fill_11 (by decide) ?_
      have hP9 := hP.sub (ws' := [(bO, .inr (3, [.int jbu, .ref bM, .ref bLo, .ref bS6, .ref bS7, .ref bKe, .ref bCo, .int jpc, .int jst, .int jln, .int jwa, .int jsn, .int jwk, .int jen, .ref bFr, .ref bSi, .ref bTo, .ref bSp, .ref bDo, .ref bRi, .ref bNf, .int jwr, .ref bLd])), (bM, .inl (jM, 512, .inl wM))]) [0, 1] rfl
      have hD9 := hD.sub (ws' := [(bO, .inr (3, [.int jbu, .ref bM, .ref bLo, .ref bS6, .ref bS7, .ref bKe, .ref bCo, .int jpc, .int jst, .int jln, .int jwa, .int jsn, .int jwk, .int jen, .ref bFr, .ref bSi, .ref bTo, .ref bSp, .ref bDo, .ref bRi, .ref bNf, .int jwr, .ref bLd])), (bM, .inl (jM, 512, .inl wM))]) [0, 1] (by decide) rfl
      have hK9 := hK.sub (tys' := [(jM, .int)]) [0] rfl
      exact W.zret (ty := .boolean) (v := 0) hx hb hr (by first | rfl | decide +kernel) (fun t ht hW => ⟨⟨0, (wM), rfl, (by unfold qFill; rw [if_neg (by intro q; first | exact absurd (q_lt h1 (n := 0) (by decide)) (by omega) | exact absurd (q_nle h8 (n := 508) (by decide)) (by omega))]), by rw [ht]; exact hP9, va_K.moved hW.alike hK9, hD9⟩, hS.F ht⟩) hS.2.2 dX3_fill_12
end
section
set_option maxHeartbeats 4000000 in
set_option maxRecDepth 100000 in
theorem cM_begin (l : Launch) (dC : Nat → ClassId) (dI : Nat → Nat → Nat) (sz : Nat) (bO : Nat) (iad : Int32) (jbu : Int32) (bM : Nat) (bLo : Nat) (bS6 : Nat) (bS7 : Nat) (bKe : Nat) (bCo : Nat) (jpc : Int32) (jst : Int32) (jln : Int32) (jwa : Int32) (jsn : Int32) (jwk : Int32) (jen : Int32) (bFr : Nat) (bSi : Nat) (bTo : Nat) (bSp : Nat) (bDo : Nat) (bRi : Nat) (bNf : Nat) (jwr : Int32) (bLd : Nat) (jCo : ClassId) (wCo : Nat → Int32) : Met l yX3_begin wsX3_begin ({ frames := 0, cells := 0, slots := 0, locals := 0 }) (va_Pc [.ref bO, .int iad] (fun U => U.heap.size = sz ∧ va_P (dC, dI) vwCl [(bO, .inr (3, [.int jbu, .ref bM, .ref bLo, .ref bS6, .ref bS7, .ref bKe, .ref bCo, .int jpc, .int jst, .int jln, .int jwa, .int jsn, .int jwk, .int jen, .ref bFr, .ref bSi, .ref bTo, .ref bSp, .ref bDo, .ref bRi, .ref bNf, .int jwr, .ref bLd])), (bCo, .inl (jCo, 12, .inl wCo))] U.heap ∧ va_K (dC, dI) vwCl [(jCo, .int)] U ∧ va_D (fun _ => True) [(bO, .inr (3, [.int jbu, .ref bM, .ref bLo, .ref bS6, .ref bS7, .ref bKe, .ref bCo, .int jpc, .int jst, .int jln, .int jwa, .int jsn, .int jwk, .int jen, .ref bFr, .ref bSi, .ref bTo, .ref bSp, .ref bDo, .ref bRi, .ref bNf, .int jwr, .ref bLd])), (bCo, .inl (jCo, 12, .inl wCo))])) (va_Qv (fun u : Int32 × (Nat → Int32) => bd u.1 0 4095) (fun (u : Int32 × (Nat → Int32)) (t : State) => va_P (dC, dI) vwCl [(bO, .inr (3, [.int jbu, .ref bM, .ref bLo, .ref bS6, .ref bS7, .ref bKe, .ref bCo, .int u.1, .int 25, .int jln, .int 0, .int 0, .int jwk, .int 0, .ref bFr, .ref bSi, .ref bTo, .ref bSp, .ref bDo, .ref bRi, .ref bNf, .int jwr, .ref bLd])), (bCo, .inl (jCo, 12, .inl u.2))] t.heap ∧ va_K (dC, dI) vwCl [(jCo, .int)] t ∧ va_D (va_A [(bO, .inr (3, [.int jbu, .ref bM, .ref bLo, .ref bS6, .ref bS7, .ref bKe, .ref bCo, .int jpc, .int jst, .int jln, .int jwa, .int jsn, .int jwk, .int jen, .ref bFr, .ref bSi, .ref bTo, .ref bSp, .ref bDo, .ref bRi, .ref bNf, .int jwr, .ref bLd])), (bCo, .inl (jCo, 12, .inl wCo))] sz) [(bO, .inr (3, [.int jbu, .ref bM, .ref bLo, .ref bS6, .ref bS7, .ref bKe, .ref bCo, .int u.1, .int 25, .int jln, .int 0, .int 0, .int jwk, .int 0, .ref bFr, .ref bSi, .ref bTo, .ref bSp, .ref bDo, .ref bRi, .ref bNf, .int jwr, .ref bLd])), (bCo, .inl (jCo, 12, .inl u.2))]) (va_A [(bO, .inr (3, [.int jbu, .ref bM, .ref bLo, .ref bS6, .ref bS7, .ref bKe, .ref bCo, .int jpc, .int jst, .int jln, .int jwa, .int jsn, .int jwk, .int jen, .ref bFr, .ref bSi, .ref bTo, .ref bSp, .ref bDo, .ref bRi, .ref bNf, .int jwr, .ref bLd])), (bCo, .inl (jCo, 12, .inl wCo))] sz)) 0 0 (va_A [(bO, .inr (3, [.int jbu, .ref bM, .ref bLo, .ref bS6, .ref bS7, .ref bKe, .ref bCo, .int jpc, .int jst, .int jln, .int jwa, .int jsn, .int jwk, .int jen, .ref bFr, .ref bSi, .ref bTo, .ref bSp, .ref bDo, .ref bRi, .ref bNf, .int jwr, .ref bLd])), (bCo, .inl (jCo, 12, .inl wCo))] sz) := by
  refine Met.ofW (cc := cX3_begin) (maxL := 2) (ret := none) (by decide) rfl ?_
  intro p e s m args below meth c s₁ B hml hv
  obtain ⟨rfl, hsz, hP, hK, hD0⟩ := hv
  have hx := B.exec
  have hb := B.bytes
  have hr := B.returns
  have hts := atoms_spec (ws := wsX3_begin) B.pre
  have htb : ∀ w ∈ qT, w.before _ s = true := fun w h => hts w (List.mem_cons_of_mem _ h)
  have hown : s.vm.findClass RX3 = some m.cls := findClass_of_methodNamed B.named
  have hlocks := B.notSynchronized
  subst hsz
  have hD := hD0.self (sz := s.heap.size)
  generalize hAe : va_A [(bO, .inr (3, [.int jbu, .ref bM, .ref bLo, .ref bS6, .ref bS7, .ref bKe, .ref bCo, .int jpc, .int jst, .int jln, .int jwa, .int jsn, .int jwk, .int jen, .ref bFr, .ref bSi, .ref bTo, .ref bSp, .ref bDo, .ref bRi, .ref bNf, .int jwr, .ref bLd])), (bCo, .inl (jCo, 12, .inl wCo))] s.heap.size = A at hD ⊢
  have hA : ∀ q : Nat, s.heap.size ≤ q → A q := fun q h => by rw [← hAe]; exact Or.inr h
  have hS : va_S A s.heap s.heap [] := va_S.rf
  have hP : va_P (dC, dI) vwCl [(bO, .inr (3, [.int jbu, .ref bM, .ref bLo, .ref bS6, .ref bS7, .ref bKe, .ref bCo, .int jpc, .int jst, .int jln, .int jwa, .int jsn, .int jwk, .int jen, .ref bFr, .ref bSi, .ref bTo, .ref bSp, .ref bDo, .ref bRi, .ref bNf, .int jwr, .ref bLd])), (bCo, .inl (jCo, 12, .inl wCo))] s.heap := hP
  have hl := lv_entry ([.ref bO, .int iad]) (n := 2) (Nat.le_of_ble_eq_true rfl)
  rw [lg_entry_eq]
  generalize (lg_sl ([.ref bO, .int iad]) ++ List.replicate (2 - (lg_sl ([.ref bO, .int iad])).length) Slot.unset).toArray = ls at hl ⊢
  have hl : lv_has ls 2 [(0, .ref bO), (1, .int iad)] := hl
  refine lv_aload_n hx hb dX3_begin_0 rfl (lv_at hl 0 rfl) ?_
  refine lv_iload_n hx hb dX3_begin_1 rfl (lv_at hl 1 rfl) ?_
  refine lv_sipush (v := 4095) hx hb dX3_begin_2 (by decide) ?_
  refine lv_iand hx hb dX3_begin_5 ?_
  refine lv_topi (fun v5 e5 => ?_)
  refine va_put (D := (dC, dI)) (ci := 3) (v := .int v5) (ty := .int) (C := RX3) (T := TX3) (N := 23) hx hb htb inX3 tyX3 tyX3_ok nmX3 hown hK hP hD hS 0 rfl rfl 7 (by decide) (htb _ m2_93) (fun _ h9 => h9) rfl (by decide +kernel) (by first | rfl | decide +kernel) (by first | rfl | decide +kernel) (Nat.le_of_ble_eq_true rfl) dX3_begin_6 (fun H locs hP hD hS => ?_)
  have hP : va_P (dC, dI) vwCl [(bO, .inr (3, [.int jbu, .ref bM, .ref bLo, .ref bS6, .ref bS7, .ref bKe, .ref bCo, .int v5, .int jst, .int jln, .int jwa, .int jsn, .int jwk, .int jen, .ref bFr, .ref bSi, .ref bTo, .ref bSp, .ref bDo, .ref bRi, .ref bNf, .int jwr, .ref bLd])), (bCo, .inl (jCo, 12, .inl wCo))] H := hP
  have hD : va_D A [(bO, .inr (3, [.int jbu, .ref bM, .ref bLo, .ref bS6, .ref bS7, .ref bKe, .ref bCo, .int v5, .int jst, .int jln, .int jwa, .int jsn, .int jwk, .int jen, .ref bFr, .ref bSi, .ref bTo, .ref bSp, .ref bDo, .ref bRi, .ref bNf, .int jwr, .ref bLd])), (bCo, .inl (jCo, 12, .inl wCo))] := hD
  refine lv_aload_n hx hb dX3_begin_9 rfl (lv_at hl 0 rfl) ?_
  refine lv_bipush (v := 25) hx hb dX3_begin_10 (by decide) ?_
  refine va_put (D := (dC, dI)) (ci := 3) (v := .int 25) (ty := .int) (C := RX3) (T := TX3) (N := 23) hx hb htb inX3 tyX3 tyX3_ok nmX3 hown hK hP hD hS 0 rfl rfl 8 (by decide) (htb _ m2_94) (fun _ h9 => h9) rfl (by decide +kernel) (by first | rfl | decide +kernel) (by first | rfl | decide +kernel) (Nat.le_of_ble_eq_true rfl) dX3_begin_12 (fun H locs hP hD hS => ?_)
  have hP : va_P (dC, dI) vwCl [(bO, .inr (3, [.int jbu, .ref bM, .ref bLo, .ref bS6, .ref bS7, .ref bKe, .ref bCo, .int v5, .int 25, .int jln, .int jwa, .int jsn, .int jwk, .int jen, .ref bFr, .ref bSi, .ref bTo, .ref bSp, .ref bDo, .ref bRi, .ref bNf, .int jwr, .ref bLd])), (bCo, .inl (jCo, 12, .inl wCo))] H := hP
  have hD : va_D A [(bO, .inr (3, [.int jbu, .ref bM, .ref bLo, .ref bS6, .ref bS7, .ref bKe, .ref bCo, .int v5, .int 25, .int jln, .int jwa, .int jsn, .int jwk, .int jen, .ref bFr, .ref bSi, .ref bTo, .ref bSp, .ref bDo, .ref bRi, .ref bNf, .int jwr, .ref bLd])), (bCo, .inl (jCo, 12, .inl wCo))] := hD
  refine lv_aload_n hx hb dX3_begin_15 rfl (lv_at hl 0 rfl) ?_
  refine va_get (D := (dC, dI)) (ci := 3) (v := .ref bCo) (C := RX3) (T := TX3) (N := 23) hx hb htb inX3 hown hK hP 0 rfl rfl 6 (by decide) (htb _ m2_92) (fun _ h9 => h9) rfl dX3_begin_16 ?_
  refine lv_iconst (v := 0) hx hb dX3_begin_19 (by decide) ?_
  refine lv_iconst (v := 0) hx hb dX3_begin_20 (by decide) ?_
  refine va_iast hx hb hK hP hD hS 1 0 rfl rfl (bd_in (bd_lit (a := 0) (by decide)) (by decide) (by decide)) dX3_begin_21 (fun H locs hP hD hS => ?_)
  have hP : va_P (dC, dI) vwCl [(bO, .inr (3, [.int jbu, .ref bM, .ref bLo, .ref bS6, .ref bS7, .ref bKe, .ref bCo, .int v5, .int 25, .int jln, .int jwa, .int jsn, .int jwk, .int jen, .ref bFr, .ref bSi, .ref bTo, .ref bSp, .ref bDo, .ref bRi, .ref bNf, .int jwr, .ref bLd])), (bCo, .inl (jCo, 12, .inl (upd wCo (0 : Int32).toNatClampNeg 0)))] H := hP
  have hD : va_D A [(bO, .inr (3, [.int jbu, .ref bM, .ref bLo, .ref bS6, .ref bS7, .ref bKe, .ref bCo, .int v5, .int 25, .int jln, .int jwa, .int jsn, .int jwk, .int jen, .ref bFr, .ref bSi, .ref bTo, .ref bSp, .ref bDo, .ref bRi, .ref bNf, .int jwr, .ref bLd])), (bCo, .inl (jCo, 12, .inl (upd wCo (0 : Int32).toNatClampNeg 0)))] := hD
  refine lv_aload_n hx hb dX3_begin_22 rfl (lv_at hl 0 rfl) ?_
  refine lv_iconst (v := 0) hx hb dX3_begin_23 (by decide) ?_
  refine va_put (D := (dC, dI)) (ci := 3) (v := .int 0) (ty := .int) (C := RX3) (T := TX3) (N := 23) hx hb htb inX3 tyX3 tyX3_ok nmX3 hown hK hP hD hS 0 rfl rfl 13 (by decide) (htb _ m2_99) (fun _ h9 => h9) rfl (by decide +kernel) (by first | rfl | decide +kernel) (by first | rfl | decide +kernel) (Nat.le_of_ble_eq_true rfl) dX3_begin_24 (fun H locs hP hD hS => ?_)
  have hP : va_P (dC, dI) vwCl [(bO, .inr (3, [.int jbu, .ref bM, .ref bLo, .ref bS6, .ref bS7, .ref bKe, .ref bCo, .int v5, .int 25, .int jln, .int jwa, .int jsn, .int jwk, .int 0, .ref bFr, .ref bSi, .ref bTo, .ref bSp, .ref bDo, .ref bRi, .ref bNf, .int jwr, .ref bLd])), (bCo, .inl (jCo, 12, .inl (upd wCo (0 : Int32).toNatClampNeg 0)))] H := hP
  have hD : va_D A [(bO, .inr (3, [.int jbu, .ref bM, .ref bLo, .ref bS6, .ref bS7, .ref bKe, .ref bCo, .int v5, .int 25, .int jln, .int jwa, .int jsn, .int jwk, .int 0, .ref bFr, .ref bSi, .ref bTo, .ref bSp, .ref bDo, .ref bRi, .ref bNf, .int jwr, .ref bLd])), (bCo, .inl (jCo, 12, .inl (upd wCo (0 : Int32).toNatClampNeg 0)))] := hD
  refine lv_aload_n hx hb dX3_begin_27 rfl (lv_at hl 0 rfl) ?_
  refine lv_iconst (v := 0) hx hb dX3_begin_28 (by decide) ?_
  refine va_put (D := (dC, dI)) (ci := 3) (v := .int 0) (ty := .boolean) (C := RX3) (T := TX3) (N := 23) hx hb htb inX3 tyX3 tyX3_ok nmX3 hown hK hP hD hS 0 rfl rfl 10 (by decide) (htb _ m2_96) (fun _ h9 => h9) rfl (by decide +kernel) (by first | rfl | decide +kernel) (by first | rfl | decide +kernel) (Nat.le_of_ble_eq_true rfl) dX3_begin_29 (fun H locs hP hD hS => ?_)
  have hP : va_P (dC, dI) vwCl [(bO, .inr (3, [.int jbu, .ref bM, .ref bLo, .ref bS6, .ref bS7, .ref bKe, .ref bCo, .int v5, .int 25, .int jln, .int 0, .int jsn, .int jwk, .int 0, .ref bFr, .ref bSi, .ref bTo, .ref bSp, .ref bDo, .ref bRi, .ref bNf, .int jwr, .ref bLd])), (bCo, .inl (jCo, 12, .inl (upd wCo (0 : Int32).toNatClampNeg 0)))] H := hP
  have hD : va_D A [(bO, .inr (3, [.int jbu, .ref bM, .ref bLo, .ref bS6, .ref bS7, .ref bKe, .ref bCo, .int v5, .int 25, .int jln, .int 0, .int jsn, .int jwk, .int 0, .ref bFr, .ref bSi, .ref bTo, .ref bSp, .ref bDo, .ref bRi, .ref bNf, .int jwr, .ref bLd])), (bCo, .inl (jCo, 12, .inl (upd wCo (0 : Int32).toNatClampNeg 0)))] := hD
  refine lv_aload_n hx hb dX3_begin_32 rfl (lv_at hl 0 rfl) ?_
  refine lv_iconst (v := 0) hx hb dX3_begin_33 (by decide) ?_
  refine va_put (D := (dC, dI)) (ci := 3) (v := .int 0) (ty := .boolean) (C := RX3) (T := TX3) (N := 23) hx hb htb inX3 tyX3 tyX3_ok nmX3 hown hK hP hD hS 0 rfl rfl 11 (by decide) (htb _ m2_97) (fun _ h9 => h9) rfl (by decide +kernel) (by first | rfl | decide +kernel) (by first | rfl | decide +kernel) (Nat.le_of_ble_eq_true rfl) dX3_begin_34 (fun H locs hP hD hS => ?_)
  have hP : va_P (dC, dI) vwCl [(bO, .inr (3, [.int jbu, .ref bM, .ref bLo, .ref bS6, .ref bS7, .ref bKe, .ref bCo, .int v5, .int 25, .int jln, .int 0, .int 0, .int jwk, .int 0, .ref bFr, .ref bSi, .ref bTo, .ref bSp, .ref bDo, .ref bRi, .ref bNf, .int jwr, .ref bLd])), (bCo, .inl (jCo, 12, .inl (upd wCo (0 : Int32).toNatClampNeg 0)))] H := hP
  have hD : va_D A [(bO, .inr (3, [.int jbu, .ref bM, .ref bLo, .ref bS6, .ref bS7, .ref bKe, .ref bCo, .int v5, .int 25, .int jln, .int 0, .int 0, .int jwk, .int 0, .ref bFr, .ref bSi, .ref bTo, .ref bSp, .ref bDo, .ref bRi, .ref bNf, .int jwr, .ref bLd])), (bCo, .inl (jCo, 12, .inl (upd wCo (0 : Int32).toNatClampNeg 0)))] := hD
  have hP9 := hP.sub (ws' := [(bO, .inr (3, [.int jbu, .ref bM, .ref bLo, .ref bS6, .ref bS7, .ref bKe, .ref bCo, .int v5, .int 25, .int jln, .int 0, .int 0, .int jwk, .int 0, .ref bFr, .ref bSi, .ref bTo, .ref bSp, .ref bDo, .ref bRi, .ref bNf, .int jwr, .ref bLd])), (bCo, .inl (jCo, 12, .inl (upd wCo (0 : Int32).toNatClampNeg 0)))]) [0, 1] rfl
  have hD9 := hD.sub (ws' := [(bO, .inr (3, [.int jbu, .ref bM, .ref bLo, .ref bS6, .ref bS7, .ref bKe, .ref bCo, .int v5, .int 25, .int jln, .int 0, .int 0, .int jwk, .int 0, .ref bFr, .ref bSi, .ref bTo, .ref bSp, .ref bDo, .ref bRi, .ref bNf, .int jwr, .ref bLd])), (bCo, .inl (jCo, 12, .inl (upd wCo (0 : Int32).toNatClampNeg 0)))]) [0, 1] (by decide) rfl
  have hK9 := hK.sub (tys' := [(jCo, .int)]) [0] rfl
  exact W.vret hx hb hr (fun t ht hW => ⟨⟨(v5, upd wCo (0 : Int32).toNatClampNeg 0), rfl, (by rw [e5]; exact bd_and _ 12 (by decide) (by decide) (by decide)), by rw [ht]; exact hP9, va_K.moved hW.alike hK9, hD9⟩, hS.F ht⟩) hS.2.2 dX3_begin_37
end
section
set_option maxHeartbeats 4000000 in
set_option maxRecDepth 100000 in
theorem cM_set (l : Launch) (dC : Nat → ClassId) (dI : Nat → Nat → Nat) (sz : Nat) (bO : Nat) (irg : Int32) (iv : Int32) (jbu : Int32) (bM : Nat) (bLo : Nat) (bS6 : Nat) (bS7 : Nat) (bKe : Nat) (bCo : Nat) (jpc : Int32) (jst : Int32) (jln : Int32) (jwa : Int32) (jsn : Int32) (jwk : Int32) (jen : Int32) (bFr : Nat) (bSi : Nat) (bTo : Nat) (bSp : Nat) (bDo : Nat) (bRi : Nat) (bNf : Nat) (jwr : Int32) (bLd : Nat) (jLo : ClassId) (wLo : Nat → Int32) (jS6 : ClassId) (wS6 : Nat → Int32) (jS7 : ClassId) (wS7 : Nat → Int32) (hm5 : bd (jst &&& 7) 0 5) : Met l yX3_set wsX3_set ({ frames := 2, cells := 0, slots := 0, locals := 42 }) (va_Pc [.ref bO, .int irg, .int iv] (fun U => U.heap.size = sz ∧ va_P (dC, dI) vwCl [(bO, .inr (3, [.int jbu, .ref bM, .ref bLo, .ref bS6, .ref bS7, .ref bKe, .ref bCo, .int jpc, .int jst, .int jln, .int jwa, .int jsn, .int jwk, .int jen, .ref bFr, .ref bSi, .ref bTo, .ref bSp, .ref bDo, .ref bRi, .ref bNf, .int jwr, .ref bLd])), (bLo, .inl (jLo, 6, .inl wLo)), (bS6, .inl (jS6, 6, .inl wS6)), (bS7, .inl (jS7, 6, .inl wS7))] U.heap ∧ va_K (dC, dI) vwCl [(jLo, .int), (jS6, .int), (jS7, .int)] U ∧ va_D (fun _ => True) [(bO, .inr (3, [.int jbu, .ref bM, .ref bLo, .ref bS6, .ref bS7, .ref bKe, .ref bCo, .int jpc, .int jst, .int jln, .int jwa, .int jsn, .int jwk, .int jen, .ref bFr, .ref bSi, .ref bTo, .ref bSp, .ref bDo, .ref bRi, .ref bNf, .int jwr, .ref bLd])), (bLo, .inl (jLo, 6, .inl wLo)), (bS6, .inl (jS6, 6, .inl wS6)), (bS7, .inl (jS7, 6, .inl wS7))])) (va_Qi (fun (r : Int32) (u : (Nat → Int32) × (Nat → Int32) × (Nat → Int32)) => r = qSet irg) (fun (u : (Nat → Int32) × (Nat → Int32) × (Nat → Int32)) (t : State) => va_P (dC, dI) vwCl [(bO, .inr (3, [.int jbu, .ref bM, .ref bLo, .ref bS6, .ref bS7, .ref bKe, .ref bCo, .int jpc, .int jst, .int jln, .int jwa, .int jsn, .int jwk, .int jen, .ref bFr, .ref bSi, .ref bTo, .ref bSp, .ref bDo, .ref bRi, .ref bNf, .int jwr, .ref bLd])), (bLo, .inl (jLo, 6, .inl u.1)), (bS6, .inl (jS6, 6, .inl u.2.1)), (bS7, .inl (jS7, 6, .inl u.2.2))] t.heap ∧ va_K (dC, dI) vwCl [(jLo, .int), (jS6, .int), (jS7, .int)] t ∧ va_D (va_A [(bO, .inr (3, [.int jbu, .ref bM, .ref bLo, .ref bS6, .ref bS7, .ref bKe, .ref bCo, .int jpc, .int jst, .int jln, .int jwa, .int jsn, .int jwk, .int jen, .ref bFr, .ref bSi, .ref bTo, .ref bSp, .ref bDo, .ref bRi, .ref bNf, .int jwr, .ref bLd])), (bLo, .inl (jLo, 6, .inl wLo)), (bS6, .inl (jS6, 6, .inl wS6)), (bS7, .inl (jS7, 6, .inl wS7))] sz) [(bO, .inr (3, [.int jbu, .ref bM, .ref bLo, .ref bS6, .ref bS7, .ref bKe, .ref bCo, .int jpc, .int jst, .int jln, .int jwa, .int jsn, .int jwk, .int jen, .ref bFr, .ref bSi, .ref bTo, .ref bSp, .ref bDo, .ref bRi, .ref bNf, .int jwr, .ref bLd])), (bLo, .inl (jLo, 6, .inl u.1)), (bS6, .inl (jS6, 6, .inl u.2.1)), (bS7, .inl (jS7, 6, .inl u.2.2))]) (va_A [(bO, .inr (3, [.int jbu, .ref bM, .ref bLo, .ref bS6, .ref bS7, .ref bKe, .ref bCo, .int jpc, .int jst, .int jln, .int jwa, .int jsn, .int jwk, .int jen, .ref bFr, .ref bSi, .ref bTo, .ref bSp, .ref bDo, .ref bRi, .ref bNf, .int jwr, .ref bLd])), (bLo, .inl (jLo, 6, .inl wLo)), (bS6, .inl (jS6, 6, .inl wS6)), (bS7, .inl (jS7, 6, .inl wS7))] sz)) 0 0 (va_A [(bO, .inr (3, [.int jbu, .ref bM, .ref bLo, .ref bS6, .ref bS7, .ref bKe, .ref bCo, .int jpc, .int jst, .int jln, .int jwa, .int jsn, .int jwk, .int jen, .ref bFr, .ref bSi, .ref bTo, .ref bSp, .ref bDo, .ref bRi, .ref bNf, .int jwr, .ref bLd])), (bLo, .inl (jLo, 6, .inl wLo)), (bS6, .inl (jS6, 6, .inl wS6)), (bS7, .inl (jS7, 6, .inl wS7))] sz) := by
  refine Met.ofW (cc := cX3_set) (maxL := 3) (ret := (some .boolean)) (by decide) rfl ?_
  intro p e s m args below meth c s₁ B hml hv
  obtain ⟨rfl, hsz, hP, hK, hD0⟩ := hv
  have hx := B.exec
  have hb := B.bytes
  have hr := B.returns
  have hts := atoms_spec (ws := wsX3_set) B.pre
  have htb : ∀ w ∈ qT, w.before _ s = true := fun w h => hts w (List.mem_cons_of_mem _ h)
  have hown : s.vm.findClass RX3 = some m.cls := findClass_of_methodNamed B.named
  have hlocks := B.notSynchronized
  subst hsz
  have hD := hD0.self (sz := s.heap.size)
  generalize hAe : va_A [(bO, .inr (3, [.int jbu, .ref bM, .ref bLo, .ref bS6, .ref bS7, .ref bKe, .ref bCo, .int jpc, .int jst, .int jln, .int jwa, .int jsn, .int jwk, .int jen, .ref bFr, .ref bSi, .ref bTo, .ref bSp, .ref bDo, .ref bRi, .ref bNf, .int jwr, .ref bLd])), (bLo, .inl (jLo, 6, .inl wLo)), (bS6, .inl (jS6, 6, .inl wS6)), (bS7, .inl (jS7, 6, .inl wS7))] s.heap.size = A at hD ⊢
  have hA : ∀ q : Nat, s.heap.size ≤ q → A q := fun q h => by rw [← hAe]; exact Or.inr h
  have hS : va_S A s.heap s.heap [] := va_S.rf
  have hP : va_P (dC, dI) vwCl [(bO, .inr (3, [.int jbu, .ref bM, .ref bLo, .ref bS6, .ref bS7, .ref bKe, .ref bCo, .int jpc, .int jst, .int jln, .int jwa, .int jsn, .int jwk, .int jen, .ref bFr, .ref bSi, .ref bTo, .ref bSp, .ref bDo, .ref bRi, .ref bNf, .int jwr, .ref bLd])), (bLo, .inl (jLo, 6, .inl wLo)), (bS6, .inl (jS6, 6, .inl wS6)), (bS7, .inl (jS7, 6, .inl wS7))] s.heap := hP
  have hl := lv_entry ([.ref bO, .int irg, .int iv]) (n := 3) (Nat.le_of_ble_eq_true rfl)
  rw [lg_entry_eq]
  generalize (lg_sl ([.ref bO, .int irg, .int iv]) ++ List.replicate (3 - (lg_sl ([.ref bO, .int irg, .int iv])).length) Slot.unset).toArray = ls at hl ⊢
  have hl : lv_has ls 3 [(0, .ref bO), (1, .int irg), (2, .int iv)] := hl
  refine lv_iload_n hx hb dX3_set_0 rfl (lv_at hl 1 rfl) ?_
  refine lv_if_lt (tgt := 10) hx hb dX3_set_1 (by decide) (fun h1 => ?_) (fun h1 => ?_)
  · refine lv_iconst (v := 0) hx hb dX3_set_10 (by decide) ?_
    have hP9 := hP.sub (ws' := [(bO, .inr (3, [.int jbu, .ref bM, .ref bLo, .ref bS6, .ref bS7, .ref bKe, .ref bCo, .int jpc, .int jst, .int jln, .int jwa, .int jsn, .int jwk, .int jen, .ref bFr, .ref bSi, .ref bTo, .ref bSp, .ref bDo, .ref bRi, .ref bNf, .int jwr, .ref bLd])), (bLo, .inl (jLo, 6, .inl wLo)), (bS6, .inl (jS6, 6, .inl wS6)), (bS7, .inl (jS7, 6, .inl wS7))]) [0, 1, 2, 3] rfl
    have hD9 := hD.sub (ws' := [(bO, .inr (3, [.int jbu, .ref bM, .ref bLo, .ref bS6, .ref bS7, .ref bKe, .ref bCo, .int jpc, .int jst, .int jln, .int jwa, .int jsn, .int jwk, .int jen, .ref bFr, .ref bSi, .ref bTo, .ref bSp, .ref bDo, .ref bRi, .ref bNf, .int jwr, .ref bLd])), (bLo, .inl (jLo, 6, .inl wLo)), (bS6, .inl (jS6, 6, .inl wS6)), (bS7, .inl (jS7, 6, .inl wS7))]) [0, 1, 2, 3] (by decide) rfl
    have hK9 := hK.sub (tys' := [(jLo, .int), (jS6, .int), (jS7, .int)]) [0, 1, 2] rfl
    exact W.zret (ty := .boolean) (v := 0) hx hb hr (by first | rfl | decide +kernel) (fun t ht hW => ⟨⟨0, (wLo, wS6, wS7), rfl, (by unfold qSet; rw [if_neg (by intro q; first | exact absurd (q_lt h1 (n := 0) (by decide)) (by omega) | exact absurd (q_nle h7 (n := 7) (by decide)) (by omega))]), by rw [ht]; exact hP9, va_K.moved hW.alike hK9, hD9⟩, hS.F ht⟩) hS.2.2 dX3_set_11
  · refine lv_iload_n hx hb dX3_set_4 rfl (lv_at hl 1 rfl) ?_
    refine lv_bipush (v := 7) hx hb dX3_set_5 (by decide) ?_
    refine lv_icmp_le (tgt := 12) hx hb dX3_set_7 (by decide) (fun h7 => ?_) (fun h7 => ?_)
    · refine lv_aload_n hx hb dX3_set_12 rfl (lv_at hl 0 rfl) ?_
      refine lv_iload_n hx hb dX3_set_13 rfl (lv_at hl 1 rfl) ?_
      refine lv_iload_n hx hb dX3_set_14 rfl (lv_at hl 2 rfl) ?_
      have hPc := hP.sub (ws' := [(bO, .inr (3, [.int jbu, .ref bM, .ref bLo, .ref bS6, .ref bS7, .ref bKe, .ref bCo, .int jpc, .int jst, .int jln, .int jwa, .int jsn, .int jwk, .int jen, .ref bFr, .ref bSi, .ref bTo, .ref bSp, .ref bDo, .ref bRi, .ref bNf, .int jwr, .ref bLd])), (bLo, .inl (jLo, 6, .inl wLo)), (bS6, .inl (jS6, 6, .inl wS6)), (bS7, .inl (jS7, 6, .inl wS7))]) [0, 1, 2, 3] rfl
      have hKc := hK.sub (tys' := [(jLo, .int), (jS6, .int), (jS7, .int)]) [0, 1, 2] rfl
      have hDc := hD.sub (ws' := [(bO, .inr (3, [.int jbu, .ref bM, .ref bLo, .ref bS6, .ref bS7, .ref bKe, .ref bCo, .int jpc, .int jst, .int jln, .int jwa, .int jsn, .int jwk, .int jen, .ref bFr, .ref bSi, .ref bTo, .ref bSp, .ref bDo, .ref bRi, .ref bNf, .int jwr, .ref bLd])), (bLo, .inl (jLo, 6, .inl wLo)), (bS6, .inl (jS6, 6, .inl wS6)), (bS7, .inl (jS7, 6, .inl wS7))]) [0, 1, 2, 3] (by decide) rfl
      have hFc := va_free (wc := [(bO, .inr (3, [.int jbu, .ref bM, .ref bLo, .ref bS6, .ref bS7, .ref bKe, .ref bCo, .int jpc, .int jst, .int jln, .int jwa, .int jsn, .int jwk, .int jen, .ref bFr, .ref bSi, .ref bTo, .ref bSp, .ref bDo, .ref bRi, .ref bNf, .int jwr, .ref bLd])), (bLo, .inl (jLo, 6, .inl wLo)), (bS6, .inl (jS6, 6, .inl wS6)), (bS7, .inl (jS7, 6, .inl wS7))]) hD hS hA [0, 1, 2, 3] rfl
      refine va_callv (va_runV (As := [.int irg, .int iv]) (rest := []) ⟨hx, hb, hml, hown, htb⟩ (cM_put l dC dI s.heap.size bO irg iv jbu bM bLo bS6 bS7 bKe bCo jpc jst jln jwa jsn jwk jen bFr bSi bTo bSp bDo bRi bNf jwr bLd jLo wLo jS6 wS6 jS7 wS7 ⟨q_nlt h1 (by decide), q_le h7 (by decide)⟩ hm5) (cwV 2 htb (q_gV m2_176 m2_178 ms_28 m1_4 m2_179) rfl rfl rfl (by decide +kernel) ⟨Nat.le_of_ble_eq_true rfl, Nat.le_of_ble_eq_true rfl⟩) ⟨fun a U g mk q => by obtain ⟨q0, q1, qP, qK, qD⟩ := q; exact ⟨q0, q1, qP, va_K.moved (u := U) (U := U.calling g mk a) (Vm.Alike.refl U.vm) qK, qD⟩, va_recv (q0 := 0) hK hP (rfl : vwCl[3]? = some (RX3, TX3, 23)) rfl, fun U hU hW => ⟨rfl, by rw [hU], by rw [hU]; exact hPc, va_K.moved hW.alike hKc, hDc.weaken (fun _ _ _ _ => trivial)⟩⟩ rfl rfl hl.1 rfl (lv_room (Nat.le_of_ble_eq_true rfl)) dX3_set_15 ⟨Nat.le_of_ble_eq_true rfl, Nat.le_of_ble_eq_true rfl⟩) hS (fun q _ h => hFc q h) hFc (fun u t H1 locs ht hvm p15 hB hz1 hk1 hS => ?_)
      obtain ⟨wLo2_15, wS62_15, wS72_15⟩ := u
      obtain ⟨hP1, hK1, hD1⟩ := hB
      rw [ht] at hP1
      have hK1 := va_K.moved hvm.symm hK1
      try dsimp only at p15
      obtain ⟨hP, hD⟩ := va_join (wr := []) (w1 := [(bO, .inr (3, [.int jbu, .ref bM, .ref bLo, .ref bS6, .ref bS7, .ref bKe, .ref bCo, .int jpc, .int jst, .int jln, .int jwa, .int jsn, .int jwk, .int jen, .ref bFr, .ref bSi, .ref bTo, .ref bSp, .ref bDo, .ref bRi, .ref bNf, .int jwr, .ref bLd])), (bLo, .inl (jLo, 6, .inl wLo2_15)), (bS6, .inl (jS6, 6, .inl wS62_15)), (bS7, .inl (jS7, 6, .inl wS72_15))]) hP hD [0, 1, 2, 3] [] rfl rfl (by decide) (by decide) hk1 hFc hP1 hD1
      have hK := (hK.sub (tys' := []) [] rfl).app hK1
      generalize H1 = H at hP hS ⊢
      have hP : va_P (dC, dI) vwCl [(bO, .inr (3, [.int jbu, .ref bM, .ref bLo, .ref bS6, .ref bS7, .ref bKe, .ref bCo, .int jpc, .int jst, .int jln, .int jwa, .int jsn, .int jwk, .int jen, .ref bFr, .ref bSi, .ref bTo, .ref bSp, .ref bDo, .ref bRi, .ref bNf, .int jwr, .ref bLd])), (bLo, .inl (jLo, 6, .inl wLo2_15)), (bS6, .inl (jS6, 6, .inl wS62_15)), (bS7, .inl (jS7, 6, .inl wS72_15))] H := hP
      have hD : va_D A [(bO, .inr (3, [.int jbu, .ref bM, .ref bLo, .ref bS6, .ref bS7, .ref bKe, .ref bCo, .int jpc, .int jst, .int jln, .int jwa, .int jsn, .int jwk, .int jen, .ref bFr, .ref bSi, .ref bTo, .ref bSp, .ref bDo, .ref bRi, .ref bNf, .int jwr, .ref bLd])), (bLo, .inl (jLo, 6, .inl wLo2_15)), (bS6, .inl (jS6, 6, .inl wS62_15)), (bS7, .inl (jS7, 6, .inl wS72_15))] := hD
      have hK : va_K (dC, dI) vwCl [(jLo, .int), (jS6, .int), (jS7, .int)] s := hK
      refine lv_iconst (v := 1) hx hb dX3_set_18 (by decide) ?_
      have hP9 := hP.sub (ws' := [(bO, .inr (3, [.int jbu, .ref bM, .ref bLo, .ref bS6, .ref bS7, .ref bKe, .ref bCo, .int jpc, .int jst, .int jln, .int jwa, .int jsn, .int jwk, .int jen, .ref bFr, .ref bSi, .ref bTo, .ref bSp, .ref bDo, .ref bRi, .ref bNf, .int jwr, .ref bLd])), (bLo, .inl (jLo, 6, .inl wLo2_15)), (bS6, .inl (jS6, 6, .inl wS62_15)), (bS7, .inl (jS7, 6, .inl wS72_15))]) [0, 1, 2, 3] rfl
      have hD9 := hD.sub (ws' := [(bO, .inr (3, [.int jbu, .ref bM, .ref bLo, .ref bS6, .ref bS7, .ref bKe, .ref bCo, .int jpc, .int jst, .int jln, .int jwa, .int jsn, .int jwk, .int jen, .ref bFr, .ref bSi, .ref bTo, .ref bSp, .ref bDo, .ref bRi, .ref bNf, .int jwr, .ref bLd])), (bLo, .inl (jLo, 6, .inl wLo2_15)), (bS6, .inl (jS6, 6, .inl wS62_15)), (bS7, .inl (jS7, 6, .inl wS72_15))]) [0, 1, 2, 3] (by decide) rfl
      have hK9 := hK.sub (tys' := [(jLo, .int), (jS6, .int), (jS7, .int)]) [0, 1, 2] rfl
      exact W.zret (ty := .boolean) (v := 1) hx hb hr (by first | rfl | decide +kernel) (fun t ht hW => ⟨⟨1, (wLo2_15, wS62_15, wS72_15), rfl, (by unfold qSet; rw [if_pos ⟨q_nlt h1 (by decide), q_le h7 (by decide)⟩]), by rw [ht]; exact hP9, va_K.moved hW.alike hK9, hD9⟩, hS.F ht⟩) hS.2.2 dX3_set_19
    · refine lv_iconst (v := 0) hx hb dX3_set_10 (by decide) ?_
      have hP9 := hP.sub (ws' := [(bO, .inr (3, [.int jbu, .ref bM, .ref bLo, .ref bS6, .ref bS7, .ref bKe, .ref bCo, .int jpc, .int jst, .int jln, .int jwa, .int jsn, .int jwk, .int jen, .ref bFr, .ref bSi, .ref bTo, .ref bSp, .ref bDo, .ref bRi, .ref bNf, .int jwr, .ref bLd])), (bLo, .inl (jLo, 6, .inl wLo)), (bS6, .inl (jS6, 6, .inl wS6)), (bS7, .inl (jS7, 6, .inl wS7))]) [0, 1, 2, 3] rfl
      have hD9 := hD.sub (ws' := [(bO, .inr (3, [.int jbu, .ref bM, .ref bLo, .ref bS6, .ref bS7, .ref bKe, .ref bCo, .int jpc, .int jst, .int jln, .int jwa, .int jsn, .int jwk, .int jen, .ref bFr, .ref bSi, .ref bTo, .ref bSp, .ref bDo, .ref bRi, .ref bNf, .int jwr, .ref bLd])), (bLo, .inl (jLo, 6, .inl wLo)), (bS6, .inl (jS6, 6, .inl wS6)), (bS7, .inl (jS7, 6, .inl wS7))]) [0, 1, 2, 3] (by decide) rfl
      have hK9 := hK.sub (tys' := [(jLo, .int), (jS6, .int), (jS7, .int)]) [0, 1, 2] rfl
      exact W.zret (ty := .boolean) (v := 0) hx hb hr (by first | rfl | decide +kernel) (fun t ht hW => ⟨⟨0, (wLo, wS6, wS7), rfl, (by unfold qSet; rw [if_neg (by intro q; first | exact absurd (q_lt h1 (n := 0) (by decide)) (by omega) | exact absurd (q_nle h7 (n := 7) (by decide)) (by omega))]), by rw [ht]; exact hP9, va_K.moved hW.alike hK9, hD9⟩, hS.F ht⟩) hS.2.2 dX3_set_11
end
section
set_option maxHeartbeats 4000000 in
set_option maxRecDepth 100000 in
theorem cM_line (l : Launch) (dC : Nat → ClassId) (dI : Nat → Nat → Nat) (sz : Nat) (bO : Nat) (iln9 : Int32) (iup : Int32) (jbu : Int32) (bM : Nat) (bLo : Nat) (bS6 : Nat) (bS7 : Nat) (bKe : Nat) (bCo : Nat) (jpc : Int32) (jst : Int32) (jln : Int32) (jwa : Int32) (jsn : Int32) (jwk : Int32) (jen : Int32) (bFr : Nat) (bSi : Nat) (bTo : Nat) (bSp : Nat) (bDo : Nat) (bRi : Nat) (bNf : Nat) (jwr : Int32) (bLd : Nat) : Met l yX3_line wsX3_line ({ frames := 0, cells := 0, slots := 0, locals := 0 }) (va_Pc [.ref bO, .int iln9, .int iup] (fun U => U.heap.size = sz ∧ va_P (dC, dI) vwCl [(bO, .inr (3, [.int jbu, .ref bM, .ref bLo, .ref bS6, .ref bS7, .ref bKe, .ref bCo, .int jpc, .int jst, .int jln, .int jwa, .int jsn, .int jwk, .int jen, .ref bFr, .ref bSi, .ref bTo, .ref bSp, .ref bDo, .ref bRi, .ref bNf, .int jwr, .ref bLd]))] U.heap ∧ va_K (dC, dI) vwCl [] U ∧ va_D (fun _ => True) [(bO, .inr (3, [.int jbu, .ref bM, .ref bLo, .ref bS6, .ref bS7, .ref bKe, .ref bCo, .int jpc, .int jst, .int jln, .int jwa, .int jsn, .int jwk, .int jen, .ref bFr, .ref bSi, .ref bTo, .ref bSp, .ref bDo, .ref bRi, .ref bNf, .int jwr, .ref bLd]))])) (va_Qi (fun (r : Int32) (u : Int32) => r = qLine iln9) (fun (u : Int32) (t : State) => va_P (dC, dI) vwCl [(bO, .inr (3, [.int jbu, .ref bM, .ref bLo, .ref bS6, .ref bS7, .ref bKe, .ref bCo, .int jpc, .int jst, .int u, .int jwa, .int jsn, .int jwk, .int jen, .ref bFr, .ref bSi, .ref bTo, .ref bSp, .ref bDo, .ref bRi, .ref bNf, .int jwr, .ref bLd]))] t.heap ∧ va_K (dC, dI) vwCl [] t ∧ va_D (va_A [(bO, .inr (3, [.int jbu, .ref bM, .ref bLo, .ref bS6, .ref bS7, .ref bKe, .ref bCo, .int jpc, .int jst, .int jln, .int jwa, .int jsn, .int jwk, .int jen, .ref bFr, .ref bSi, .ref bTo, .ref bSp, .ref bDo, .ref bRi, .ref bNf, .int jwr, .ref bLd]))] sz) [(bO, .inr (3, [.int jbu, .ref bM, .ref bLo, .ref bS6, .ref bS7, .ref bKe, .ref bCo, .int jpc, .int jst, .int u, .int jwa, .int jsn, .int jwk, .int jen, .ref bFr, .ref bSi, .ref bTo, .ref bSp, .ref bDo, .ref bRi, .ref bNf, .int jwr, .ref bLd]))]) (va_A [(bO, .inr (3, [.int jbu, .ref bM, .ref bLo, .ref bS6, .ref bS7, .ref bKe, .ref bCo, .int jpc, .int jst, .int jln, .int jwa, .int jsn, .int jwk, .int jen, .ref bFr, .ref bSi, .ref bTo, .ref bSp, .ref bDo, .ref bRi, .ref bNf, .int jwr, .ref bLd]))] sz)) 0 0 (va_A [(bO, .inr (3, [.int jbu, .ref bM, .ref bLo, .ref bS6, .ref bS7, .ref bKe, .ref bCo, .int jpc, .int jst, .int jln, .int jwa, .int jsn, .int jwk, .int jen, .ref bFr, .ref bSi, .ref bTo, .ref bSp, .ref bDo, .ref bRi, .ref bNf, .int jwr, .ref bLd]))] sz) := by
  refine Met.ofW (cc := cX3_line) (maxL := 3) (ret := (some .boolean)) (by decide) rfl ?_
  intro p e s m args below meth c s₁ B hml hv
  obtain ⟨rfl, hsz, hP, hK, hD0⟩ := hv
  have hx := B.exec
  have hb := B.bytes
  have hr := B.returns
  have hts := atoms_spec (ws := wsX3_line) B.pre
  have htb : ∀ w ∈ qT, w.before _ s = true := fun w h => hts w (List.mem_cons_of_mem _ h)
  have hown : s.vm.findClass RX3 = some m.cls := findClass_of_methodNamed B.named
  have hlocks := B.notSynchronized
  subst hsz
  have hD := hD0.self (sz := s.heap.size)
  generalize hAe : va_A [(bO, .inr (3, [.int jbu, .ref bM, .ref bLo, .ref bS6, .ref bS7, .ref bKe, .ref bCo, .int jpc, .int jst, .int jln, .int jwa, .int jsn, .int jwk, .int jen, .ref bFr, .ref bSi, .ref bTo, .ref bSp, .ref bDo, .ref bRi, .ref bNf, .int jwr, .ref bLd]))] s.heap.size = A at hD ⊢
  have hA : ∀ q : Nat, s.heap.size ≤ q → A q := fun q h => by rw [← hAe]; exact Or.inr h
  have hS : va_S A s.heap s.heap [] := va_S.rf
  have hP : va_P (dC, dI) vwCl [(bO, .inr (3, [.int jbu, .ref bM, .ref bLo, .ref bS6, .ref bS7, .ref bKe, .ref bCo, .int jpc, .int jst, .int jln, .int jwa, .int jsn, .int jwk, .int jen, .ref bFr, .ref bSi, .ref bTo, .ref bSp, .ref bDo, .ref bRi, .ref bNf, .int jwr, .ref bLd]))] s.heap := hP
  have hl := lv_entry ([.ref bO, .int iln9, .int iup]) (n := 3) (Nat.le_of_ble_eq_true rfl)
  rw [lg_entry_eq]
  generalize (lg_sl ([.ref bO, .int iln9, .int iup]) ++ List.replicate (3 - (lg_sl ([.ref bO, .int iln9, .int iup])).length) Slot.unset).toArray = ls at hl ⊢
  have hl : lv_has ls 3 [(0, .ref bO), (1, .int iln9), (2, .int iup)] := hl
  refine lv_iload_n hx hb dX3_line_0 rfl (lv_at hl 1 rfl) ?_
  refine lv_if_lt (tgt := 9) hx hb dX3_line_1 (by decide) (fun h1 => ?_) (fun h1 => ?_)
  · refine lv_iconst (v := 0) hx hb dX3_line_9 (by decide) ?_
    have hP9 := hP.sub (ws' := [(bO, .inr (3, [.int jbu, .ref bM, .ref bLo, .ref bS6, .ref bS7, .ref bKe, .ref bCo, .int jpc, .int jst, .int jln, .int jwa, .int jsn, .int jwk, .int jen, .ref bFr, .ref bSi, .ref bTo, .ref bSp, .ref bDo, .ref bRi, .ref bNf, .int jwr, .ref bLd]))]) [0] rfl
    have hD9 := hD.sub (ws' := [(bO, .inr (3, [.int jbu, .ref bM, .ref bLo, .ref bS6, .ref bS7, .ref bKe, .ref bCo, .int jpc, .int jst, .int jln, .int jwa, .int jsn, .int jwk, .int jen, .ref bFr, .ref bSi, .ref bTo, .ref bSp, .ref bDo, .ref bRi, .ref bNf, .int jwr, .ref bLd]))]) [0] (by decide) rfl
    have hK9 := hK.sub (tys' := []) [] rfl
    exact W.zret (ty := .boolean) (v := 0) hx hb hr (by first | rfl | decide +kernel) (fun t ht hW => ⟨⟨0, (jln), rfl, (by unfold qLine; rw [if_neg (by intro q; first | exact absurd (q_lt h1 (n := 0) (by decide)) (by omega) | exact absurd (q_nle h6 (n := 3) (by decide)) (by omega))]), by rw [ht]; exact hP9, va_K.moved hW.alike hK9, hD9⟩, hS.F ht⟩) hS.2.2 dX3_line_10
  · refine lv_iload_n hx hb dX3_line_4 rfl (lv_at hl 1 rfl) ?_
    refine lv_iconst (v := 3) hx hb dX3_line_5 (by decide) ?_
    refine lv_icmp_le (tgt := 11) hx hb dX3_line_6 (by decide) (fun h6 => ?_) (fun h6 => ?_)
    · refine lv_aload_n hx hb dX3_line_11 rfl (lv_at hl 0 rfl) ?_
      refine lv_iload_n hx hb dX3_line_12 rfl (lv_at hl 2 rfl) ?_
      refine lv_if_eq (tgt := 27) hx hb dX3_line_13 (by decide) (fun h13 => ?_) (fun h13 => ?_)
      · refine lv_aload_n hx hb dX3_line_27 rfl (lv_at hl 0 rfl) ?_
        refine va_get (D := (dC, dI)) (ci := 3) (v := .int jln) (C := RX3) (T := TX3) (N := 23) hx hb htb inX3 hown hK hP 0 rfl rfl 9 (by decide) (htb _ m2_95) (fun _ h9 => h9) rfl dX3_line_28 ?_
        refine lv_iconst (v := 1) hx hb dX3_line_31 (by decide) ?_
        refine lv_iload_n hx hb dX3_line_32 rfl (lv_at hl 1 rfl) ?_
        refine lv_ishl hx hb dX3_line_33 ?_
        refine lv_topi (fun v33 e33 => ?_)
        refine lv_iconst (v := (-1)) hx hb dX3_line_34 (by decide) ?_
        refine lv_ixor hx hb dX3_line_35 ?_
        refine lv_topi (fun v35 e35 => ?_)
        refine lv_iand hx hb dX3_line_36 ?_
        refine lv_topi (fun v36 e36 => ?_)
        refine va_put (D := (dC, dI)) (ci := 3) (v := .int v36) (ty := .int) (C := RX3) (T := TX3) (N := 23) hx hb htb inX3 tyX3 tyX3_ok nmX3 hown hK hP hD hS 0 rfl rfl 9 (by decide) (htb _ m2_95) (fun _ h9 => h9) rfl (by decide +kernel) (by first | rfl | decide +kernel) (by first | rfl | decide +kernel) (Nat.le_of_ble_eq_true rfl) dX3_line_37 (fun H locs hP hD hS => ?_)
        have hP : va_P (dC, dI) vwCl [(bO, .inr (3, [.int jbu, .ref bM, .ref bLo, .ref bS6, .ref bS7, .ref bKe, .ref bCo, .int jpc, .int jst, .int v36, .int jwa, .int jsn, .int jwk, .int jen, .ref bFr, .ref bSi, .ref bTo, .ref bSp, .ref bDo, .ref bRi, .ref bNf, .int jwr, .ref bLd]))] H := hP
        have hD : va_D A [(bO, .inr (3, [.int jbu, .ref bM, .ref bLo, .ref bS6, .ref bS7, .ref bKe, .ref bCo, .int jpc, .int jst, .int v36, .int jwa, .int jsn, .int jwk, .int jen, .ref bFr, .ref bSi, .ref bTo, .ref bSp, .ref bDo, .ref bRi, .ref bNf, .int jwr, .ref bLd]))] := hD
        refine lv_iconst (v := 1) hx hb dX3_line_40 (by decide) ?_
        have hP9 := hP.sub (ws' := [(bO, .inr (3, [.int jbu, .ref bM, .ref bLo, .ref bS6, .ref bS7, .ref bKe, .ref bCo, .int jpc, .int jst, .int v36, .int jwa, .int jsn, .int jwk, .int jen, .ref bFr, .ref bSi, .ref bTo, .ref bSp, .ref bDo, .ref bRi, .ref bNf, .int jwr, .ref bLd]))]) [0] rfl
        have hD9 := hD.sub (ws' := [(bO, .inr (3, [.int jbu, .ref bM, .ref bLo, .ref bS6, .ref bS7, .ref bKe, .ref bCo, .int jpc, .int jst, .int v36, .int jwa, .int jsn, .int jwk, .int jen, .ref bFr, .ref bSi, .ref bTo, .ref bSp, .ref bDo, .ref bRi, .ref bNf, .int jwr, .ref bLd]))]) [0] (by decide) rfl
        have hK9 := hK.sub (tys' := []) [] rfl
        exact W.zret (ty := .boolean) (v := 1) hx hb hr (by first | rfl | decide +kernel) (fun t ht hW => ⟨⟨1, (v36), rfl, (by unfold qLine; rw [if_pos ⟨q_nlt h1 (by decide), q_le h6 (by decide)⟩]), by rw [ht]; exact hP9, va_K.moved hW.alike hK9, hD9⟩, hS.F ht⟩) hS.2.2 dX3_line_41
      · refine lv_aload_n hx hb dX3_line_16 rfl (lv_at hl 0 rfl) ?_
        refine va_get (D := (dC, dI)) (ci := 3) (v := .int jln) (C := RX3) (T := TX3) (N := 23) hx hb htb inX3 hown hK hP 0 rfl rfl 9 (by decide) (htb _ m2_95) (fun _ h9 => h9) rfl dX3_line_17 ?_
        refine lv_iconst (v := 1) hx hb dX3_line_20 (by decide) ?_
        refine lv_iload_n hx hb dX3_line_21 rfl (lv_at hl 1 rfl) ?_
        refine lv_ishl hx hb dX3_line_22 ?_
        refine lv_topi (fun v22 e22 => ?_)
        refine lv_ior hx hb dX3_line_23 ?_
        refine lv_topi (fun v23 e23 => ?_)
        refine lv_goto (tgt := 37) hx hb dX3_line_24 (by decide) ?_
        refine va_put (D := (dC, dI)) (ci := 3) (v := .int v23) (ty := .int) (C := RX3) (T := TX3) (N := 23) hx hb htb inX3 tyX3 tyX3_ok nmX3 hown hK hP hD hS 0 rfl rfl 9 (by decide) (htb _ m2_95) (fun _ h9 => h9) rfl (by decide +kernel) (by first | rfl | decide +kernel) (by first | rfl | decide +kernel) (Nat.le_of_ble_eq_true rfl) dX3_line_37 (fun H locs hP hD hS => ?_)
        have hP : va_P (dC, dI) vwCl [(bO, .inr (3, [.int jbu, .ref bM, .ref bLo, .ref bS6, .ref bS7, .ref bKe, .ref bCo, .int jpc, .int jst, .int v23, .int jwa, .int jsn, .int jwk, .int jen, .ref bFr, .ref bSi, .ref bTo, .ref bSp, .ref bDo, .ref bRi, .ref bNf, .int jwr, .ref bLd]))] H := hP
        have hD : va_D A [(bO, .inr (3, [.int jbu, .ref bM, .ref bLo, .ref bS6, .ref bS7, .ref bKe, .ref bCo, .int jpc, .int jst, .int v23, .int jwa, .int jsn, .int jwk, .int jen, .ref bFr, .ref bSi, .ref bTo, .ref bSp, .ref bDo, .ref bRi, .ref bNf, .int jwr, .ref bLd]))] := hD
        refine lv_iconst (v := 1) hx hb dX3_line_40 (by decide) ?_
        have hP9 := hP.sub (ws' := [(bO, .inr (3, [.int jbu, .ref bM, .ref bLo, .ref bS6, .ref bS7, .ref bKe, .ref bCo, .int jpc, .int jst, .int v23, .int jwa, .int jsn, .int jwk, .int jen, .ref bFr, .ref bSi, .ref bTo, .ref bSp, .ref bDo, .ref bRi, .ref bNf, .int jwr, .ref bLd]))]) [0] rfl
        have hD9 := hD.sub (ws' := [(bO, .inr (3, [.int jbu, .ref bM, .ref bLo, .ref bS6, .ref bS7, .ref bKe, .ref bCo, .int jpc, .int jst, .int v23, .int jwa, .int jsn, .int jwk, .int jen, .ref bFr, .ref bSi, .ref bTo, .ref bSp, .ref bDo, .ref bRi, .ref bNf, .int jwr, .ref bLd]))]) [0] (by decide) rfl
        have hK9 := hK.sub (tys' := []) [] rfl
        exact W.zret (ty := .boolean) (v := 1) hx hb hr (by first | rfl | decide +kernel) (fun t ht hW => ⟨⟨1, (v23), rfl, (by unfold qLine; rw [if_pos ⟨q_nlt h1 (by decide), q_le h6 (by decide)⟩]), by rw [ht]; exact hP9, va_K.moved hW.alike hK9, hD9⟩, hS.F ht⟩) hS.2.2 dX3_line_41
    · refine lv_iconst (v := 0) hx hb dX3_line_9 (by decide) ?_
      have hP9 := hP.sub (ws' := [(bO, .inr (3, [.int jbu, .ref bM, .ref bLo, .ref bS6, .ref bS7, .ref bKe, .ref bCo, .int jpc, .int jst, .int jln, .int jwa, .int jsn, .int jwk, .int jen, .ref bFr, .ref bSi, .ref bTo, .ref bSp, .ref bDo, .ref bRi, .ref bNf, .int jwr, .ref bLd]))]) [0] rfl
      have hD9 := hD.sub (ws' := [(bO, .inr (3, [.int jbu, .ref bM, .ref bLo, .ref bS6, .ref bS7, .ref bKe, .ref bCo, .int jpc, .int jst, .int jln, .int jwa, .int jsn, .int jwk, .int jen, .ref bFr, .ref bSi, .ref bTo, .ref bSp, .ref bDo, .ref bRi, .ref bNf, .int jwr, .ref bLd]))]) [0] (by decide) rfl
      have hK9 := hK.sub (tys' := []) [] rfl
      exact W.zret (ty := .boolean) (v := 0) hx hb hr (by first | rfl | decide +kernel) (fun t ht hW => ⟨⟨0, (jln), rfl, (by unfold qLine; rw [if_neg (by intro q; first | exact absurd (q_lt h1 (n := 0) (by decide)) (by omega) | exact absurd (q_nle h6 (n := 3) (by decide)) (by omega))]), by rw [ht]; exact hP9, va_K.moved hW.alike hK9, hD9⟩, hS.F ht⟩) hS.2.2 dX3_line_10
end
section
set_option maxHeartbeats 4000000 in
set_option maxRecDepth 100000 in
theorem cM_run1 (l : Launch) (dC : Nat → ClassId) (dI : Nat → Nat → Nat) (bO : Nat) (inn : Int32) (jbu : Int32) (bM : Nat) (bLo : Nat) (bS6 : Nat) (bS7 : Nat) (bKe : Nat) (bCo : Nat) (jpc : Int32) (jst : Int32) (jln : Int32) (jwa : Int32) (jsn : Int32) (jwk : Int32) (jen : Int32) (bFr : Nat) (bSi : Nat) (bTo : Nat) (bSp : Nat) (bDo : Nat) (bRi : Nat) (bNf : Nat) (jwr : Int32) (bLd : Nat) (hsl : ¬ jsn = 0) : Met l yX3_run wsX3_run ({ frames := 0, cells := 0, slots := 0, locals := 0 }) (va_Pc [.ref bO, .int inn] (fun U => va_P (dC, dI) vwCl [(bO, .inr (3, [.int jbu, .ref bM, .ref bLo, .ref bS6, .ref bS7, .ref bKe, .ref bCo, .int jpc, .int jst, .int jln, .int jwa, .int jsn, .int jwk, .int jen, .ref bFr, .ref bSi, .ref bTo, .ref bSp, .ref bDo, .ref bRi, .ref bNf, .int jwr, .ref bLd]))] U.heap ∧ va_K (dC, dI) vwCl [] U)) (vp_Si (fun r : Int32 => r = qRun inn)) 0 0 (fun _ => False) := by
  refine Met.ofW (cc := cX3_run) (maxL := 3) (ret := (some .int)) (by decide) rfl ?_
  intro p e s m args below meth c s₁ B hml hv
  obtain ⟨rfl, hP, hK⟩ := hv
  have hx := B.exec
  have hb := B.bytes
  have hr := B.returns
  have hts := atoms_spec (ws := wsX3_run) B.pre
  have htb : ∀ w ∈ qT, w.before _ s = true := fun w h => hts w (List.mem_cons_of_mem _ h)
  have hown : s.vm.findClass RX3 = some m.cls := findClass_of_methodNamed B.named
  have hlocks := B.notSynchronized
  have hP : va_P (dC, dI) vwCl [(bO, .inr (3, [.int jbu, .ref bM, .ref bLo, .ref bS6, .ref bS7, .ref bKe, .ref bCo, .int jpc, .int jst, .int jln, .int jwa, .int jsn, .int jwk, .int jen, .ref bFr, .ref bSi, .ref bTo, .ref bSp, .ref bDo, .ref bRi, .ref bNf, .int jwr, .ref bLd]))] s.heap := hP
  have hl := lv_entry ([.ref bO, .int inn]) (n := 3) (Nat.le_of_ble_eq_true rfl)
  rw [lg_entry_eq]
  generalize (lg_sl ([.ref bO, .int inn]) ++ List.replicate (3 - (lg_sl ([.ref bO, .int inn])).length) Slot.unset).toArray = ls at hl ⊢
  have hl : lv_has ls 3 [(0, .ref bO), (1, .int inn)] := hl
  refine lv_iload_n hx hb dX3_run_0 rfl (lv_at hl 1 rfl) ?_
  refine lv_if_lt (tgt := 11) hx hb dX3_run_1 (by decide) (fun h1 => ?_) (fun h1 => ?_)
  · refine lv_iconst (v := (-1)) hx hb dX3_run_11 (by decide) ?_
    exact W.iret (v := (-1)) hx hb hr (fun t ht hW => ⟨_, rfl, (by unfold qRun; rw [if_neg (by intro q; first | exact absurd (q_lt h1 (n := 0) (by decide)) (by omega) | exact absurd (q_nle h8 (n := 300) (by decide)) (by omega))]), ht⟩) (fun _ h => by cases h) dX3_run_12
  · refine lv_iload_n hx hb dX3_run_4 rfl (lv_at hl 1 rfl) ?_
    refine lv_sipush (v := 300) hx hb dX3_run_5 (by decide) ?_
    refine lv_icmp_le (tgt := 13) hx hb dX3_run_8 (by decide) (fun h8 => ?_) (fun h8 => ?_)
    · refine lv_iconst (v := 0) hx hb dX3_run_13 (by decide) ?_
      refine lv_istore_n (lv' := [(2, .int 0), (0, .ref bO), (1, .int inn)]) hx hb dX3_run_14 rfl hl (by decide) rfl (fun ls hl => ?_)
      refine lv_iload_n hx hb dX3_run_15 rfl (lv_at hl 0 rfl) ?_
      refine lv_iload_n hx hb dX3_run_16 rfl (lv_at hl 2 rfl) ?_
      refine lv_icmp_ge (tgt := 37) hx hb dX3_run_17 (by decide) (fun h17 => ?_) (fun h17 => ?_)
      · refine lv_iload_n hx hb dX3_run_37 rfl (lv_at hl 0 rfl) ?_
        exact W.iret (v := 0) hx hb hr (fun t ht hW => ⟨_, rfl, (by unfold qRun; rw [if_pos ⟨q_nlt h1 (by decide), q_le h8 (by decide)⟩]), ht⟩) (fun _ h => by cases h) dX3_run_38
      · refine lv_aload_n hx hb dX3_run_20 rfl (lv_at hl 1 rfl) ?_
        refine va_get (D := (dC, dI)) (ci := 3) (v := .int jsn) (C := RX3) (T := TX3) (N := 23) hx hb htb inX3 hown hK hP 0 rfl rfl 11 (by decide) (htb _ m2_97) (fun _ h9 => h9) rfl dX3_run_21 ?_
        refine lv_if_ne (tgt := 37) hx hb dX3_run_24 (by decide) (fun h24 => ?_) (fun h24 => ?_)
        · refine lv_iload_n hx hb dX3_run_37 rfl (lv_at hl 0 rfl) ?_
          exact W.iret (v := 0) hx hb hr (fun t ht hW => ⟨_, rfl, (by unfold qRun; rw [if_pos ⟨q_nlt h1 (by decide), q_le h8 (by decide)⟩]), ht⟩) (fun _ h => by cases h) dX3_run_38
        · first | exact absurd hsl h24 | exact absurd h24 hsl | simp_all
    · refine lv_iconst (v := (-1)) hx hb dX3_run_11 (by decide) ?_
      exact W.iret (v := (-1)) hx hb hr (fun t ht hW => ⟨_, rfl, (by unfold qRun; rw [if_neg (by intro q; first | exact absurd (q_lt h1 (n := 0) (by decide)) (by omega) | exact absurd (q_nle h8 (n := 300) (by decide)) (by omega))]), ht⟩) (fun _ h => by cases h) dX3_run_12
end
section
set_option maxHeartbeats 4000000 in
set_option maxRecDepth 100000 in
theorem cM_word (l : Launch) (dC : Nat → ClassId) (dI : Nat → Nat → Nat) (bO : Nat) (ipl : Int32) (jbu : Int32) (bM : Nat) (bLo : Nat) (bS6 : Nat) (bS7 : Nat) (bKe : Nat) (bCo : Nat) (jpc : Int32) (jst : Int32) (jln : Int32) (jwa : Int32) (jsn : Int32) (jwk : Int32) (jen : Int32) (bFr : Nat) (bSi : Nat) (bTo : Nat) (bSp : Nat) (bDo : Nat) (bRi : Nat) (bNf : Nat) (jwr : Int32) (bLd : Nat) (jM : ClassId) (wM : Nat → Int32) : Met l yX3_word wsX3_word ({ frames := 1, cells := 0, slots := 0, locals := 20 }) (va_Pc [.ref bO, .int ipl] (fun U => va_P (dC, dI) vwCl [(bO, .inr (3, [.int jbu, .ref bM, .ref bLo, .ref bS6, .ref bS7, .ref bKe, .ref bCo, .int jpc, .int jst, .int jln, .int jwa, .int jsn, .int jwk, .int jen, .ref bFr, .ref bSi, .ref bTo, .ref bSp, .ref bDo, .ref bRi, .ref bNf, .int jwr, .ref bLd])), (bM, .inl (jM, 512, .inl wM))] U.heap ∧ va_K (dC, dI) vwCl [(jM, .int)] U)) (vp_Si (fun r : Int32 => qWord r ipl (∃ i : Nat, r = wM i))) 0 0 (fun _ => False) := by
  refine Met.ofW (cc := cX3_word) (maxL := 2) (ret := (some .int)) (by decide) rfl ?_
  intro p e s m args below meth c s₁ B hml hv
  obtain ⟨rfl, hP, hK⟩ := hv
  have hx := B.exec
  have hb := B.bytes
  have hr := B.returns
  have hts := atoms_spec (ws := wsX3_word) B.pre
  have htb : ∀ w ∈ qT, w.before _ s = true := fun w h => hts w (List.mem_cons_of_mem _ h)
  have hown : s.vm.findClass RX3 = some m.cls := findClass_of_methodNamed B.named
  have hlocks := B.notSynchronized
  have hP : va_P (dC, dI) vwCl [(bO, .inr (3, [.int jbu, .ref bM, .ref bLo, .ref bS6, .ref bS7, .ref bKe, .ref bCo, .int jpc, .int jst, .int jln, .int jwa, .int jsn, .int jwk, .int jen, .ref bFr, .ref bSi, .ref bTo, .ref bSp, .ref bDo, .ref bRi, .ref bNf, .int jwr, .ref bLd])), (bM, .inl (jM, 512, .inl wM))] s.heap := hP
  have hl := lv_entry ([.ref bO, .int ipl]) (n := 2) (Nat.le_of_ble_eq_true rfl)
  rw [lg_entry_eq]
  generalize (lg_sl ([.ref bO, .int ipl]) ++ List.replicate (2 - (lg_sl ([.ref bO, .int ipl])).length) Slot.unset).toArray = ls at hl ⊢
  have hl : lv_has ls 2 [(0, .ref bO), (1, .int ipl)] := hl
  refine lv_iload_n hx hb dX3_word_0 rfl (lv_at hl 1 rfl) ?_
  refine vp_callSi (W.runS (As := [.int ipl]) (rest := []) ⟨hx, hb, hml, hown, htb⟩ (cM_isPlace l ipl) (va_cwS 1 htb (q_gS m2_160 m2_161 m1_4 m2_162) rfl rfl rfl (by decide +kernel) ⟨Nat.le_of_ble_eq_true rfl, Nat.le_of_ble_eq_true rfl⟩) ⟨fun _ _ _ _ q => q, fun U hU hW => ⟨rfl, trivial⟩⟩ rfl rfl hl.1 rfl (lv_room (Nat.le_of_ble_eq_true rfl)) dX3_word_1 ⟨Nat.le_of_ble_eq_true rfl, Nat.le_of_ble_eq_true rfl⟩) (fun r1 p1 => ?_)
  try dsimp only at p1
  refine lv_if_eq (tgt := 16) hx hb dX3_word_4 (by decide) (fun h4 => ?_) (fun h4 => ?_)
  · refine lv_iconst (v := (-1)) hx hb dX3_word_16 (by decide) ?_
    exact W.iret (v := (-1)) hx hb hr (fun t ht hW => ⟨_, rfl, (Or.inl ⟨rfl, q_place3 p1 h4⟩), ht⟩) (fun _ h => by cases h) dX3_word_17
  · refine lv_aload_n hx hb dX3_word_7 rfl (lv_at hl 0 rfl) ?_
    refine va_get (D := (dC, dI)) (ci := 3) (v := .ref bM) (C := RX3) (T := TX3) (N := 23) hx hb htb inX3 hown hK hP 0 rfl rfl 1 (by decide) (htb _ m2_87) (fun _ h9 => h9) rfl dX3_word_8 ?_
    refine lv_iload_n hx hb dX3_word_11 rfl (lv_at hl 1 rfl) ?_
    refine va_iald hx hb hK hP 1 0 rfl rfl (q_place p1 h4) dX3_word_12 ?_
    refine lv_topi (fun v12 e12 => ?_)
    refine lv_goto (tgt := 17) hx hb dX3_word_13 (by decide) ?_
    exact W.iret (v := v12) hx hb hr (fun t ht hW => ⟨_, rfl, (Or.inr ⟨(q_place2 p1 h4).1, (q_place2 p1 h4).2, _, e12⟩), ht⟩) (fun _ h => by cases h) dX3_word_17
end
section
set_option maxHeartbeats 4000000 in
set_option maxRecDepth 100000 in
theorem cM_state (l : Launch) (dC : Nat → ClassId) (dI : Nat → Nat → Nat) (bO : Nat) (iwh : Int32) (jbu : Int32) (bM : Nat) (bLo : Nat) (bS6 : Nat) (bS7 : Nat) (bKe : Nat) (bCo : Nat) (jpc : Int32) (jst : Int32) (jln : Int32) (jwa : Int32) (jsn : Int32) (jwk : Int32) (jen : Int32) (bFr : Nat) (bSi : Nat) (bTo : Nat) (bSp : Nat) (bDo : Nat) (bRi : Nat) (bNf : Nat) (jwr : Int32) (bLd : Nat) (jLo : ClassId) (wLo : Nat → Int32) (jS6 : ClassId) (wS6 : Nat → Int32) (jS7 : ClassId) (wS7 : Nat → Int32) (jKe : ClassId) (wKe : Nat → Int32) (jCo : ClassId) (wCo : Nat → Int32) (hm5 : bd (jst &&& 7) 0 5) : Met l yX3_state wsX3_state ({ frames := 2, cells := 0, slots := 0, locals := 41 }) (va_Pc [.ref bO, .int iwh] (fun U => va_P (dC, dI) vwCl [(bO, .inr (3, [.int jbu, .ref bM, .ref bLo, .ref bS6, .ref bS7, .ref bKe, .ref bCo, .int jpc, .int jst, .int jln, .int jwa, .int jsn, .int jwk, .int jen, .ref bFr, .ref bSi, .ref bTo, .ref bSp, .ref bDo, .ref bRi, .ref bNf, .int jwr, .ref bLd])), (bLo, .inl (jLo, 6, .inl wLo)), (bS6, .inl (jS6, 6, .inl wS6)), (bS7, .inl (jS7, 6, .inl wS7)), (bKe, .inl (jKe, 6, .inl wKe)), (bCo, .inl (jCo, 12, .inl wCo))] U.heap ∧ va_K (dC, dI) vwCl [(jLo, .int), (jS6, .int), (jS7, .int), (jKe, .int), (jCo, .int)] U)) (vp_Si (fun r : Int32 => qSt r iwh (∃ i : Nat, r = wLo i ∨ r = wS6 i ∨ r = wS7 i) (∃ i : Nat, r = wCo i) (r = 0 ∨ ∃ i : Nat, r = wKe i) jpc jst jln jen jwk jsn)) 0 0 (fun _ => False) := by
  refine Met.ofW (cc := cX3_state) (maxL := 2) (ret := (some .int)) (by decide) rfl ?_
  intro p e s m args below meth c s₁ B hml hv
  obtain ⟨rfl, hP, hK⟩ := hv
  have hx := B.exec
  have hb := B.bytes
  have hr := B.returns
  have hts := atoms_spec (ws := wsX3_state) B.pre
  have htb : ∀ w ∈ qT, w.before _ s = true := fun w h => hts w (List.mem_cons_of_mem _ h)
  have hown : s.vm.findClass RX3 = some m.cls := findClass_of_methodNamed B.named
  have hlocks := B.notSynchronized
  have hP : va_P (dC, dI) vwCl [(bO, .inr (3, [.int jbu, .ref bM, .ref bLo, .ref bS6, .ref bS7, .ref bKe, .ref bCo, .int jpc, .int jst, .int jln, .int jwa, .int jsn, .int jwk, .int jen, .ref bFr, .ref bSi, .ref bTo, .ref bSp, .ref bDo, .ref bRi, .ref bNf, .int jwr, .ref bLd])), (bLo, .inl (jLo, 6, .inl wLo)), (bS6, .inl (jS6, 6, .inl wS6)), (bS7, .inl (jS7, 6, .inl wS7)), (bKe, .inl (jKe, 6, .inl wKe)), (bCo, .inl (jCo, 12, .inl wCo))] s.heap := hP
  have hl := lv_entry ([.ref bO, .int iwh]) (n := 2) (Nat.le_of_ble_eq_true rfl)
  rw [lg_entry_eq]
  generalize (lg_sl ([.ref bO, .int iwh]) ++ List.replicate (2 - (lg_sl ([.ref bO, .int iwh])).length) Slot.unset).toArray = ls at hl ⊢
  have hl : lv_has ls 2 [(0, .ref bO), (1, .int iwh)] := hl
  refine lv_iload_n hx hb dX3_state_0 rfl (lv_at hl 1 rfl) ?_
  refine lv_if_lt (tgt := 16) hx hb dX3_state_1 (by decide) (fun h1 => ?_) (fun h1 => ?_)
  · refine lv_iload_n hx hb dX3_state_16 rfl (lv_at hl 1 rfl) ?_
    refine lv_bipush (v := 20) hx hb dX3_state_17 (by decide) ?_
    refine lv_icmp_lt (tgt := 38) hx hb dX3_state_19 (by decide) (fun h19 => ?_) (fun h19 => ?_)
    · refine lv_iload_n hx hb dX3_state_38 rfl (lv_at hl 1 rfl) ?_
      by_cases h39_8 : iwh = 8
      · refine lv_tableIn (off := 41) (tgt := 80) hx hb dX3_state_39 (by rw [h39_8]; decide) (by rw [h39_8]; decide) (by rw [h39_8]; decide) (by decide) ?_
        refine lv_aload_n hx hb dX3_state_80 rfl (lv_at hl 0 rfl) ?_
        refine va_get (D := (dC, dI)) (ci := 3) (v := .int jpc) (C := RX3) (T := TX3) (N := 23) hx hb htb inX3 hown hK hP 0 rfl rfl 7 (by decide) (htb _ m2_93) (fun _ h9 => h9) rfl dX3_state_81 ?_
        exact W.iret (v := jpc) hx hb hr (fun t ht hW => ⟨_, rfl, (Or.inr (Or.inr (Or.inl ⟨h39_8, rfl⟩))), ht⟩) (fun _ h => by cases h) dX3_state_84
      by_cases h39_9 : iwh = 9
      · refine lv_tableIn (off := 46) (tgt := 85) hx hb dX3_state_39 (by rw [h39_9]; decide) (by rw [h39_9]; decide) (by rw [h39_9]; decide) (by decide) ?_
        refine lv_aload_n hx hb dX3_state_85 rfl (lv_at hl 0 rfl) ?_
        refine va_get (D := (dC, dI)) (ci := 3) (v := .int jst) (C := RX3) (T := TX3) (N := 23) hx hb htb inX3 hown hK hP 0 rfl rfl 8 (by decide) (htb _ m2_94) (fun _ h9 => h9) rfl dX3_state_86 ?_
        exact W.iret (v := jst) hx hb hr (fun t ht hW => ⟨_, rfl, (Or.inr (Or.inr (Or.inr (Or.inl ⟨h39_9, rfl⟩)))), ht⟩) (fun _ h => by cases h) dX3_state_89
      by_cases h39_10 : iwh = 10
      · refine lv_tableIn (off := 51) (tgt := 90) hx hb dX3_state_39 (by rw [h39_10]; decide) (by rw [h39_10]; decide) (by rw [h39_10]; decide) (by decide) ?_
        refine lv_aload_n hx hb dX3_state_90 rfl (lv_at hl 0 rfl) ?_
        have hPc := hP.sub (ws' := [(bO, .inr (3, [.int jbu, .ref bM, .ref bLo, .ref bS6, .ref bS7, .ref bKe, .ref bCo, .int jpc, .int jst, .int jln, .int jwa, .int jsn, .int jwk, .int jen, .ref bFr, .ref bSi, .ref bTo, .ref bSp, .ref bDo, .ref bRi, .ref bNf, .int jwr, .ref bLd]))]) [0] rfl
        have hKc := hK.sub (tys' := []) [] rfl
        refine vp_callSi (W.runV (As := []) (rest := []) ⟨hx, hb, hml, hown, htb⟩ (cM_mode l dC dI bO jbu bM bLo bS6 bS7 bKe bCo jpc jst jln jwa jsn jwk jen bFr bSi bTo bSp bDo bRi bNf jwr bLd) (cwV 0 htb (q_gV m2_180 m2_182 ms_29 m1_4 m2_183) rfl rfl rfl (by decide +kernel) ⟨Nat.le_of_ble_eq_true rfl, Nat.le_of_ble_eq_true rfl⟩) ⟨fun a U g mk q => by obtain ⟨q0, qP, qK⟩ := q; exact ⟨q0, qP, va_K.moved (u := U) (U := U.calling g mk a) (Vm.Alike.refl U.vm) qK⟩, va_recv (q0 := 0) hK hP (rfl : vwCl[3]? = some (RX3, TX3, 23)) rfl, fun U hU hW => ⟨rfl, by rw [hU]; exact hPc, va_K.moved hW.alike hKc⟩⟩ rfl rfl hl.1 rfl (lv_room (Nat.le_of_ble_eq_true rfl)) dX3_state_91 ⟨Nat.le_of_ble_eq_true rfl, Nat.le_of_ble_eq_true rfl⟩) (fun r91 p91 => ?_)
        try dsimp only at p91
        refine lv_if_ne (tgt := 101) hx hb dX3_state_94 (by decide) (fun h94 => ?_) (fun h94 => ?_)
        · refine lv_aload_n hx hb dX3_state_101 rfl (lv_at hl 0 rfl) ?_
          refine va_get (D := (dC, dI)) (ci := 3) (v := .ref bKe) (C := RX3) (T := TX3) (N := 23) hx hb htb inX3 hown hK hP 0 rfl rfl 5 (by decide) (htb _ m2_91) (fun _ h9 => h9) rfl dX3_state_102 ?_
          refine lv_aload_n hx hb dX3_state_105 rfl (lv_at hl 0 rfl) ?_
          have hPc := hP.sub (ws' := [(bO, .inr (3, [.int jbu, .ref bM, .ref bLo, .ref bS6, .ref bS7, .ref bKe, .ref bCo, .int jpc, .int jst, .int jln, .int jwa, .int jsn, .int jwk, .int jen, .ref bFr, .ref bSi, .ref bTo, .ref bSp, .ref bDo, .ref bRi, .ref bNf, .int jwr, .ref bLd]))]) [0] rfl
          have hKc := hK.sub (tys' := []) [] rfl
          refine vp_callSi (W.runV (As := []) (rest := [.ref bKe]) ⟨hx, hb, hml, hown, htb⟩ (cM_mode l dC dI bO jbu bM bLo bS6 bS7 bKe bCo jpc jst jln jwa jsn jwk jen bFr bSi bTo bSp bDo bRi bNf jwr bLd) (cwV 0 htb (q_gV m2_180 m2_182 ms_29 m1_4 m2_183) rfl rfl rfl (by decide +kernel) ⟨Nat.le_of_ble_eq_true rfl, Nat.le_of_ble_eq_true rfl⟩) ⟨fun a U g mk q => by obtain ⟨q0, qP, qK⟩ := q; exact ⟨q0, qP, va_K.moved (u := U) (U := U.calling g mk a) (Vm.Alike.refl U.vm) qK⟩, va_recv (q0 := 0) hK hP (rfl : vwCl[3]? = some (RX3, TX3, 23)) rfl, fun U hU hW => ⟨rfl, by rw [hU]; exact hPc, va_K.moved hW.alike hKc⟩⟩ rfl rfl hl.1 rfl (lv_room (Nat.le_of_ble_eq_true rfl)) dX3_state_106 ⟨Nat.le_of_ble_eq_true rfl, Nat.le_of_ble_eq_true rfl⟩) (fun r106 p106 => ?_)
          try dsimp only at p106
          refine va_iald hx hb hK hP 4 3 rfl rfl (by rw [p106]; exact bd_in hm5 (by decide) (by decide)) dX3_state_109 ?_
          refine lv_topi (fun v109 e109 => ?_)
          exact W.iret (v := v109) hx hb hr (fun t ht hW => ⟨_, rfl, (Or.inr (Or.inr (Or.inr (Or.inr (Or.inl ⟨h39_10, Or.inr ⟨_, e109⟩⟩))))), ht⟩) (fun _ h => by cases h) dX3_state_110
        · refine lv_iconst (v := 0) hx hb dX3_state_97 (by decide) ?_
          refine lv_goto (tgt := 110) hx hb dX3_state_98 (by decide) ?_
          exact W.iret (v := 0) hx hb hr (fun t ht hW => ⟨_, rfl, (Or.inr (Or.inr (Or.inr (Or.inr (Or.inl ⟨h39_10, Or.inl rfl⟩))))), ht⟩) (fun _ h => by cases h) dX3_state_110
      by_cases h39_11 : iwh = 11
      · refine lv_tableIn (off := 72) (tgt := 111) hx hb dX3_state_39 (by rw [h39_11]; decide) (by rw [h39_11]; decide) (by rw [h39_11]; decide) (by decide) ?_
        refine lv_aload_n hx hb dX3_state_111 rfl (lv_at hl 0 rfl) ?_
        refine va_get (D := (dC, dI)) (ci := 3) (v := .int jsn) (C := RX3) (T := TX3) (N := 23) hx hb htb inX3 hown hK hP 0 rfl rfl 11 (by decide) (htb _ m2_97) (fun _ h9 => h9) rfl dX3_state_112 ?_
        refine lv_if_eq (tgt := 122) hx hb dX3_state_115 (by decide) (fun h115 => ?_) (fun h115 => ?_)
        · refine lv_aload_n hx hb dX3_state_122 rfl (lv_at hl 0 rfl) ?_
          refine va_get (D := (dC, dI)) (ci := 3) (v := .int jwa) (C := RX3) (T := TX3) (N := 23) hx hb htb inX3 hown hK hP 0 rfl rfl 10 (by decide) (htb _ m2_96) (fun _ h9 => h9) rfl dX3_state_123 ?_
          refine lv_if_eq (tgt := 133) hx hb dX3_state_126 (by decide) (fun h126 => ?_) (fun h126 => ?_)
          · refine lv_iconst (v := 0) hx hb dX3_state_133 (by decide) ?_
            exact W.iret (v := 0) hx hb hr (fun t ht hW => ⟨_, rfl, (Or.inr (Or.inr (Or.inr (Or.inr (Or.inr (Or.inl ⟨h39_11, fun q => absurd h115 q⟩)))))), ht⟩) (fun _ h => by cases h) dX3_state_134
          · refine lv_iconst (v := 1) hx hb dX3_state_129 (by decide) ?_
            refine lv_goto (tgt := 134) hx hb dX3_state_130 (by decide) ?_
            exact W.iret (v := 1) hx hb hr (fun t ht hW => ⟨_, rfl, (Or.inr (Or.inr (Or.inr (Or.inr (Or.inr (Or.inl ⟨h39_11, fun q => absurd h115 q⟩)))))), ht⟩) (fun _ h => by cases h) dX3_state_134
        · refine lv_iconst (v := 2) hx hb dX3_state_118 (by decide) ?_
          refine lv_goto (tgt := 134) hx hb dX3_state_119 (by decide) ?_
          exact W.iret (v := 2) hx hb hr (fun t ht hW => ⟨_, rfl, (Or.inr (Or.inr (Or.inr (Or.inr (Or.inr (Or.inl ⟨h39_11, fun _ => rfl⟩)))))), ht⟩) (fun _ h => by cases h) dX3_state_134
      by_cases h39_12 : iwh = 12
      · refine lv_tableIn (off := 96) (tgt := 135) hx hb dX3_state_39 (by rw [h39_12]; decide) (by rw [h39_12]; decide) (by rw [h39_12]; decide) (by decide) ?_
        refine lv_aload_n hx hb dX3_state_135 rfl (lv_at hl 0 rfl) ?_
        refine va_get (D := (dC, dI)) (ci := 3) (v := .int jln) (C := RX3) (T := TX3) (N := 23) hx hb htb inX3 hown hK hP 0 rfl rfl 9 (by decide) (htb _ m2_95) (fun _ h9 => h9) rfl dX3_state_136 ?_
        exact W.iret (v := jln) hx hb hr (fun t ht hW => ⟨_, rfl, (Or.inr (Or.inr (Or.inr (Or.inr (Or.inr (Or.inr (Or.inl ⟨h39_12, rfl⟩))))))), ht⟩) (fun _ h => by cases h) dX3_state_139
      by_cases h39_13 : iwh = 13
      · refine lv_tableIn (off := 101) (tgt := 140) hx hb dX3_state_39 (by rw [h39_13]; decide) (by rw [h39_13]; decide) (by rw [h39_13]; decide) (by decide) ?_
        refine lv_aload_n hx hb dX3_state_140 rfl (lv_at hl 0 rfl) ?_
        refine va_get (D := (dC, dI)) (ci := 3) (v := .int jen) (C := RX3) (T := TX3) (N := 23) hx hb htb inX3 hown hK hP 0 rfl rfl 13 (by decide) (htb _ m2_99) (fun _ h9 => h9) rfl dX3_state_141 ?_
        exact W.iret (v := jen) hx hb hr (fun t ht hW => ⟨_, rfl, (Or.inr (Or.inr (Or.inr (Or.inr (Or.inr (Or.inr (Or.inr (Or.inl ⟨h39_13, rfl⟩)))))))), ht⟩) (fun _ h => by cases h) dX3_state_144
      by_cases h39_14 : iwh = 14
      · refine lv_tableIn (off := 106) (tgt := 145) hx hb dX3_state_39 (by rw [h39_14]; decide) (by rw [h39_14]; decide) (by rw [h39_14]; decide) (by decide) ?_
        refine lv_aload_n hx hb dX3_state_145 rfl (lv_at hl 0 rfl) ?_
        refine va_get (D := (dC, dI)) (ci := 3) (v := .int jwk) (C := RX3) (T := TX3) (N := 23) hx hb htb inX3 hown hK hP 0 rfl rfl 12 (by decide) (htb _ m2_98) (fun _ h9 => h9) rfl dX3_state_146 ?_
        exact W.iret (v := jwk) hx hb hr (fun t ht hW => ⟨_, rfl, (Or.inr (Or.inr (Or.inr (Or.inr (Or.inr (Or.inr (Or.inr (Or.inr (Or.inl ⟨h39_14, rfl⟩))))))))), ht⟩) (fun _ h => by cases h) dX3_state_149
      refine lv_tableOut (tgt := 150) hx hb dX3_state_39 (by have z8 := lv_neT h39_8 (show (8 : Int32).toInt = 8 from by decide); have z9 := lv_neT h39_9 (show (9 : Int32).toInt = 9 from by decide); have z10 := lv_neT h39_10 (show (10 : Int32).toInt = 10 from by decide); have z11 := lv_neT h39_11 (show (11 : Int32).toInt = 11 from by decide); have z12 := lv_neT h39_12 (show (12 : Int32).toInt = 12 from by decide); have z13 := lv_neT h39_13 (show (13 : Int32).toInt = 13 from by decide); have z14 := lv_neT h39_14 (show (14 : Int32).toInt = 14 from by decide); omega) (by decide) ?_
      refine lv_iconst (v := (-1)) hx hb dX3_state_150 (by decide) ?_
      exact W.iret (v := (-1)) hx hb hr (fun t ht hW => ⟨_, rfl, (Or.inr (Or.inr (Or.inr (Or.inr (Or.inr (Or.inr (Or.inr (Or.inr (Or.inr (⟨rfl, (by intro q; first | exact absurd (q_lt h1 (n := 0) (by decide)) (by omega) | exact absurd (q_ge h7 (n := 8) (by decide)) (by omega)), (by intro q; first | exact absurd (q_lt h19 (n := 20) (by decide)) (by omega) | exact absurd (q_ge h25 (n := 32) (by decide)) (by omega)), h39_8, h39_9, h39_10, h39_11, h39_12, h39_13, h39_14⟩)))))))))), ht⟩) (fun _ h => by cases h) dX3_state_151
    · refine lv_iload_n hx hb dX3_state_22 rfl (lv_at hl 1 rfl) ?_
      refine lv_bipush (v := 32) hx hb dX3_state_23 (by decide) ?_
      refine lv_icmp_ge (tgt := 38) hx hb dX3_state_25 (by decide) (fun h25 => ?_) (fun h25 => ?_)
      · refine lv_iload_n hx hb dX3_state_38 rfl (lv_at hl 1 rfl) ?_
        by_cases h39_8 : iwh = 8
        · refine lv_tableIn (off := 41) (tgt := 80) hx hb dX3_state_39 (by rw [h39_8]; decide) (by rw [h39_8]; decide) (by rw [h39_8]; decide) (by decide) ?_
          refine lv_aload_n hx hb dX3_state_80 rfl (lv_at hl 0 rfl) ?_
          refine va_get (D := (dC, dI)) (ci := 3) (v := .int jpc) (C := RX3) (T := TX3) (N := 23) hx hb htb inX3 hown hK hP 0 rfl rfl 7 (by decide) (htb _ m2_93) (fun _ h9 => h9) rfl dX3_state_81 ?_
          exact W.iret (v := jpc) hx hb hr (fun t ht hW => ⟨_, rfl, (Or.inr (Or.inr (Or.inl ⟨h39_8, rfl⟩))), ht⟩) (fun _ h => by cases h) dX3_state_84
        by_cases h39_9 : iwh = 9
        · refine lv_tableIn (off := 46) (tgt := 85) hx hb dX3_state_39 (by rw [h39_9]; decide) (by rw [h39_9]; decide) (by rw [h39_9]; decide) (by decide) ?_
          refine lv_aload_n hx hb dX3_state_85 rfl (lv_at hl 0 rfl) ?_
          refine va_get (D := (dC, dI)) (ci := 3) (v := .int jst) (C := RX3) (T := TX3) (N := 23) hx hb htb inX3 hown hK hP 0 rfl rfl 8 (by decide) (htb _ m2_94) (fun _ h9 => h9) rfl dX3_state_86 ?_
          exact W.iret (v := jst) hx hb hr (fun t ht hW => ⟨_, rfl, (Or.inr (Or.inr (Or.inr (Or.inl ⟨h39_9, rfl⟩)))), ht⟩) (fun _ h => by cases h) dX3_state_89
        by_cases h39_10 : iwh = 10
        · refine lv_tableIn (off := 51) (tgt := 90) hx hb dX3_state_39 (by rw [h39_10]; decide) (by rw [h39_10]; decide) (by rw [h39_10]; decide) (by decide) ?_
          refine lv_aload_n hx hb dX3_state_90 rfl (lv_at hl 0 rfl) ?_
          have hPc := hP.sub (ws' := [(bO, .inr (3, [.int jbu, .ref bM, .ref bLo, .ref bS6, .ref bS7, .ref bKe, .ref bCo, .int jpc, .int jst, .int jln, .int jwa, .int jsn, .int jwk, .int jen, .ref bFr, .ref bSi, .ref bTo, .ref bSp, .ref bDo, .ref bRi, .ref bNf, .int jwr, .ref bLd]))]) [0] rfl
          have hKc := hK.sub (tys' := []) [] rfl
          refine vp_callSi (W.runV (As := []) (rest := []) ⟨hx, hb, hml, hown, htb⟩ (cM_mode l dC dI bO jbu bM bLo bS6 bS7 bKe bCo jpc jst jln jwa jsn jwk jen bFr bSi bTo bSp bDo bRi bNf jwr bLd) (cwV 0 htb (q_gV m2_180 m2_182 ms_29 m1_4 m2_183) rfl rfl rfl (by decide +kernel) ⟨Nat.le_of_ble_eq_true rfl, Nat.le_of_ble_eq_true rfl⟩) ⟨fun a U g mk q => by obtain ⟨q0, qP, qK⟩ := q; exact ⟨q0, qP, va_K.moved (u := U) (U := U.calling g mk a) (Vm.Alike.refl U.vm) qK⟩, va_recv (q0 := 0) hK hP (rfl : vwCl[3]? = some (RX3, TX3, 23)) rfl, fun U hU hW => ⟨rfl, by rw [hU]; exact hPc, va_K.moved hW.alike hKc⟩⟩ rfl rfl hl.1 rfl (lv_room (Nat.le_of_ble_eq_true rfl)) dX3_state_91 ⟨Nat.le_of_ble_eq_true rfl, Nat.le_of_ble_eq_true rfl⟩) (fun r91 p91 => ?_)
          try dsimp only at p91
          refine lv_if_ne (tgt := 101) hx hb dX3_state_94 (by decide) (fun h94 => ?_) (fun h94 => ?_)
          · refine lv_aload_n hx hb dX3_state_101 rfl (lv_at hl 0 rfl) ?_
            refine va_get (D := (dC, dI)) (ci := 3) (v := .ref bKe) (C := RX3) (T := TX3) (N := 23) hx hb htb inX3 hown hK hP 0 rfl rfl 5 (by decide) (htb _ m2_91) (fun _ h9 => h9) rfl dX3_state_102 ?_
            refine lv_aload_n hx hb dX3_state_105 rfl (lv_at hl 0 rfl) ?_
            have hPc := hP.sub (ws' := [(bO, .inr (3, [.int jbu, .ref bM, .ref bLo, .ref bS6, .ref bS7, .ref bKe, .ref bCo, .int jpc, .int jst, .int jln, .int jwa, .int jsn, .int jwk, .int jen, .ref bFr, .ref bSi, .ref bTo, .ref bSp, .ref bDo, .ref bRi, .ref bNf, .int jwr, .ref bLd]))]) [0] rfl
            have hKc := hK.sub (tys' := []) [] rfl
            refine vp_callSi (W.runV (As := []) (rest := [.ref bKe]) ⟨hx, hb, hml, hown, htb⟩ (cM_mode l dC dI bO jbu bM bLo bS6 bS7 bKe bCo jpc jst jln jwa jsn jwk jen bFr bSi bTo bSp bDo bRi bNf jwr bLd) (cwV 0 htb (q_gV m2_180 m2_182 ms_29 m1_4 m2_183) rfl rfl rfl (by decide +kernel) ⟨Nat.le_of_ble_eq_true rfl, Nat.le_of_ble_eq_true rfl⟩) ⟨fun a U g mk q => by obtain ⟨q0, qP, qK⟩ := q; exact ⟨q0, qP, va_K.moved (u := U) (U := U.calling g mk a) (Vm.Alike.refl U.vm) qK⟩, va_recv (q0 := 0) hK hP (rfl : vwCl[3]? = some (RX3, TX3, 23)) rfl, fun U hU hW => ⟨rfl, by rw [hU]; exact hPc, va_K.moved hW.alike hKc⟩⟩ rfl rfl hl.1 rfl (lv_room (Nat.le_of_ble_eq_true rfl)) dX3_state_106 ⟨Nat.le_of_ble_eq_true rfl, Nat.le_of_ble_eq_true rfl⟩) (fun r106 p106 => ?_)
            try dsimp only at p106
            refine va_iald hx hb hK hP 4 3 rfl rfl (by rw [p106]; exact bd_in hm5 (by decide) (by decide)) dX3_state_109 ?_
            refine lv_topi (fun v109 e109 => ?_)
            exact W.iret (v := v109) hx hb hr (fun t ht hW => ⟨_, rfl, (Or.inr (Or.inr (Or.inr (Or.inr (Or.inl ⟨h39_10, Or.inr ⟨_, e109⟩⟩))))), ht⟩) (fun _ h => by cases h) dX3_state_110
          · refine lv_iconst (v := 0) hx hb dX3_state_97 (by decide) ?_
            refine lv_goto (tgt := 110) hx hb dX3_state_98 (by decide) ?_
            exact W.iret (v := 0) hx hb hr (fun t ht hW => ⟨_, rfl, (Or.inr (Or.inr (Or.inr (Or.inr (Or.inl ⟨h39_10, Or.inl rfl⟩))))), ht⟩) (fun _ h => by cases h) dX3_state_110
        by_cases h39_11 : iwh = 11
        · refine lv_tableIn (off := 72) (tgt := 111) hx hb dX3_state_39 (by rw [h39_11]; decide) (by rw [h39_11]; decide) (by rw [h39_11]; decide) (by decide) ?_
          refine lv_aload_n hx hb dX3_state_111 rfl (lv_at hl 0 rfl) ?_
          refine va_get (D := (dC, dI)) (ci := 3) (v := .int jsn) (C := RX3) (T := TX3) (N := 23) hx hb htb inX3 hown hK hP 0 rfl rfl 11 (by decide) (htb _ m2_97) (fun _ h9 => h9) rfl dX3_state_112 ?_
          refine lv_if_eq (tgt := 122) hx hb dX3_state_115 (by decide) (fun h115 => ?_) (fun h115 => ?_)
          · refine lv_aload_n hx hb dX3_state_122 rfl (lv_at hl 0 rfl) ?_
            refine va_get (D := (dC, dI)) (ci := 3) (v := .int jwa) (C := RX3) (T := TX3) (N := 23) hx hb htb inX3 hown hK hP 0 rfl rfl 10 (by decide) (htb _ m2_96) (fun _ h9 => h9) rfl dX3_state_123 ?_
            refine lv_if_eq (tgt := 133) hx hb dX3_state_126 (by decide) (fun h126 => ?_) (fun h126 => ?_)
            · refine lv_iconst (v := 0) hx hb dX3_state_133 (by decide) ?_
              exact W.iret (v := 0) hx hb hr (fun t ht hW => ⟨_, rfl, (Or.inr (Or.inr (Or.inr (Or.inr (Or.inr (Or.inl ⟨h39_11, fun q => absurd h115 q⟩)))))), ht⟩) (fun _ h => by cases h) dX3_state_134
            · refine lv_iconst (v := 1) hx hb dX3_state_129 (by decide) ?_
              refine lv_goto (tgt := 134) hx hb dX3_state_130 (by decide) ?_
              exact W.iret (v := 1) hx hb hr (fun t ht hW => ⟨_, rfl, (Or.inr (Or.inr (Or.inr (Or.inr (Or.inr (Or.inl ⟨h39_11, fun q => absurd h115 q⟩)))))), ht⟩) (fun _ h => by cases h) dX3_state_134
          · refine lv_iconst (v := 2) hx hb dX3_state_118 (by decide) ?_
            refine lv_goto (tgt := 134) hx hb dX3_state_119 (by decide) ?_
            exact W.iret (v := 2) hx hb hr (fun t ht hW => ⟨_, rfl, (Or.inr (Or.inr (Or.inr (Or.inr (Or.inr (Or.inl ⟨h39_11, fun _ => rfl⟩)))))), ht⟩) (fun _ h => by cases h) dX3_state_134
        by_cases h39_12 : iwh = 12
        · refine lv_tableIn (off := 96) (tgt := 135) hx hb dX3_state_39 (by rw [h39_12]; decide) (by rw [h39_12]; decide) (by rw [h39_12]; decide) (by decide) ?_
          refine lv_aload_n hx hb dX3_state_135 rfl (lv_at hl 0 rfl) ?_
          refine va_get (D := (dC, dI)) (ci := 3) (v := .int jln) (C := RX3) (T := TX3) (N := 23) hx hb htb inX3 hown hK hP 0 rfl rfl 9 (by decide) (htb _ m2_95) (fun _ h9 => h9) rfl dX3_state_136 ?_
          exact W.iret (v := jln) hx hb hr (fun t ht hW => ⟨_, rfl, (Or.inr (Or.inr (Or.inr (Or.inr (Or.inr (Or.inr (Or.inl ⟨h39_12, rfl⟩))))))), ht⟩) (fun _ h => by cases h) dX3_state_139
        by_cases h39_13 : iwh = 13
        · refine lv_tableIn (off := 101) (tgt := 140) hx hb dX3_state_39 (by rw [h39_13]; decide) (by rw [h39_13]; decide) (by rw [h39_13]; decide) (by decide) ?_
          refine lv_aload_n hx hb dX3_state_140 rfl (lv_at hl 0 rfl) ?_
          refine va_get (D := (dC, dI)) (ci := 3) (v := .int jen) (C := RX3) (T := TX3) (N := 23) hx hb htb inX3 hown hK hP 0 rfl rfl 13 (by decide) (htb _ m2_99) (fun _ h9 => h9) rfl dX3_state_141 ?_
          exact W.iret (v := jen) hx hb hr (fun t ht hW => ⟨_, rfl, (Or.inr (Or.inr (Or.inr (Or.inr (Or.inr (Or.inr (Or.inr (Or.inl ⟨h39_13, rfl⟩)))))))), ht⟩) (fun _ h => by cases h) dX3_state_144
        by_cases h39_14 : iwh = 14
        · refine lv_tableIn (off := 106) (tgt := 145) hx hb dX3_state_39 (by rw [h39_14]; decide) (by rw [h39_14]; decide) (by rw [h39_14]; decide) (by decide) ?_
          refine lv_aload_n hx hb dX3_state_145 rfl (lv_at hl 0 rfl) ?_
          refine va_get (D := (dC, dI)) (ci := 3) (v := .int jwk) (C := RX3) (T := TX3) (N := 23) hx hb htb inX3 hown hK hP 0 rfl rfl 12 (by decide) (htb _ m2_98) (fun _ h9 => h9) rfl dX3_state_146 ?_
          exact W.iret (v := jwk) hx hb hr (fun t ht hW => ⟨_, rfl, (Or.inr (Or.inr (Or.inr (Or.inr (Or.inr (Or.inr (Or.inr (Or.inr (Or.inl ⟨h39_14, rfl⟩))))))))), ht⟩) (fun _ h => by cases h) dX3_state_149
        refine lv_tableOut (tgt := 150) hx hb dX3_state_39 (by have z8 := lv_neT h39_8 (show (8 : Int32).toInt = 8 from by decide); have z9 := lv_neT h39_9 (show (9 : Int32).toInt = 9 from by decide); have z10 := lv_neT h39_10 (show (10 : Int32).toInt = 10 from by decide); have z11 := lv_neT h39_11 (show (11 : Int32).toInt = 11 from by decide); have z12 := lv_neT h39_12 (show (12 : Int32).toInt = 12 from by decide); have z13 := lv_neT h39_13 (show (13 : Int32).toInt = 13 from by decide); have z14 := lv_neT h39_14 (show (14 : Int32).toInt = 14 from by decide); omega) (by decide) ?_
        refine lv_iconst (v := (-1)) hx hb dX3_state_150 (by decide) ?_
        exact W.iret (v := (-1)) hx hb hr (fun t ht hW => ⟨_, rfl, (Or.inr (Or.inr (Or.inr (Or.inr (Or.inr (Or.inr (Or.inr (Or.inr (Or.inr (⟨rfl, (by intro q; first | exact absurd (q_lt h1 (n := 0) (by decide)) (by omega) | exact absurd (q_ge h7 (n := 8) (by decide)) (by omega)), (by intro q; first | exact absurd (q_lt h19 (n := 20) (by decide)) (by omega) | exact absurd (q_ge h25 (n := 32) (by decide)) (by omega)), h39_8, h39_9, h39_10, h39_11, h39_12, h39_13, h39_14⟩)))))))))), ht⟩) (fun _ h => by cases h) dX3_state_151
      · refine lv_aload_n hx hb dX3_state_28 rfl (lv_at hl 0 rfl) ?_
        refine va_get (D := (dC, dI)) (ci := 3) (v := .ref bCo) (C := RX3) (T := TX3) (N := 23) hx hb htb inX3 hown hK hP 0 rfl rfl 6 (by decide) (htb _ m2_92) (fun _ h9 => h9) rfl dX3_state_29 ?_
        refine lv_iload_n hx hb dX3_state_32 rfl (lv_at hl 1 rfl) ?_
        refine lv_bipush (v := 20) hx hb dX3_state_33 (by decide) ?_
        refine lv_isub hx hb dX3_state_35 ?_
        refine lv_topi (fun v35 e35 => ?_)
        refine va_iald hx hb hK hP 5 4 rfl rfl (by rw [e35]; exact bd_in (bd_sub (a := 20) (b := 31) ⟨q_nlt h19 (by decide), by have := q_nge h25 (n := 32) (by decide); omega⟩ (bd_lit (a := 20) (by decide)) (by decide) (by decide)) (by decide) (by decide)) dX3_state_36 ?_
        refine lv_topi (fun v36 e36 => ?_)
        exact W.iret (v := v36) hx hb hr (fun t ht hW => ⟨_, rfl, (Or.inr (Or.inl ⟨q_nlt h19 (by decide), (by have := q_nge h25 (n := 32) (by decide); omega), _, e36⟩)), ht⟩) (fun _ h => by cases h) dX3_state_37
  · refine lv_iload_n hx hb dX3_state_4 rfl (lv_at hl 1 rfl) ?_
    refine lv_bipush (v := 8) hx hb dX3_state_5 (by decide) ?_
    refine lv_icmp_ge (tgt := 16) hx hb dX3_state_7 (by decide) (fun h7 => ?_) (fun h7 => ?_)
    · refine lv_iload_n hx hb dX3_state_16 rfl (lv_at hl 1 rfl) ?_
      refine lv_bipush (v := 20) hx hb dX3_state_17 (by decide) ?_
      refine lv_icmp_lt (tgt := 38) hx hb dX3_state_19 (by decide) (fun h19 => ?_) (fun h19 => ?_)
      · refine lv_iload_n hx hb dX3_state_38 rfl (lv_at hl 1 rfl) ?_
        by_cases h39_8 : iwh = 8
        · refine lv_tableIn (off := 41) (tgt := 80) hx hb dX3_state_39 (by rw [h39_8]; decide) (by rw [h39_8]; decide) (by rw [h39_8]; decide) (by decide) ?_
          refine lv_aload_n hx hb dX3_state_80 rfl (lv_at hl 0 rfl) ?_
          refine va_get (D := (dC, dI)) (ci := 3) (v := .int jpc) (C := RX3) (T := TX3) (N := 23) hx hb htb inX3 hown hK hP 0 rfl rfl 7 (by decide) (htb _ m2_93) (fun _ h9 => h9) rfl dX3_state_81 ?_
          exact W.iret (v := jpc) hx hb hr (fun t ht hW => ⟨_, rfl, (Or.inr (Or.inr (Or.inl ⟨h39_8, rfl⟩))), ht⟩) (fun _ h => by cases h) dX3_state_84
        by_cases h39_9 : iwh = 9
        · refine lv_tableIn (off := 46) (tgt := 85) hx hb dX3_state_39 (by rw [h39_9]; decide) (by rw [h39_9]; decide) (by rw [h39_9]; decide) (by decide) ?_
          refine lv_aload_n hx hb dX3_state_85 rfl (lv_at hl 0 rfl) ?_
          refine va_get (D := (dC, dI)) (ci := 3) (v := .int jst) (C := RX3) (T := TX3) (N := 23) hx hb htb inX3 hown hK hP 0 rfl rfl 8 (by decide) (htb _ m2_94) (fun _ h9 => h9) rfl dX3_state_86 ?_
          exact W.iret (v := jst) hx hb hr (fun t ht hW => ⟨_, rfl, (Or.inr (Or.inr (Or.inr (Or.inl ⟨h39_9, rfl⟩)))), ht⟩) (fun _ h => by cases h) dX3_state_89
        by_cases h39_10 : iwh = 10
        · refine lv_tableIn (off := 51) (tgt := 90) hx hb dX3_state_39 (by rw [h39_10]; decide) (by rw [h39_10]; decide) (by rw [h39_10]; decide) (by decide) ?_
          refine lv_aload_n hx hb dX3_state_90 rfl (lv_at hl 0 rfl) ?_
          have hPc := hP.sub (ws' := [(bO, .inr (3, [.int jbu, .ref bM, .ref bLo, .ref bS6, .ref bS7, .ref bKe, .ref bCo, .int jpc, .int jst, .int jln, .int jwa, .int jsn, .int jwk, .int jen, .ref bFr, .ref bSi, .ref bTo, .ref bSp, .ref bDo, .ref bRi, .ref bNf, .int jwr, .ref bLd]))]) [0] rfl
          have hKc := hK.sub (tys' := []) [] rfl
          refine vp_callSi (W.runV (As := []) (rest := []) ⟨hx, hb, hml, hown, htb⟩ (cM_mode l dC dI bO jbu bM bLo bS6 bS7 bKe bCo jpc jst jln jwa jsn jwk jen bFr bSi bTo bSp bDo bRi bNf jwr bLd) (cwV 0 htb (q_gV m2_180 m2_182 ms_29 m1_4 m2_183) rfl rfl rfl (by decide +kernel) ⟨Nat.le_of_ble_eq_true rfl, Nat.le_of_ble_eq_true rfl⟩) ⟨fun a U g mk q => by obtain ⟨q0, qP, qK⟩ := q; exact ⟨q0, qP, va_K.moved (u := U) (U := U.calling g mk a) (Vm.Alike.refl U.vm) qK⟩, va_recv (q0 := 0) hK hP (rfl : vwCl[3]? = some (RX3, TX3, 23)) rfl, fun U hU hW => ⟨rfl, by rw [hU]; exact hPc, va_K.moved hW.alike hKc⟩⟩ rfl rfl hl.1 rfl (lv_room (Nat.le_of_ble_eq_true rfl)) dX3_state_91 ⟨Nat.le_of_ble_eq_true rfl, Nat.le_of_ble_eq_true rfl⟩) (fun r91 p91 => ?_)
          try dsimp only at p91
          refine lv_if_ne (tgt := 101) hx hb dX3_state_94 (by decide) (fun h94 => ?_) (fun h94 => ?_)
          · refine lv_aload_n hx hb dX3_state_101 rfl (lv_at hl 0 rfl) ?_
            refine va_get (D := (dC, dI)) (ci := 3) (v := .ref bKe) (C := RX3) (T := TX3) (N := 23) hx hb htb inX3 hown hK hP 0 rfl rfl 5 (by decide) (htb _ m2_91) (fun _ h9 => h9) rfl dX3_state_102 ?_
            refine lv_aload_n hx hb dX3_state_105 rfl (lv_at hl 0 rfl) ?_
            have hPc := hP.sub (ws' := [(bO, .inr (3, [.int jbu, .ref bM, .ref bLo, .ref bS6, .ref bS7, .ref bKe, .ref bCo, .int jpc, .int jst, .int jln, .int jwa, .int jsn, .int jwk, .int jen, .ref bFr, .ref bSi, .ref bTo, .ref bSp, .ref bDo, .ref bRi, .ref bNf, .int jwr, .ref bLd]))]) [0] rfl
            have hKc := hK.sub (tys' := []) [] rfl
            refine vp_callSi (W.runV (As := []) (rest := [.ref bKe]) ⟨hx, hb, hml, hown, htb⟩ (cM_mode l dC dI bO jbu bM bLo bS6 bS7 bKe bCo jpc jst jln jwa jsn jwk jen bFr bSi bTo bSp bDo bRi bNf jwr bLd) (cwV 0 htb (q_gV m2_180 m2_182 ms_29 m1_4 m2_183) rfl rfl rfl (by decide +kernel) ⟨Nat.le_of_ble_eq_true rfl, Nat.le_of_ble_eq_true rfl⟩) ⟨fun a U g mk q => by obtain ⟨q0, qP, qK⟩ := q; exact ⟨q0, qP, va_K.moved (u := U) (U := U.calling g mk a) (Vm.Alike.refl U.vm) qK⟩, va_recv (q0 := 0) hK hP (rfl : vwCl[3]? = some (RX3, TX3, 23)) rfl, fun U hU hW => ⟨rfl, by rw [hU]; exact hPc, va_K.moved hW.alike hKc⟩⟩ rfl rfl hl.1 rfl (lv_room (Nat.le_of_ble_eq_true rfl)) dX3_state_106 ⟨Nat.le_of_ble_eq_true rfl, Nat.le_of_ble_eq_true rfl⟩) (fun r106 p106 => ?_)
            try dsimp only at p106
            refine va_iald hx hb hK hP 4 3 rfl rfl (by rw [p106]; exact bd_in hm5 (by decide) (by decide)) dX3_state_109 ?_
            refine lv_topi (fun v109 e109 => ?_)
            exact W.iret (v := v109) hx hb hr (fun t ht hW => ⟨_, rfl, (Or.inr (Or.inr (Or.inr (Or.inr (Or.inl ⟨h39_10, Or.inr ⟨_, e109⟩⟩))))), ht⟩) (fun _ h => by cases h) dX3_state_110
          · refine lv_iconst (v := 0) hx hb dX3_state_97 (by decide) ?_
            refine lv_goto (tgt := 110) hx hb dX3_state_98 (by decide) ?_
            exact W.iret (v := 0) hx hb hr (fun t ht hW => ⟨_, rfl, (Or.inr (Or.inr (Or.inr (Or.inr (Or.inl ⟨h39_10, Or.inl rfl⟩))))), ht⟩) (fun _ h => by cases h) dX3_state_110
        by_cases h39_11 : iwh = 11
        · refine lv_tableIn (off := 72) (tgt := 111) hx hb dX3_state_39 (by rw [h39_11]; decide) (by rw [h39_11]; decide) (by rw [h39_11]; decide) (by decide) ?_
          refine lv_aload_n hx hb dX3_state_111 rfl (lv_at hl 0 rfl) ?_
          refine va_get (D := (dC, dI)) (ci := 3) (v := .int jsn) (C := RX3) (T := TX3) (N := 23) hx hb htb inX3 hown hK hP 0 rfl rfl 11 (by decide) (htb _ m2_97) (fun _ h9 => h9) rfl dX3_state_112 ?_
          refine lv_if_eq (tgt := 122) hx hb dX3_state_115 (by decide) (fun h115 => ?_) (fun h115 => ?_)
          · refine lv_aload_n hx hb dX3_state_122 rfl (lv_at hl 0 rfl) ?_
            refine va_get (D := (dC, dI)) (ci := 3) (v := .int jwa) (C := RX3) (T := TX3) (N := 23) hx hb htb inX3 hown hK hP 0 rfl rfl 10 (by decide) (htb _ m2_96) (fun _ h9 => h9) rfl dX3_state_123 ?_
            refine lv_if_eq (tgt := 133) hx hb dX3_state_126 (by decide) (fun h126 => ?_) (fun h126 => ?_)
            · refine lv_iconst (v := 0) hx hb dX3_state_133 (by decide) ?_
              exact W.iret (v := 0) hx hb hr (fun t ht hW => ⟨_, rfl, (Or.inr (Or.inr (Or.inr (Or.inr (Or.inr (Or.inl ⟨h39_11, fun q => absurd h115 q⟩)))))), ht⟩) (fun _ h => by cases h) dX3_state_134
            · refine lv_iconst (v := 1) hx hb dX3_state_129 (by decide) ?_
              refine lv_goto (tgt := 134) hx hb dX3_state_130 (by decide) ?_
              exact W.iret (v := 1) hx hb hr (fun t ht hW => ⟨_, rfl, (Or.inr (Or.inr (Or.inr (Or.inr (Or.inr (Or.inl ⟨h39_11, fun q => absurd h115 q⟩)))))), ht⟩) (fun _ h => by cases h) dX3_state_134
          · refine lv_iconst (v := 2) hx hb dX3_state_118 (by decide) ?_
            refine lv_goto (tgt := 134) hx hb dX3_state_119 (by decide) ?_
            exact W.iret (v := 2) hx hb hr (fun t ht hW => ⟨_, rfl, (Or.inr (Or.inr (Or.inr (Or.inr (Or.inr (Or.inl ⟨h39_11, fun _ => rfl⟩)))))), ht⟩) (fun _ h => by cases h) dX3_state_134
        by_cases h39_12 : iwh = 12
        · refine lv_tableIn (off := 96) (tgt := 135) hx hb dX3_state_39 (by rw [h39_12]; decide) (by rw [h39_12]; decide) (by rw [h39_12]; decide) (by decide) ?_
          refine lv_aload_n hx hb dX3_state_135 rfl (lv_at hl 0 rfl) ?_
          refine va_get (D := (dC, dI)) (ci := 3) (v := .int jln) (C := RX3) (T := TX3) (N := 23) hx hb htb inX3 hown hK hP 0 rfl rfl 9 (by decide) (htb _ m2_95) (fun _ h9 => h9) rfl dX3_state_136 ?_
          exact W.iret (v := jln) hx hb hr (fun t ht hW => ⟨_, rfl, (Or.inr (Or.inr (Or.inr (Or.inr (Or.inr (Or.inr (Or.inl ⟨h39_12, rfl⟩))))))), ht⟩) (fun _ h => by cases h) dX3_state_139
        by_cases h39_13 : iwh = 13
        · refine lv_tableIn (off := 101) (tgt := 140) hx hb dX3_state_39 (by rw [h39_13]; decide) (by rw [h39_13]; decide) (by rw [h39_13]; decide) (by decide) ?_
          refine lv_aload_n hx hb dX3_state_140 rfl (lv_at hl 0 rfl) ?_
          refine va_get (D := (dC, dI)) (ci := 3) (v := .int jen) (C := RX3) (T := TX3) (N := 23) hx hb htb inX3 hown hK hP 0 rfl rfl 13 (by decide) (htb _ m2_99) (fun _ h9 => h9) rfl dX3_state_141 ?_
          exact W.iret (v := jen) hx hb hr (fun t ht hW => ⟨_, rfl, (Or.inr (Or.inr (Or.inr (Or.inr (Or.inr (Or.inr (Or.inr (Or.inl ⟨h39_13, rfl⟩)))))))), ht⟩) (fun _ h => by cases h) dX3_state_144
        by_cases h39_14 : iwh = 14
        · refine lv_tableIn (off := 106) (tgt := 145) hx hb dX3_state_39 (by rw [h39_14]; decide) (by rw [h39_14]; decide) (by rw [h39_14]; decide) (by decide) ?_
          refine lv_aload_n hx hb dX3_state_145 rfl (lv_at hl 0 rfl) ?_
          refine va_get (D := (dC, dI)) (ci := 3) (v := .int jwk) (C := RX3) (T := TX3) (N := 23) hx hb htb inX3 hown hK hP 0 rfl rfl 12 (by decide) (htb _ m2_98) (fun _ h9 => h9) rfl dX3_state_146 ?_
          exact W.iret (v := jwk) hx hb hr (fun t ht hW => ⟨_, rfl, (Or.inr (Or.inr (Or.inr (Or.inr (Or.inr (Or.inr (Or.inr (Or.inr (Or.inl ⟨h39_14, rfl⟩))))))))), ht⟩) (fun _ h => by cases h) dX3_state_149
        refine lv_tableOut (tgt := 150) hx hb dX3_state_39 (by have z8 := lv_neT h39_8 (show (8 : Int32).toInt = 8 from by decide); have z9 := lv_neT h39_9 (show (9 : Int32).toInt = 9 from by decide); have z10 := lv_neT h39_10 (show (10 : Int32).toInt = 10 from by decide); have z11 := lv_neT h39_11 (show (11 : Int32).toInt = 11 from by decide); have z12 := lv_neT h39_12 (show (12 : Int32).toInt = 12 from by decide); have z13 := lv_neT h39_13 (show (13 : Int32).toInt = 13 from by decide); have z14 := lv_neT h39_14 (show (14 : Int32).toInt = 14 from by decide); omega) (by decide) ?_
        refine lv_iconst (v := (-1)) hx hb dX3_state_150 (by decide) ?_
        exact W.iret (v := (-1)) hx hb hr (fun t ht hW => ⟨_, rfl, (Or.inr (Or.inr (Or.inr (Or.inr (Or.inr (Or.inr (Or.inr (Or.inr (Or.inr (⟨rfl, (by intro q; first | exact absurd (q_lt h1 (n := 0) (by decide)) (by omega) | exact absurd (q_ge h7 (n := 8) (by decide)) (by omega)), (by intro q; first | exact absurd (q_lt h19 (n := 20) (by decide)) (by omega) | exact absurd (q_ge h25 (n := 32) (by decide)) (by omega)), h39_8, h39_9, h39_10, h39_11, h39_12, h39_13, h39_14⟩)))))))))), ht⟩) (fun _ h => by cases h) dX3_state_151
      · refine lv_iload_n hx hb dX3_state_22 rfl (lv_at hl 1 rfl) ?_
        refine lv_bipush (v := 32) hx hb dX3_state_23 (by decide) ?_
        refine lv_icmp_ge (tgt := 38) hx hb dX3_state_25 (by decide) (fun h25 => ?_) (fun h25 => ?_)
        · refine lv_iload_n hx hb dX3_state_38 rfl (lv_at hl 1 rfl) ?_
          by_cases h39_8 : iwh = 8
          · refine lv_tableIn (off := 41) (tgt := 80) hx hb dX3_state_39 (by rw [h39_8]; decide) (by rw [h39_8]; decide) (by rw [h39_8]; decide) (by decide) ?_
            refine lv_aload_n hx hb dX3_state_80 rfl (lv_at hl 0 rfl) ?_
            refine va_get (D := (dC, dI)) (ci := 3) (v := .int jpc) (C := RX3) (T := TX3) (N := 23) hx hb htb inX3 hown hK hP 0 rfl rfl 7 (by decide) (htb _ m2_93) (fun _ h9 => h9) rfl dX3_state_81 ?_
            exact W.iret (v := jpc) hx hb hr (fun t ht hW => ⟨_, rfl, (Or.inr (Or.inr (Or.inl ⟨h39_8, rfl⟩))), ht⟩) (fun _ h => by cases h) dX3_state_84
          by_cases h39_9 : iwh = 9
          · refine lv_tableIn (off := 46) (tgt := 85) hx hb dX3_state_39 (by rw [h39_9]; decide) (by rw [h39_9]; decide) (by rw [h39_9]; decide) (by decide) ?_
            refine lv_aload_n hx hb dX3_state_85 rfl (lv_at hl 0 rfl) ?_
            refine va_get (D := (dC, dI)) (ci := 3) (v := .int jst) (C := RX3) (T := TX3) (N := 23) hx hb htb inX3 hown hK hP 0 rfl rfl 8 (by decide) (htb _ m2_94) (fun _ h9 => h9) rfl dX3_state_86 ?_
            exact W.iret (v := jst) hx hb hr (fun t ht hW => ⟨_, rfl, (Or.inr (Or.inr (Or.inr (Or.inl ⟨h39_9, rfl⟩)))), ht⟩) (fun _ h => by cases h) dX3_state_89
          by_cases h39_10 : iwh = 10
          · refine lv_tableIn (off := 51) (tgt := 90) hx hb dX3_state_39 (by rw [h39_10]; decide) (by rw [h39_10]; decide) (by rw [h39_10]; decide) (by decide) ?_
            refine lv_aload_n hx hb dX3_state_90 rfl (lv_at hl 0 rfl) ?_
            have hPc := hP.sub (ws' := [(bO, .inr (3, [.int jbu, .ref bM, .ref bLo, .ref bS6, .ref bS7, .ref bKe, .ref bCo, .int jpc, .int jst, .int jln, .int jwa, .int jsn, .int jwk, .int jen, .ref bFr, .ref bSi, .ref bTo, .ref bSp, .ref bDo, .ref bRi, .ref bNf, .int jwr, .ref bLd]))]) [0] rfl
            have hKc := hK.sub (tys' := []) [] rfl
            refine vp_callSi (W.runV (As := []) (rest := []) ⟨hx, hb, hml, hown, htb⟩ (cM_mode l dC dI bO jbu bM bLo bS6 bS7 bKe bCo jpc jst jln jwa jsn jwk jen bFr bSi bTo bSp bDo bRi bNf jwr bLd) (cwV 0 htb (q_gV m2_180 m2_182 ms_29 m1_4 m2_183) rfl rfl rfl (by decide +kernel) ⟨Nat.le_of_ble_eq_true rfl, Nat.le_of_ble_eq_true rfl⟩) ⟨fun a U g mk q => by obtain ⟨q0, qP, qK⟩ := q; exact ⟨q0, qP, va_K.moved (u := U) (U := U.calling g mk a) (Vm.Alike.refl U.vm) qK⟩, va_recv (q0 := 0) hK hP (rfl : vwCl[3]? = some (RX3, TX3, 23)) rfl, fun U hU hW => ⟨rfl, by rw [hU]; exact hPc, va_K.moved hW.alike hKc⟩⟩ rfl rfl hl.1 rfl (lv_room (Nat.le_of_ble_eq_true rfl)) dX3_state_91 ⟨Nat.le_of_ble_eq_true rfl, Nat.le_of_ble_eq_true rfl⟩) (fun r91 p91 => ?_)
            try dsimp only at p91
            refine lv_if_ne (tgt := 101) hx hb dX3_state_94 (by decide) (fun h94 => ?_) (fun h94 => ?_)
            · refine lv_aload_n hx hb dX3_state_101 rfl (lv_at hl 0 rfl) ?_
              refine va_get (D := (dC, dI)) (ci := 3) (v := .ref bKe) (C := RX3) (T := TX3) (N := 23) hx hb htb inX3 hown hK hP 0 rfl rfl 5 (by decide) (htb _ m2_91) (fun _ h9 => h9) rfl dX3_state_102 ?_
              refine lv_aload_n hx hb dX3_state_105 rfl (lv_at hl 0 rfl) ?_
              have hPc := hP.sub (ws' := [(bO, .inr (3, [.int jbu, .ref bM, .ref bLo, .ref bS6, .ref bS7, .ref bKe, .ref bCo, .int jpc, .int jst, .int jln, .int jwa, .int jsn, .int jwk, .int jen, .ref bFr, .ref bSi, .ref bTo, .ref bSp, .ref bDo, .ref bRi, .ref bNf, .int jwr, .ref bLd]))]) [0] rfl
              have hKc := hK.sub (tys' := []) [] rfl
              refine vp_callSi (W.runV (As := []) (rest := [.ref bKe]) ⟨hx, hb, hml, hown, htb⟩ (cM_mode l dC dI bO jbu bM bLo bS6 bS7 bKe bCo jpc jst jln jwa jsn jwk jen bFr bSi bTo bSp bDo bRi bNf jwr bLd) (cwV 0 htb (q_gV m2_180 m2_182 ms_29 m1_4 m2_183) rfl rfl rfl (by decide +kernel) ⟨Nat.le_of_ble_eq_true rfl, Nat.le_of_ble_eq_true rfl⟩) ⟨fun a U g mk q => by obtain ⟨q0, qP, qK⟩ := q; exact ⟨q0, qP, va_K.moved (u := U) (U := U.calling g mk a) (Vm.Alike.refl U.vm) qK⟩, va_recv (q0 := 0) hK hP (rfl : vwCl[3]? = some (RX3, TX3, 23)) rfl, fun U hU hW => ⟨rfl, by rw [hU]; exact hPc, va_K.moved hW.alike hKc⟩⟩ rfl rfl hl.1 rfl (lv_room (Nat.le_of_ble_eq_true rfl)) dX3_state_106 ⟨Nat.le_of_ble_eq_true rfl, Nat.le_of_ble_eq_true rfl⟩) (fun r106 p106 => ?_)
              try dsimp only at p106
              refine va_iald hx hb hK hP 4 3 rfl rfl (by rw [p106]; exact bd_in hm5 (by decide) (by decide)) dX3_state_109 ?_
              refine lv_topi (fun v109 e109 => ?_)
              exact W.iret (v := v109) hx hb hr (fun t ht hW => ⟨_, rfl, (Or.inr (Or.inr (Or.inr (Or.inr (Or.inl ⟨h39_10, Or.inr ⟨_, e109⟩⟩))))), ht⟩) (fun _ h => by cases h) dX3_state_110
            · refine lv_iconst (v := 0) hx hb dX3_state_97 (by decide) ?_
              refine lv_goto (tgt := 110) hx hb dX3_state_98 (by decide) ?_
              exact W.iret (v := 0) hx hb hr (fun t ht hW => ⟨_, rfl, (Or.inr (Or.inr (Or.inr (Or.inr (Or.inl ⟨h39_10, Or.inl rfl⟩))))), ht⟩) (fun _ h => by cases h) dX3_state_110
          by_cases h39_11 : iwh = 11
          · refine lv_tableIn (off := 72) (tgt := 111) hx hb dX3_state_39 (by rw [h39_11]; decide) (by rw [h39_11]; decide) (by rw [h39_11]; decide) (by decide) ?_
            refine lv_aload_n hx hb dX3_state_111 rfl (lv_at hl 0 rfl) ?_
            refine va_get (D := (dC, dI)) (ci := 3) (v := .int jsn) (C := RX3) (T := TX3) (N := 23) hx hb htb inX3 hown hK hP 0 rfl rfl 11 (by decide) (htb _ m2_97) (fun _ h9 => h9) rfl dX3_state_112 ?_
            refine lv_if_eq (tgt := 122) hx hb dX3_state_115 (by decide) (fun h115 => ?_) (fun h115 => ?_)
            · refine lv_aload_n hx hb dX3_state_122 rfl (lv_at hl 0 rfl) ?_
              refine va_get (D := (dC, dI)) (ci := 3) (v := .int jwa) (C := RX3) (T := TX3) (N := 23) hx hb htb inX3 hown hK hP 0 rfl rfl 10 (by decide) (htb _ m2_96) (fun _ h9 => h9) rfl dX3_state_123 ?_
              refine lv_if_eq (tgt := 133) hx hb dX3_state_126 (by decide) (fun h126 => ?_) (fun h126 => ?_)
              · refine lv_iconst (v := 0) hx hb dX3_state_133 (by decide) ?_
                exact W.iret (v := 0) hx hb hr (fun t ht hW => ⟨_, rfl, (Or.inr (Or.inr (Or.inr (Or.inr (Or.inr (Or.inl ⟨h39_11, fun q => absurd h115 q⟩)))))), ht⟩) (fun _ h => by cases h) dX3_state_134
              · refine lv_iconst (v := 1) hx hb dX3_state_129 (by decide) ?_
                refine lv_goto (tgt := 134) hx hb dX3_state_130 (by decide) ?_
                exact W.iret (v := 1) hx hb hr (fun t ht hW => ⟨_, rfl, (Or.inr (Or.inr (Or.inr (Or.inr (Or.inr (Or.inl ⟨h39_11, fun q => absurd h115 q⟩)))))), ht⟩) (fun _ h => by cases h) dX3_state_134
            · refine lv_iconst (v := 2) hx hb dX3_state_118 (by decide) ?_
              refine lv_goto (tgt := 134) hx hb dX3_state_119 (by decide) ?_
              exact W.iret (v := 2) hx hb hr (fun t ht hW => ⟨_, rfl, (Or.inr (Or.inr (Or.inr (Or.inr (Or.inr (Or.inl ⟨h39_11, fun _ => rfl⟩)))))), ht⟩) (fun _ h => by cases h) dX3_state_134
          by_cases h39_12 : iwh = 12
          · refine lv_tableIn (off := 96) (tgt := 135) hx hb dX3_state_39 (by rw [h39_12]; decide) (by rw [h39_12]; decide) (by rw [h39_12]; decide) (by decide) ?_
            refine lv_aload_n hx hb dX3_state_135 rfl (lv_at hl 0 rfl) ?_
            refine va_get (D := (dC, dI)) (ci := 3) (v := .int jln) (C := RX3) (T := TX3) (N := 23) hx hb htb inX3 hown hK hP 0 rfl rfl 9 (by decide) (htb _ m2_95) (fun _ h9 => h9) rfl dX3_state_136 ?_
            exact W.iret (v := jln) hx hb hr (fun t ht hW => ⟨_, rfl, (Or.inr (Or.inr (Or.inr (Or.inr (Or.inr (Or.inr (Or.inl ⟨h39_12, rfl⟩))))))), ht⟩) (fun _ h => by cases h) dX3_state_139
          by_cases h39_13 : iwh = 13
          · refine lv_tableIn (off := 101) (tgt := 140) hx hb dX3_state_39 (by rw [h39_13]; decide) (by rw [h39_13]; decide) (by rw [h39_13]; decide) (by decide) ?_
            refine lv_aload_n hx hb dX3_state_140 rfl (lv_at hl 0 rfl) ?_
            refine va_get (D := (dC, dI)) (ci := 3) (v := .int jen) (C := RX3) (T := TX3) (N := 23) hx hb htb inX3 hown hK hP 0 rfl rfl 13 (by decide) (htb _ m2_99) (fun _ h9 => h9) rfl dX3_state_141 ?_
            exact W.iret (v := jen) hx hb hr (fun t ht hW => ⟨_, rfl, (Or.inr (Or.inr (Or.inr (Or.inr (Or.inr (Or.inr (Or.inr (Or.inl ⟨h39_13, rfl⟩)))))))), ht⟩) (fun _ h => by cases h) dX3_state_144
          by_cases h39_14 : iwh = 14
          · refine lv_tableIn (off := 106) (tgt := 145) hx hb dX3_state_39 (by rw [h39_14]; decide) (by rw [h39_14]; decide) (by rw [h39_14]; decide) (by decide) ?_
            refine lv_aload_n hx hb dX3_state_145 rfl (lv_at hl 0 rfl) ?_
            refine va_get (D := (dC, dI)) (ci := 3) (v := .int jwk) (C := RX3) (T := TX3) (N := 23) hx hb htb inX3 hown hK hP 0 rfl rfl 12 (by decide) (htb _ m2_98) (fun _ h9 => h9) rfl dX3_state_146 ?_
            exact W.iret (v := jwk) hx hb hr (fun t ht hW => ⟨_, rfl, (Or.inr (Or.inr (Or.inr (Or.inr (Or.inr (Or.inr (Or.inr (Or.inr (Or.inl ⟨h39_14, rfl⟩))))))))), ht⟩) (fun _ h => by cases h) dX3_state_149
          refine lv_tableOut (tgt := 150) hx hb dX3_state_39 (by have z8 := lv_neT h39_8 (show (8 : Int32).toInt = 8 from by decide); have z9 := lv_neT h39_9 (show (9 : Int32).toInt = 9 from by decide); have z10 := lv_neT h39_10 (show (10 : Int32).toInt = 10 from by decide); have z11 := lv_neT h39_11 (show (11 : Int32).toInt = 11 from by decide); have z12 := lv_neT h39_12 (show (12 : Int32).toInt = 12 from by decide); have z13 := lv_neT h39_13 (show (13 : Int32).toInt = 13 from by decide); have z14 := lv_neT h39_14 (show (14 : Int32).toInt = 14 from by decide); omega) (by decide) ?_
          refine lv_iconst (v := (-1)) hx hb dX3_state_150 (by decide) ?_
          exact W.iret (v := (-1)) hx hb hr (fun t ht hW => ⟨_, rfl, (Or.inr (Or.inr (Or.inr (Or.inr (Or.inr (Or.inr (Or.inr (Or.inr (Or.inr (⟨rfl, (by intro q; first | exact absurd (q_lt h1 (n := 0) (by decide)) (by omega) | exact absurd (q_ge h7 (n := 8) (by decide)) (by omega)), (by intro q; first | exact absurd (q_lt h19 (n := 20) (by decide)) (by omega) | exact absurd (q_ge h25 (n := 32) (by decide)) (by omega)), h39_8, h39_9, h39_10, h39_11, h39_12, h39_13, h39_14⟩)))))))))), ht⟩) (fun _ h => by cases h) dX3_state_151
        · refine lv_aload_n hx hb dX3_state_28 rfl (lv_at hl 0 rfl) ?_
          refine va_get (D := (dC, dI)) (ci := 3) (v := .ref bCo) (C := RX3) (T := TX3) (N := 23) hx hb htb inX3 hown hK hP 0 rfl rfl 6 (by decide) (htb _ m2_92) (fun _ h9 => h9) rfl dX3_state_29 ?_
          refine lv_iload_n hx hb dX3_state_32 rfl (lv_at hl 1 rfl) ?_
          refine lv_bipush (v := 20) hx hb dX3_state_33 (by decide) ?_
          refine lv_isub hx hb dX3_state_35 ?_
          refine lv_topi (fun v35 e35 => ?_)
          refine va_iald hx hb hK hP 5 4 rfl rfl (by rw [e35]; exact bd_in (bd_sub (a := 20) (b := 31) ⟨q_nlt h19 (by decide), by have := q_nge h25 (n := 32) (by decide); omega⟩ (bd_lit (a := 20) (by decide)) (by decide) (by decide)) (by decide) (by decide)) dX3_state_36 ?_
          refine lv_topi (fun v36 e36 => ?_)
          exact W.iret (v := v36) hx hb hr (fun t ht hW => ⟨_, rfl, (Or.inr (Or.inl ⟨q_nlt h19 (by decide), (by have := q_nge h25 (n := 32) (by decide); omega), _, e36⟩)), ht⟩) (fun _ h => by cases h) dX3_state_37
    · refine lv_aload_n hx hb dX3_state_10 rfl (lv_at hl 0 rfl) ?_
      refine lv_iload_n hx hb dX3_state_11 rfl (lv_at hl 1 rfl) ?_
      have hPc := hP.sub (ws' := [(bO, .inr (3, [.int jbu, .ref bM, .ref bLo, .ref bS6, .ref bS7, .ref bKe, .ref bCo, .int jpc, .int jst, .int jln, .int jwa, .int jsn, .int jwk, .int jen, .ref bFr, .ref bSi, .ref bTo, .ref bSp, .ref bDo, .ref bRi, .ref bNf, .int jwr, .ref bLd])), (bLo, .inl (jLo, 6, .inl wLo)), (bS6, .inl (jS6, 6, .inl wS6)), (bS7, .inl (jS7, 6, .inl wS7))]) [0, 1, 2, 3] rfl
      have hKc := hK.sub (tys' := [(jLo, .int), (jS6, .int), (jS7, .int)]) [0, 1, 2] rfl
      refine vp_callSi (W.runV (As := [.int iwh]) (rest := []) ⟨hx, hb, hml, hown, htb⟩ (cM_get l dC dI bO iwh jbu bM bLo bS6 bS7 bKe bCo jpc jst jln jwa jsn jwk jen bFr bSi bTo bSp bDo bRi bNf jwr bLd jLo wLo jS6 wS6 jS7 wS7 ⟨q_nlt h1 (by decide), by have := q_nge h7 (n := 8) (by decide); omega⟩ hm5) (cwV 1 htb (q_gV m3_8 m3_10 ms_44 m1_4 m3_11) rfl rfl rfl (by decide +kernel) ⟨Nat.le_of_ble_eq_true rfl, Nat.le_of_ble_eq_true rfl⟩) ⟨fun a U g mk q => by obtain ⟨q0, qP, qK⟩ := q; exact ⟨q0, qP, va_K.moved (u := U) (U := U.calling g mk a) (Vm.Alike.refl U.vm) qK⟩, va_recv (q0 := 0) hK hP (rfl : vwCl[3]? = some (RX3, TX3, 23)) rfl, fun U hU hW => ⟨rfl, by rw [hU]; exact hPc, va_K.moved hW.alike hKc⟩⟩ rfl rfl hl.1 rfl (lv_room (Nat.le_of_ble_eq_true rfl)) dX3_state_12 ⟨Nat.le_of_ble_eq_true rfl, Nat.le_of_ble_eq_true rfl⟩) (fun r12 p12 => ?_)
      try dsimp only at p12
      exact W.iret (v := r12) hx hb hr (fun t ht hW => ⟨_, rfl, (Or.inl ⟨q_nlt h1 (by decide), (by have := q_nge h7 (n := 8) (by decide); omega), p12⟩), ht⟩) (fun _ h => by cases h) dX3_state_15
end
section
set_option maxHeartbeats 4000000 in
set_option maxRecDepth 100000 in
theorem cM_entry (l : Launch) (dC : Nat → ClassId) (dI : Nat → Nat → Nat) (bO : Nat) (ik : Int32) (iw : Int32) (jbu : Int32) (bM : Nat) (bLo : Nat) (bS6 : Nat) (bS7 : Nat) (bKe : Nat) (bCo : Nat) (jpc : Int32) (jst : Int32) (jln : Int32) (jwa : Int32) (jsn : Int32) (jwk : Int32) (jen : Int32) (bFr : Nat) (bSi : Nat) (bTo : Nat) (bSp : Nat) (bDo : Nat) (bRi : Nat) (bNf : Nat) (jwr : Int32) (bLd : Nat) (jFr : ClassId) (wFr : Nat → Int32) (jSi : ClassId) (wSi : Nat → Int32) (jTo : ClassId) (wTo : Nat → Int32) (jSp : ClassId) (wSp : Nat → Int32) (jDo : ClassId) (wDo : Nat → Int32) (jRi : ClassId) (wRi : Nat → Int32) (jNf : ClassId) (wNf : Nat → Int32) (hen : bd jen 0 6) : Met l yX3_entry wsX3_entry ({ frames := 0, cells := 0, slots := 0, locals := 0 }) (va_Pc [.ref bO, .int ik, .int iw] (fun U => va_P (dC, dI) vwCl [(bO, .inr (3, [.int jbu, .ref bM, .ref bLo, .ref bS6, .ref bS7, .ref bKe, .ref bCo, .int jpc, .int jst, .int jln, .int jwa, .int jsn, .int jwk, .int jen, .ref bFr, .ref bSi, .ref bTo, .ref bSp, .ref bDo, .ref bRi, .ref bNf, .int jwr, .ref bLd])), (bFr, .inl (jFr, 8, .inl wFr)), (bSi, .inl (jSi, 8, .inl wSi)), (bTo, .inl (jTo, 8, .inl wTo)), (bSp, .inl (jSp, 8, .inl wSp)), (bDo, .inl (jDo, 8, .inl wDo)), (bRi, .inl (jRi, 8, .inl wRi)), (bNf, .inl (jNf, 8, .inl wNf))] U.heap ∧ va_K (dC, dI) vwCl [(jFr, .int), (jSi, .int), (jTo, .int), (jSp, .int), (jDo, .int), (jRi, .int), (jNf, .int)] U)) (vp_Si (fun r : Int32 => (ik.toInt < 0 ∨ jen.toInt ≤ ik.toInt) → r = -1)) 0 0 (fun _ => False) := by
  refine Met.ofW (cc := cX3_entry) (maxL := 3) (ret := (some .int)) (by decide) rfl ?_
  intro p e s m args below meth c s₁ B hml hv
  obtain ⟨rfl, hP, hK⟩ := hv
  have hx := B.exec
  have hb := B.bytes
  have hr := B.returns
  have hts := atoms_spec (ws := wsX3_entry) B.pre
  have htb : ∀ w ∈ qT, w.before _ s = true := fun w h => hts w (List.mem_cons_of_mem _ h)
  have hown : s.vm.findClass RX3 = some m.cls := findClass_of_methodNamed B.named
  have hlocks := B.notSynchronized
  have hP : va_P (dC, dI) vwCl [(bO, .inr (3, [.int jbu, .ref bM, .ref bLo, .ref bS6, .ref bS7, .ref bKe, .ref bCo, .int jpc, .int jst, .int jln, .int jwa, .int jsn, .int jwk, .int jen, .ref bFr, .ref bSi, .ref bTo, .ref bSp, .ref bDo, .ref bRi, .ref bNf, .int jwr, .ref bLd])), (bFr, .inl (jFr, 8, .inl wFr)), (bSi, .inl (jSi, 8, .inl wSi)), (bTo, .inl (jTo, 8, .inl wTo)), (bSp, .inl (jSp, 8, .inl wSp)), (bDo, .inl (jDo, 8, .inl wDo)), (bRi, .inl (jRi, 8, .inl wRi)), (bNf, .inl (jNf, 8, .inl wNf))] s.heap := hP
  have hl := lv_entry ([.ref bO, .int ik, .int iw]) (n := 3) (Nat.le_of_ble_eq_true rfl)
  rw [lg_entry_eq]
  generalize (lg_sl ([.ref bO, .int ik, .int iw]) ++ List.replicate (3 - (lg_sl ([.ref bO, .int ik, .int iw])).length) Slot.unset).toArray = ls at hl ⊢
  have hl : lv_has ls 3 [(0, .ref bO), (1, .int ik), (2, .int iw)] := hl
  refine lv_iload_n hx hb dX3_entry_0 rfl (lv_at hl 1 rfl) ?_
  refine lv_if_lt (tgt := 12) hx hb dX3_entry_1 (by decide) (fun h1 => ?_) (fun h1 => ?_)
  · refine lv_iconst (v := (-1)) hx hb dX3_entry_12 (by decide) ?_
    exact W.iret (v := (-1)) hx hb hr (fun t ht hW => ⟨_, rfl, (fun _ => rfl), ht⟩) (fun _ h => by cases h) dX3_entry_13
  · refine lv_iload_n hx hb dX3_entry_4 rfl (lv_at hl 1 rfl) ?_
    refine lv_aload_n hx hb dX3_entry_5 rfl (lv_at hl 0 rfl) ?_
    refine va_get (D := (dC, dI)) (ci := 3) (v := .int jen) (C := RX3) (T := TX3) (N := 23) hx hb htb inX3 hown hK hP 0 rfl rfl 13 (by decide) (htb _ m2_99) (fun _ h9 => h9) rfl dX3_entry_6 ?_
    refine lv_icmp_lt (tgt := 14) hx hb dX3_entry_9 (by decide) (fun h9 => ?_) (fun h9 => ?_)
    · refine lv_iload_n hx hb dX3_entry_14 rfl (lv_at hl 2 rfl) ?_
      by_cases h15_0 : iw = 0
      · refine lv_tableIn (off := 41) (tgt := 56) hx hb dX3_entry_15 (by rw [h15_0]; decide) (by rw [h15_0]; decide) (by rw [h15_0]; decide) (by decide) ?_
        refine lv_aload_n hx hb dX3_entry_56 rfl (lv_at hl 0 rfl) ?_
        refine va_get (D := (dC, dI)) (ci := 3) (v := .ref bFr) (C := RX3) (T := TX3) (N := 23) hx hb htb inX3 hown hK hP 0 rfl rfl 14 (by decide) (htb _ m2_100) (fun _ h9 => h9) rfl dX3_entry_57 ?_
        refine lv_iload_n hx hb dX3_entry_60 rfl (lv_at hl 1 rfl) ?_
        refine va_iald hx hb hK hP 1 0 rfl rfl (vp_in_iff.mpr ⟨q_nlt h1 (by decide), by have := hen.2; have := Int32.lt_iff_toInt_lt.mp h9; omega⟩) dX3_entry_61 ?_
        refine lv_topi (fun v61 e61 => ?_)
        exact W.iret (v := v61) hx hb hr (fun t ht hW => ⟨_, rfl, (fun q => by rcases q with q | q; exact absurd (q_nlt h1 (n := 0) (by decide)) (by omega); exact absurd (Int32.lt_iff_toInt_lt.mp h9) (by omega)), ht⟩) (fun _ h => by cases h) dX3_entry_62
      by_cases h15_1 : iw = 1
      · refine lv_tableIn (off := 48) (tgt := 63) hx hb dX3_entry_15 (by rw [h15_1]; decide) (by rw [h15_1]; decide) (by rw [h15_1]; decide) (by decide) ?_
        refine lv_aload_n hx hb dX3_entry_63 rfl (lv_at hl 0 rfl) ?_
        refine va_get (D := (dC, dI)) (ci := 3) (v := .ref bSi) (C := RX3) (T := TX3) (N := 23) hx hb htb inX3 hown hK hP 0 rfl rfl 15 (by decide) (htb _ m2_101) (fun _ h9 => h9) rfl dX3_entry_64 ?_
        refine lv_iload_n hx hb dX3_entry_67 rfl (lv_at hl 1 rfl) ?_
        refine va_iald hx hb hK hP 2 1 rfl rfl (vp_in_iff.mpr ⟨q_nlt h1 (by decide), by have := hen.2; have := Int32.lt_iff_toInt_lt.mp h9; omega⟩) dX3_entry_68 ?_
        refine lv_topi (fun v68 e68 => ?_)
        exact W.iret (v := v68) hx hb hr (fun t ht hW => ⟨_, rfl, (fun q => by rcases q with q | q; exact absurd (q_nlt h1 (n := 0) (by decide)) (by omega); exact absurd (Int32.lt_iff_toInt_lt.mp h9) (by omega)), ht⟩) (fun _ h => by cases h) dX3_entry_69
      by_cases h15_2 : iw = 2
      · refine lv_tableIn (off := 55) (tgt := 70) hx hb dX3_entry_15 (by rw [h15_2]; decide) (by rw [h15_2]; decide) (by rw [h15_2]; decide) (by decide) ?_
        refine lv_aload_n hx hb dX3_entry_70 rfl (lv_at hl 0 rfl) ?_
        refine va_get (D := (dC, dI)) (ci := 3) (v := .ref bTo) (C := RX3) (T := TX3) (N := 23) hx hb htb inX3 hown hK hP 0 rfl rfl 16 (by decide) (htb _ m2_102) (fun _ h9 => h9) rfl dX3_entry_71 ?_
        refine lv_iload_n hx hb dX3_entry_74 rfl (lv_at hl 1 rfl) ?_
        refine va_iald hx hb hK hP 3 2 rfl rfl (vp_in_iff.mpr ⟨q_nlt h1 (by decide), by have := hen.2; have := Int32.lt_iff_toInt_lt.mp h9; omega⟩) dX3_entry_75 ?_
        refine lv_topi (fun v75 e75 => ?_)
        exact W.iret (v := v75) hx hb hr (fun t ht hW => ⟨_, rfl, (fun q => by rcases q with q | q; exact absurd (q_nlt h1 (n := 0) (by decide)) (by omega); exact absurd (Int32.lt_iff_toInt_lt.mp h9) (by omega)), ht⟩) (fun _ h => by cases h) dX3_entry_76
      by_cases h15_3 : iw = 3
      · refine lv_tableIn (off := 62) (tgt := 77) hx hb dX3_entry_15 (by rw [h15_3]; decide) (by rw [h15_3]; decide) (by rw [h15_3]; decide) (by decide) ?_
        refine lv_aload_n hx hb dX3_entry_77 rfl (lv_at hl 0 rfl) ?_
        refine va_get (D := (dC, dI)) (ci := 3) (v := .ref bSp) (C := RX3) (T := TX3) (N := 23) hx hb htb inX3 hown hK hP 0 rfl rfl 17 (by decide) (htb _ m2_103) (fun _ h9 => h9) rfl dX3_entry_78 ?_
        refine lv_iload_n hx hb dX3_entry_81 rfl (lv_at hl 1 rfl) ?_
        refine va_iald hx hb hK hP 4 3 rfl rfl (vp_in_iff.mpr ⟨q_nlt h1 (by decide), by have := hen.2; have := Int32.lt_iff_toInt_lt.mp h9; omega⟩) dX3_entry_82 ?_
        refine lv_topi (fun v82 e82 => ?_)
        exact W.iret (v := v82) hx hb hr (fun t ht hW => ⟨_, rfl, (fun q => by rcases q with q | q; exact absurd (q_nlt h1 (n := 0) (by decide)) (by omega); exact absurd (Int32.lt_iff_toInt_lt.mp h9) (by omega)), ht⟩) (fun _ h => by cases h) dX3_entry_83
      by_cases h15_4 : iw = 4
      · refine lv_tableIn (off := 69) (tgt := 84) hx hb dX3_entry_15 (by rw [h15_4]; decide) (by rw [h15_4]; decide) (by rw [h15_4]; decide) (by decide) ?_
        refine lv_aload_n hx hb dX3_entry_84 rfl (lv_at hl 0 rfl) ?_
        refine va_get (D := (dC, dI)) (ci := 3) (v := .ref bDo) (C := RX3) (T := TX3) (N := 23) hx hb htb inX3 hown hK hP 0 rfl rfl 18 (by decide) (htb _ m2_104) (fun _ h9 => h9) rfl dX3_entry_85 ?_
        refine lv_iload_n hx hb dX3_entry_88 rfl (lv_at hl 1 rfl) ?_
        refine va_iald hx hb hK hP 5 4 rfl rfl (vp_in_iff.mpr ⟨q_nlt h1 (by decide), by have := hen.2; have := Int32.lt_iff_toInt_lt.mp h9; omega⟩) dX3_entry_89 ?_
        refine lv_topi (fun v89 e89 => ?_)
        exact W.iret (v := v89) hx hb hr (fun t ht hW => ⟨_, rfl, (fun q => by rcases q with q | q; exact absurd (q_nlt h1 (n := 0) (by decide)) (by omega); exact absurd (Int32.lt_iff_toInt_lt.mp h9) (by omega)), ht⟩) (fun _ h => by cases h) dX3_entry_90
      by_cases h15_5 : iw = 5
      · refine lv_tableIn (off := 76) (tgt := 91) hx hb dX3_entry_15 (by rw [h15_5]; decide) (by rw [h15_5]; decide) (by rw [h15_5]; decide) (by decide) ?_
        refine lv_aload_n hx hb dX3_entry_91 rfl (lv_at hl 0 rfl) ?_
        refine va_get (D := (dC, dI)) (ci := 3) (v := .ref bRi) (C := RX3) (T := TX3) (N := 23) hx hb htb inX3 hown hK hP 0 rfl rfl 19 (by decide) (htb _ m2_105) (fun _ h9 => h9) rfl dX3_entry_92 ?_
        refine lv_iload_n hx hb dX3_entry_95 rfl (lv_at hl 1 rfl) ?_
        refine va_iald hx hb hK hP 6 5 rfl rfl (vp_in_iff.mpr ⟨q_nlt h1 (by decide), by have := hen.2; have := Int32.lt_iff_toInt_lt.mp h9; omega⟩) dX3_entry_96 ?_
        refine lv_topi (fun v96 e96 => ?_)
        exact W.iret (v := v96) hx hb hr (fun t ht hW => ⟨_, rfl, (fun q => by rcases q with q | q; exact absurd (q_nlt h1 (n := 0) (by decide)) (by omega); exact absurd (Int32.lt_iff_toInt_lt.mp h9) (by omega)), ht⟩) (fun _ h => by cases h) dX3_entry_97
      by_cases h15_6 : iw = 6
      · refine lv_tableIn (off := 83) (tgt := 98) hx hb dX3_entry_15 (by rw [h15_6]; decide) (by rw [h15_6]; decide) (by rw [h15_6]; decide) (by decide) ?_
        refine lv_aload_n hx hb dX3_entry_98 rfl (lv_at hl 0 rfl) ?_
        refine va_get (D := (dC, dI)) (ci := 3) (v := .ref bNf) (C := RX3) (T := TX3) (N := 23) hx hb htb inX3 hown hK hP 0 rfl rfl 20 (by decide) (htb _ m2_106) (fun _ h9 => h9) rfl dX3_entry_99 ?_
        refine lv_iload_n hx hb dX3_entry_102 rfl (lv_at hl 1 rfl) ?_
        refine va_iald hx hb hK hP 7 6 rfl rfl (vp_in_iff.mpr ⟨q_nlt h1 (by decide), by have := hen.2; have := Int32.lt_iff_toInt_lt.mp h9; omega⟩) dX3_entry_103 ?_
        refine lv_topi (fun v103 e103 => ?_)
        exact W.iret (v := v103) hx hb hr (fun t ht hW => ⟨_, rfl, (fun q => by rcases q with q | q; exact absurd (q_nlt h1 (n := 0) (by decide)) (by omega); exact absurd (Int32.lt_iff_toInt_lt.mp h9) (by omega)), ht⟩) (fun _ h => by cases h) dX3_entry_104
      refine lv_tableOut (tgt := 105) hx hb dX3_entry_15 (by have z0 := lv_neT h15_0 (show (0 : Int32).toInt = 0 from by decide); have z1 := lv_neT h15_1 (show (1 : Int32).toInt = 1 from by decide); have z2 := lv_neT h15_2 (show (2 : Int32).toInt = 2 from by decide); have z3 := lv_neT h15_3 (show (3 : Int32).toInt = 3 from by decide); have z4 := lv_neT h15_4 (show (4 : Int32).toInt = 4 from by decide); have z5 := lv_neT h15_5 (show (5 : Int32).toInt = 5 from by decide); have z6 := lv_neT h15_6 (show (6 : Int32).toInt = 6 from by decide); omega) (by decide) ?_
      refine lv_iconst (v := (-1)) hx hb dX3_entry_105 (by decide) ?_
      exact W.iret (v := (-1)) hx hb hr (fun t ht hW => ⟨_, rfl, (fun _ => rfl), ht⟩) (fun _ h => by cases h) dX3_entry_106
    · refine lv_iconst (v := (-1)) hx hb dX3_entry_12 (by decide) ?_
      exact W.iret (v := (-1)) hx hb hr (fun t ht hW => ⟨_, rfl, (fun _ => rfl), ht⟩) (fun _ h => by cases h) dX3_entry_13
end
section
set_option maxHeartbeats 4000000 in
set_option maxRecDepth 100000 in
theorem cM_init (l : Launch) (dC : Nat → ClassId) (dI : Nat → Nat → Nat) (sz : Nat) (bO : Nat) (ibu : Int32) : Met l yX3_init wsX3_init ({ frames := 1, cells := 14, slots := 612, locals := 12 }) (va_Pc [.ref bO, .int ibu] (fun U => U.heap.size = sz ∧ va_P (dC, dI) vwCl [(bO, .inr (3, [.int 0, .null, .null, .null, .null, .null, .null, .int 0, .int 0, .int 0, .int 0, .int 0, .int 0, .int 0, .null, .null, .null, .null, .null, .null, .null, .int 0, .null]))] U.heap ∧ va_K (dC, dI) vwCl [] U ∧ va_D (fun _ => True) [(bO, .inr (3, [.int 0, .null, .null, .null, .null, .null, .null, .int 0, .int 0, .int 0, .int 0, .int 0, .int 0, .int 0, .null, .null, .null, .null, .null, .null, .null, .int 0, .null]))])) (va_Qv (fun u : Int32 × Nat × ClassId × Nat × ClassId × Nat × ClassId × Nat × ClassId × Nat × ClassId × Nat × ClassId × Nat × ClassId × Nat × ClassId × Nat × ClassId × Nat × ClassId × Nat × ClassId × Nat × ClassId × Nat × ClassId × Nat × ClassId => True) (fun (u : Int32 × Nat × ClassId × Nat × ClassId × Nat × ClassId × Nat × ClassId × Nat × ClassId × Nat × ClassId × Nat × ClassId × Nat × ClassId × Nat × ClassId × Nat × ClassId × Nat × ClassId × Nat × ClassId × Nat × ClassId × Nat × ClassId) (t : State) => va_P (dC, dI) vwCl [(bO, .inr (3, [.int u.1, .ref u.2.1, .ref u.2.2.2.1, .ref u.2.2.2.2.2.1, .ref u.2.2.2.2.2.2.2.1, .ref u.2.2.2.2.2.2.2.2.2.1, .ref u.2.2.2.2.2.2.2.2.2.2.2.1, .int 0, .int 25, .int 0, .int 0, .int 1, .int 0, .int 0, .ref u.2.2.2.2.2.2.2.2.2.2.2.2.2.1, .ref u.2.2.2.2.2.2.2.2.2.2.2.2.2.2.2.1, .ref u.2.2.2.2.2.2.2.2.2.2.2.2.2.2.2.2.2.1, .ref u.2.2.2.2.2.2.2.2.2.2.2.2.2.2.2.2.2.2.2.1, .ref u.2.2.2.2.2.2.2.2.2.2.2.2.2.2.2.2.2.2.2.2.2.1, .ref u.2.2.2.2.2.2.2.2.2.2.2.2.2.2.2.2.2.2.2.2.2.2.2.1, .ref u.2.2.2.2.2.2.2.2.2.2.2.2.2.2.2.2.2.2.2.2.2.2.2.2.2.1, .int 0, .ref u.2.2.2.2.2.2.2.2.2.2.2.2.2.2.2.2.2.2.2.2.2.2.2.2.2.2.2.1])), (u.2.1, .inl (u.2.2.1, 512, .inl (fun _ => 0))), (u.2.2.2.1, .inl (u.2.2.2.2.1, 6, .inl (fun _ => 0))), (u.2.2.2.2.2.1, .inl (u.2.2.2.2.2.2.1, 6, .inl (fun _ => 0))), (u.2.2.2.2.2.2.2.1, .inl (u.2.2.2.2.2.2.2.2.1, 6, .inl (fun _ => 0))), (u.2.2.2.2.2.2.2.2.2.1, .inl (u.2.2.2.2.2.2.2.2.2.2.1, 6, .inl (fun _ => 0))), (u.2.2.2.2.2.2.2.2.2.2.2.1, .inl (u.2.2.2.2.2.2.2.2.2.2.2.2.1, 12, .inl (fun _ => 0))), (u.2.2.2.2.2.2.2.2.2.2.2.2.2.1, .inl (u.2.2.2.2.2.2.2.2.2.2.2.2.2.2.1, 8, .inl (fun _ => 0))), (u.2.2.2.2.2.2.2.2.2.2.2.2.2.2.2.1, .inl (u.2.2.2.2.2.2.2.2.2.2.2.2.2.2.2.2.1, 8, .inl (fun _ => 0))), (u.2.2.2.2.2.2.2.2.2.2.2.2.2.2.2.2.2.1, .inl (u.2.2.2.2.2.2.2.2.2.2.2.2.2.2.2.2.2.2.1, 8, .inl (fun _ => 0))), (u.2.2.2.2.2.2.2.2.2.2.2.2.2.2.2.2.2.2.2.1, .inl (u.2.2.2.2.2.2.2.2.2.2.2.2.2.2.2.2.2.2.2.2.1, 8, .inl (fun _ => 0))), (u.2.2.2.2.2.2.2.2.2.2.2.2.2.2.2.2.2.2.2.2.2.1, .inl (u.2.2.2.2.2.2.2.2.2.2.2.2.2.2.2.2.2.2.2.2.2.2.1, 8, .inl (fun _ => 0))), (u.2.2.2.2.2.2.2.2.2.2.2.2.2.2.2.2.2.2.2.2.2.2.2.1, .inl (u.2.2.2.2.2.2.2.2.2.2.2.2.2.2.2.2.2.2.2.2.2.2.2.2.1, 8, .inl (fun _ => 0))), (u.2.2.2.2.2.2.2.2.2.2.2.2.2.2.2.2.2.2.2.2.2.2.2.2.2.1, .inl (u.2.2.2.2.2.2.2.2.2.2.2.2.2.2.2.2.2.2.2.2.2.2.2.2.2.2.1, 8, .inl (fun _ => 0))), (u.2.2.2.2.2.2.2.2.2.2.2.2.2.2.2.2.2.2.2.2.2.2.2.2.2.2.2.1, .inl (u.2.2.2.2.2.2.2.2.2.2.2.2.2.2.2.2.2.2.2.2.2.2.2.2.2.2.2.2, 8, .inl (fun _ => 0)))] t.heap ∧ va_K (dC, dI) vwCl [(u.2.2.1, .int), (u.2.2.2.2.1, .int), (u.2.2.2.2.2.2.1, .int), (u.2.2.2.2.2.2.2.2.1, .int), (u.2.2.2.2.2.2.2.2.2.2.1, .int), (u.2.2.2.2.2.2.2.2.2.2.2.2.1, .int), (u.2.2.2.2.2.2.2.2.2.2.2.2.2.2.1, .int), (u.2.2.2.2.2.2.2.2.2.2.2.2.2.2.2.2.1, .int), (u.2.2.2.2.2.2.2.2.2.2.2.2.2.2.2.2.2.2.1, .int), (u.2.2.2.2.2.2.2.2.2.2.2.2.2.2.2.2.2.2.2.2.1, .int), (u.2.2.2.2.2.2.2.2.2.2.2.2.2.2.2.2.2.2.2.2.2.2.1, .int), (u.2.2.2.2.2.2.2.2.2.2.2.2.2.2.2.2.2.2.2.2.2.2.2.2.1, .int), (u.2.2.2.2.2.2.2.2.2.2.2.2.2.2.2.2.2.2.2.2.2.2.2.2.2.2.1, .int), (u.2.2.2.2.2.2.2.2.2.2.2.2.2.2.2.2.2.2.2.2.2.2.2.2.2.2.2.2, .int)] t ∧ va_D (va_A [(bO, .inr (3, [.int 0, .null, .null, .null, .null, .null, .null, .int 0, .int 0, .int 0, .int 0, .int 0, .int 0, .int 0, .null, .null, .null, .null, .null, .null, .null, .int 0, .null]))] sz) [(bO, .inr (3, [.int u.1, .ref u.2.1, .ref u.2.2.2.1, .ref u.2.2.2.2.2.1, .ref u.2.2.2.2.2.2.2.1, .ref u.2.2.2.2.2.2.2.2.2.1, .ref u.2.2.2.2.2.2.2.2.2.2.2.1, .int 0, .int 25, .int 0, .int 0, .int 1, .int 0, .int 0, .ref u.2.2.2.2.2.2.2.2.2.2.2.2.2.1, .ref u.2.2.2.2.2.2.2.2.2.2.2.2.2.2.2.1, .ref u.2.2.2.2.2.2.2.2.2.2.2.2.2.2.2.2.2.1, .ref u.2.2.2.2.2.2.2.2.2.2.2.2.2.2.2.2.2.2.2.1, .ref u.2.2.2.2.2.2.2.2.2.2.2.2.2.2.2.2.2.2.2.2.2.1, .ref u.2.2.2.2.2.2.2.2.2.2.2.2.2.2.2.2.2.2.2.2.2.2.2.1, .ref u.2.2.2.2.2.2.2.2.2.2.2.2.2.2.2.2.2.2.2.2.2.2.2.2.2.1, .int 0, .ref u.2.2.2.2.2.2.2.2.2.2.2.2.2.2.2.2.2.2.2.2.2.2.2.2.2.2.2.1])), (u.2.1, .inl (u.2.2.1, 512, .inl (fun _ => 0))), (u.2.2.2.1, .inl (u.2.2.2.2.1, 6, .inl (fun _ => 0))), (u.2.2.2.2.2.1, .inl (u.2.2.2.2.2.2.1, 6, .inl (fun _ => 0))), (u.2.2.2.2.2.2.2.1, .inl (u.2.2.2.2.2.2.2.2.1, 6, .inl (fun _ => 0))), (u.2.2.2.2.2.2.2.2.2.1, .inl (u.2.2.2.2.2.2.2.2.2.2.1, 6, .inl (fun _ => 0))), (u.2.2.2.2.2.2.2.2.2.2.2.1, .inl (u.2.2.2.2.2.2.2.2.2.2.2.2.1, 12, .inl (fun _ => 0))), (u.2.2.2.2.2.2.2.2.2.2.2.2.2.1, .inl (u.2.2.2.2.2.2.2.2.2.2.2.2.2.2.1, 8, .inl (fun _ => 0))), (u.2.2.2.2.2.2.2.2.2.2.2.2.2.2.2.1, .inl (u.2.2.2.2.2.2.2.2.2.2.2.2.2.2.2.2.1, 8, .inl (fun _ => 0))), (u.2.2.2.2.2.2.2.2.2.2.2.2.2.2.2.2.2.1, .inl (u.2.2.2.2.2.2.2.2.2.2.2.2.2.2.2.2.2.2.1, 8, .inl (fun _ => 0))), (u.2.2.2.2.2.2.2.2.2.2.2.2.2.2.2.2.2.2.2.1, .inl (u.2.2.2.2.2.2.2.2.2.2.2.2.2.2.2.2.2.2.2.2.1, 8, .inl (fun _ => 0))), (u.2.2.2.2.2.2.2.2.2.2.2.2.2.2.2.2.2.2.2.2.2.1, .inl (u.2.2.2.2.2.2.2.2.2.2.2.2.2.2.2.2.2.2.2.2.2.2.1, 8, .inl (fun _ => 0))), (u.2.2.2.2.2.2.2.2.2.2.2.2.2.2.2.2.2.2.2.2.2.2.2.1, .inl (u.2.2.2.2.2.2.2.2.2.2.2.2.2.2.2.2.2.2.2.2.2.2.2.2.1, 8, .inl (fun _ => 0))), (u.2.2.2.2.2.2.2.2.2.2.2.2.2.2.2.2.2.2.2.2.2.2.2.2.2.1, .inl (u.2.2.2.2.2.2.2.2.2.2.2.2.2.2.2.2.2.2.2.2.2.2.2.2.2.2.1, 8, .inl (fun _ => 0))), (u.2.2.2.2.2.2.2.2.2.2.2.2.2.2.2.2.2.2.2.2.2.2.2.2.2.2.2.1, .inl (u.2.2.2.2.2.2.2.2.2.2.2.2.2.2.2.2.2.2.2.2.2.2.2.2.2.2.2.2, 8, .inl (fun _ => 0)))]) (va_A [(bO, .inr (3, [.int 0, .null, .null, .null, .null, .null, .null, .int 0, .int 0, .int 0, .int 0, .int 0, .int 0, .int 0, .null, .null, .null, .null, .null, .null, .null, .int 0, .null]))] sz)) 14 612 (va_A [(bO, .inr (3, [.int 0, .null, .null, .null, .null, .null, .null, .int 0, .int 0, .int 0, .int 0, .int 0, .int 0, .int 0, .null, .null, .null, .null, .null, .null, .null, .int 0, .null]))] sz) := by
  refine Met.ofW (cc := cX3_init) (maxL := 2) (ret := none) (by decide) rfl ?_
  intro p e s m args below meth c s₁ B hml hv
  obtain ⟨rfl, hsz, hP, hK, hD0⟩ := hv
  have hx := B.exec
  have hb := B.bytes
  have hr := B.returns
  have hts := atoms_spec (ws := wsX3_init) B.pre
  have htb : ∀ w ∈ qT, w.before _ s = true := fun w h => hts w (List.mem_cons_of_mem _ h)
  have hown : s.vm.findClass RX3 = some m.cls := findClass_of_methodNamed B.named
  have hlocks := B.notSynchronized
  have hin : meth.name = "<init>" := (name_of_methodNamed B.named B.method).1
  subst hsz
  have hD := hD0.self (sz := s.heap.size)
  generalize hAe : va_A [(bO, .inr (3, [.int 0, .null, .null, .null, .null, .null, .null, .int 0, .int 0, .int 0, .int 0, .int 0, .int 0, .int 0, .null, .null, .null, .null, .null, .null, .null, .int 0, .null]))] s.heap.size = A at hD ⊢
  have hA : ∀ q : Nat, s.heap.size ≤ q → A q := fun q h => by rw [← hAe]; exact Or.inr h
  have hS : va_S A s.heap s.heap [] := va_S.rf
  have hP : va_P (dC, dI) vwCl [(bO, .inr (3, [.int 0, .null, .null, .null, .null, .null, .null, .int 0, .int 0, .int 0, .int 0, .int 0, .int 0, .int 0, .null, .null, .null, .null, .null, .null, .null, .int 0, .null]))] s.heap := hP
  have hl := lv_entry ([.ref bO, .int ibu]) (n := 2) (Nat.le_of_ble_eq_true rfl)
  rw [lg_entry_eq]
  generalize (lg_sl ([.ref bO, .int ibu]) ++ List.replicate (2 - (lg_sl ([.ref bO, .int ibu])).length) Slot.unset).toArray = ls at hl ⊢
  have hl : lv_has ls 2 [(0, .ref bO), (1, .int ibu)] := hl
  refine lv_aload_n hx hb dX3_init_0 rfl (lv_at hl 0 rfl) ?_
  refine W.objInit hx hb hown (htb _ m2_85) (htb _ m1_13) (htb _ m1_14) rfl (by rw [hml]; exact hl.1) rfl dX3_init_1 (Nat.le_of_ble_eq_true rfl) (Nat.le_of_ble_eq_true rfl) ?_
  refine W.eq (g2 := F0 m 4 ls []) rfl ?_
  refine lv_aload_n hx hb dX3_init_4 rfl (lv_at hl 0 rfl) ?_
  refine lv_sipush (v := 512) hx hb dX3_init_5 (by decide) ?_
  refine va_newa (atype := .int) (ty := .int) (a0 := (512, .inl (fun _ => 0))) (N' := 512) hx hb (htb _ m1_38) rfl hK hP hD hS hA (fun _ => rfl) (by decide) (by decide) (Nat.le_of_ble_eq_true rfl) (Nat.le_of_ble_eq_true rfl) (Nat.le_of_ble_eq_true rfl) dX3_init_8 (fun q8 c8 H hK hP hD hS => ?_)
  have hP : va_P (dC, dI) vwCl [(bO, .inr (3, [.int 0, .null, .null, .null, .null, .null, .null, .int 0, .int 0, .int 0, .int 0, .int 0, .int 0, .int 0, .null, .null, .null, .null, .null, .null, .null, .int 0, .null])), (q8, .inl (c8, 512, .inl (fun _ => 0)))] H := hP
  have hD : va_D A [(bO, .inr (3, [.int 0, .null, .null, .null, .null, .null, .null, .int 0, .int 0, .int 0, .int 0, .int 0, .int 0, .int 0, .null, .null, .null, .null, .null, .null, .null, .int 0, .null])), (q8, .inl (c8, 512, .inl (fun _ => 0)))] := hD
  have hK : va_K (dC, dI) vwCl [(c8, .int)] s := hK
  refine W.widen (k := 1) (n := 512) (by omega) (by omega) ?_
  refine va_put (D := (dC, dI)) (ci := 3) (v := .ref q8) (ty := .array .int) (C := RX3) (T := TX3) (N := 23) hx hb htb inX3 tyX3 tyX3_ok nmX3 hown hK hP hD hS 0 rfl rfl 1 (by decide) (htb _ m2_87) (fun _ h9 => h9) rfl (by decide +kernel) (by first | rfl | decide +kernel) (by first | rfl | decide +kernel) (Nat.le_of_ble_eq_true rfl) dX3_init_10 (fun H locs hP hD hS => ?_)
  have hP : va_P (dC, dI) vwCl [(bO, .inr (3, [.int 0, .ref q8, .null, .null, .null, .null, .null, .int 0, .int 0, .int 0, .int 0, .int 0, .int 0, .int 0, .null, .null, .null, .null, .null, .null, .null, .int 0, .null])), (q8, .inl (c8, 512, .inl (fun _ => 0)))] H := hP
  have hD : va_D A [(bO, .inr (3, [.int 0, .ref q8, .null, .null, .null, .null, .null, .int 0, .int 0, .int 0, .int 0, .int 0, .int 0, .int 0, .null, .null, .null, .null, .null, .null, .null, .int 0, .null])), (q8, .inl (c8, 512, .inl (fun _ => 0)))] := hD
  refine lv_aload_n hx hb dX3_init_13 rfl (lv_at hl 0 rfl) ?_
  refine lv_bipush (v := 6) hx hb dX3_init_14 (by decide) ?_
  refine va_newa (atype := .int) (ty := .int) (a0 := (6, .inl (fun _ => 0))) (N' := 6) hx hb (htb _ m1_38) rfl hK hP hD hS hA (fun _ => rfl) (by decide) (by decide) (Nat.le_of_ble_eq_true rfl) (Nat.le_of_ble_eq_true rfl) (Nat.le_of_ble_eq_true rfl) dX3_init_16 (fun q16 c16 H hK hP hD hS => ?_)
  have hP : va_P (dC, dI) vwCl [(bO, .inr (3, [.int 0, .ref q8, .null, .null, .null, .null, .null, .int 0, .int 0, .int 0, .int 0, .int 0, .int 0, .int 0, .null, .null, .null, .null, .null, .null, .null, .int 0, .null])), (q8, .inl (c8, 512, .inl (fun _ => 0))), (q16, .inl (c16, 6, .inl (fun _ => 0)))] H := hP
  have hD : va_D A [(bO, .inr (3, [.int 0, .ref q8, .null, .null, .null, .null, .null, .int 0, .int 0, .int 0, .int 0, .int 0, .int 0, .int 0, .null, .null, .null, .null, .null, .null, .null, .int 0, .null])), (q8, .inl (c8, 512, .inl (fun _ => 0))), (q16, .inl (c16, 6, .inl (fun _ => 0)))] := hD
  have hK : va_K (dC, dI) vwCl [(c8, .int), (c16, .int)] s := hK
  refine W.widen (k := 2) (n := 518) (by omega) (by omega) ?_
  refine va_put (D := (dC, dI)) (ci := 3) (v := .ref q16) (ty := .array .int) (C := RX3) (T := TX3) (N := 23) hx hb htb inX3 tyX3 tyX3_ok nmX3 hown hK hP hD hS 0 rfl rfl 2 (by decide) (htb _ m2_88) (fun _ h9 => h9) rfl (by decide +kernel) (by first | rfl | decide +kernel) (by first | rfl | decide +kernel) (Nat.le_of_ble_eq_true rfl) dX3_init_18 (fun H locs hP hD hS => ?_)
  have hP : va_P (dC, dI) vwCl [(bO, .inr (3, [.int 0, .ref q8, .ref q16, .null, .null, .null, .null, .int 0, .int 0, .int 0, .int 0, .int 0, .int 0, .int 0, .null, .null, .null, .null, .null, .null, .null, .int 0, .null])), (q8, .inl (c8, 512, .inl (fun _ => 0))), (q16, .inl (c16, 6, .inl (fun _ => 0)))] H := hP
  have hD : va_D A [(bO, .inr (3, [.int 0, .ref q8, .ref q16, .null, .null, .null, .null, .int 0, .int 0, .int 0, .int 0, .int 0, .int 0, .int 0, .null, .null, .null, .null, .null, .null, .null, .int 0, .null])), (q8, .inl (c8, 512, .inl (fun _ => 0))), (q16, .inl (c16, 6, .inl (fun _ => 0)))] := hD
  refine lv_aload_n hx hb dX3_init_21 rfl (lv_at hl 0 rfl) ?_
  refine lv_bipush (v := 6) hx hb dX3_init_22 (by decide) ?_
  refine va_newa (atype := .int) (ty := .int) (a0 := (6, .inl (fun _ => 0))) (N' := 6) hx hb (htb _ m1_38) rfl hK hP hD hS hA (fun _ => rfl) (by decide) (by decide) (Nat.le_of_ble_eq_true rfl) (Nat.le_of_ble_eq_true rfl) (Nat.le_of_ble_eq_true rfl) dX3_init_24 (fun q24 c24 H hK hP hD hS => ?_)
  have hP : va_P (dC, dI) vwCl [(bO, .inr (3, [.int 0, .ref q8, .ref q16, .null, .null, .null, .null, .int 0, .int 0, .int 0, .int 0, .int 0, .int 0, .int 0, .null, .null, .null, .null, .null, .null, .null, .int 0, .null])), (q8, .inl (c8, 512, .inl (fun _ => 0))), (q16, .inl (c16, 6, .inl (fun _ => 0))), (q24, .inl (c24, 6, .inl (fun _ => 0)))] H := hP
  have hD : va_D A [(bO, .inr (3, [.int 0, .ref q8, .ref q16, .null, .null, .null, .null, .int 0, .int 0, .int 0, .int 0, .int 0, .int 0, .int 0, .null, .null, .null, .null, .null, .null, .null, .int 0, .null])), (q8, .inl (c8, 512, .inl (fun _ => 0))), (q16, .inl (c16, 6, .inl (fun _ => 0))), (q24, .inl (c24, 6, .inl (fun _ => 0)))] := hD
  have hK : va_K (dC, dI) vwCl [(c8, .int), (c16, .int), (c24, .int)] s := hK
  refine W.widen (k := 3) (n := 524) (by omega) (by omega) ?_
  refine va_put (D := (dC, dI)) (ci := 3) (v := .ref q24) (ty := .array .int) (C := RX3) (T := TX3) (N := 23) hx hb htb inX3 tyX3 tyX3_ok nmX3 hown hK hP hD hS 0 rfl rfl 3 (by decide) (htb _ m2_89) (fun _ h9 => h9) rfl (by decide +kernel) (by first | rfl | decide +kernel) (by first | rfl | decide +kernel) (Nat.le_of_ble_eq_true rfl) dX3_init_26 (fun H locs hP hD hS => ?_)
  have hP : va_P (dC, dI) vwCl [(bO, .inr (3, [.int 0, .ref q8, .ref q16, .ref q24, .null, .null, .null, .int 0, .int 0, .int 0, .int 0, .int 0, .int 0, .int 0, .null, .null, .null, .null, .null, .null, .null, .int 0, .null])), (q8, .inl (c8, 512, .inl (fun _ => 0))), (q16, .inl (c16, 6, .inl (fun _ => 0))), (q24, .inl (c24, 6, .inl (fun _ => 0)))] H := hP
  have hD : va_D A [(bO, .inr (3, [.int 0, .ref q8, .ref q16, .ref q24, .null, .null, .null, .int 0, .int 0, .int 0, .int 0, .int 0, .int 0, .int 0, .null, .null, .null, .null, .null, .null, .null, .int 0, .null])), (q8, .inl (c8, 512, .inl (fun _ => 0))), (q16, .inl (c16, 6, .inl (fun _ => 0))), (q24, .inl (c24, 6, .inl (fun _ => 0)))] := hD
  refine lv_aload_n hx hb dX3_init_29 rfl (lv_at hl 0 rfl) ?_
  refine lv_bipush (v := 6) hx hb dX3_init_30 (by decide) ?_
  refine va_newa (atype := .int) (ty := .int) (a0 := (6, .inl (fun _ => 0))) (N' := 6) hx hb (htb _ m1_38) rfl hK hP hD hS hA (fun _ => rfl) (by decide) (by decide) (Nat.le_of_ble_eq_true rfl) (Nat.le_of_ble_eq_true rfl) (Nat.le_of_ble_eq_true rfl) dX3_init_32 (fun q32 c32 H hK hP hD hS => ?_)
  have hP : va_P (dC, dI) vwCl [(bO, .inr (3, [.int 0, .ref q8, .ref q16, .ref q24, .null, .null, .null, .int 0, .int 0, .int 0, .int 0, .int 0, .int 0, .int 0, .null, .null, .null, .null, .null, .null, .null, .int 0, .null])), (q8, .inl (c8, 512, .inl (fun _ => 0))), (q16, .inl (c16, 6, .inl (fun _ => 0))), (q24, .inl (c24, 6, .inl (fun _ => 0))), (q32, .inl (c32, 6, .inl (fun _ => 0)))] H := hP
  have hD : va_D A [(bO, .inr (3, [.int 0, .ref q8, .ref q16, .ref q24, .null, .null, .null, .int 0, .int 0, .int 0, .int 0, .int 0, .int 0, .int 0, .null, .null, .null, .null, .null, .null, .null, .int 0, .null])), (q8, .inl (c8, 512, .inl (fun _ => 0))), (q16, .inl (c16, 6, .inl (fun _ => 0))), (q24, .inl (c24, 6, .inl (fun _ => 0))), (q32, .inl (c32, 6, .inl (fun _ => 0)))] := hD
  have hK : va_K (dC, dI) vwCl [(c8, .int), (c16, .int), (c24, .int), (c32, .int)] s := hK
  refine W.widen (k := 4) (n := 530) (by omega) (by omega) ?_
  refine va_put (D := (dC, dI)) (ci := 3) (v := .ref q32) (ty := .array .int) (C := RX3) (T := TX3) (N := 23) hx hb htb inX3 tyX3 tyX3_ok nmX3 hown hK hP hD hS 0 rfl rfl 4 (by decide) (htb _ m2_90) (fun _ h9 => h9) rfl (by decide +kernel) (by first | rfl | decide +kernel) (by first | rfl | decide +kernel) (Nat.le_of_ble_eq_true rfl) dX3_init_34 (fun H locs hP hD hS => ?_)
  have hP : va_P (dC, dI) vwCl [(bO, .inr (3, [.int 0, .ref q8, .ref q16, .ref q24, .ref q32, .null, .null, .int 0, .int 0, .int 0, .int 0, .int 0, .int 0, .int 0, .null, .null, .null, .null, .null, .null, .null, .int 0, .null])), (q8, .inl (c8, 512, .inl (fun _ => 0))), (q16, .inl (c16, 6, .inl (fun _ => 0))), (q24, .inl (c24, 6, .inl (fun _ => 0))), (q32, .inl (c32, 6, .inl (fun _ => 0)))] H := hP
  have hD : va_D A [(bO, .inr (3, [.int 0, .ref q8, .ref q16, .ref q24, .ref q32, .null, .null, .int 0, .int 0, .int 0, .int 0, .int 0, .int 0, .int 0, .null, .null, .null, .null, .null, .null, .null, .int 0, .null])), (q8, .inl (c8, 512, .inl (fun _ => 0))), (q16, .inl (c16, 6, .inl (fun _ => 0))), (q24, .inl (c24, 6, .inl (fun _ => 0))), (q32, .inl (c32, 6, .inl (fun _ => 0)))] := hD
  refine lv_aload_n hx hb dX3_init_37 rfl (lv_at hl 0 rfl) ?_
  refine lv_bipush (v := 6) hx hb dX3_init_38 (by decide) ?_
  refine va_newa (atype := .int) (ty := .int) (a0 := (6, .inl (fun _ => 0))) (N' := 6) hx hb (htb _ m1_38) rfl hK hP hD hS hA (fun _ => rfl) (by decide) (by decide) (Nat.le_of_ble_eq_true rfl) (Nat.le_of_ble_eq_true rfl) (Nat.le_of_ble_eq_true rfl) dX3_init_40 (fun q40 c40 H hK hP hD hS => ?_)
  have hP : va_P (dC, dI) vwCl [(bO, .inr (3, [.int 0, .ref q8, .ref q16, .ref q24, .ref q32, .null, .null, .int 0, .int 0, .int 0, .int 0, .int 0, .int 0, .int 0, .null, .null, .null, .null, .null, .null, .null, .int 0, .null])), (q8, .inl (c8, 512, .inl (fun _ => 0))), (q16, .inl (c16, 6, .inl (fun _ => 0))), (q24, .inl (c24, 6, .inl (fun _ => 0))), (q32, .inl (c32, 6, .inl (fun _ => 0))), (q40, .inl (c40, 6, .inl (fun _ => 0)))] H := hP
  have hD : va_D A [(bO, .inr (3, [.int 0, .ref q8, .ref q16, .ref q24, .ref q32, .null, .null, .int 0, .int 0, .int 0, .int 0, .int 0, .int 0, .int 0, .null, .null, .null, .null, .null, .null, .null, .int 0, .null])), (q8, .inl (c8, 512, .inl (fun _ => 0))), (q16, .inl (c16, 6, .inl (fun _ => 0))), (q24, .inl (c24, 6, .inl (fun _ => 0))), (q32, .inl (c32, 6, .inl (fun _ => 0))), (q40, .inl (c40, 6, .inl (fun _ => 0)))] := hD
  have hK : va_K (dC, dI) vwCl [(c8, .int), (c16, .int), (c24, .int), (c32, .int), (c40, .int)] s := hK
  refine W.widen (k := 5) (n := 536) (by omega) (by omega) ?_
  refine va_put (D := (dC, dI)) (ci := 3) (v := .ref q40) (ty := .array .int) (C := RX3) (T := TX3) (N := 23) hx hb htb inX3 tyX3 tyX3_ok nmX3 hown hK hP hD hS 0 rfl rfl 5 (by decide) (htb _ m2_91) (fun _ h9 => h9) rfl (by decide +kernel) (by first | rfl | decide +kernel) (by first | rfl | decide +kernel) (Nat.le_of_ble_eq_true rfl) dX3_init_42 (fun H locs hP hD hS => ?_)
  have hP : va_P (dC, dI) vwCl [(bO, .inr (3, [.int 0, .ref q8, .ref q16, .ref q24, .ref q32, .ref q40, .null, .int 0, .int 0, .int 0, .int 0, .int 0, .int 0, .int 0, .null, .null, .null, .null, .null, .null, .null, .int 0, .null])), (q8, .inl (c8, 512, .inl (fun _ => 0))), (q16, .inl (c16, 6, .inl (fun _ => 0))), (q24, .inl (c24, 6, .inl (fun _ => 0))), (q32, .inl (c32, 6, .inl (fun _ => 0))), (q40, .inl (c40, 6, .inl (fun _ => 0)))] H := hP
  have hD : va_D A [(bO, .inr (3, [.int 0, .ref q8, .ref q16, .ref q24, .ref q32, .ref q40, .null, .int 0, .int 0, .int 0, .int 0, .int 0, .int 0, .int 0, .null, .null, .null, .null, .null, .null, .null, .int 0, .null])), (q8, .inl (c8, 512, .inl (fun _ => 0))), (q16, .inl (c16, 6, .inl (fun _ => 0))), (q24, .inl (c24, 6, .inl (fun _ => 0))), (q32, .inl (c32, 6, .inl (fun _ => 0))), (q40, .inl (c40, 6, .inl (fun _ => 0)))] := hD
  refine lv_aload_n hx hb dX3_init_45 rfl (lv_at hl 0 rfl) ?_
  refine lv_bipush (v := 12) hx hb dX3_init_46 (by decide) ?_
  refine va_newa (atype := .int) (ty := .int) (a0 := (12, .inl (fun _ => 0))) (N' := 12) hx hb (htb _ m1_38) rfl hK hP hD hS hA (fun _ => rfl) (by decide) (by decide) (Nat.le_of_ble_eq_true rfl) (Nat.le_of_ble_eq_true rfl) (Nat.le_of_ble_eq_true rfl) dX3_init_48 (fun q48 c48 H hK hP hD hS => ?_)
  have hP : va_P (dC, dI) vwCl [(bO, .inr (3, [.int 0, .ref q8, .ref q16, .ref q24, .ref q32, .ref q40, .null, .int 0, .int 0, .int 0, .int 0, .int 0, .int 0, .int 0, .null, .null, .null, .null, .null, .null, .null, .int 0, .null])), (q8, .inl (c8, 512, .inl (fun _ => 0))), (q16, .inl (c16, 6, .inl (fun _ => 0))), (q24, .inl (c24, 6, .inl (fun _ => 0))), (q32, .inl (c32, 6, .inl (fun _ => 0))), (q40, .inl (c40, 6, .inl (fun _ => 0))), (q48, .inl (c48, 12, .inl (fun _ => 0)))] H := hP
  have hD : va_D A [(bO, .inr (3, [.int 0, .ref q8, .ref q16, .ref q24, .ref q32, .ref q40, .null, .int 0, .int 0, .int 0, .int 0, .int 0, .int 0, .int 0, .null, .null, .null, .null, .null, .null, .null, .int 0, .null])), (q8, .inl (c8, 512, .inl (fun _ => 0))), (q16, .inl (c16, 6, .inl (fun _ => 0))), (q24, .inl (c24, 6, .inl (fun _ => 0))), (q32, .inl (c32, 6, .inl (fun _ => 0))), (q40, .inl (c40, 6, .inl (fun _ => 0))), (q48, .inl (c48, 12, .inl (fun _ => 0)))] := hD
  have hK : va_K (dC, dI) vwCl [(c8, .int), (c16, .int), (c24, .int), (c32, .int), (c40, .int), (c48, .int)] s := hK
  refine W.widen (k := 6) (n := 548) (by omega) (by omega) ?_
  refine va_put (D := (dC, dI)) (ci := 3) (v := .ref q48) (ty := .array .int) (C := RX3) (T := TX3) (N := 23) hx hb htb inX3 tyX3 tyX3_ok nmX3 hown hK hP hD hS 0 rfl rfl 6 (by decide) (htb _ m2_92) (fun _ h9 => h9) rfl (by decide +kernel) (by first | rfl | decide +kernel) (by first | rfl | decide +kernel) (Nat.le_of_ble_eq_true rfl) dX3_init_50 (fun H locs hP hD hS => ?_)
  have hP : va_P (dC, dI) vwCl [(bO, .inr (3, [.int 0, .ref q8, .ref q16, .ref q24, .ref q32, .ref q40, .ref q48, .int 0, .int 0, .int 0, .int 0, .int 0, .int 0, .int 0, .null, .null, .null, .null, .null, .null, .null, .int 0, .null])), (q8, .inl (c8, 512, .inl (fun _ => 0))), (q16, .inl (c16, 6, .inl (fun _ => 0))), (q24, .inl (c24, 6, .inl (fun _ => 0))), (q32, .inl (c32, 6, .inl (fun _ => 0))), (q40, .inl (c40, 6, .inl (fun _ => 0))), (q48, .inl (c48, 12, .inl (fun _ => 0)))] H := hP
  have hD : va_D A [(bO, .inr (3, [.int 0, .ref q8, .ref q16, .ref q24, .ref q32, .ref q40, .ref q48, .int 0, .int 0, .int 0, .int 0, .int 0, .int 0, .int 0, .null, .null, .null, .null, .null, .null, .null, .int 0, .null])), (q8, .inl (c8, 512, .inl (fun _ => 0))), (q16, .inl (c16, 6, .inl (fun _ => 0))), (q24, .inl (c24, 6, .inl (fun _ => 0))), (q32, .inl (c32, 6, .inl (fun _ => 0))), (q40, .inl (c40, 6, .inl (fun _ => 0))), (q48, .inl (c48, 12, .inl (fun _ => 0)))] := hD
  refine lv_aload_n hx hb dX3_init_53 rfl (lv_at hl 0 rfl) ?_
  refine lv_bipush (v := 25) hx hb dX3_init_54 (by decide) ?_
  refine va_put (D := (dC, dI)) (ci := 3) (v := .int 25) (ty := .int) (C := RX3) (T := TX3) (N := 23) hx hb htb inX3 tyX3 tyX3_ok nmX3 hown hK hP hD hS 0 rfl rfl 8 (by decide) (htb _ m2_94) (fun _ h9 => h9) rfl (by decide +kernel) (by first | rfl | decide +kernel) (by first | rfl | decide +kernel) (Nat.le_of_ble_eq_true rfl) dX3_init_56 (fun H locs hP hD hS => ?_)
  have hP : va_P (dC, dI) vwCl [(bO, .inr (3, [.int 0, .ref q8, .ref q16, .ref q24, .ref q32, .ref q40, .ref q48, .int 0, .int 25, .int 0, .int 0, .int 0, .int 0, .int 0, .null, .null, .null, .null, .null, .null, .null, .int 0, .null])), (q8, .inl (c8, 512, .inl (fun _ => 0))), (q16, .inl (c16, 6, .inl (fun _ => 0))), (q24, .inl (c24, 6, .inl (fun _ => 0))), (q32, .inl (c32, 6, .inl (fun _ => 0))), (q40, .inl (c40, 6, .inl (fun _ => 0))), (q48, .inl (c48, 12, .inl (fun _ => 0)))] H := hP
  have hD : va_D A [(bO, .inr (3, [.int 0, .ref q8, .ref q16, .ref q24, .ref q32, .ref q40, .ref q48, .int 0, .int 25, .int 0, .int 0, .int 0, .int 0, .int 0, .null, .null, .null, .null, .null, .null, .null, .int 0, .null])), (q8, .inl (c8, 512, .inl (fun _ => 0))), (q16, .inl (c16, 6, .inl (fun _ => 0))), (q24, .inl (c24, 6, .inl (fun _ => 0))), (q32, .inl (c32, 6, .inl (fun _ => 0))), (q40, .inl (c40, 6, .inl (fun _ => 0))), (q48, .inl (c48, 12, .inl (fun _ => 0)))] := hD
  refine lv_aload_n hx hb dX3_init_59 rfl (lv_at hl 0 rfl) ?_
  refine lv_iconst (v := 1) hx hb dX3_init_60 (by decide) ?_
  refine va_put (D := (dC, dI)) (ci := 3) (v := .int 1) (ty := .boolean) (C := RX3) (T := TX3) (N := 23) hx hb htb inX3 tyX3 tyX3_ok nmX3 hown hK hP hD hS 0 rfl rfl 11 (by decide) (htb _ m2_97) (fun _ h9 => h9) rfl (by decide +kernel) (by first | rfl | decide +kernel) (by first | rfl | decide +kernel) (Nat.le_of_ble_eq_true rfl) dX3_init_61 (fun H locs hP hD hS => ?_)
  have hP : va_P (dC, dI) vwCl [(bO, .inr (3, [.int 0, .ref q8, .ref q16, .ref q24, .ref q32, .ref q40, .ref q48, .int 0, .int 25, .int 0, .int 0, .int 1, .int 0, .int 0, .null, .null, .null, .null, .null, .null, .null, .int 0, .null])), (q8, .inl (c8, 512, .inl (fun _ => 0))), (q16, .inl (c16, 6, .inl (fun _ => 0))), (q24, .inl (c24, 6, .inl (fun _ => 0))), (q32, .inl (c32, 6, .inl (fun _ => 0))), (q40, .inl (c40, 6, .inl (fun _ => 0))), (q48, .inl (c48, 12, .inl (fun _ => 0)))] H := hP
  have hD : va_D A [(bO, .inr (3, [.int 0, .ref q8, .ref q16, .ref q24, .ref q32, .ref q40, .ref q48, .int 0, .int 25, .int 0, .int 0, .int 1, .int 0, .int 0, .null, .null, .null, .null, .null, .null, .null, .int 0, .null])), (q8, .inl (c8, 512, .inl (fun _ => 0))), (q16, .inl (c16, 6, .inl (fun _ => 0))), (q24, .inl (c24, 6, .inl (fun _ => 0))), (q32, .inl (c32, 6, .inl (fun _ => 0))), (q40, .inl (c40, 6, .inl (fun _ => 0))), (q48, .inl (c48, 12, .inl (fun _ => 0)))] := hD
  refine lv_aload_n hx hb dX3_init_64 rfl (lv_at hl 0 rfl) ?_
  refine lv_bipush (v := 8) hx hb dX3_init_65 (by decide) ?_
  refine va_newa (atype := .int) (ty := .int) (a0 := (8, .inl (fun _ => 0))) (N' := 8) hx hb (htb _ m1_38) rfl hK hP hD hS hA (fun _ => rfl) (by decide) (by decide) (Nat.le_of_ble_eq_true rfl) (Nat.le_of_ble_eq_true rfl) (Nat.le_of_ble_eq_true rfl) dX3_init_67 (fun q67 c67 H hK hP hD hS => ?_)
  have hP : va_P (dC, dI) vwCl [(bO, .inr (3, [.int 0, .ref q8, .ref q16, .ref q24, .ref q32, .ref q40, .ref q48, .int 0, .int 25, .int 0, .int 0, .int 1, .int 0, .int 0, .null, .null, .null, .null, .null, .null, .null, .int 0, .null])), (q8, .inl (c8, 512, .inl (fun _ => 0))), (q16, .inl (c16, 6, .inl (fun _ => 0))), (q24, .inl (c24, 6, .inl (fun _ => 0))), (q32, .inl (c32, 6, .inl (fun _ => 0))), (q40, .inl (c40, 6, .inl (fun _ => 0))), (q48, .inl (c48, 12, .inl (fun _ => 0))), (q67, .inl (c67, 8, .inl (fun _ => 0)))] H := hP
  have hD : va_D A [(bO, .inr (3, [.int 0, .ref q8, .ref q16, .ref q24, .ref q32, .ref q40, .ref q48, .int 0, .int 25, .int 0, .int 0, .int 1, .int 0, .int 0, .null, .null, .null, .null, .null, .null, .null, .int 0, .null])), (q8, .inl (c8, 512, .inl (fun _ => 0))), (q16, .inl (c16, 6, .inl (fun _ => 0))), (q24, .inl (c24, 6, .inl (fun _ => 0))), (q32, .inl (c32, 6, .inl (fun _ => 0))), (q40, .inl (c40, 6, .inl (fun _ => 0))), (q48, .inl (c48, 12, .inl (fun _ => 0))), (q67, .inl (c67, 8, .inl (fun _ => 0)))] := hD
  have hK : va_K (dC, dI) vwCl [(c8, .int), (c16, .int), (c24, .int), (c32, .int), (c40, .int), (c48, .int), (c67, .int)] s := hK
  refine W.widen (k := 7) (n := 556) (by omega) (by omega) ?_
  refine va_put (D := (dC, dI)) (ci := 3) (v := .ref q67) (ty := .array .int) (C := RX3) (T := TX3) (N := 23) hx hb htb inX3 tyX3 tyX3_ok nmX3 hown hK hP hD hS 0 rfl rfl 14 (by decide) (htb _ m2_100) (fun _ h9 => h9) rfl (by decide +kernel) (by first | rfl | decide +kernel) (by first | rfl | decide +kernel) (Nat.le_of_ble_eq_true rfl) dX3_init_69 (fun H locs hP hD hS => ?_)
  have hP : va_P (dC, dI) vwCl [(bO, .inr (3, [.int 0, .ref q8, .ref q16, .ref q24, .ref q32, .ref q40, .ref q48, .int 0, .int 25, .int 0, .int 0, .int 1, .int 0, .int 0, .ref q67, .null, .null, .null, .null, .null, .null, .int 0, .null])), (q8, .inl (c8, 512, .inl (fun _ => 0))), (q16, .inl (c16, 6, .inl (fun _ => 0))), (q24, .inl (c24, 6, .inl (fun _ => 0))), (q32, .inl (c32, 6, .inl (fun _ => 0))), (q40, .inl (c40, 6, .inl (fun _ => 0))), (q48, .inl (c48, 12, .inl (fun _ => 0))), (q67, .inl (c67, 8, .inl (fun _ => 0)))] H := hP
  have hD : va_D A [(bO, .inr (3, [.int 0, .ref q8, .ref q16, .ref q24, .ref q32, .ref q40, .ref q48, .int 0, .int 25, .int 0, .int 0, .int 1, .int 0, .int 0, .ref q67, .null, .null, .null, .null, .null, .null, .int 0, .null])), (q8, .inl (c8, 512, .inl (fun _ => 0))), (q16, .inl (c16, 6, .inl (fun _ => 0))), (q24, .inl (c24, 6, .inl (fun _ => 0))), (q32, .inl (c32, 6, .inl (fun _ => 0))), (q40, .inl (c40, 6, .inl (fun _ => 0))), (q48, .inl (c48, 12, .inl (fun _ => 0))), (q67, .inl (c67, 8, .inl (fun _ => 0)))] := hD
  refine lv_aload_n hx hb dX3_init_72 rfl (lv_at hl 0 rfl) ?_
  refine lv_bipush (v := 8) hx hb dX3_init_73 (by decide) ?_
  refine va_newa (atype := .int) (ty := .int) (a0 := (8, .inl (fun _ => 0))) (N' := 8) hx hb (htb _ m1_38) rfl hK hP hD hS hA (fun _ => rfl) (by decide) (by decide) (Nat.le_of_ble_eq_true rfl) (Nat.le_of_ble_eq_true rfl) (Nat.le_of_ble_eq_true rfl) dX3_init_75 (fun q75 c75 H hK hP hD hS => ?_)
  have hP : va_P (dC, dI) vwCl [(bO, .inr (3, [.int 0, .ref q8, .ref q16, .ref q24, .ref q32, .ref q40, .ref q48, .int 0, .int 25, .int 0, .int 0, .int 1, .int 0, .int 0, .ref q67, .null, .null, .null, .null, .null, .null, .int 0, .null])), (q8, .inl (c8, 512, .inl (fun _ => 0))), (q16, .inl (c16, 6, .inl (fun _ => 0))), (q24, .inl (c24, 6, .inl (fun _ => 0))), (q32, .inl (c32, 6, .inl (fun _ => 0))), (q40, .inl (c40, 6, .inl (fun _ => 0))), (q48, .inl (c48, 12, .inl (fun _ => 0))), (q67, .inl (c67, 8, .inl (fun _ => 0))), (q75, .inl (c75, 8, .inl (fun _ => 0)))] H := hP
  have hD : va_D A [(bO, .inr (3, [.int 0, .ref q8, .ref q16, .ref q24, .ref q32, .ref q40, .ref q48, .int 0, .int 25, .int 0, .int 0, .int 1, .int 0, .int 0, .ref q67, .null, .null, .null, .null, .null, .null, .int 0, .null])), (q8, .inl (c8, 512, .inl (fun _ => 0))), (q16, .inl (c16, 6, .inl (fun _ => 0))), (q24, .inl (c24, 6, .inl (fun _ => 0))), (q32, .inl (c32, 6, .inl (fun _ => 0))), (q40, .inl (c40, 6, .inl (fun _ => 0))), (q48, .inl (c48, 12, .inl (fun _ => 0))), (q67, .inl (c67, 8, .inl (fun _ => 0))), (q75, .inl (c75, 8, .inl (fun _ => 0)))] := hD
  have hK : va_K (dC, dI) vwCl [(c8, .int), (c16, .int), (c24, .int), (c32, .int), (c40, .int), (c48, .int), (c67, .int), (c75, .int)] s := hK
  refine W.widen (k := 8) (n := 564) (by omega) (by omega) ?_
  refine va_put (D := (dC, dI)) (ci := 3) (v := .ref q75) (ty := .array .int) (C := RX3) (T := TX3) (N := 23) hx hb htb inX3 tyX3 tyX3_ok nmX3 hown hK hP hD hS 0 rfl rfl 15 (by decide) (htb _ m2_101) (fun _ h9 => h9) rfl (by decide +kernel) (by first | rfl | decide +kernel) (by first | rfl | decide +kernel) (Nat.le_of_ble_eq_true rfl) dX3_init_77 (fun H locs hP hD hS => ?_)
  have hP : va_P (dC, dI) vwCl [(bO, .inr (3, [.int 0, .ref q8, .ref q16, .ref q24, .ref q32, .ref q40, .ref q48, .int 0, .int 25, .int 0, .int 0, .int 1, .int 0, .int 0, .ref q67, .ref q75, .null, .null, .null, .null, .null, .int 0, .null])), (q8, .inl (c8, 512, .inl (fun _ => 0))), (q16, .inl (c16, 6, .inl (fun _ => 0))), (q24, .inl (c24, 6, .inl (fun _ => 0))), (q32, .inl (c32, 6, .inl (fun _ => 0))), (q40, .inl (c40, 6, .inl (fun _ => 0))), (q48, .inl (c48, 12, .inl (fun _ => 0))), (q67, .inl (c67, 8, .inl (fun _ => 0))), (q75, .inl (c75, 8, .inl (fun _ => 0)))] H := hP
  have hD : va_D A [(bO, .inr (3, [.int 0, .ref q8, .ref q16, .ref q24, .ref q32, .ref q40, .ref q48, .int 0, .int 25, .int 0, .int 0, .int 1, .int 0, .int 0, .ref q67, .ref q75, .null, .null, .null, .null, .null, .int 0, .null])), (q8, .inl (c8, 512, .inl (fun _ => 0))), (q16, .inl (c16, 6, .inl (fun _ => 0))), (q24, .inl (c24, 6, .inl (fun _ => 0))), (q32, .inl (c32, 6, .inl (fun _ => 0))), (q40, .inl (c40, 6, .inl (fun _ => 0))), (q48, .inl (c48, 12, .inl (fun _ => 0))), (q67, .inl (c67, 8, .inl (fun _ => 0))), (q75, .inl (c75, 8, .inl (fun _ => 0)))] := hD
  refine lv_aload_n hx hb dX3_init_80 rfl (lv_at hl 0 rfl) ?_
  refine lv_bipush (v := 8) hx hb dX3_init_81 (by decide) ?_
  refine va_newa (atype := .int) (ty := .int) (a0 := (8, .inl (fun _ => 0))) (N' := 8) hx hb (htb _ m1_38) rfl hK hP hD hS hA (fun _ => rfl) (by decide) (by decide) (Nat.le_of_ble_eq_true rfl) (Nat.le_of_ble_eq_true rfl) (Nat.le_of_ble_eq_true rfl) dX3_init_83 (fun q83 c83 H hK hP hD hS => ?_)
  have hP : va_P (dC, dI) vwCl [(bO, .inr (3, [.int 0, .ref q8, .ref q16, .ref q24, .ref q32, .ref q40, .ref q48, .int 0, .int 25, .int 0, .int 0, .int 1, .int 0, .int 0, .ref q67, .ref q75, .null, .null, .null, .null, .null, .int 0, .null])), (q8, .inl (c8, 512, .inl (fun _ => 0))), (q16, .inl (c16, 6, .inl (fun _ => 0))), (q24, .inl (c24, 6, .inl (fun _ => 0))), (q32, .inl (c32, 6, .inl (fun _ => 0))), (q40, .inl (c40, 6, .inl (fun _ => 0))), (q48, .inl (c48, 12, .inl (fun _ => 0))), (q67, .inl (c67, 8, .inl (fun _ => 0))), (q75, .inl (c75, 8, .inl (fun _ => 0))), (q83, .inl (c83, 8, .inl (fun _ => 0)))] H := hP
  have hD : va_D A [(bO, .inr (3, [.int 0, .ref q8, .ref q16, .ref q24, .ref q32, .ref q40, .ref q48, .int 0, .int 25, .int 0, .int 0, .int 1, .int 0, .int 0, .ref q67, .ref q75, .null, .null, .null, .null, .null, .int 0, .null])), (q8, .inl (c8, 512, .inl (fun _ => 0))), (q16, .inl (c16, 6, .inl (fun _ => 0))), (q24, .inl (c24, 6, .inl (fun _ => 0))), (q32, .inl (c32, 6, .inl (fun _ => 0))), (q40, .inl (c40, 6, .inl (fun _ => 0))), (q48, .inl (c48, 12, .inl (fun _ => 0))), (q67, .inl (c67, 8, .inl (fun _ => 0))), (q75, .inl (c75, 8, .inl (fun _ => 0))), (q83, .inl (c83, 8, .inl (fun _ => 0)))] := hD
  have hK : va_K (dC, dI) vwCl [(c8, .int), (c16, .int), (c24, .int), (c32, .int), (c40, .int), (c48, .int), (c67, .int), (c75, .int), (c83, .int)] s := hK
  refine W.widen (k := 9) (n := 572) (by omega) (by omega) ?_
  refine va_put (D := (dC, dI)) (ci := 3) (v := .ref q83) (ty := .array .int) (C := RX3) (T := TX3) (N := 23) hx hb htb inX3 tyX3 tyX3_ok nmX3 hown hK hP hD hS 0 rfl rfl 16 (by decide) (htb _ m2_102) (fun _ h9 => h9) rfl (by decide +kernel) (by first | rfl | decide +kernel) (by first | rfl | decide +kernel) (Nat.le_of_ble_eq_true rfl) dX3_init_85 (fun H locs hP hD hS => ?_)
  have hP : va_P (dC, dI) vwCl [(bO, .inr (3, [.int 0, .ref q8, .ref q16, .ref q24, .ref q32, .ref q40, .ref q48, .int 0, .int 25, .int 0, .int 0, .int 1, .int 0, .int 0, .ref q67, .ref q75, .ref q83, .null, .null, .null, .null, .int 0, .null])), (q8, .inl (c8, 512, .inl (fun _ => 0))), (q16, .inl (c16, 6, .inl (fun _ => 0))), (q24, .inl (c24, 6, .inl (fun _ => 0))), (q32, .inl (c32, 6, .inl (fun _ => 0))), (q40, .inl (c40, 6, .inl (fun _ => 0))), (q48, .inl (c48, 12, .inl (fun _ => 0))), (q67, .inl (c67, 8, .inl (fun _ => 0))), (q75, .inl (c75, 8, .inl (fun _ => 0))), (q83, .inl (c83, 8, .inl (fun _ => 0)))] H := hP
  have hD : va_D A [(bO, .inr (3, [.int 0, .ref q8, .ref q16, .ref q24, .ref q32, .ref q40, .ref q48, .int 0, .int 25, .int 0, .int 0, .int 1, .int 0, .int 0, .ref q67, .ref q75, .ref q83, .null, .null, .null, .null, .int 0, .null])), (q8, .inl (c8, 512, .inl (fun _ => 0))), (q16, .inl (c16, 6, .inl (fun _ => 0))), (q24, .inl (c24, 6, .inl (fun _ => 0))), (q32, .inl (c32, 6, .inl (fun _ => 0))), (q40, .inl (c40, 6, .inl (fun _ => 0))), (q48, .inl (c48, 12, .inl (fun _ => 0))), (q67, .inl (c67, 8, .inl (fun _ => 0))), (q75, .inl (c75, 8, .inl (fun _ => 0))), (q83, .inl (c83, 8, .inl (fun _ => 0)))] := hD
  refine lv_aload_n hx hb dX3_init_88 rfl (lv_at hl 0 rfl) ?_
  refine lv_bipush (v := 8) hx hb dX3_init_89 (by decide) ?_
  refine va_newa (atype := .int) (ty := .int) (a0 := (8, .inl (fun _ => 0))) (N' := 8) hx hb (htb _ m1_38) rfl hK hP hD hS hA (fun _ => rfl) (by decide) (by decide) (Nat.le_of_ble_eq_true rfl) (Nat.le_of_ble_eq_true rfl) (Nat.le_of_ble_eq_true rfl) dX3_init_91 (fun q91 c91 H hK hP hD hS => ?_)
  have hP : va_P (dC, dI) vwCl [(bO, .inr (3, [.int 0, .ref q8, .ref q16, .ref q24, .ref q32, .ref q40, .ref q48, .int 0, .int 25, .int 0, .int 0, .int 1, .int 0, .int 0, .ref q67, .ref q75, .ref q83, .null, .null, .null, .null, .int 0, .null])), (q8, .inl (c8, 512, .inl (fun _ => 0))), (q16, .inl (c16, 6, .inl (fun _ => 0))), (q24, .inl (c24, 6, .inl (fun _ => 0))), (q32, .inl (c32, 6, .inl (fun _ => 0))), (q40, .inl (c40, 6, .inl (fun _ => 0))), (q48, .inl (c48, 12, .inl (fun _ => 0))), (q67, .inl (c67, 8, .inl (fun _ => 0))), (q75, .inl (c75, 8, .inl (fun _ => 0))), (q83, .inl (c83, 8, .inl (fun _ => 0))), (q91, .inl (c91, 8, .inl (fun _ => 0)))] H := hP
  have hD : va_D A [(bO, .inr (3, [.int 0, .ref q8, .ref q16, .ref q24, .ref q32, .ref q40, .ref q48, .int 0, .int 25, .int 0, .int 0, .int 1, .int 0, .int 0, .ref q67, .ref q75, .ref q83, .null, .null, .null, .null, .int 0, .null])), (q8, .inl (c8, 512, .inl (fun _ => 0))), (q16, .inl (c16, 6, .inl (fun _ => 0))), (q24, .inl (c24, 6, .inl (fun _ => 0))), (q32, .inl (c32, 6, .inl (fun _ => 0))), (q40, .inl (c40, 6, .inl (fun _ => 0))), (q48, .inl (c48, 12, .inl (fun _ => 0))), (q67, .inl (c67, 8, .inl (fun _ => 0))), (q75, .inl (c75, 8, .inl (fun _ => 0))), (q83, .inl (c83, 8, .inl (fun _ => 0))), (q91, .inl (c91, 8, .inl (fun _ => 0)))] := hD
  have hK : va_K (dC, dI) vwCl [(c8, .int), (c16, .int), (c24, .int), (c32, .int), (c40, .int), (c48, .int), (c67, .int), (c75, .int), (c83, .int), (c91, .int)] s := hK
  refine W.widen (k := 10) (n := 580) (by omega) (by omega) ?_
  refine va_put (D := (dC, dI)) (ci := 3) (v := .ref q91) (ty := .array .int) (C := RX3) (T := TX3) (N := 23) hx hb htb inX3 tyX3 tyX3_ok nmX3 hown hK hP hD hS 0 rfl rfl 17 (by decide) (htb _ m2_103) (fun _ h9 => h9) rfl (by decide +kernel) (by first | rfl | decide +kernel) (by first | rfl | decide +kernel) (Nat.le_of_ble_eq_true rfl) dX3_init_93 (fun H locs hP hD hS => ?_)
  have hP : va_P (dC, dI) vwCl [(bO, .inr (3, [.int 0, .ref q8, .ref q16, .ref q24, .ref q32, .ref q40, .ref q48, .int 0, .int 25, .int 0, .int 0, .int 1, .int 0, .int 0, .ref q67, .ref q75, .ref q83, .ref q91, .null, .null, .null, .int 0, .null])), (q8, .inl (c8, 512, .inl (fun _ => 0))), (q16, .inl (c16, 6, .inl (fun _ => 0))), (q24, .inl (c24, 6, .inl (fun _ => 0))), (q32, .inl (c32, 6, .inl (fun _ => 0))), (q40, .inl (c40, 6, .inl (fun _ => 0))), (q48, .inl (c48, 12, .inl (fun _ => 0))), (q67, .inl (c67, 8, .inl (fun _ => 0))), (q75, .inl (c75, 8, .inl (fun _ => 0))), (q83, .inl (c83, 8, .inl (fun _ => 0))), (q91, .inl (c91, 8, .inl (fun _ => 0)))] H := hP
  have hD : va_D A [(bO, .inr (3, [.int 0, .ref q8, .ref q16, .ref q24, .ref q32, .ref q40, .ref q48, .int 0, .int 25, .int 0, .int 0, .int 1, .int 0, .int 0, .ref q67, .ref q75, .ref q83, .ref q91, .null, .null, .null, .int 0, .null])), (q8, .inl (c8, 512, .inl (fun _ => 0))), (q16, .inl (c16, 6, .inl (fun _ => 0))), (q24, .inl (c24, 6, .inl (fun _ => 0))), (q32, .inl (c32, 6, .inl (fun _ => 0))), (q40, .inl (c40, 6, .inl (fun _ => 0))), (q48, .inl (c48, 12, .inl (fun _ => 0))), (q67, .inl (c67, 8, .inl (fun _ => 0))), (q75, .inl (c75, 8, .inl (fun _ => 0))), (q83, .inl (c83, 8, .inl (fun _ => 0))), (q91, .inl (c91, 8, .inl (fun _ => 0)))] := hD
  refine lv_aload_n hx hb dX3_init_96 rfl (lv_at hl 0 rfl) ?_
  refine lv_bipush (v := 8) hx hb dX3_init_97 (by decide) ?_
  refine va_newa (atype := .int) (ty := .int) (a0 := (8, .inl (fun _ => 0))) (N' := 8) hx hb (htb _ m1_38) rfl hK hP hD hS hA (fun _ => rfl) (by decide) (by decide) (Nat.le_of_ble_eq_true rfl) (Nat.le_of_ble_eq_true rfl) (Nat.le_of_ble_eq_true rfl) dX3_init_99 (fun q99 c99 H hK hP hD hS => ?_)
  have hP : va_P (dC, dI) vwCl [(bO, .inr (3, [.int 0, .ref q8, .ref q16, .ref q24, .ref q32, .ref q40, .ref q48, .int 0, .int 25, .int 0, .int 0, .int 1, .int 0, .int 0, .ref q67, .ref q75, .ref q83, .ref q91, .null, .null, .null, .int 0, .null])), (q8, .inl (c8, 512, .inl (fun _ => 0))), (q16, .inl (c16, 6, .inl (fun _ => 0))), (q24, .inl (c24, 6, .inl (fun _ => 0))), (q32, .inl (c32, 6, .inl (fun _ => 0))), (q40, .inl (c40, 6, .inl (fun _ => 0))), (q48, .inl (c48, 12, .inl (fun _ => 0))), (q67, .inl (c67, 8, .inl (fun _ => 0))), (q75, .inl (c75, 8, .inl (fun _ => 0))), (q83, .inl (c83, 8, .inl (fun _ => 0))), (q91, .inl (c91, 8, .inl (fun _ => 0))), (q99, .inl (c99, 8, .inl (fun _ => 0)))] H := hP
  have hD : va_D A [(bO, .inr (3, [.int 0, .ref q8, .ref q16, .ref q24, .ref q32, .ref q40, .ref q48, .int 0, .int 25, .int 0, .int 0, .int 1, .int 0, .int 0, .ref q67, .ref q75, .ref q83, .ref q91, .null, .null, .null, .int 0, .null])), (q8, .inl (c8, 512, .inl (fun _ => 0))), (q16, .inl (c16, 6, .inl (fun _ => 0))), (q24, .inl (c24, 6, .inl (fun _ => 0))), (q32, .inl (c32, 6, .inl (fun _ => 0))), (q40, .inl (c40, 6, .inl (fun _ => 0))), (q48, .inl (c48, 12, .inl (fun _ => 0))), (q67, .inl (c67, 8, .inl (fun _ => 0))), (q75, .inl (c75, 8, .inl (fun _ => 0))), (q83, .inl (c83, 8, .inl (fun _ => 0))), (q91, .inl (c91, 8, .inl (fun _ => 0))), (q99, .inl (c99, 8, .inl (fun _ => 0)))] := hD
  have hK : va_K (dC, dI) vwCl [(c8, .int), (c16, .int), (c24, .int), (c32, .int), (c40, .int), (c48, .int), (c67, .int), (c75, .int), (c83, .int), (c91, .int), (c99, .int)] s := hK
  refine W.widen (k := 11) (n := 588) (by omega) (by omega) ?_
  refine va_put (D := (dC, dI)) (ci := 3) (v := .ref q99) (ty := .array .int) (C := RX3) (T := TX3) (N := 23) hx hb htb inX3 tyX3 tyX3_ok nmX3 hown hK hP hD hS 0 rfl rfl 18 (by decide) (htb _ m2_104) (fun _ h9 => h9) rfl (by decide +kernel) (by first | rfl | decide +kernel) (by first | rfl | decide +kernel) (Nat.le_of_ble_eq_true rfl) dX3_init_101 (fun H locs hP hD hS => ?_)
  have hP : va_P (dC, dI) vwCl [(bO, .inr (3, [.int 0, .ref q8, .ref q16, .ref q24, .ref q32, .ref q40, .ref q48, .int 0, .int 25, .int 0, .int 0, .int 1, .int 0, .int 0, .ref q67, .ref q75, .ref q83, .ref q91, .ref q99, .null, .null, .int 0, .null])), (q8, .inl (c8, 512, .inl (fun _ => 0))), (q16, .inl (c16, 6, .inl (fun _ => 0))), (q24, .inl (c24, 6, .inl (fun _ => 0))), (q32, .inl (c32, 6, .inl (fun _ => 0))), (q40, .inl (c40, 6, .inl (fun _ => 0))), (q48, .inl (c48, 12, .inl (fun _ => 0))), (q67, .inl (c67, 8, .inl (fun _ => 0))), (q75, .inl (c75, 8, .inl (fun _ => 0))), (q83, .inl (c83, 8, .inl (fun _ => 0))), (q91, .inl (c91, 8, .inl (fun _ => 0))), (q99, .inl (c99, 8, .inl (fun _ => 0)))] H := hP
  have hD : va_D A [(bO, .inr (3, [.int 0, .ref q8, .ref q16, .ref q24, .ref q32, .ref q40, .ref q48, .int 0, .int 25, .int 0, .int 0, .int 1, .int 0, .int 0, .ref q67, .ref q75, .ref q83, .ref q91, .ref q99, .null, .null, .int 0, .null])), (q8, .inl (c8, 512, .inl (fun _ => 0))), (q16, .inl (c16, 6, .inl (fun _ => 0))), (q24, .inl (c24, 6, .inl (fun _ => 0))), (q32, .inl (c32, 6, .inl (fun _ => 0))), (q40, .inl (c40, 6, .inl (fun _ => 0))), (q48, .inl (c48, 12, .inl (fun _ => 0))), (q67, .inl (c67, 8, .inl (fun _ => 0))), (q75, .inl (c75, 8, .inl (fun _ => 0))), (q83, .inl (c83, 8, .inl (fun _ => 0))), (q91, .inl (c91, 8, .inl (fun _ => 0))), (q99, .inl (c99, 8, .inl (fun _ => 0)))] := hD
  refine lv_aload_n hx hb dX3_init_104 rfl (lv_at hl 0 rfl) ?_
  refine lv_bipush (v := 8) hx hb dX3_init_105 (by decide) ?_
  refine va_newa (atype := .int) (ty := .int) (a0 := (8, .inl (fun _ => 0))) (N' := 8) hx hb (htb _ m1_38) rfl hK hP hD hS hA (fun _ => rfl) (by decide) (by decide) (Nat.le_of_ble_eq_true rfl) (Nat.le_of_ble_eq_true rfl) (Nat.le_of_ble_eq_true rfl) dX3_init_107 (fun q107 c107 H hK hP hD hS => ?_)
  have hP : va_P (dC, dI) vwCl [(bO, .inr (3, [.int 0, .ref q8, .ref q16, .ref q24, .ref q32, .ref q40, .ref q48, .int 0, .int 25, .int 0, .int 0, .int 1, .int 0, .int 0, .ref q67, .ref q75, .ref q83, .ref q91, .ref q99, .null, .null, .int 0, .null])), (q8, .inl (c8, 512, .inl (fun _ => 0))), (q16, .inl (c16, 6, .inl (fun _ => 0))), (q24, .inl (c24, 6, .inl (fun _ => 0))), (q32, .inl (c32, 6, .inl (fun _ => 0))), (q40, .inl (c40, 6, .inl (fun _ => 0))), (q48, .inl (c48, 12, .inl (fun _ => 0))), (q67, .inl (c67, 8, .inl (fun _ => 0))), (q75, .inl (c75, 8, .inl (fun _ => 0))), (q83, .inl (c83, 8, .inl (fun _ => 0))), (q91, .inl (c91, 8, .inl (fun _ => 0))), (q99, .inl (c99, 8, .inl (fun _ => 0))), (q107, .inl (c107, 8, .inl (fun _ => 0)))] H := hP
  have hD : va_D A [(bO, .inr (3, [.int 0, .ref q8, .ref q16, .ref q24, .ref q32, .ref q40, .ref q48, .int 0, .int 25, .int 0, .int 0, .int 1, .int 0, .int 0, .ref q67, .ref q75, .ref q83, .ref q91, .ref q99, .null, .null, .int 0, .null])), (q8, .inl (c8, 512, .inl (fun _ => 0))), (q16, .inl (c16, 6, .inl (fun _ => 0))), (q24, .inl (c24, 6, .inl (fun _ => 0))), (q32, .inl (c32, 6, .inl (fun _ => 0))), (q40, .inl (c40, 6, .inl (fun _ => 0))), (q48, .inl (c48, 12, .inl (fun _ => 0))), (q67, .inl (c67, 8, .inl (fun _ => 0))), (q75, .inl (c75, 8, .inl (fun _ => 0))), (q83, .inl (c83, 8, .inl (fun _ => 0))), (q91, .inl (c91, 8, .inl (fun _ => 0))), (q99, .inl (c99, 8, .inl (fun _ => 0))), (q107, .inl (c107, 8, .inl (fun _ => 0)))] := hD
  have hK : va_K (dC, dI) vwCl [(c8, .int), (c16, .int), (c24, .int), (c32, .int), (c40, .int), (c48, .int), (c67, .int), (c75, .int), (c83, .int), (c91, .int), (c99, .int), (c107, .int)] s := hK
  refine W.widen (k := 12) (n := 596) (by omega) (by omega) ?_
  refine va_put (D := (dC, dI)) (ci := 3) (v := .ref q107) (ty := .array .int) (C := RX3) (T := TX3) (N := 23) hx hb htb inX3 tyX3 tyX3_ok nmX3 hown hK hP hD hS 0 rfl rfl 19 (by decide) (htb _ m2_105) (fun _ h9 => h9) rfl (by decide +kernel) (by first | rfl | decide +kernel) (by first | rfl | decide +kernel) (Nat.le_of_ble_eq_true rfl) dX3_init_109 (fun H locs hP hD hS => ?_)
  have hP : va_P (dC, dI) vwCl [(bO, .inr (3, [.int 0, .ref q8, .ref q16, .ref q24, .ref q32, .ref q40, .ref q48, .int 0, .int 25, .int 0, .int 0, .int 1, .int 0, .int 0, .ref q67, .ref q75, .ref q83, .ref q91, .ref q99, .ref q107, .null, .int 0, .null])), (q8, .inl (c8, 512, .inl (fun _ => 0))), (q16, .inl (c16, 6, .inl (fun _ => 0))), (q24, .inl (c24, 6, .inl (fun _ => 0))), (q32, .inl (c32, 6, .inl (fun _ => 0))), (q40, .inl (c40, 6, .inl (fun _ => 0))), (q48, .inl (c48, 12, .inl (fun _ => 0))), (q67, .inl (c67, 8, .inl (fun _ => 0))), (q75, .inl (c75, 8, .inl (fun _ => 0))), (q83, .inl (c83, 8, .inl (fun _ => 0))), (q91, .inl (c91, 8, .inl (fun _ => 0))), (q99, .inl (c99, 8, .inl (fun _ => 0))), (q107, .inl (c107, 8, .inl (fun _ => 0)))] H := hP
  have hD : va_D A [(bO, .inr (3, [.int 0, .ref q8, .ref q16, .ref q24, .ref q32, .ref q40, .ref q48, .int 0, .int 25, .int 0, .int 0, .int 1, .int 0, .int 0, .ref q67, .ref q75, .ref q83, .ref q91, .ref q99, .ref q107, .null, .int 0, .null])), (q8, .inl (c8, 512, .inl (fun _ => 0))), (q16, .inl (c16, 6, .inl (fun _ => 0))), (q24, .inl (c24, 6, .inl (fun _ => 0))), (q32, .inl (c32, 6, .inl (fun _ => 0))), (q40, .inl (c40, 6, .inl (fun _ => 0))), (q48, .inl (c48, 12, .inl (fun _ => 0))), (q67, .inl (c67, 8, .inl (fun _ => 0))), (q75, .inl (c75, 8, .inl (fun _ => 0))), (q83, .inl (c83, 8, .inl (fun _ => 0))), (q91, .inl (c91, 8, .inl (fun _ => 0))), (q99, .inl (c99, 8, .inl (fun _ => 0))), (q107, .inl (c107, 8, .inl (fun _ => 0)))] := hD
  refine lv_aload_n hx hb dX3_init_112 rfl (lv_at hl 0 rfl) ?_
  refine lv_bipush (v := 8) hx hb dX3_init_113 (by decide) ?_
  refine va_newa (atype := .int) (ty := .int) (a0 := (8, .inl (fun _ => 0))) (N' := 8) hx hb (htb _ m1_38) rfl hK hP hD hS hA (fun _ => rfl) (by decide) (by decide) (Nat.le_of_ble_eq_true rfl) (Nat.le_of_ble_eq_true rfl) (Nat.le_of_ble_eq_true rfl) dX3_init_115 (fun q115 c115 H hK hP hD hS => ?_)
  have hP : va_P (dC, dI) vwCl [(bO, .inr (3, [.int 0, .ref q8, .ref q16, .ref q24, .ref q32, .ref q40, .ref q48, .int 0, .int 25, .int 0, .int 0, .int 1, .int 0, .int 0, .ref q67, .ref q75, .ref q83, .ref q91, .ref q99, .ref q107, .null, .int 0, .null])), (q8, .inl (c8, 512, .inl (fun _ => 0))), (q16, .inl (c16, 6, .inl (fun _ => 0))), (q24, .inl (c24, 6, .inl (fun _ => 0))), (q32, .inl (c32, 6, .inl (fun _ => 0))), (q40, .inl (c40, 6, .inl (fun _ => 0))), (q48, .inl (c48, 12, .inl (fun _ => 0))), (q67, .inl (c67, 8, .inl (fun _ => 0))), (q75, .inl (c75, 8, .inl (fun _ => 0))), (q83, .inl (c83, 8, .inl (fun _ => 0))), (q91, .inl (c91, 8, .inl (fun _ => 0))), (q99, .inl (c99, 8, .inl (fun _ => 0))), (q107, .inl (c107, 8, .inl (fun _ => 0))), (q115, .inl (c115, 8, .inl (fun _ => 0)))] H := hP
  have hD : va_D A [(bO, .inr (3, [.int 0, .ref q8, .ref q16, .ref q24, .ref q32, .ref q40, .ref q48, .int 0, .int 25, .int 0, .int 0, .int 1, .int 0, .int 0, .ref q67, .ref q75, .ref q83, .ref q91, .ref q99, .ref q107, .null, .int 0, .null])), (q8, .inl (c8, 512, .inl (fun _ => 0))), (q16, .inl (c16, 6, .inl (fun _ => 0))), (q24, .inl (c24, 6, .inl (fun _ => 0))), (q32, .inl (c32, 6, .inl (fun _ => 0))), (q40, .inl (c40, 6, .inl (fun _ => 0))), (q48, .inl (c48, 12, .inl (fun _ => 0))), (q67, .inl (c67, 8, .inl (fun _ => 0))), (q75, .inl (c75, 8, .inl (fun _ => 0))), (q83, .inl (c83, 8, .inl (fun _ => 0))), (q91, .inl (c91, 8, .inl (fun _ => 0))), (q99, .inl (c99, 8, .inl (fun _ => 0))), (q107, .inl (c107, 8, .inl (fun _ => 0))), (q115, .inl (c115, 8, .inl (fun _ => 0)))] := hD
  have hK : va_K (dC, dI) vwCl [(c8, .int), (c16, .int), (c24, .int), (c32, .int), (c40, .int), (c48, .int), (c67, .int), (c75, .int), (c83, .int), (c91, .int), (c99, .int), (c107, .int), (c115, .int)] s := hK
  refine W.widen (k := 13) (n := 604) (by omega) (by omega) ?_
  refine va_put (D := (dC, dI)) (ci := 3) (v := .ref q115) (ty := .array .int) (C := RX3) (T := TX3) (N := 23) hx hb htb inX3 tyX3 tyX3_ok nmX3 hown hK hP hD hS 0 rfl rfl 20 (by decide) (htb _ m2_106) (fun _ h9 => h9) rfl (by decide +kernel) (by first | rfl | decide +kernel) (by first | rfl | decide +kernel) (Nat.le_of_ble_eq_true rfl) dX3_init_117 (fun H locs hP hD hS => ?_)
  have hP : va_P (dC, dI) vwCl [(bO, .inr (3, [.int 0, .ref q8, .ref q16, .ref q24, .ref q32, .ref q40, .ref q48, .int 0, .int 25, .int 0, .int 0, .int 1, .int 0, .int 0, .ref q67, .ref q75, .ref q83, .ref q91, .ref q99, .ref q107, .ref q115, .int 0, .null])), (q8, .inl (c8, 512, .inl (fun _ => 0))), (q16, .inl (c16, 6, .inl (fun _ => 0))), (q24, .inl (c24, 6, .inl (fun _ => 0))), (q32, .inl (c32, 6, .inl (fun _ => 0))), (q40, .inl (c40, 6, .inl (fun _ => 0))), (q48, .inl (c48, 12, .inl (fun _ => 0))), (q67, .inl (c67, 8, .inl (fun _ => 0))), (q75, .inl (c75, 8, .inl (fun _ => 0))), (q83, .inl (c83, 8, .inl (fun _ => 0))), (q91, .inl (c91, 8, .inl (fun _ => 0))), (q99, .inl (c99, 8, .inl (fun _ => 0))), (q107, .inl (c107, 8, .inl (fun _ => 0))), (q115, .inl (c115, 8, .inl (fun _ => 0)))] H := hP
  have hD : va_D A [(bO, .inr (3, [.int 0, .ref q8, .ref q16, .ref q24, .ref q32, .ref q40, .ref q48, .int 0, .int 25, .int 0, .int 0, .int 1, .int 0, .int 0, .ref q67, .ref q75, .ref q83, .ref q91, .ref q99, .ref q107, .ref q115, .int 0, .null])), (q8, .inl (c8, 512, .inl (fun _ => 0))), (q16, .inl (c16, 6, .inl (fun _ => 0))), (q24, .inl (c24, 6, .inl (fun _ => 0))), (q32, .inl (c32, 6, .inl (fun _ => 0))), (q40, .inl (c40, 6, .inl (fun _ => 0))), (q48, .inl (c48, 12, .inl (fun _ => 0))), (q67, .inl (c67, 8, .inl (fun _ => 0))), (q75, .inl (c75, 8, .inl (fun _ => 0))), (q83, .inl (c83, 8, .inl (fun _ => 0))), (q91, .inl (c91, 8, .inl (fun _ => 0))), (q99, .inl (c99, 8, .inl (fun _ => 0))), (q107, .inl (c107, 8, .inl (fun _ => 0))), (q115, .inl (c115, 8, .inl (fun _ => 0)))] := hD
  refine lv_aload_n hx hb dX3_init_120 rfl (lv_at hl 0 rfl) ?_
  refine lv_bipush (v := 8) hx hb dX3_init_121 (by decide) ?_
  refine va_newa (atype := .int) (ty := .int) (a0 := (8, .inl (fun _ => 0))) (N' := 8) hx hb (htb _ m1_38) rfl hK hP hD hS hA (fun _ => rfl) (by decide) (by decide) (Nat.le_of_ble_eq_true rfl) (Nat.le_of_ble_eq_true rfl) (Nat.le_of_ble_eq_true rfl) dX3_init_123 (fun q123 c123 H hK hP hD hS => ?_)
  have hP : va_P (dC, dI) vwCl [(bO, .inr (3, [.int 0, .ref q8, .ref q16, .ref q24, .ref q32, .ref q40, .ref q48, .int 0, .int 25, .int 0, .int 0, .int 1, .int 0, .int 0, .ref q67, .ref q75, .ref q83, .ref q91, .ref q99, .ref q107, .ref q115, .int 0, .null])), (q8, .inl (c8, 512, .inl (fun _ => 0))), (q16, .inl (c16, 6, .inl (fun _ => 0))), (q24, .inl (c24, 6, .inl (fun _ => 0))), (q32, .inl (c32, 6, .inl (fun _ => 0))), (q40, .inl (c40, 6, .inl (fun _ => 0))), (q48, .inl (c48, 12, .inl (fun _ => 0))), (q67, .inl (c67, 8, .inl (fun _ => 0))), (q75, .inl (c75, 8, .inl (fun _ => 0))), (q83, .inl (c83, 8, .inl (fun _ => 0))), (q91, .inl (c91, 8, .inl (fun _ => 0))), (q99, .inl (c99, 8, .inl (fun _ => 0))), (q107, .inl (c107, 8, .inl (fun _ => 0))), (q115, .inl (c115, 8, .inl (fun _ => 0))), (q123, .inl (c123, 8, .inl (fun _ => 0)))] H := hP
  have hD : va_D A [(bO, .inr (3, [.int 0, .ref q8, .ref q16, .ref q24, .ref q32, .ref q40, .ref q48, .int 0, .int 25, .int 0, .int 0, .int 1, .int 0, .int 0, .ref q67, .ref q75, .ref q83, .ref q91, .ref q99, .ref q107, .ref q115, .int 0, .null])), (q8, .inl (c8, 512, .inl (fun _ => 0))), (q16, .inl (c16, 6, .inl (fun _ => 0))), (q24, .inl (c24, 6, .inl (fun _ => 0))), (q32, .inl (c32, 6, .inl (fun _ => 0))), (q40, .inl (c40, 6, .inl (fun _ => 0))), (q48, .inl (c48, 12, .inl (fun _ => 0))), (q67, .inl (c67, 8, .inl (fun _ => 0))), (q75, .inl (c75, 8, .inl (fun _ => 0))), (q83, .inl (c83, 8, .inl (fun _ => 0))), (q91, .inl (c91, 8, .inl (fun _ => 0))), (q99, .inl (c99, 8, .inl (fun _ => 0))), (q107, .inl (c107, 8, .inl (fun _ => 0))), (q115, .inl (c115, 8, .inl (fun _ => 0))), (q123, .inl (c123, 8, .inl (fun _ => 0)))] := hD
  have hK : va_K (dC, dI) vwCl [(c8, .int), (c16, .int), (c24, .int), (c32, .int), (c40, .int), (c48, .int), (c67, .int), (c75, .int), (c83, .int), (c91, .int), (c99, .int), (c107, .int), (c115, .int), (c123, .int)] s := hK
  refine W.widen (k := 14) (n := 612) (by omega) (by omega) ?_
  refine va_put (D := (dC, dI)) (ci := 3) (v := .ref q123) (ty := .array .int) (C := RX3) (T := TX3) (N := 23) hx hb htb inX3 tyX3 tyX3_ok nmX3 hown hK hP hD hS 0 rfl rfl 22 (by decide) (htb _ m2_108) (fun _ h9 => h9) rfl (by decide +kernel) (by first | rfl | decide +kernel) (by first | rfl | decide +kernel) (Nat.le_of_ble_eq_true rfl) dX3_init_125 (fun H locs hP hD hS => ?_)
  have hP : va_P (dC, dI) vwCl [(bO, .inr (3, [.int 0, .ref q8, .ref q16, .ref q24, .ref q32, .ref q40, .ref q48, .int 0, .int 25, .int 0, .int 0, .int 1, .int 0, .int 0, .ref q67, .ref q75, .ref q83, .ref q91, .ref q99, .ref q107, .ref q115, .int 0, .ref q123])), (q8, .inl (c8, 512, .inl (fun _ => 0))), (q16, .inl (c16, 6, .inl (fun _ => 0))), (q24, .inl (c24, 6, .inl (fun _ => 0))), (q32, .inl (c32, 6, .inl (fun _ => 0))), (q40, .inl (c40, 6, .inl (fun _ => 0))), (q48, .inl (c48, 12, .inl (fun _ => 0))), (q67, .inl (c67, 8, .inl (fun _ => 0))), (q75, .inl (c75, 8, .inl (fun _ => 0))), (q83, .inl (c83, 8, .inl (fun _ => 0))), (q91, .inl (c91, 8, .inl (fun _ => 0))), (q99, .inl (c99, 8, .inl (fun _ => 0))), (q107, .inl (c107, 8, .inl (fun _ => 0))), (q115, .inl (c115, 8, .inl (fun _ => 0))), (q123, .inl (c123, 8, .inl (fun _ => 0)))] H := hP
  have hD : va_D A [(bO, .inr (3, [.int 0, .ref q8, .ref q16, .ref q24, .ref q32, .ref q40, .ref q48, .int 0, .int 25, .int 0, .int 0, .int 1, .int 0, .int 0, .ref q67, .ref q75, .ref q83, .ref q91, .ref q99, .ref q107, .ref q115, .int 0, .ref q123])), (q8, .inl (c8, 512, .inl (fun _ => 0))), (q16, .inl (c16, 6, .inl (fun _ => 0))), (q24, .inl (c24, 6, .inl (fun _ => 0))), (q32, .inl (c32, 6, .inl (fun _ => 0))), (q40, .inl (c40, 6, .inl (fun _ => 0))), (q48, .inl (c48, 12, .inl (fun _ => 0))), (q67, .inl (c67, 8, .inl (fun _ => 0))), (q75, .inl (c75, 8, .inl (fun _ => 0))), (q83, .inl (c83, 8, .inl (fun _ => 0))), (q91, .inl (c91, 8, .inl (fun _ => 0))), (q99, .inl (c99, 8, .inl (fun _ => 0))), (q107, .inl (c107, 8, .inl (fun _ => 0))), (q115, .inl (c115, 8, .inl (fun _ => 0))), (q123, .inl (c123, 8, .inl (fun _ => 0)))] := hD
  refine lv_aload_n hx hb dX3_init_128 rfl (lv_at hl 0 rfl) ?_
  refine lv_iload_n hx hb dX3_init_129 rfl (lv_at hl 1 rfl) ?_
  refine lv_if_eq (tgt := 137) hx hb dX3_init_130 (by decide) (fun h130 => ?_) (fun h130 => ?_)
  · refine lv_iconst (v := 0) hx hb dX3_init_137 (by decide) ?_
    refine va_put (D := (dC, dI)) (ci := 3) (v := .int 0) (ty := .boolean) (C := RX3) (T := TX3) (N := 23) hx hb htb inX3 tyX3 tyX3_ok nmX3 hown hK hP hD hS 0 rfl rfl 0 (by decide) (htb _ m2_86) (fun _ h9 => h9) rfl (by decide +kernel) (by first | rfl | decide +kernel) (by first | rfl | decide +kernel) (Nat.le_of_ble_eq_true rfl) dX3_init_138 (fun H locs hP hD hS => ?_)
    have hP : va_P (dC, dI) vwCl [(bO, .inr (3, [.int 0, .ref q8, .ref q16, .ref q24, .ref q32, .ref q40, .ref q48, .int 0, .int 25, .int 0, .int 0, .int 1, .int 0, .int 0, .ref q67, .ref q75, .ref q83, .ref q91, .ref q99, .ref q107, .ref q115, .int 0, .ref q123])), (q8, .inl (c8, 512, .inl (fun _ => 0))), (q16, .inl (c16, 6, .inl (fun _ => 0))), (q24, .inl (c24, 6, .inl (fun _ => 0))), (q32, .inl (c32, 6, .inl (fun _ => 0))), (q40, .inl (c40, 6, .inl (fun _ => 0))), (q48, .inl (c48, 12, .inl (fun _ => 0))), (q67, .inl (c67, 8, .inl (fun _ => 0))), (q75, .inl (c75, 8, .inl (fun _ => 0))), (q83, .inl (c83, 8, .inl (fun _ => 0))), (q91, .inl (c91, 8, .inl (fun _ => 0))), (q99, .inl (c99, 8, .inl (fun _ => 0))), (q107, .inl (c107, 8, .inl (fun _ => 0))), (q115, .inl (c115, 8, .inl (fun _ => 0))), (q123, .inl (c123, 8, .inl (fun _ => 0)))] H := hP
    have hD : va_D A [(bO, .inr (3, [.int 0, .ref q8, .ref q16, .ref q24, .ref q32, .ref q40, .ref q48, .int 0, .int 25, .int 0, .int 0, .int 1, .int 0, .int 0, .ref q67, .ref q75, .ref q83, .ref q91, .ref q99, .ref q107, .ref q115, .int 0, .ref q123])), (q8, .inl (c8, 512, .inl (fun _ => 0))), (q16, .inl (c16, 6, .inl (fun _ => 0))), (q24, .inl (c24, 6, .inl (fun _ => 0))), (q32, .inl (c32, 6, .inl (fun _ => 0))), (q40, .inl (c40, 6, .inl (fun _ => 0))), (q48, .inl (c48, 12, .inl (fun _ => 0))), (q67, .inl (c67, 8, .inl (fun _ => 0))), (q75, .inl (c75, 8, .inl (fun _ => 0))), (q83, .inl (c83, 8, .inl (fun _ => 0))), (q91, .inl (c91, 8, .inl (fun _ => 0))), (q99, .inl (c99, 8, .inl (fun _ => 0))), (q107, .inl (c107, 8, .inl (fun _ => 0))), (q115, .inl (c115, 8, .inl (fun _ => 0))), (q123, .inl (c123, 8, .inl (fun _ => 0)))] := hD
    have hP9 := hP.sub (ws' := [(bO, .inr (3, [.int 0, .ref q8, .ref q16, .ref q24, .ref q32, .ref q40, .ref q48, .int 0, .int 25, .int 0, .int 0, .int 1, .int 0, .int 0, .ref q67, .ref q75, .ref q83, .ref q91, .ref q99, .ref q107, .ref q115, .int 0, .ref q123])), (q8, .inl (c8, 512, .inl (fun _ => 0))), (q16, .inl (c16, 6, .inl (fun _ => 0))), (q24, .inl (c24, 6, .inl (fun _ => 0))), (q32, .inl (c32, 6, .inl (fun _ => 0))), (q40, .inl (c40, 6, .inl (fun _ => 0))), (q48, .inl (c48, 12, .inl (fun _ => 0))), (q67, .inl (c67, 8, .inl (fun _ => 0))), (q75, .inl (c75, 8, .inl (fun _ => 0))), (q83, .inl (c83, 8, .inl (fun _ => 0))), (q91, .inl (c91, 8, .inl (fun _ => 0))), (q99, .inl (c99, 8, .inl (fun _ => 0))), (q107, .inl (c107, 8, .inl (fun _ => 0))), (q115, .inl (c115, 8, .inl (fun _ => 0))), (q123, .inl (c123, 8, .inl (fun _ => 0)))]) [0, 1, 2, 3, 4, 5, 6, 7, 8, 9, 10, 11, 12, 13, 14] rfl
    have hD9 := hD.sub (ws' := [(bO, .inr (3, [.int 0, .ref q8, .ref q16, .ref q24, .ref q32, .ref q40, .ref q48, .int 0, .int 25, .int 0, .int 0, .int 1, .int 0, .int 0, .ref q67, .ref q75, .ref q83, .ref q91, .ref q99, .ref q107, .ref q115, .int 0, .ref q123])), (q8, .inl (c8, 512, .inl (fun _ => 0))), (q16, .inl (c16, 6, .inl (fun _ => 0))), (q24, .inl (c24, 6, .inl (fun _ => 0))), (q32, .inl (c32, 6, .inl (fun _ => 0))), (q40, .inl (c40, 6, .inl (fun _ => 0))), (q48, .inl (c48, 12, .inl (fun _ => 0))), (q67, .inl (c67, 8, .inl (fun _ => 0))), (q75, .inl (c75, 8, .inl (fun _ => 0))), (q83, .inl (c83, 8, .inl (fun _ => 0))), (q91, .inl (c91, 8, .inl (fun _ => 0))), (q99, .inl (c99, 8, .inl (fun _ => 0))), (q107, .inl (c107, 8, .inl (fun _ => 0))), (q115, .inl (c115, 8, .inl (fun _ => 0))), (q123, .inl (c123, 8, .inl (fun _ => 0)))]) [0, 1, 2, 3, 4, 5, 6, 7, 8, 9, 10, 11, 12, 13, 14] (by decide) rfl
    have hK9 := hK.sub (tys' := [(c8, .int), (c16, .int), (c24, .int), (c32, .int), (c40, .int), (c48, .int), (c67, .int), (c75, .int), (c83, .int), (c91, .int), (c99, .int), (c107, .int), (c115, .int), (c123, .int)]) [0, 1, 2, 3, 4, 5, 6, 7, 8, 9, 10, 11, 12, 13] rfl
    refine W.widen (k := 14) (n := 612) (by omega) (by omega) ?_
    exact W.vret hx hb hr (fun t ht hW => ⟨⟨(0, q8, c8, q16, c16, q24, c24, q32, c32, q40, c40, q48, c48, q67, c67, q75, c75, q83, c83, q91, c91, q99, c99, q107, c107, q115, c115, q123, c123), rfl, by trivial, by rw [ht]; exact hP9, va_K.moved hW.alike hK9, hD9⟩, hS.F ht⟩) hS.2.2 dX3_init_141
  · refine lv_iconst (v := 1) hx hb dX3_init_133 (by decide) ?_
    refine lv_goto (tgt := 138) hx hb dX3_init_134 (by decide) ?_
    refine va_put (D := (dC, dI)) (ci := 3) (v := .int 1) (ty := .boolean) (C := RX3) (T := TX3) (N := 23) hx hb htb inX3 tyX3 tyX3_ok nmX3 hown hK hP hD hS 0 rfl rfl 0 (by decide) (htb _ m2_86) (fun _ h9 => h9) rfl (by decide +kernel) (by first | rfl | decide +kernel) (by first | rfl | decide +kernel) (Nat.le_of_ble_eq_true rfl) dX3_init_138 (fun H locs hP hD hS => ?_)
    have hP : va_P (dC, dI) vwCl [(bO, .inr (3, [.int 1, .ref q8, .ref q16, .ref q24, .ref q32, .ref q40, .ref q48, .int 0, .int 25, .int 0, .int 0, .int 1, .int 0, .int 0, .ref q67, .ref q75, .ref q83, .ref q91, .ref q99, .ref q107, .ref q115, .int 0, .ref q123])), (q8, .inl (c8, 512, .inl (fun _ => 0))), (q16, .inl (c16, 6, .inl (fun _ => 0))), (q24, .inl (c24, 6, .inl (fun _ => 0))), (q32, .inl (c32, 6, .inl (fun _ => 0))), (q40, .inl (c40, 6, .inl (fun _ => 0))), (q48, .inl (c48, 12, .inl (fun _ => 0))), (q67, .inl (c67, 8, .inl (fun _ => 0))), (q75, .inl (c75, 8, .inl (fun _ => 0))), (q83, .inl (c83, 8, .inl (fun _ => 0))), (q91, .inl (c91, 8, .inl (fun _ => 0))), (q99, .inl (c99, 8, .inl (fun _ => 0))), (q107, .inl (c107, 8, .inl (fun _ => 0))), (q115, .inl (c115, 8, .inl (fun _ => 0))), (q123, .inl (c123, 8, .inl (fun _ => 0)))] H := hP
    have hD : va_D A [(bO, .inr (3, [.int 1, .ref q8, .ref q16, .ref q24, .ref q32, .ref q40, .ref q48, .int 0, .int 25, .int 0, .int 0, .int 1, .int 0, .int 0, .ref q67, .ref q75, .ref q83, .ref q91, .ref q99, .ref q107, .ref q115, .int 0, .ref q123])), (q8, .inl (c8, 512, .inl (fun _ => 0))), (q16, .inl (c16, 6, .inl (fun _ => 0))), (q24, .inl (c24, 6, .inl (fun _ => 0))), (q32, .inl (c32, 6, .inl (fun _ => 0))), (q40, .inl (c40, 6, .inl (fun _ => 0))), (q48, .inl (c48, 12, .inl (fun _ => 0))), (q67, .inl (c67, 8, .inl (fun _ => 0))), (q75, .inl (c75, 8, .inl (fun _ => 0))), (q83, .inl (c83, 8, .inl (fun _ => 0))), (q91, .inl (c91, 8, .inl (fun _ => 0))), (q99, .inl (c99, 8, .inl (fun _ => 0))), (q107, .inl (c107, 8, .inl (fun _ => 0))), (q115, .inl (c115, 8, .inl (fun _ => 0))), (q123, .inl (c123, 8, .inl (fun _ => 0)))] := hD
    have hP9 := hP.sub (ws' := [(bO, .inr (3, [.int 1, .ref q8, .ref q16, .ref q24, .ref q32, .ref q40, .ref q48, .int 0, .int 25, .int 0, .int 0, .int 1, .int 0, .int 0, .ref q67, .ref q75, .ref q83, .ref q91, .ref q99, .ref q107, .ref q115, .int 0, .ref q123])), (q8, .inl (c8, 512, .inl (fun _ => 0))), (q16, .inl (c16, 6, .inl (fun _ => 0))), (q24, .inl (c24, 6, .inl (fun _ => 0))), (q32, .inl (c32, 6, .inl (fun _ => 0))), (q40, .inl (c40, 6, .inl (fun _ => 0))), (q48, .inl (c48, 12, .inl (fun _ => 0))), (q67, .inl (c67, 8, .inl (fun _ => 0))), (q75, .inl (c75, 8, .inl (fun _ => 0))), (q83, .inl (c83, 8, .inl (fun _ => 0))), (q91, .inl (c91, 8, .inl (fun _ => 0))), (q99, .inl (c99, 8, .inl (fun _ => 0))), (q107, .inl (c107, 8, .inl (fun _ => 0))), (q115, .inl (c115, 8, .inl (fun _ => 0))), (q123, .inl (c123, 8, .inl (fun _ => 0)))]) [0, 1, 2, 3, 4, 5, 6, 7, 8, 9, 10, 11, 12, 13, 14] rfl
    have hD9 := hD.sub (ws' := [(bO, .inr (3, [.int 1, .ref q8, .ref q16, .ref q24, .ref q32, .ref q40, .ref q48, .int 0, .int 25, .int 0, .int 0, .int 1, .int 0, .int 0, .ref q67, .ref q75, .ref q83, .ref q91, .ref q99, .ref q107, .ref q115, .int 0, .ref q123])), (q8, .inl (c8, 512, .inl (fun _ => 0))), (q16, .inl (c16, 6, .inl (fun _ => 0))), (q24, .inl (c24, 6, .inl (fun _ => 0))), (q32, .inl (c32, 6, .inl (fun _ => 0))), (q40, .inl (c40, 6, .inl (fun _ => 0))), (q48, .inl (c48, 12, .inl (fun _ => 0))), (q67, .inl (c67, 8, .inl (fun _ => 0))), (q75, .inl (c75, 8, .inl (fun _ => 0))), (q83, .inl (c83, 8, .inl (fun _ => 0))), (q91, .inl (c91, 8, .inl (fun _ => 0))), (q99, .inl (c99, 8, .inl (fun _ => 0))), (q107, .inl (c107, 8, .inl (fun _ => 0))), (q115, .inl (c115, 8, .inl (fun _ => 0))), (q123, .inl (c123, 8, .inl (fun _ => 0)))]) [0, 1, 2, 3, 4, 5, 6, 7, 8, 9, 10, 11, 12, 13, 14] (by decide) rfl
    have hK9 := hK.sub (tys' := [(c8, .int), (c16, .int), (c24, .int), (c32, .int), (c40, .int), (c48, .int), (c67, .int), (c75, .int), (c83, .int), (c91, .int), (c99, .int), (c107, .int), (c115, .int), (c123, .int)]) [0, 1, 2, 3, 4, 5, 6, 7, 8, 9, 10, 11, 12, 13] rfl
    refine W.widen (k := 14) (n := 612) (by omega) (by omega) ?_
    exact W.vret hx hb hr (fun t ht hW => ⟨⟨(1, q8, c8, q16, c16, q24, c24, q32, c32, q40, c40, q48, c48, q67, c67, q75, c75, q83, c83, q91, c91, q99, c99, q107, c107, q115, c115, q123, c123), rfl, by trivial, by rw [ht]; exact hP9, va_K.moved hW.alike hK9, hD9⟩, hS.F ht⟩) hS.2.2 dX3_init_141
end
section
-- ===== end of PART A; then your names; then what follows =====
/-! THE CLAIM OUT OF ONE WALK OF THE LAW'S BODY. Your part is whole_start (and what it stands on); all else here is the same for every law, but numbers. -/
def R_law : String := "PageGuardsLaw"
def lw_P (b : Addr) (xs : List Int32) (args : Array Value) (s : State) : Prop := args = #[.ref b] ∧ s.IntsAt b xs ∧ xs.length ≤ 7 ∧ (Jvm.Cond.and given_1 narrow_1).before args s = true
def lw_Q (_ : Array Value) (s : State) (o : Outcome) (t : State) : Prop := o = .returned (some (.int 1)) ∧ Framed s o t [] 24 1262
def lw_Z (below : List Frame) (a : Array Value) (s : State) : State → Prop := fun t => ∃ o, t.status = .running ∧ Ended t below o ∧ lw_Q a s o t
/-- the law's own end, with 1 on the stack, nothing written that was there before, its room as the claim has it -/
theorem lw_ret {p : Program} {l : Launch} {e : Env} {s : State} {m : MethodId} {below : List Frame} {meth : Method} {c : Code} {b : Nat} (hx : p.tables.exec = Jvm.exec) (hb : c.code = code) (hr : meth.sig.returnType = ret) (hlocks : meth.locks = false) {pc : Nat} {H : Heap} {ls : Array Slot} (hdg : decode code pc = .ok (.ireturn, 1)) : W p l e room_1 s m #[Value.ref b] below meth c H [] 24 1262 (lw_Z below #[Value.ref b] s) (F0 m pc ls [.int 1]) := by
  intro T hT X
  obtain ⟨fs, hret, hrun, hended, hW, hframe⟩ := X.leave (v := some (.int 1)) (hlocks := hlocks) (fun h => by rw [hr] at h; cases h)
  have hmeth' : T.vm.method? m = some meth := X.method'
  refine ⟨T.setFrames fs, ?_, .returned (some (.int 1)), hrun, hended, rfl, ⟨_, rfl⟩, hW, hframe⟩
  jvm_step X.here [X.here.top, hx, hb, hdg, hmeth', hr, ret, narrow_b1]
  (try refine ⟨rfl, ?_⟩); (try refine ⟨rfl, ?_⟩)
  first | (intro acts; rw [hret _ acts rfl rfl rfl]) | rw [hret _ _ rfl rfl rfl]
  exact Steps.refl _
/-- what holds at the law's entry: the machine, the code, the tables' words (any of lw_tbl by 'hts w (by decide +kernel)'), the script of L ints xs at the cell b, what the Statement gives of the start (any of its parts by flat_of_before) -/
def lw_At (p : Program) (s : State) (m : MethodId) (meth : Method) (c : Code) (b L : Nat) (xs : Nat → Int32) : Prop :=
  p.tables.exec = Jvm.exec ∧ c.code = code ∧ meth.sig.returnType = ret ∧ c.maxLocals = 4 ∧ s.vm.findClass R_law = some m.cls ∧ (∀ w ∈ lw_tbl, w.before #[Value.ref b] s = true) ∧ va_X b L xs s s.heap ∧ b < s.heap.size ∧ meth.locks = false ∧ (Jvm.Cond.and given_1 narrow_1).before #[Value.ref b] s = true
end
section
theorem q_pos {L : Nat} (h : ¬ Int32.ofNat L ≤ 0) : vp_in 0 L := by
  refine vp_in_iff.mpr ⟨by decide, ?_⟩
  rcases Nat.eq_zero_or_pos L with rfl | h2
  · exact absurd (by decide) h
  · have z : (0 : Int32).toInt = 0 := by decide
    rw [z]; omega
set_option maxHeartbeats 4000000 in
set_option maxRecDepth 100000 in
/-- cell(s, 0): it returns -/
theorem cL_cell_ok (l : Launch) (b L : Nat) (xs : Nat → Int32) : Met l yL_cell wsL_cell ({ frames := 0, cells := 0, slots := 0, locals := 0 }) (va_Pc [.ref b, .int 0] (fun U => va_X b L xs U U.heap ∧ b < U.heap.size)) (vp_Si (fun _ => True)) 0 0 (fun _ => False) := by
  refine Met.ofW (cc := cL_cell) (maxL := 2) (ret := (some .int)) (by decide) rfl ?_
  intro p e s m args below meth c s₁ B hml hv
  obtain ⟨rfl, hX, hbl⟩ := hv
  have hx := B.exec
  have hb := B.bytes
  have hr := B.returns
  have hlocks := B.notSynchronized
  have hS : va_S (fun _ => False) s.heap s.heap [] := va_S.rf
  have hbA : ¬ (fun _ : Nat => False) b := fun q => q
  have hl := lv_entry ([.ref b, .int 0]) (n := 2) (Nat.le_of_ble_eq_true rfl)
  rw [lg_entry_eq]
  generalize (lg_sl ([.ref b, .int 0]) ++ List.replicate (2 - (lg_sl ([.ref b, .int 0])).length) Slot.unset).toArray = ls at hl ⊢
  have hl : lv_has ls 2 [(0, .ref b), (1, .int 0)] := hl
  refine lv_iload_n hx hb dL_cell_0 rfl (lv_at hl 1 rfl) ?_
  refine lv_aload_n hx hb dL_cell_1 rfl (lv_at hl 0 rfl) ?_
  refine va_slen hx hb hX hbl hbA hS dL_cell_2 ?_
  refine lv_icmp_ge (tgt := 12) hx hb dL_cell_3 (by decide) (fun h3 => ?_) (fun h3 => ?_)
  · refine lv_iconst (v := 0) hx hb dL_cell_12 (by decide) ?_
    exact W.iret (v := 0) hx hb hr (fun t ht hW => ⟨_, rfl, trivial, ht⟩) (fun _ h => by cases h) dL_cell_13
  · refine lv_aload_n hx hb dL_cell_6 rfl (lv_at hl 0 rfl) ?_
    refine lv_iload_n hx hb dL_cell_7 rfl (lv_at hl 1 rfl) ?_
    refine va_sld hx hb hX hbl hbA hS (q_pos h3) dL_cell_8 ?_
    refine lv_topi (fun v8 e8 => ?_)
    refine lv_goto (tgt := 13) hx hb dL_cell_9 (by decide) ?_
    exact W.iret (v := v8) hx hb hr (fun t ht hW => ⟨_, rfl, trivial, ht⟩) (fun _ h => by cases h) dL_cell_13
theorem q_known {s : State} {b : Nat} (hts : ∀ w ∈ lw_tbl, w.before #[Value.ref b] s = true) (htb : ∀ w ∈ qT, w.before #[Value.ref b] s = true) : ∃ (dC : Nat → ClassId) (dI : Nat → Nat → Nat), va_K (dC, dI) vwCl [] s := by
  obtain ⟨c0, i0, k0⟩ := u_known htb inX0 (htb _ m1_22)
  obtain ⟨c1, i1, k1⟩ := u_known htb inX1 (htb _ m1_16)
  obtain ⟨c2, i2, k2⟩ := u_known htb inX2 (htb _ m1_8)
  obtain ⟨c3, i3, k3⟩ := u_known htb inX3 (htb _ m2_81)
  refine ⟨fun c => if c = 0 then c0 else if c = 1 then c1 else if c = 2 then c2 else c3, fun c => if c = 0 then i0 else if c = 1 then i1 else if c = 2 then i2 else i3, ?_, fun k q h => by simp at h⟩
  intro c q hq
  match c, hq with
  | 0, hq => cases hq; exact k0
  | 1, hq => cases hq; exact k1
  | 2, hq => cases hq; exact k2
  | 3, hq => cases hq; exact k3
  | n + 4, hq => simp at hq
theorem q_statB {A : Nat → Prop} {s : State} {b : Nat} (hts : ∀ w ∈ lw_tbl, w.before #[Value.ref b] s = true) (hgv : (Jvm.Cond.and given_1 narrow_1).before #[Value.ref b] s = true) (hA : ∀ a : Nat, a < s.heap.size → ¬ A a) : ∃ t : Nat, va_Z "PageGuards" "CONTROL_BITS" "[I" (.ref t) A s s.heap ∧ va_T .int t 12 (fun j => .int (qBits j)) A s s.heap := by
  have hs := flat_of_before _ hgv
  obtain ⟨t, ht, hT⟩ := va_Tof (A := A) (f := fun j => .int (qBits j)) (N := 12) (by decide) (hs (Cond.arrayOf (.static "PageGuards" "CONTROL_BITS" "[I") .int) (by decide +kernel)) (va_eqt (hs (Cond.eq (.length (.static "PageGuards" "CONTROL_BITS" "[I")) (.int 12)) (by decide +kernel)))
    (fun j hj => by
      rcases (show j = 0 ∨ j = 1 ∨ j = 2 ∨ j = 3 ∨ j = 4 ∨ j = 5 ∨ j = 6 ∨ j = 7 ∨ j = 8 ∨ j = 9 ∨ j = 10 ∨ j = 11 by omega) with rfl | rfl | rfl | rfl | rfl | rfl | rfl | rfl | rfl | rfl | rfl | rfl
      · exact va_eqt (hs (Cond.eq (.elem (.static "PageGuards" "CONTROL_BITS" "[I") (.int 0)) (.int 1)) (by decide +kernel))
      · exact va_eqt (hs (Cond.eq (.elem (.static "PageGuards" "CONTROL_BITS" "[I") (.int 1)) (.int 9)) (by decide +kernel))
      · exact va_eqt (hs (Cond.eq (.elem (.static "PageGuards" "CONTROL_BITS" "[I") (.int 2)) (.int 9)) (by decide +kernel))
      · exact va_eqt (hs (Cond.eq (.elem (.static "PageGuards" "CONTROL_BITS" "[I") (.int 3)) (.int 2)) (by decide +kernel))
      · exact va_eqt (hs (Cond.eq (.elem (.static "PageGuards" "CONTROL_BITS" "[I") (.int 4)) (.int 8)) (by decide +kernel))
      · exact va_eqt (hs (Cond.eq (.elem (.static "PageGuards" "CONTROL_BITS" "[I") (.int 5)) (.int 4)) (by decide +kernel))
      · exact va_eqt (hs (Cond.eq (.elem (.static "PageGuards" "CONTROL_BITS" "[I") (.int 6)) (.int 3)) (by decide +kernel))
      · exact va_eqt (hs (Cond.eq (.elem (.static "PageGuards" "CONTROL_BITS" "[I") (.int 7)) (.int 12)) (by decide +kernel))
      · exact va_eqt (hs (Cond.eq (.elem (.static "PageGuards" "CONTROL_BITS" "[I") (.int 8)) (.int 3)) (by decide +kernel))
      · exact va_eqt (hs (Cond.eq (.elem (.static "PageGuards" "CONTROL_BITS" "[I") (.int 9)) (.int 12)) (by decide +kernel))
      · exact va_eqt (hs (Cond.eq (.elem (.static "PageGuards" "CONTROL_BITS" "[I") (.int 10)) (.int 12)) (by decide +kernel))
      · exact va_eqt (hs (Cond.eq (.elem (.static "PageGuards" "CONTROL_BITS" "[I") (.int 11)) (.int 16)) (by decide +kernel))) hA
  exact ⟨t, va_Zof (hts (.laysStatic "PageGuards" "CONTROL_BITS" "[I") (by decide +kernel)) (hts (.initialized "PageGuards") (by decide +kernel)) ht hA, hT⟩
end
section
set_option maxHeartbeats 8000000 in
set_option maxRecDepth 100000 in
theorem whole_start {p : Program} {e : Env} {s : State} {m : MethodId} {below : List Frame} {meth : Method} {c : Code} (l : Launch) {b L : Nat} {xs : Nat → Int32} (hL : L ≤ 7) (C0 : lw_At p s m meth c b L xs) : W p l e room_1 s m #[Value.ref b] below meth c s.heap [] 0 0 (lw_Z below #[Value.ref b] s) (entryFrame m ([Value.ref b] : List Value).toArray 4) := by
  obtain ⟨hx, hb, hr, hml, hown, hts, hX, hbl, hlocks, hgv⟩ := C0
  have htb : ∀ w ∈ qT, w.before #[Value.ref b] s = true := fun w h => hts w (List.mem_filter.mp h).1
  have hN : qN s := ⟨va_Nw.of rfl (hts (Cond.fieldLinkNest "PageGuards" (79) "PageGuards$Buffer" "count" "I" "PageGuards") (by decide +kernel)), va_Nw.of rfl (hts (Cond.fieldLinkNest "PageGuards" (36) "PageGuards$Unit" "memory" "[I" "PageGuards") (by decide +kernel)), va_Nw.of rfl (hts (Cond.fieldLinkNest "PageGuards" (72) "PageGuards$Unit" "controls" "[I" "PageGuards") (by decide +kernel)), va_Nw.of rfl (hts (Cond.fieldLinkNest "PageGuards" (47) "PageGuards$Unit" "buffer" "LPageGuards$Buffer;" "PageGuards") (by decide +kernel)), va_Nw.of rfl (hts (Cond.fieldLinkNest "PageGuards" (82) "PageGuards$Unit" "walks" "I" "PageGuards") (by decide +kernel)), va_Nw.of rfl (hts (Cond.fieldLinkNest "PageGuards$Unit" (27) "PageGuards" "CONTROL_BITS" "[I" "PageGuards") (by decide +kernel))⟩
  obtain ⟨dC, dI, hK⟩ := q_known hts htb
  obtain ⟨A, hA, hA2⟩ : ∃ A : Nat → Prop, (∀ q, s.heap.size ≤ q → A q) ∧ (∀ q, A q → s.heap.size ≤ q) := ⟨fun q => s.heap.size ≤ q, fun _ h => h, fun _ h => h⟩
  have hbA : ¬ A b := fun q => Nat.not_le.mpr hbl (hA2 b q)
  obtain ⟨tB, hZB, hTB⟩ := q_statB (A := A) hts hgv (fun a h q => Nat.not_le.mpr h (hA2 a q))
  have hS : va_S A s.heap s.heap [] := va_S.rf
  have hP : va_P (dC, dI) vwCl [] s.heap := fun k q h => by simp at h
  have hD : va_D A [] := ⟨fun i j p q h => by simp at h, fun k q h => by simp at h⟩
  have hl := lv_entry ([.ref b]) (n := 4) (Nat.le_of_ble_eq_true rfl)
  rw [lg_entry_eq]
  generalize (lg_sl ([.ref b]) ++ List.replicate (4 - (lg_sl ([.ref b])).length) Slot.unset).toArray = ls at hl ⊢
  have hl : lv_has ls 4 [(0, .ref b)] := hl
  rcases Nat.lt_or_ge L 7 with hlt | hge
  · refine va_new (ci := 2) (fs := [.null, .null, .null, .null, .int 0, .int 0, .int 0, .int 0, .int 0]) (C := RX2) (T := TX2) (N := 9) hx hb htb inX2 tyX2 tyX2_ok hown (htb _ m1_7) (htb _ m1_8) (htb _ m1_1) hK hP hD hS hA rfl (fun j hj => by rcases (show j = 0 ∨ j = 1 ∨ j = 2 ∨ j = 3 ∨ j = 4 ∨ j = 5 ∨ j = 6 ∨ j = 7 ∨ j = 8 by omega) with rfl | rfl | rfl | rfl | rfl | rfl | rfl | rfl | rfl <;> rfl) (Nat.le_of_ble_eq_true rfl) (Nat.le_of_ble_eq_true rfl) dL_law_0 (fun q0 H hP hD hS => ?_)
    have hP : va_P (dC, dI) vwCl [(q0, .inr (2, [.null, .null, .null, .null, .int 0, .int 0, .int 0, .int 0, .int 0]))] H := hP
    have hD : va_D A [(q0, .inr (2, [.null, .null, .null, .null, .int 0, .int 0, .int 0, .int 0, .int 0]))] := hD
    refine W.widen (k := 1) (n := 9) (by omega) (by omega) ?_
    refine lv_dup hx hb dL_law_3 rfl ?_
    refine lv_aload_n hx hb dL_law_4 rfl (lv_at hl 0 rfl) ?_
    refine lv_iconst (v := 0) hx hb dL_law_5 (by decide) ?_
    refine vp_callSi (W.runS (As := [.ref b, .int 0]) (rest := [.ref q0, .ref q0]) ⟨hx, hb, hml, hown, htb⟩ (cL_cell_ok l b L xs) (va_cwS 2 htb (q_gS m2_77 m2_78 m1_0 m2_79) rfl rfl rfl (by decide +kernel) ⟨Nat.le_of_ble_eq_true rfl, Nat.le_of_ble_eq_true rfl⟩) ⟨fun a U g mk q => by obtain ⟨q0, qX, qb⟩ := q; exact ⟨q0, va_X.moved (u := U) (U := U.calling g mk a) (Vm.Alike.refl U.vm) qX, qb⟩, fun U hU hW => ⟨rfl, by rw [hU]; exact va_X.moved hW.alike (hX.kept (hS.2.1 b hbl hbA)), by rw [hU]; exact Nat.lt_of_lt_of_le hbl hS.1⟩⟩ rfl rfl hl.1 rfl (lv_room (Nat.le_of_ble_eq_true rfl)) dL_law_6 ⟨Nat.le_of_ble_eq_true rfl, Nat.le_of_ble_eq_true rfl⟩) (fun r6 p6 => ?_)
    have hPc := hP.sub (ws' := [(q0, .inr (2, [.null, .null, .null, .null, .int 0, .int 0, .int 0, .int 0, .int 0]))]) [0] rfl
    have hKc := hK.sub (tys' := []) [] rfl
    have hDc := hD.sub (ws' := [(q0, .inr (2, [.null, .null, .null, .null, .int 0, .int 0, .int 0, .int 0, .int 0]))]) [0] (by decide) rfl
    have hFc := va_free (wc := [(q0, .inr (2, [.null, .null, .null, .null, .int 0, .int 0, .int 0, .int 0, .int 0]))]) hD hS hA [0] rfl
    refine va_callv (va_runI (As := [.int r6]) (rest := [.ref q0]) ⟨hx, hb, hml, hown, htb⟩ (cX_init l dC dI H.size q0 r6) (cwI 1 htb (q_gI m1_11) rfl rfl rfl (htb _ m1_1) (htb _ m1_9) (htb _ m1_10) rfl (by decide +kernel) ⟨Nat.le_of_ble_eq_true rfl, Nat.le_of_ble_eq_true rfl⟩) ⟨fun a U g mk q => by obtain ⟨q0, q1, qP, qK, qD, qN9⟩ := q; exact ⟨q0, q1, qP, va_K.moved (u := U) (U := U.calling g mk a) (Vm.Alike.refl U.vm) qK, qD, qN_same (s := U) (U := U.calling g mk a) rfl qN9⟩, fun U hU hW => ⟨rfl, by rw [hU], by rw [hU]; exact hPc, va_K.moved hW.alike hKc, hDc.weaken (fun _ _ _ _ => trivial), qN_warm hW hN⟩⟩ rfl rfl hl.1 rfl (lv_room (Nat.le_of_ble_eq_true rfl)) dL_law_9 ⟨Nat.le_of_ble_eq_true rfl, Nat.le_of_ble_eq_true rfl⟩) hS (fun q _ h => hFc q h) hFc (fun u t H1 locs ht hvm p9 hB hz1 hk1 hS => ?_)
    obtain ⟨aU_9, aR_9, kR_9, aK_9, kK_9, aL_9, kL_9, aM_9, kM_9, aC_9, kC_9, aB_9, ius_9, aF_9, kF_9⟩ := u
    obtain ⟨hP1, hK1, hD1⟩ := hB
    rw [ht] at hP1
    have hK1 := va_K.moved hvm.symm hK1
    try dsimp only at p9
    obtain ⟨hP, hD⟩ := va_join (wr := []) (w1 := [(q0, .inr (2, [.ref aU_9, .ref aR_9, .ref aK_9, .ref aL_9, .int 0, .int 25, .int 0, .int 0, .int 1])), (aU_9, .inr (1, [.ref aM_9, .ref aC_9, .ref aB_9, .int 0])), (aB_9, .inr (0, [.ref aF_9, .int ius_9, .int 0])), (aR_9, .inl (kR_9, 22, .inl (fun _ => 0))), (aK_9, .inl (kK_9, 8, .inl (fun _ => 0))), (aL_9, .inl (kL_9, 8, .inl (fun _ => 0))), (aM_9, .inl (kM_9, 512, .inl (fun _ => 0))), (aC_9, .inl (kC_9, 12, .inl (fun _ => 0))), (aF_9, .inl (kF_9, 49, .inl (fun _ => 0)))]) hP hD [0] [] rfl rfl (by decide) (by decide) hk1 hFc hP1 hD1
    have hK := (hK.sub (tys' := []) [] rfl).app hK1
    generalize H1 = H at hP hS ⊢
    have hP : va_P (dC, dI) vwCl [(q0, .inr (2, [.ref aU_9, .ref aR_9, .ref aK_9, .ref aL_9, .int 0, .int 25, .int 0, .int 0, .int 1])), (aU_9, .inr (1, [.ref aM_9, .ref aC_9, .ref aB_9, .int 0])), (aB_9, .inr (0, [.ref aF_9, .int ius_9, .int 0])), (aR_9, .inl (kR_9, 22, .inl (fun _ => 0))), (aK_9, .inl (kK_9, 8, .inl (fun _ => 0))), (aL_9, .inl (kL_9, 8, .inl (fun _ => 0))), (aM_9, .inl (kM_9, 512, .inl (fun _ => 0))), (aC_9, .inl (kC_9, 12, .inl (fun _ => 0))), (aF_9, .inl (kF_9, 49, .inl (fun _ => 0)))] H := hP
    have hD : va_D A [(q0, .inr (2, [.ref aU_9, .ref aR_9, .ref aK_9, .ref aL_9, .int 0, .int 25, .int 0, .int 0, .int 1])), (aU_9, .inr (1, [.ref aM_9, .ref aC_9, .ref aB_9, .int 0])), (aB_9, .inr (0, [.ref aF_9, .int ius_9, .int 0])), (aR_9, .inl (kR_9, 22, .inl (fun _ => 0))), (aK_9, .inl (kK_9, 8, .inl (fun _ => 0))), (aL_9, .inl (kL_9, 8, .inl (fun _ => 0))), (aM_9, .inl (kM_9, 512, .inl (fun _ => 0))), (aC_9, .inl (kC_9, 12, .inl (fun _ => 0))), (aF_9, .inl (kF_9, 49, .inl (fun _ => 0)))] := hD
    have hK : va_K (dC, dI) vwCl [(kR_9, .int), (kK_9, .int), (kL_9, .int), (kM_9, .int), (kC_9, .int), (kF_9, .int)] s := hK
    refine W.widen (k := 9) (n := 627) (by omega) (by omega) ?_
    refine lv_astore_n (lv' := [(1, .ref q0), (0, .ref b)]) hx hb dL_law_12 rfl hl (by decide) rfl (fun ls hl => ?_)
    refine va_new (ci := 3) (fs := [.int 0, .null, .null, .null, .null, .null, .null, .int 0, .int 0, .int 0, .int 0, .int 0, .int 0, .int 0, .null, .null, .null, .null, .null, .null, .null, .int 0, .null]) (C := RX3) (T := TX3) (N := 23) hx hb htb inX3 tyX3 tyX3_ok hown (htb _ m2_80) (htb _ m2_81) (htb _ m1_4) hK hP hD hS hA rfl (fun j hj => by rcases (show j = 0 ∨ j = 1 ∨ j = 2 ∨ j = 3 ∨ j = 4 ∨ j = 5 ∨ j = 6 ∨ j = 7 ∨ j = 8 ∨ j = 9 ∨ j = 10 ∨ j = 11 ∨ j = 12 ∨ j = 13 ∨ j = 14 ∨ j = 15 ∨ j = 16 ∨ j = 17 ∨ j = 18 ∨ j = 19 ∨ j = 20 ∨ j = 21 ∨ j = 22 by omega) with rfl | rfl | rfl | rfl | rfl | rfl | rfl | rfl | rfl | rfl | rfl | rfl | rfl | rfl | rfl | rfl | rfl | rfl | rfl | rfl | rfl | rfl | rfl <;> rfl) (Nat.le_of_ble_eq_true rfl) (Nat.le_of_ble_eq_true rfl) dL_law_13 (fun q13 H hP hD hS => ?_)
    have hP : va_P (dC, dI) vwCl [(q0, .inr (2, [.ref aU_9, .ref aR_9, .ref aK_9, .ref aL_9, .int 0, .int 25, .int 0, .int 0, .int 1])), (aU_9, .inr (1, [.ref aM_9, .ref aC_9, .ref aB_9, .int 0])), (aB_9, .inr (0, [.ref aF_9, .int ius_9, .int 0])), (aR_9, .inl (kR_9, 22, .inl (fun _ => 0))), (aK_9, .inl (kK_9, 8, .inl (fun _ => 0))), (aL_9, .inl (kL_9, 8, .inl (fun _ => 0))), (aM_9, .inl (kM_9, 512, .inl (fun _ => 0))), (aC_9, .inl (kC_9, 12, .inl (fun _ => 0))), (aF_9, .inl (kF_9, 49, .inl (fun _ => 0))), (q13, .inr (3, [.int 0, .null, .null, .null, .null, .null, .null, .int 0, .int 0, .int 0, .int 0, .int 0, .int 0, .int 0, .null, .null, .null, .null, .null, .null, .null, .int 0, .null]))] H := hP
    have hD : va_D A [(q0, .inr (2, [.ref aU_9, .ref aR_9, .ref aK_9, .ref aL_9, .int 0, .int 25, .int 0, .int 0, .int 1])), (aU_9, .inr (1, [.ref aM_9, .ref aC_9, .ref aB_9, .int 0])), (aB_9, .inr (0, [.ref aF_9, .int ius_9, .int 0])), (aR_9, .inl (kR_9, 22, .inl (fun _ => 0))), (aK_9, .inl (kK_9, 8, .inl (fun _ => 0))), (aL_9, .inl (kL_9, 8, .inl (fun _ => 0))), (aM_9, .inl (kM_9, 512, .inl (fun _ => 0))), (aC_9, .inl (kC_9, 12, .inl (fun _ => 0))), (aF_9, .inl (kF_9, 49, .inl (fun _ => 0))), (q13, .inr (3, [.int 0, .null, .null, .null, .null, .null, .null, .int 0, .int 0, .int 0, .int 0, .int 0, .int 0, .int 0, .null, .null, .null, .null, .null, .null, .null, .int 0, .null]))] := hD
    refine W.widen (k := 10) (n := 650) (by omega) (by omega) ?_
    refine lv_dup hx hb dL_law_16 rfl ?_
    refine lv_aload_n hx hb dL_law_17 rfl (lv_at hl 1 rfl) ?_
    refine lv_iconst (v := 0) hx hb dL_law_18 (by decide) ?_
    refine vp_callSi (W.runS (As := [.ref b, .int 0]) (rest := [.ref q13, .ref q13]) ⟨hx, hb, hml, hown, htb⟩ (cL_cell_ok l b L xs) (va_cwS 2 htb (q_gS m2_77 m2_78 m1_0 m2_79) rfl rfl rfl (by decide +kernel) ⟨Nat.le_of_ble_eq_true rfl, Nat.le_of_ble_eq_true rfl⟩) ⟨fun a U g mk q => by obtain ⟨q0, qX, qb⟩ := q; exact ⟨q0, va_X.moved (u := U) (U := U.calling g mk a) (Vm.Alike.refl U.vm) qX, qb⟩, fun U hU hW => ⟨rfl, by rw [hU]; exact va_X.moved hW.alike (hX.kept (hS.2.1 b hbl hbA)), by rw [hU]; exact Nat.lt_of_lt_of_le hbl hS.1⟩⟩ rfl rfl hl.1 rfl (lv_room (Nat.le_of_ble_eq_true rfl)) dL_law_19 ⟨Nat.le_of_ble_eq_true rfl, Nat.le_of_ble_eq_true rfl⟩) (fun r19 p19 => ?_)
    have hPc := hP.sub (ws' := [(q13, .inr (3, [.int 0, .null, .null, .null, .null, .null, .null, .int 0, .int 0, .int 0, .int 0, .int 0, .int 0, .int 0, .null, .null, .null, .null, .null, .null, .null, .int 0, .null]))]) [9] rfl
    have hKc := hK.sub (tys' := []) [] rfl
    have hDc := hD.sub (ws' := [(q13, .inr (3, [.int 0, .null, .null, .null, .null, .null, .null, .int 0, .int 0, .int 0, .int 0, .int 0, .int 0, .int 0, .null, .null, .null, .null, .null, .null, .null, .int 0, .null]))]) [9] (by decide) rfl
    have hFc := va_free (wc := [(q13, .inr (3, [.int 0, .null, .null, .null, .null, .null, .null, .int 0, .int 0, .int 0, .int 0, .int 0, .int 0, .int 0, .null, .null, .null, .null, .null, .null, .null, .int 0, .null]))]) hD hS hA [9] rfl
    refine va_callv (va_runI (As := [.int r19]) (rest := [.ref q13]) ⟨hx, hb, hml, hown, htb⟩ (cM_init l dC dI H.size q13 r19) (cwI 1 htb (q_gI m2_84) rfl rfl rfl (htb _ m1_4) (htb _ m2_82) (htb _ m2_83) rfl (by decide +kernel) ⟨Nat.le_of_ble_eq_true rfl, Nat.le_of_ble_eq_true rfl⟩) ⟨fun a U g mk q => by obtain ⟨q0, q1, qP, qK, qD⟩ := q; exact ⟨q0, q1, qP, va_K.moved (u := U) (U := U.calling g mk a) (Vm.Alike.refl U.vm) qK, qD⟩, fun U hU hW => ⟨rfl, by rw [hU], by rw [hU]; exact hPc, va_K.moved hW.alike hKc, hDc.weaken (fun _ _ _ _ => trivial)⟩⟩ rfl rfl hl.1 rfl (lv_room (Nat.le_of_ble_eq_true rfl)) dL_law_22 ⟨Nat.le_of_ble_eq_true rfl, Nat.le_of_ble_eq_true rfl⟩) hS (fun q _ h => hFc q h) hFc (fun u t H1 locs ht hvm p22 hB hz1 hk1 hS => ?_)
    obtain ⟨jbu_22, bM_22, jM_22, bLo_22, jLo_22, bS6_22, jS6_22, bS7_22, jS7_22, bKe_22, jKe_22, bCo_22, jCo_22, bFr_22, jFr_22, bSi_22, jSi_22, bTo_22, jTo_22, bSp_22, jSp_22, bDo_22, jDo_22, bRi_22, jRi_22, bNf_22, jNf_22, bLd_22, jLd_22⟩ := u
    obtain ⟨hP1, hK1, hD1⟩ := hB
    rw [ht] at hP1
    have hK1 := va_K.moved hvm.symm hK1
    try dsimp only at p22
    obtain ⟨hP, hD⟩ := va_join (wr := [(q0, .inr (2, [.ref aU_9, .ref aR_9, .ref aK_9, .ref aL_9, .int 0, .int 25, .int 0, .int 0, .int 1])), (aU_9, .inr (1, [.ref aM_9, .ref aC_9, .ref aB_9, .int 0])), (aB_9, .inr (0, [.ref aF_9, .int ius_9, .int 0])), (aR_9, .inl (kR_9, 22, .inl (fun _ => 0))), (aK_9, .inl (kK_9, 8, .inl (fun _ => 0))), (aL_9, .inl (kL_9, 8, .inl (fun _ => 0))), (aM_9, .inl (kM_9, 512, .inl (fun _ => 0))), (aC_9, .inl (kC_9, 12, .inl (fun _ => 0))), (aF_9, .inl (kF_9, 49, .inl (fun _ => 0)))]) (w1 := [(q13, .inr (3, [.int jbu_22, .ref bM_22, .ref bLo_22, .ref bS6_22, .ref bS7_22, .ref bKe_22, .ref bCo_22, .int 0, .int 25, .int 0, .int 0, .int 1, .int 0, .int 0, .ref bFr_22, .ref bSi_22, .ref bTo_22, .ref bSp_22, .ref bDo_22, .ref bRi_22, .ref bNf_22, .int 0, .ref bLd_22])), (bM_22, .inl (jM_22, 512, .inl (fun _ => 0))), (bLo_22, .inl (jLo_22, 6, .inl (fun _ => 0))), (bS6_22, .inl (jS6_22, 6, .inl (fun _ => 0))), (bS7_22, .inl (jS7_22, 6, .inl (fun _ => 0))), (bKe_22, .inl (jKe_22, 6, .inl (fun _ => 0))), (bCo_22, .inl (jCo_22, 12, .inl (fun _ => 0))), (bFr_22, .inl (jFr_22, 8, .inl (fun _ => 0))), (bSi_22, .inl (jSi_22, 8, .inl (fun _ => 0))), (bTo_22, .inl (jTo_22, 8, .inl (fun _ => 0))), (bSp_22, .inl (jSp_22, 8, .inl (fun _ => 0))), (bDo_22, .inl (jDo_22, 8, .inl (fun _ => 0))), (bRi_22, .inl (jRi_22, 8, .inl (fun _ => 0))), (bNf_22, .inl (jNf_22, 8, .inl (fun _ => 0))), (bLd_22, .inl (jLd_22, 8, .inl (fun _ => 0)))]) hP hD [9] [0, 1, 2, 3, 4, 5, 6, 7, 8] rfl rfl (by decide) (by decide) hk1 hFc hP1 hD1
    have hK := (hK.sub (tys' := [(kR_9, .int), (kK_9, .int), (kL_9, .int), (kM_9, .int), (kC_9, .int), (kF_9, .int)]) [0, 1, 2, 3, 4, 5] rfl).app hK1
    generalize H1 = H at hP hS ⊢
    have hP : va_P (dC, dI) vwCl [(q0, .inr (2, [.ref aU_9, .ref aR_9, .ref aK_9, .ref aL_9, .int 0, .int 25, .int 0, .int 0, .int 1])), (aU_9, .inr (1, [.ref aM_9, .ref aC_9, .ref aB_9, .int 0])), (aB_9, .inr (0, [.ref aF_9, .int ius_9, .int 0])), (aR_9, .inl (kR_9, 22, .inl (fun _ => 0))), (aK_9, .inl (kK_9, 8, .inl (fun _ => 0))), (aL_9, .inl (kL_9, 8, .inl (fun _ => 0))), (aM_9, .inl (kM_9, 512, .inl (fun _ => 0))), (aC_9, .inl (kC_9, 12, .inl (fun _ => 0))), (aF_9, .inl (kF_9, 49, .inl (fun _ => 0))), (q13, .inr (3, [.int jbu_22, .ref bM_22, .ref bLo_22, .ref bS6_22, .ref bS7_22, .ref bKe_22, .ref bCo_22, .int 0, .int 25, .int 0, .int 0, .int 1, .int 0, .int 0, .ref bFr_22, .ref bSi_22, .ref bTo_22, .ref bSp_22, .ref bDo_22, .ref bRi_22, .ref bNf_22, .int 0, .ref bLd_22])), (bM_22, .inl (jM_22, 512, .inl (fun _ => 0))), (bLo_22, .inl (jLo_22, 6, .inl (fun _ => 0))), (bS6_22, .inl (jS6_22, 6, .inl (fun _ => 0))), (bS7_22, .inl (jS7_22, 6, .inl (fun _ => 0))), (bKe_22, .inl (jKe_22, 6, .inl (fun _ => 0))), (bCo_22, .inl (jCo_22, 12, .inl (fun _ => 0))), (bFr_22, .inl (jFr_22, 8, .inl (fun _ => 0))), (bSi_22, .inl (jSi_22, 8, .inl (fun _ => 0))), (bTo_22, .inl (jTo_22, 8, .inl (fun _ => 0))), (bSp_22, .inl (jSp_22, 8, .inl (fun _ => 0))), (bDo_22, .inl (jDo_22, 8, .inl (fun _ => 0))), (bRi_22, .inl (jRi_22, 8, .inl (fun _ => 0))), (bNf_22, .inl (jNf_22, 8, .inl (fun _ => 0))), (bLd_22, .inl (jLd_22, 8, .inl (fun _ => 0)))] H := hP
    have hD : va_D A [(q0, .inr (2, [.ref aU_9, .ref aR_9, .ref aK_9, .ref aL_9, .int 0, .int 25, .int 0, .int 0, .int 1])), (aU_9, .inr (1, [.ref aM_9, .ref aC_9, .ref aB_9, .int 0])), (aB_9, .inr (0, [.ref aF_9, .int ius_9, .int 0])), (aR_9, .inl (kR_9, 22, .inl (fun _ => 0))), (aK_9, .inl (kK_9, 8, .inl (fun _ => 0))), (aL_9, .inl (kL_9, 8, .inl (fun _ => 0))), (aM_9, .inl (kM_9, 512, .inl (fun _ => 0))), (aC_9, .inl (kC_9, 12, .inl (fun _ => 0))), (aF_9, .inl (kF_9, 49, .inl (fun _ => 0))), (q13, .inr (3, [.int jbu_22, .ref bM_22, .ref bLo_22, .ref bS6_22, .ref bS7_22, .ref bKe_22, .ref bCo_22, .int 0, .int 25, .int 0, .int 0, .int 1, .int 0, .int 0, .ref bFr_22, .ref bSi_22, .ref bTo_22, .ref bSp_22, .ref bDo_22, .ref bRi_22, .ref bNf_22, .int 0, .ref bLd_22])), (bM_22, .inl (jM_22, 512, .inl (fun _ => 0))), (bLo_22, .inl (jLo_22, 6, .inl (fun _ => 0))), (bS6_22, .inl (jS6_22, 6, .inl (fun _ => 0))), (bS7_22, .inl (jS7_22, 6, .inl (fun _ => 0))), (bKe_22, .inl (jKe_22, 6, .inl (fun _ => 0))), (bCo_22, .inl (jCo_22, 12, .inl (fun _ => 0))), (bFr_22, .inl (jFr_22, 8, .inl (fun _ => 0))), (bSi_22, .inl (jSi_22, 8, .inl (fun _ => 0))), (bTo_22, .inl (jTo_22, 8, .inl (fun _ => 0))), (bSp_22, .inl (jSp_22, 8, .inl (fun _ => 0))), (bDo_22, .inl (jDo_22, 8, .inl (fun _ => 0))), (bRi_22, .inl (jRi_22, 8, .inl (fun _ => 0))), (bNf_22, .inl (jNf_22, 8, .inl (fun _ => 0))), (bLd_22, .inl (jLd_22, 8, .inl (fun _ => 0)))] := hD
    have hK : va_K (dC, dI) vwCl [(kR_9, .int), (kK_9, .int), (kL_9, .int), (kM_9, .int), (kC_9, .int), (kF_9, .int), (jM_22, .int), (jLo_22, .int), (jS6_22, .int), (jS7_22, .int), (jKe_22, .int), (jCo_22, .int), (jFr_22, .int), (jSi_22, .int), (jTo_22, .int), (jSp_22, .int), (jDo_22, .int), (jRi_22, .int), (jNf_22, .int), (jLd_22, .int)] s := hK
    refine W.widen (k := 24) (n := 1262) (by omega) (by omega) ?_
    refine lv_astore_n (lv' := [(2, .ref q13), (1, .ref q0), (0, .ref b)]) hx hb dL_law_25 rfl hl (by decide) rfl (fun ls hl => ?_)
    refine lv_iconst (v := 1) hx hb dL_law_26 (by decide) ?_
    refine lv_istore_n (lv' := [(3, .int 1), (2, .ref q13), (1, .ref q0), (0, .ref b)]) hx hb dL_law_27 rfl hl (by decide) rfl (fun ls hl => ?_)
    refine lv_iload_n hx hb dL_law_28 rfl (lv_at hl 0 rfl) ?_
    refine lv_aload_n hx hb dL_law_29 rfl (lv_at hl 3 rfl) ?_
    refine va_slen hx hb hX hbl hbA hS dL_law_30 ?_
    refine lv_topi (fun v30 e30 => ?_)
    refine lv_bipush (v := 6) hx hb dL_law_31 (by decide) ?_
    refine lv_isub hx hb dL_law_33 ?_
    refine lv_topi (fun v33 e33 => ?_)
    refine lv_icmp_gt (tgt := 439) hx hb dL_law_34 (by decide) (fun h34 => ?_) (fun h34 => ?_)
    · refine lv_iconst (v := 1) hx hb dL_law_439 (by decide) ?_
      refine va_forget (fun q hq => hA2 _ (hS.2.2 q hq)) ?_
      refine W.widen (k := 24) (n := 1262) (Nat.le_of_ble_eq_true rfl) (Nat.le_of_ble_eq_true rfl) ?_
      exact lw_ret hx hb hr hlocks dL_law_440
    · exact absurd (by rw [e33, e30]; exact q_small L hlt) h34
  · obtain rfl : L = 7 := by omega
    refine va_new (ci := 2) (fs := [.null, .null, .null, .null, .int 0, .int 0, .int 0, .int 0, .int 0]) (C := RX2) (T := TX2) (N := 9) hx hb htb inX2 tyX2 tyX2_ok hown (htb _ m1_7) (htb _ m1_8) (htb _ m1_1) hK hP hD hS hA rfl (fun j hj => by rcases (show j = 0 ∨ j = 1 ∨ j = 2 ∨ j = 3 ∨ j = 4 ∨ j = 5 ∨ j = 6 ∨ j = 7 ∨ j = 8 by omega) with rfl | rfl | rfl | rfl | rfl | rfl | rfl | rfl | rfl <;> rfl) (Nat.le_of_ble_eq_true rfl) (Nat.le_of_ble_eq_true rfl) dL_law_0 (fun q0 H hP hD hS => ?_)
    have hP : va_P (dC, dI) vwCl [(q0, .inr (2, [.null, .null, .null, .null, .int 0, .int 0, .int 0, .int 0, .int 0]))] H := hP
    have hD : va_D A [(q0, .inr (2, [.null, .null, .null, .null, .int 0, .int 0, .int 0, .int 0, .int 0]))] := hD
    refine W.widen (k := 1) (n := 9) (by omega) (by omega) ?_
    refine lv_dup hx hb dL_law_3 rfl ?_
    refine lv_aload_n hx hb dL_law_4 rfl (lv_at hl 0 rfl) ?_
    refine lv_iconst (v := 0) hx hb dL_law_5 (by decide) ?_
    refine vp_callSi (W.runS (As := [.ref b, .int 0]) (rest := [.ref q0, .ref q0]) ⟨hx, hb, hml, hown, htb⟩ (cL_cell_ok l b 7 xs) (va_cwS 2 htb (q_gS m2_77 m2_78 m1_0 m2_79) rfl rfl rfl (by decide +kernel) ⟨Nat.le_of_ble_eq_true rfl, Nat.le_of_ble_eq_true rfl⟩) ⟨fun a U g mk q => by obtain ⟨q0, qX, qb⟩ := q; exact ⟨q0, va_X.moved (u := U) (U := U.calling g mk a) (Vm.Alike.refl U.vm) qX, qb⟩, fun U hU hW => ⟨rfl, by rw [hU]; exact va_X.moved hW.alike (hX.kept (hS.2.1 b hbl hbA)), by rw [hU]; exact Nat.lt_of_lt_of_le hbl hS.1⟩⟩ rfl rfl hl.1 rfl (lv_room (Nat.le_of_ble_eq_true rfl)) dL_law_6 ⟨Nat.le_of_ble_eq_true rfl, Nat.le_of_ble_eq_true rfl⟩) (fun r6 p6 => ?_)
    have hPc := hP.sub (ws' := [(q0, .inr (2, [.null, .null, .null, .null, .int 0, .int 0, .int 0, .int 0, .int 0]))]) [0] rfl
    have hKc := hK.sub (tys' := []) [] rfl
    have hDc := hD.sub (ws' := [(q0, .inr (2, [.null, .null, .null, .null, .int 0, .int 0, .int 0, .int 0, .int 0]))]) [0] (by decide) rfl
    have hFc := va_free (wc := [(q0, .inr (2, [.null, .null, .null, .null, .int 0, .int 0, .int 0, .int 0, .int 0]))]) hD hS hA [0] rfl
    refine va_callv (va_runI (As := [.int r6]) (rest := [.ref q0]) ⟨hx, hb, hml, hown, htb⟩ (cX_init l dC dI H.size q0 r6) (cwI 1 htb (q_gI m1_11) rfl rfl rfl (htb _ m1_1) (htb _ m1_9) (htb _ m1_10) rfl (by decide +kernel) ⟨Nat.le_of_ble_eq_true rfl, Nat.le_of_ble_eq_true rfl⟩) ⟨fun a U g mk q => by obtain ⟨q0, q1, qP, qK, qD, qN9⟩ := q; exact ⟨q0, q1, qP, va_K.moved (u := U) (U := U.calling g mk a) (Vm.Alike.refl U.vm) qK, qD, qN_same (s := U) (U := U.calling g mk a) rfl qN9⟩, fun U hU hW => ⟨rfl, by rw [hU], by rw [hU]; exact hPc, va_K.moved hW.alike hKc, hDc.weaken (fun _ _ _ _ => trivial), qN_warm hW hN⟩⟩ rfl rfl hl.1 rfl (lv_room (Nat.le_of_ble_eq_true rfl)) dL_law_9 ⟨Nat.le_of_ble_eq_true rfl, Nat.le_of_ble_eq_true rfl⟩) hS (fun q _ h => hFc q h) hFc (fun u t H1 locs ht hvm p9 hB hz1 hk1 hS => ?_)
    obtain ⟨aU_9, aR_9, kR_9, aK_9, kK_9, aL_9, kL_9, aM_9, kM_9, aC_9, kC_9, aB_9, ius_9, aF_9, kF_9⟩ := u
    obtain ⟨hP1, hK1, hD1⟩ := hB
    rw [ht] at hP1
    have hK1 := va_K.moved hvm.symm hK1
    try dsimp only at p9
    obtain ⟨hP, hD⟩ := va_join (wr := []) (w1 := [(q0, .inr (2, [.ref aU_9, .ref aR_9, .ref aK_9, .ref aL_9, .int 0, .int 25, .int 0, .int 0, .int 1])), (aU_9, .inr (1, [.ref aM_9, .ref aC_9, .ref aB_9, .int 0])), (aB_9, .inr (0, [.ref aF_9, .int ius_9, .int 0])), (aR_9, .inl (kR_9, 22, .inl (fun _ => 0))), (aK_9, .inl (kK_9, 8, .inl (fun _ => 0))), (aL_9, .inl (kL_9, 8, .inl (fun _ => 0))), (aM_9, .inl (kM_9, 512, .inl (fun _ => 0))), (aC_9, .inl (kC_9, 12, .inl (fun _ => 0))), (aF_9, .inl (kF_9, 49, .inl (fun _ => 0)))]) hP hD [0] [] rfl rfl (by decide) (by decide) hk1 hFc hP1 hD1
    have hK := (hK.sub (tys' := []) [] rfl).app hK1
    generalize H1 = H at hP hS ⊢
    have hP : va_P (dC, dI) vwCl [(q0, .inr (2, [.ref aU_9, .ref aR_9, .ref aK_9, .ref aL_9, .int 0, .int 25, .int 0, .int 0, .int 1])), (aU_9, .inr (1, [.ref aM_9, .ref aC_9, .ref aB_9, .int 0])), (aB_9, .inr (0, [.ref aF_9, .int ius_9, .int 0])), (aR_9, .inl (kR_9, 22, .inl (fun _ => 0))), (aK_9, .inl (kK_9, 8, .inl (fun _ => 0))), (aL_9, .inl (kL_9, 8, .inl (fun _ => 0))), (aM_9, .inl (kM_9, 512, .inl (fun _ => 0))), (aC_9, .inl (kC_9, 12, .inl (fun _ => 0))), (aF_9, .inl (kF_9, 49, .inl (fun _ => 0)))] H := hP
    have hD : va_D A [(q0, .inr (2, [.ref aU_9, .ref aR_9, .ref aK_9, .ref aL_9, .int 0, .int 25, .int 0, .int 0, .int 1])), (aU_9, .inr (1, [.ref aM_9, .ref aC_9, .ref aB_9, .int 0])), (aB_9, .inr (0, [.ref aF_9, .int ius_9, .int 0])), (aR_9, .inl (kR_9, 22, .inl (fun _ => 0))), (aK_9, .inl (kK_9, 8, .inl (fun _ => 0))), (aL_9, .inl (kL_9, 8, .inl (fun _ => 0))), (aM_9, .inl (kM_9, 512, .inl (fun _ => 0))), (aC_9, .inl (kC_9, 12, .inl (fun _ => 0))), (aF_9, .inl (kF_9, 49, .inl (fun _ => 0)))] := hD
    have hK : va_K (dC, dI) vwCl [(kR_9, .int), (kK_9, .int), (kL_9, .int), (kM_9, .int), (kC_9, .int), (kF_9, .int)] s := hK
    refine W.widen (k := 9) (n := 627) (by omega) (by omega) ?_
    refine lv_astore_n (lv' := [(1, .ref q0), (0, .ref b)]) hx hb dL_law_12 rfl hl (by decide) rfl (fun ls hl => ?_)
    refine va_new (ci := 3) (fs := [.int 0, .null, .null, .null, .null, .null, .null, .int 0, .int 0, .int 0, .int 0, .int 0, .int 0, .int 0, .null, .null, .null, .null, .null, .null, .null, .int 0, .null]) (C := RX3) (T := TX3) (N := 23) hx hb htb inX3 tyX3 tyX3_ok hown (htb _ m2_80) (htb _ m2_81) (htb _ m1_4) hK hP hD hS hA rfl (fun j hj => by rcases (show j = 0 ∨ j = 1 ∨ j = 2 ∨ j = 3 ∨ j = 4 ∨ j = 5 ∨ j = 6 ∨ j = 7 ∨ j = 8 ∨ j = 9 ∨ j = 10 ∨ j = 11 ∨ j = 12 ∨ j = 13 ∨ j = 14 ∨ j = 15 ∨ j = 16 ∨ j = 17 ∨ j = 18 ∨ j = 19 ∨ j = 20 ∨ j = 21 ∨ j = 22 by omega) with rfl | rfl | rfl | rfl | rfl | rfl | rfl | rfl | rfl | rfl | rfl | rfl | rfl | rfl | rfl | rfl | rfl | rfl | rfl | rfl | rfl | rfl | rfl <;> rfl) (Nat.le_of_ble_eq_true rfl) (Nat.le_of_ble_eq_true rfl) dL_law_13 (fun q13 H hP hD hS => ?_)
    have hP : va_P (dC, dI) vwCl [(q0, .inr (2, [.ref aU_9, .ref aR_9, .ref aK_9, .ref aL_9, .int 0, .int 25, .int 0, .int 0, .int 1])), (aU_9, .inr (1, [.ref aM_9, .ref aC_9, .ref aB_9, .int 0])), (aB_9, .inr (0, [.ref aF_9, .int ius_9, .int 0])), (aR_9, .inl (kR_9, 22, .inl (fun _ => 0))), (aK_9, .inl (kK_9, 8, .inl (fun _ => 0))), (aL_9, .inl (kL_9, 8, .inl (fun _ => 0))), (aM_9, .inl (kM_9, 512, .inl (fun _ => 0))), (aC_9, .inl (kC_9, 12, .inl (fun _ => 0))), (aF_9, .inl (kF_9, 49, .inl (fun _ => 0))), (q13, .inr (3, [.int 0, .null, .null, .null, .null, .null, .null, .int 0, .int 0, .int 0, .int 0, .int 0, .int 0, .int 0, .null, .null, .null, .null, .null, .null, .null, .int 0, .null]))] H := hP
    have hD : va_D A [(q0, .inr (2, [.ref aU_9, .ref aR_9, .ref aK_9, .ref aL_9, .int 0, .int 25, .int 0, .int 0, .int 1])), (aU_9, .inr (1, [.ref aM_9, .ref aC_9, .ref aB_9, .int 0])), (aB_9, .inr (0, [.ref aF_9, .int ius_9, .int 0])), (aR_9, .inl (kR_9, 22, .inl (fun _ => 0))), (aK_9, .inl (kK_9, 8, .inl (fun _ => 0))), (aL_9, .inl (kL_9, 8, .inl (fun _ => 0))), (aM_9, .inl (kM_9, 512, .inl (fun _ => 0))), (aC_9, .inl (kC_9, 12, .inl (fun _ => 0))), (aF_9, .inl (kF_9, 49, .inl (fun _ => 0))), (q13, .inr (3, [.int 0, .null, .null, .null, .null, .null, .null, .int 0, .int 0, .int 0, .int 0, .int 0, .int 0, .int 0, .null, .null, .null, .null, .null, .null, .null, .int 0, .null]))] := hD
    refine W.widen (k := 10) (n := 650) (by omega) (by omega) ?_
    refine lv_dup hx hb dL_law_16 rfl ?_
    refine lv_aload_n hx hb dL_law_17 rfl (lv_at hl 1 rfl) ?_
    refine lv_iconst (v := 0) hx hb dL_law_18 (by decide) ?_
    refine vp_callSi (W.runS (As := [.ref b, .int 0]) (rest := [.ref q13, .ref q13]) ⟨hx, hb, hml, hown, htb⟩ (cL_cell_ok l b 7 xs) (va_cwS 2 htb (q_gS m2_77 m2_78 m1_0 m2_79) rfl rfl rfl (by decide +kernel) ⟨Nat.le_of_ble_eq_true rfl, Nat.le_of_ble_eq_true rfl⟩) ⟨fun a U g mk q => by obtain ⟨q0, qX, qb⟩ := q; exact ⟨q0, va_X.moved (u := U) (U := U.calling g mk a) (Vm.Alike.refl U.vm) qX, qb⟩, fun U hU hW => ⟨rfl, by rw [hU]; exact va_X.moved hW.alike (hX.kept (hS.2.1 b hbl hbA)), by rw [hU]; exact Nat.lt_of_lt_of_le hbl hS.1⟩⟩ rfl rfl hl.1 rfl (lv_room (Nat.le_of_ble_eq_true rfl)) dL_law_19 ⟨Nat.le_of_ble_eq_true rfl, Nat.le_of_ble_eq_true rfl⟩) (fun r19 p19 => ?_)
    have hPc := hP.sub (ws' := [(q13, .inr (3, [.int 0, .null, .null, .null, .null, .null, .null, .int 0, .int 0, .int 0, .int 0, .int 0, .int 0, .int 0, .null, .null, .null, .null, .null, .null, .null, .int 0, .null]))]) [9] rfl
    have hKc := hK.sub (tys' := []) [] rfl
    have hDc := hD.sub (ws' := [(q13, .inr (3, [.int 0, .null, .null, .null, .null, .null, .null, .int 0, .int 0, .int 0, .int 0, .int 0, .int 0, .int 0, .null, .null, .null, .null, .null, .null, .null, .int 0, .null]))]) [9] (by decide) rfl
    have hFc := va_free (wc := [(q13, .inr (3, [.int 0, .null, .null, .null, .null, .null, .null, .int 0, .int 0, .int 0, .int 0, .int 0, .int 0, .int 0, .null, .null, .null, .null, .null, .null, .null, .int 0, .null]))]) hD hS hA [9] rfl
    refine va_callv (va_runI (As := [.int r19]) (rest := [.ref q13]) ⟨hx, hb, hml, hown, htb⟩ (cM_init l dC dI H.size q13 r19) (cwI 1 htb (q_gI m2_84) rfl rfl rfl (htb _ m1_4) (htb _ m2_82) (htb _ m2_83) rfl (by decide +kernel) ⟨Nat.le_of_ble_eq_true rfl, Nat.le_of_ble_eq_true rfl⟩) ⟨fun a U g mk q => by obtain ⟨q0, q1, qP, qK, qD⟩ := q; exact ⟨q0, q1, qP, va_K.moved (u := U) (U := U.calling g mk a) (Vm.Alike.refl U.vm) qK, qD⟩, fun U hU hW => ⟨rfl, by rw [hU], by rw [hU]; exact hPc, va_K.moved hW.alike hKc, hDc.weaken (fun _ _ _ _ => trivial)⟩⟩ rfl rfl hl.1 rfl (lv_room (Nat.le_of_ble_eq_true rfl)) dL_law_22 ⟨Nat.le_of_ble_eq_true rfl, Nat.le_of_ble_eq_true rfl⟩) hS (fun q _ h => hFc q h) hFc (fun u t H1 locs ht hvm p22 hB hz1 hk1 hS => ?_)
    obtain ⟨jbu_22, bM_22, jM_22, bLo_22, jLo_22, bS6_22, jS6_22, bS7_22, jS7_22, bKe_22, jKe_22, bCo_22, jCo_22, bFr_22, jFr_22, bSi_22, jSi_22, bTo_22, jTo_22, bSp_22, jSp_22, bDo_22, jDo_22, bRi_22, jRi_22, bNf_22, jNf_22, bLd_22, jLd_22⟩ := u
    obtain ⟨hP1, hK1, hD1⟩ := hB
    rw [ht] at hP1
    have hK1 := va_K.moved hvm.symm hK1
    try dsimp only at p22
    obtain ⟨hP, hD⟩ := va_join (wr := [(q0, .inr (2, [.ref aU_9, .ref aR_9, .ref aK_9, .ref aL_9, .int 0, .int 25, .int 0, .int 0, .int 1])), (aU_9, .inr (1, [.ref aM_9, .ref aC_9, .ref aB_9, .int 0])), (aB_9, .inr (0, [.ref aF_9, .int ius_9, .int 0])), (aR_9, .inl (kR_9, 22, .inl (fun _ => 0))), (aK_9, .inl (kK_9, 8, .inl (fun _ => 0))), (aL_9, .inl (kL_9, 8, .inl (fun _ => 0))), (aM_9, .inl (kM_9, 512, .inl (fun _ => 0))), (aC_9, .inl (kC_9, 12, .inl (fun _ => 0))), (aF_9, .inl (kF_9, 49, .inl (fun _ => 0)))]) (w1 := [(q13, .inr (3, [.int jbu_22, .ref bM_22, .ref bLo_22, .ref bS6_22, .ref bS7_22, .ref bKe_22, .ref bCo_22, .int 0, .int 25, .int 0, .int 0, .int 1, .int 0, .int 0, .ref bFr_22, .ref bSi_22, .ref bTo_22, .ref bSp_22, .ref bDo_22, .ref bRi_22, .ref bNf_22, .int 0, .ref bLd_22])), (bM_22, .inl (jM_22, 512, .inl (fun _ => 0))), (bLo_22, .inl (jLo_22, 6, .inl (fun _ => 0))), (bS6_22, .inl (jS6_22, 6, .inl (fun _ => 0))), (bS7_22, .inl (jS7_22, 6, .inl (fun _ => 0))), (bKe_22, .inl (jKe_22, 6, .inl (fun _ => 0))), (bCo_22, .inl (jCo_22, 12, .inl (fun _ => 0))), (bFr_22, .inl (jFr_22, 8, .inl (fun _ => 0))), (bSi_22, .inl (jSi_22, 8, .inl (fun _ => 0))), (bTo_22, .inl (jTo_22, 8, .inl (fun _ => 0))), (bSp_22, .inl (jSp_22, 8, .inl (fun _ => 0))), (bDo_22, .inl (jDo_22, 8, .inl (fun _ => 0))), (bRi_22, .inl (jRi_22, 8, .inl (fun _ => 0))), (bNf_22, .inl (jNf_22, 8, .inl (fun _ => 0))), (bLd_22, .inl (jLd_22, 8, .inl (fun _ => 0)))]) hP hD [9] [0, 1, 2, 3, 4, 5, 6, 7, 8] rfl rfl (by decide) (by decide) hk1 hFc hP1 hD1
    have hK := (hK.sub (tys' := [(kR_9, .int), (kK_9, .int), (kL_9, .int), (kM_9, .int), (kC_9, .int), (kF_9, .int)]) [0, 1, 2, 3, 4, 5] rfl).app hK1
    generalize H1 = H at hP hS ⊢
    have hP : va_P (dC, dI) vwCl [(q0, .inr (2, [.ref aU_9, .ref aR_9, .ref aK_9, .ref aL_9, .int 0, .int 25, .int 0, .int 0, .int 1])), (aU_9, .inr (1, [.ref aM_9, .ref aC_9, .ref aB_9, .int 0])), (aB_9, .inr (0, [.ref aF_9, .int ius_9, .int 0])), (aR_9, .inl (kR_9, 22, .inl (fun _ => 0))), (aK_9, .inl (kK_9, 8, .inl (fun _ => 0))), (aL_9, .inl (kL_9, 8, .inl (fun _ => 0))), (aM_9, .inl (kM_9, 512, .inl (fun _ => 0))), (aC_9, .inl (kC_9, 12, .inl (fun _ => 0))), (aF_9, .inl (kF_9, 49, .inl (fun _ => 0))), (q13, .inr (3, [.int jbu_22, .ref bM_22, .ref bLo_22, .ref bS6_22, .ref bS7_22, .ref bKe_22, .ref bCo_22, .int 0, .int 25, .int 0, .int 0, .int 1, .int 0, .int 0, .ref bFr_22, .ref bSi_22, .ref bTo_22, .ref bSp_22, .ref bDo_22, .ref bRi_22, .ref bNf_22, .int 0, .ref bLd_22])), (bM_22, .inl (jM_22, 512, .inl (fun _ => 0))), (bLo_22, .inl (jLo_22, 6, .inl (fun _ => 0))), (bS6_22, .inl (jS6_22, 6, .inl (fun _ => 0))), (bS7_22, .inl (jS7_22, 6, .inl (fun _ => 0))), (bKe_22, .inl (jKe_22, 6, .inl (fun _ => 0))), (bCo_22, .inl (jCo_22, 12, .inl (fun _ => 0))), (bFr_22, .inl (jFr_22, 8, .inl (fun _ => 0))), (bSi_22, .inl (jSi_22, 8, .inl (fun _ => 0))), (bTo_22, .inl (jTo_22, 8, .inl (fun _ => 0))), (bSp_22, .inl (jSp_22, 8, .inl (fun _ => 0))), (bDo_22, .inl (jDo_22, 8, .inl (fun _ => 0))), (bRi_22, .inl (jRi_22, 8, .inl (fun _ => 0))), (bNf_22, .inl (jNf_22, 8, .inl (fun _ => 0))), (bLd_22, .inl (jLd_22, 8, .inl (fun _ => 0)))] H := hP
    have hD : va_D A [(q0, .inr (2, [.ref aU_9, .ref aR_9, .ref aK_9, .ref aL_9, .int 0, .int 25, .int 0, .int 0, .int 1])), (aU_9, .inr (1, [.ref aM_9, .ref aC_9, .ref aB_9, .int 0])), (aB_9, .inr (0, [.ref aF_9, .int ius_9, .int 0])), (aR_9, .inl (kR_9, 22, .inl (fun _ => 0))), (aK_9, .inl (kK_9, 8, .inl (fun _ => 0))), (aL_9, .inl (kL_9, 8, .inl (fun _ => 0))), (aM_9, .inl (kM_9, 512, .inl (fun _ => 0))), (aC_9, .inl (kC_9, 12, .inl (fun _ => 0))), (aF_9, .inl (kF_9, 49, .inl (fun _ => 0))), (q13, .inr (3, [.int jbu_22, .ref bM_22, .ref bLo_22, .ref bS6_22, .ref bS7_22, .ref bKe_22, .ref bCo_22, .int 0, .int 25, .int 0, .int 0, .int 1, .int 0, .int 0, .ref bFr_22, .ref bSi_22, .ref bTo_22, .ref bSp_22, .ref bDo_22, .ref bRi_22, .ref bNf_22, .int 0, .ref bLd_22])), (bM_22, .inl (jM_22, 512, .inl (fun _ => 0))), (bLo_22, .inl (jLo_22, 6, .inl (fun _ => 0))), (bS6_22, .inl (jS6_22, 6, .inl (fun _ => 0))), (bS7_22, .inl (jS7_22, 6, .inl (fun _ => 0))), (bKe_22, .inl (jKe_22, 6, .inl (fun _ => 0))), (bCo_22, .inl (jCo_22, 12, .inl (fun _ => 0))), (bFr_22, .inl (jFr_22, 8, .inl (fun _ => 0))), (bSi_22, .inl (jSi_22, 8, .inl (fun _ => 0))), (bTo_22, .inl (jTo_22, 8, .inl (fun _ => 0))), (bSp_22, .inl (jSp_22, 8, .inl (fun _ => 0))), (bDo_22, .inl (jDo_22, 8, .inl (fun _ => 0))), (bRi_22, .inl (jRi_22, 8, .inl (fun _ => 0))), (bNf_22, .inl (jNf_22, 8, .inl (fun _ => 0))), (bLd_22, .inl (jLd_22, 8, .inl (fun _ => 0)))] := hD
    have hK : va_K (dC, dI) vwCl [(kR_9, .int), (kK_9, .int), (kL_9, .int), (kM_9, .int), (kC_9, .int), (kF_9, .int), (jM_22, .int), (jLo_22, .int), (jS6_22, .int), (jS7_22, .int), (jKe_22, .int), (jCo_22, .int), (jFr_22, .int), (jSi_22, .int), (jTo_22, .int), (jSp_22, .int), (jDo_22, .int), (jRi_22, .int), (jNf_22, .int), (jLd_22, .int)] s := hK
    refine W.widen (k := 24) (n := 1262) (by omega) (by omega) ?_
    refine lv_astore_n (lv' := [(2, .ref q13), (1, .ref q0), (0, .ref b)]) hx hb dL_law_25 rfl hl (by decide) rfl (fun ls hl => ?_)
    refine lv_iconst (v := 1) hx hb dL_law_26 (by decide) ?_
    refine lv_istore_n (lv' := [(3, .int 1), (2, .ref q13), (1, .ref q0), (0, .ref b)]) hx hb dL_law_27 rfl hl (by decide) rfl (fun ls hl => ?_)
    refine lv_iload_n hx hb dL_law_28 rfl (lv_at hl 0 rfl) ?_
    refine lv_aload_n hx hb dL_law_29 rfl (lv_at hl 3 rfl) ?_
    refine va_slen hx hb hX hbl hbA hS dL_law_30 ?_
    refine q_casti (y := 7) (by decide) ?_
    refine lv_bipush (v := 6) hx hb dL_law_31 (by decide) ?_
    refine lv_isub hx hb dL_law_33 ?_
    refine q_casti (y := 1) (by decide) ?_
    refine lv_icmp_gt (tgt := 439) hx hb dL_law_34 (by decide) (fun h34 => ?_) (fun h34 => ?_)
    · exact absurd h34 (by decide)
    · refine lv_aload_n hx hb dL_law_37 rfl (lv_at hl 3 rfl) ?_
      refine lv_iload_n hx hb dL_law_38 rfl (lv_at hl 0 rfl) ?_
      refine va_sld hx hb hX hbl hbA hS (vp_in_iff.mpr ⟨by decide, by decide⟩) dL_law_39 ?_
      refine lv_bipush (v := 15) hx hb dL_law_40 (by decide) ?_
      refine lv_iand hx hb dL_law_42 ?_
      refine lv_topi (fun v42 e42 => ?_)
      by_cases h43_0 : v42 = 0
      · refine lv_tableIn (off := 49) (tgt := 92) hx hb dL_law_43 (by rw [h43_0]; decide) (by rw [h43_0]; decide) (by rw [h43_0]; decide) (by decide) ?_
        refine lv_aload_n hx hb dL_law_92 rfl (lv_at hl 2 rfl) ?_
        refine lv_aload_n hx hb dL_law_93 rfl (lv_at hl 3 rfl) ?_
        refine lv_iload_n hx hb dL_law_94 rfl (lv_at hl 0 rfl) ?_
        refine lv_iconst (v := 1) hx hb dL_law_95 (by decide) ?_
        refine lv_iadd hx hb dL_law_96 ?_
        refine q_casti (y := 2) (by decide) ?_
        refine va_sld hx hb hX hbl hbA hS (vp_in_iff.mpr ⟨by decide, by decide⟩) dL_law_97 ?_
        refine lv_aload_n hx hb dL_law_98 rfl (lv_at hl 3 rfl) ?_
        refine lv_iload_n hx hb dL_law_99 rfl (lv_at hl 0 rfl) ?_
        refine lv_iconst (v := 2) hx hb dL_law_100 (by decide) ?_
        refine lv_iadd hx hb dL_law_101 ?_
        refine q_casti (y := 3) (by decide) ?_
        refine va_sld hx hb hX hbl hbA hS (vp_in_iff.mpr ⟨by decide, by decide⟩) dL_law_102 ?_
        have hPc := hP.sub (ws' := [(q0, .inr (2, [.ref aU_9, .ref aR_9, .ref aK_9, .ref aL_9, .int 0, .int 25, .int 0, .int 0, .int 1])), (aU_9, .inr (1, [.ref aM_9, .ref aC_9, .ref aB_9, .int 0])), (aM_9, .inl (kM_9, 512, .inl (fun _ => 0)))]) [0, 1, 6] rfl
        have hKc := hK.sub (tys' := [(kM_9, .int)]) [3] rfl
        have hDc := hD.sub (ws' := [(q0, .inr (2, [.ref aU_9, .ref aR_9, .ref aK_9, .ref aL_9, .int 0, .int 25, .int 0, .int 0, .int 1])), (aU_9, .inr (1, [.ref aM_9, .ref aC_9, .ref aB_9, .int 0])), (aM_9, .inl (kM_9, 512, .inl (fun _ => 0)))]) [0, 1, 6] (by decide) rfl
        have hFc := va_free (wc := [(q0, .inr (2, [.ref aU_9, .ref aR_9, .ref aK_9, .ref aL_9, .int 0, .int 25, .int 0, .int 0, .int 1])), (aU_9, .inr (1, [.ref aM_9, .ref aC_9, .ref aB_9, .int 0])), (aM_9, .inl (kM_9, 512, .inl (fun _ => 0)))]) hD hS hA [0, 1, 6] rfl
        refine va_calli (va_runV (As := [.int (xs (2 : Int32).toNatClampNeg), .int (xs (3 : Int32).toNatClampNeg)]) (rest := []) ⟨hx, hb, hml, hown, htb⟩ (cX_poke l dC dI H.size q0 (xs (2 : Int32).toNatClampNeg) (xs (3 : Int32).toNatClampNeg) aU_9 aR_9 aK_9 aL_9 0 25 0 0 1 aM_9 aC_9 aB_9 0 kM_9 (fun _ => 0)) (cwV 2 htb (q_gV m1_84 m1_85 m1_86 m1_1 m1_87) rfl rfl rfl (by decide +kernel) ⟨Nat.le_of_ble_eq_true rfl, Nat.le_of_ble_eq_true rfl⟩) ⟨fun a U g mk q => by obtain ⟨q0, q1, qP, qK, qD, qN9⟩ := q; exact ⟨q0, q1, qP, va_K.moved (u := U) (U := U.calling g mk a) (Vm.Alike.refl U.vm) qK, qD, qN_same (s := U) (U := U.calling g mk a) rfl qN9⟩, va_recv (q0 := 0) hK hP (rfl : vwCl[2]? = some (RX2, TX2, 9)) rfl, fun U hU hW => ⟨rfl, by rw [hU], by rw [hU]; exact hPc, va_K.moved hW.alike hKc, hDc.weaken (fun _ _ _ _ => trivial), qN_warm hW hN⟩⟩ rfl rfl hl.1 rfl (lv_room (Nat.le_of_ble_eq_true rfl)) dL_law_103 ⟨Nat.le_of_ble_eq_true rfl, Nat.le_of_ble_eq_true rfl⟩) hS (fun q _ h => hFc q h) hFc (fun r103 u t H1 locs ht hvm p103 hB hz1 hk1 hS => ?_)
        obtain ⟨gM2_103, rfl⟩ : ∃ z, z = u := ⟨_, rfl⟩
        obtain ⟨hP1, hK1, hD1⟩ := hB
        rw [ht] at hP1
        have hK1 := va_K.moved hvm.symm hK1
        try dsimp only at p103
        obtain ⟨hP, hD⟩ := va_join (wr := [(aB_9, .inr (0, [.ref aF_9, .int ius_9, .int 0])), (aR_9, .inl (kR_9, 22, .inl (fun _ => 0))), (aK_9, .inl (kK_9, 8, .inl (fun _ => 0))), (aL_9, .inl (kL_9, 8, .inl (fun _ => 0))), (aC_9, .inl (kC_9, 12, .inl (fun _ => 0))), (aF_9, .inl (kF_9, 49, .inl (fun _ => 0))), (q13, .inr (3, [.int jbu_22, .ref bM_22, .ref bLo_22, .ref bS6_22, .ref bS7_22, .ref bKe_22, .ref bCo_22, .int 0, .int 25, .int 0, .int 0, .int 1, .int 0, .int 0, .ref bFr_22, .ref bSi_22, .ref bTo_22, .ref bSp_22, .ref bDo_22, .ref bRi_22, .ref bNf_22, .int 0, .ref bLd_22])), (bM_22, .inl (jM_22, 512, .inl (fun _ => 0))), (bLo_22, .inl (jLo_22, 6, .inl (fun _ => 0))), (bS6_22, .inl (jS6_22, 6, .inl (fun _ => 0))), (bS7_22, .inl (jS7_22, 6, .inl (fun _ => 0))), (bKe_22, .inl (jKe_22, 6, .inl (fun _ => 0))), (bCo_22, .inl (jCo_22, 12, .inl (fun _ => 0))), (bFr_22, .inl (jFr_22, 8, .inl (fun _ => 0))), (bSi_22, .inl (jSi_22, 8, .inl (fun _ => 0))), (bTo_22, .inl (jTo_22, 8, .inl (fun _ => 0))), (bSp_22, .inl (jSp_22, 8, .inl (fun _ => 0))), (bDo_22, .inl (jDo_22, 8, .inl (fun _ => 0))), (bRi_22, .inl (jRi_22, 8, .inl (fun _ => 0))), (bNf_22, .inl (jNf_22, 8, .inl (fun _ => 0))), (bLd_22, .inl (jLd_22, 8, .inl (fun _ => 0)))]) (w1 := [(q0, .inr (2, [.ref aU_9, .ref aR_9, .ref aK_9, .ref aL_9, .int 0, .int 25, .int 0, .int 0, .int 1])), (aU_9, .inr (1, [.ref aM_9, .ref aC_9, .ref aB_9, .int 0])), (aM_9, .inl (kM_9, 512, .inl gM2_103))]) hP hD [0, 1, 6] [2, 3, 4, 5, 7, 8, 9, 10, 11, 12, 13, 14, 15, 16, 17, 18, 19, 20, 21, 22, 23] rfl rfl (by decide) (by decide) hk1 hFc hP1 hD1
        have hK := (hK.sub (tys' := [(kR_9, .int), (kK_9, .int), (kL_9, .int), (kC_9, .int), (kF_9, .int), (jM_22, .int), (jLo_22, .int), (jS6_22, .int), (jS7_22, .int), (jKe_22, .int), (jCo_22, .int), (jFr_22, .int), (jSi_22, .int), (jTo_22, .int), (jSp_22, .int), (jDo_22, .int), (jRi_22, .int), (jNf_22, .int), (jLd_22, .int)]) [0, 1, 2, 4, 5, 6, 7, 8, 9, 10, 11, 12, 13, 14, 15, 16, 17, 18, 19] rfl).app hK1
        generalize H1 = H at hP hS ⊢
        have hP : va_P (dC, dI) vwCl [(aB_9, .inr (0, [.ref aF_9, .int ius_9, .int 0])), (aR_9, .inl (kR_9, 22, .inl (fun _ => 0))), (aK_9, .inl (kK_9, 8, .inl (fun _ => 0))), (aL_9, .inl (kL_9, 8, .inl (fun _ => 0))), (aC_9, .inl (kC_9, 12, .inl (fun _ => 0))), (aF_9, .inl (kF_9, 49, .inl (fun _ => 0))), (q13, .inr (3, [.int jbu_22, .ref bM_22, .ref bLo_22, .ref bS6_22, .ref bS7_22, .ref bKe_22, .ref bCo_22, .int 0, .int 25, .int 0, .int 0, .int 1, .int 0, .int 0, .ref bFr_22, .ref bSi_22, .ref bTo_22, .ref bSp_22, .ref bDo_22, .ref bRi_22, .ref bNf_22, .int 0, .ref bLd_22])), (bM_22, .inl (jM_22, 512, .inl (fun _ => 0))), (bLo_22, .inl (jLo_22, 6, .inl (fun _ => 0))), (bS6_22, .inl (jS6_22, 6, .inl (fun _ => 0))), (bS7_22, .inl (jS7_22, 6, .inl (fun _ => 0))), (bKe_22, .inl (jKe_22, 6, .inl (fun _ => 0))), (bCo_22, .inl (jCo_22, 12, .inl (fun _ => 0))), (bFr_22, .inl (jFr_22, 8, .inl (fun _ => 0))), (bSi_22, .inl (jSi_22, 8, .inl (fun _ => 0))), (bTo_22, .inl (jTo_22, 8, .inl (fun _ => 0))), (bSp_22, .inl (jSp_22, 8, .inl (fun _ => 0))), (bDo_22, .inl (jDo_22, 8, .inl (fun _ => 0))), (bRi_22, .inl (jRi_22, 8, .inl (fun _ => 0))), (bNf_22, .inl (jNf_22, 8, .inl (fun _ => 0))), (bLd_22, .inl (jLd_22, 8, .inl (fun _ => 0))), (q0, .inr (2, [.ref aU_9, .ref aR_9, .ref aK_9, .ref aL_9, .int 0, .int 25, .int 0, .int 0, .int 1])), (aU_9, .inr (1, [.ref aM_9, .ref aC_9, .ref aB_9, .int 0])), (aM_9, .inl (kM_9, 512, .inl gM2_103))] H := hP
        have hD : va_D A [(aB_9, .inr (0, [.ref aF_9, .int ius_9, .int 0])), (aR_9, .inl (kR_9, 22, .inl (fun _ => 0))), (aK_9, .inl (kK_9, 8, .inl (fun _ => 0))), (aL_9, .inl (kL_9, 8, .inl (fun _ => 0))), (aC_9, .inl (kC_9, 12, .inl (fun _ => 0))), (aF_9, .inl (kF_9, 49, .inl (fun _ => 0))), (q13, .inr (3, [.int jbu_22, .ref bM_22, .ref bLo_22, .ref bS6_22, .ref bS7_22, .ref bKe_22, .ref bCo_22, .int 0, .int 25, .int 0, .int 0, .int 1, .int 0, .int 0, .ref bFr_22, .ref bSi_22, .ref bTo_22, .ref bSp_22, .ref bDo_22, .ref bRi_22, .ref bNf_22, .int 0, .ref bLd_22])), (bM_22, .inl (jM_22, 512, .inl (fun _ => 0))), (bLo_22, .inl (jLo_22, 6, .inl (fun _ => 0))), (bS6_22, .inl (jS6_22, 6, .inl (fun _ => 0))), (bS7_22, .inl (jS7_22, 6, .inl (fun _ => 0))), (bKe_22, .inl (jKe_22, 6, .inl (fun _ => 0))), (bCo_22, .inl (jCo_22, 12, .inl (fun _ => 0))), (bFr_22, .inl (jFr_22, 8, .inl (fun _ => 0))), (bSi_22, .inl (jSi_22, 8, .inl (fun _ => 0))), (bTo_22, .inl (jTo_22, 8, .inl (fun _ => 0))), (bSp_22, .inl (jSp_22, 8, .inl (fun _ => 0))), (bDo_22, .inl (jDo_22, 8, .inl (fun _ => 0))), (bRi_22, .inl (jRi_22, 8, .inl (fun _ => 0))), (bNf_22, .inl (jNf_22, 8, .inl (fun _ => 0))), (bLd_22, .inl (jLd_22, 8, .inl (fun _ => 0))), (q0, .inr (2, [.ref aU_9, .ref aR_9, .ref aK_9, .ref aL_9, .int 0, .int 25, .int 0, .int 0, .int 1])), (aU_9, .inr (1, [.ref aM_9, .ref aC_9, .ref aB_9, .int 0])), (aM_9, .inl (kM_9, 512, .inl gM2_103))] := hD
        have hK : va_K (dC, dI) vwCl [(kR_9, .int), (kK_9, .int), (kL_9, .int), (kC_9, .int), (kF_9, .int), (jM_22, .int), (jLo_22, .int), (jS6_22, .int), (jS7_22, .int), (jKe_22, .int), (jCo_22, .int), (jFr_22, .int), (jSi_22, .int), (jTo_22, .int), (jSp_22, .int), (jDo_22, .int), (jRi_22, .int), (jNf_22, .int), (jLd_22, .int), (kM_9, .int)] s := hK
        refine lv_aload_n hx hb dL_law_106 rfl (lv_at hl 1 rfl) ?_
        refine lv_aload_n hx hb dL_law_107 rfl (lv_at hl 3 rfl) ?_
        refine lv_iload_n hx hb dL_law_108 rfl (lv_at hl 0 rfl) ?_
        refine lv_iconst (v := 1) hx hb dL_law_109 (by decide) ?_
        refine lv_iadd hx hb dL_law_110 ?_
        refine q_casti (y := 2) (by decide) ?_
        refine va_sld hx hb hX hbl hbA hS (vp_in_iff.mpr ⟨by decide, by decide⟩) dL_law_111 ?_
        refine lv_aload_n hx hb dL_law_112 rfl (lv_at hl 3 rfl) ?_
        refine lv_iload_n hx hb dL_law_113 rfl (lv_at hl 0 rfl) ?_
        refine lv_iconst (v := 2) hx hb dL_law_114 (by decide) ?_
        refine lv_iadd hx hb dL_law_115 ?_
        refine q_casti (y := 3) (by decide) ?_
        refine va_sld hx hb hX hbl hbA hS (vp_in_iff.mpr ⟨by decide, by decide⟩) dL_law_116 ?_
        have hPc := hP.sub (ws' := [(q13, .inr (3, [.int jbu_22, .ref bM_22, .ref bLo_22, .ref bS6_22, .ref bS7_22, .ref bKe_22, .ref bCo_22, .int 0, .int 25, .int 0, .int 0, .int 1, .int 0, .int 0, .ref bFr_22, .ref bSi_22, .ref bTo_22, .ref bSp_22, .ref bDo_22, .ref bRi_22, .ref bNf_22, .int 0, .ref bLd_22])), (bM_22, .inl (jM_22, 512, .inl (fun _ => 0)))]) [6, 7] rfl
        have hKc := hK.sub (tys' := [(jM_22, .int)]) [5] rfl
        have hDc := hD.sub (ws' := [(q13, .inr (3, [.int jbu_22, .ref bM_22, .ref bLo_22, .ref bS6_22, .ref bS7_22, .ref bKe_22, .ref bCo_22, .int 0, .int 25, .int 0, .int 0, .int 1, .int 0, .int 0, .ref bFr_22, .ref bSi_22, .ref bTo_22, .ref bSp_22, .ref bDo_22, .ref bRi_22, .ref bNf_22, .int 0, .ref bLd_22])), (bM_22, .inl (jM_22, 512, .inl (fun _ => 0)))]) [6, 7] (by decide) rfl
        have hFc := va_free (wc := [(q13, .inr (3, [.int jbu_22, .ref bM_22, .ref bLo_22, .ref bS6_22, .ref bS7_22, .ref bKe_22, .ref bCo_22, .int 0, .int 25, .int 0, .int 0, .int 1, .int 0, .int 0, .ref bFr_22, .ref bSi_22, .ref bTo_22, .ref bSp_22, .ref bDo_22, .ref bRi_22, .ref bNf_22, .int 0, .ref bLd_22])), (bM_22, .inl (jM_22, 512, .inl (fun _ => 0)))]) hD hS hA [6, 7] rfl
        refine va_calli (va_runV (As := [.int (xs (2 : Int32).toNatClampNeg), .int (xs (3 : Int32).toNatClampNeg)]) (rest := [.int r103]) ⟨hx, hb, hml, hown, htb⟩ (cM_poke l dC dI H.size q13 (xs (2 : Int32).toNatClampNeg) (xs (3 : Int32).toNatClampNeg) jbu_22 bM_22 bLo_22 bS6_22 bS7_22 bKe_22 bCo_22 0 25 0 0 1 0 0 bFr_22 bSi_22 bTo_22 bSp_22 bDo_22 bRi_22 bNf_22 0 bLd_22 jM_22 (fun _ => 0)) (cwV 2 htb (q_gV m2_156 m2_157 m2_158 m1_4 m2_159) rfl rfl rfl (by decide +kernel) ⟨Nat.le_of_ble_eq_true rfl, Nat.le_of_ble_eq_true rfl⟩) ⟨fun a U g mk q => by obtain ⟨q0, q1, qP, qK, qD⟩ := q; exact ⟨q0, q1, qP, va_K.moved (u := U) (U := U.calling g mk a) (Vm.Alike.refl U.vm) qK, qD⟩, va_recv (q0 := 6) hK hP (rfl : vwCl[3]? = some (RX3, TX3, 23)) rfl, fun U hU hW => ⟨rfl, by rw [hU], by rw [hU]; exact hPc, va_K.moved hW.alike hKc, hDc.weaken (fun _ _ _ _ => trivial)⟩⟩ rfl rfl hl.1 rfl (lv_room (Nat.le_of_ble_eq_true rfl)) dL_law_117 ⟨Nat.le_of_ble_eq_true rfl, Nat.le_of_ble_eq_true rfl⟩) hS (fun q _ h => hFc q h) hFc (fun r117 u t H1 locs ht hvm p117 hB hz1 hk1 hS => ?_)
        obtain ⟨wM2_117, rfl⟩ : ∃ z, z = u := ⟨_, rfl⟩
        obtain ⟨hP1, hK1, hD1⟩ := hB
        rw [ht] at hP1
        have hK1 := va_K.moved hvm.symm hK1
        try dsimp only at p117
        obtain ⟨hP, hD⟩ := va_join (wr := [(aB_9, .inr (0, [.ref aF_9, .int ius_9, .int 0])), (aR_9, .inl (kR_9, 22, .inl (fun _ => 0))), (aK_9, .inl (kK_9, 8, .inl (fun _ => 0))), (aL_9, .inl (kL_9, 8, .inl (fun _ => 0))), (aC_9, .inl (kC_9, 12, .inl (fun _ => 0))), (aF_9, .inl (kF_9, 49, .inl (fun _ => 0))), (bLo_22, .inl (jLo_22, 6, .inl (fun _ => 0))), (bS6_22, .inl (jS6_22, 6, .inl (fun _ => 0))), (bS7_22, .inl (jS7_22, 6, .inl (fun _ => 0))), (bKe_22, .inl (jKe_22, 6, .inl (fun _ => 0))), (bCo_22, .inl (jCo_22, 12, .inl (fun _ => 0))), (bFr_22, .inl (jFr_22, 8, .inl (fun _ => 0))), (bSi_22, .inl (jSi_22, 8, .inl (fun _ => 0))), (bTo_22, .inl (jTo_22, 8, .inl (fun _ => 0))), (bSp_22, .inl (jSp_22, 8, .inl (fun _ => 0))), (bDo_22, .inl (jDo_22, 8, .inl (fun _ => 0))), (bRi_22, .inl (jRi_22, 8, .inl (fun _ => 0))), (bNf_22, .inl (jNf_22, 8, .inl (fun _ => 0))), (bLd_22, .inl (jLd_22, 8, .inl (fun _ => 0))), (q0, .inr (2, [.ref aU_9, .ref aR_9, .ref aK_9, .ref aL_9, .int 0, .int 25, .int 0, .int 0, .int 1])), (aU_9, .inr (1, [.ref aM_9, .ref aC_9, .ref aB_9, .int 0])), (aM_9, .inl (kM_9, 512, .inl gM2_103))]) (w1 := [(q13, .inr (3, [.int jbu_22, .ref bM_22, .ref bLo_22, .ref bS6_22, .ref bS7_22, .ref bKe_22, .ref bCo_22, .int 0, .int 25, .int 0, .int 0, .int 1, .int 0, .int 0, .ref bFr_22, .ref bSi_22, .ref bTo_22, .ref bSp_22, .ref bDo_22, .ref bRi_22, .ref bNf_22, .int 0, .ref bLd_22])), (bM_22, .inl (jM_22, 512, .inl wM2_117))]) hP hD [6, 7] [0, 1, 2, 3, 4, 5, 8, 9, 10, 11, 12, 13, 14, 15, 16, 17, 18, 19, 20, 21, 22, 23] rfl rfl (by decide) (by decide) hk1 hFc hP1 hD1
        have hK := (hK.sub (tys' := [(kR_9, .int), (kK_9, .int), (kL_9, .int), (kC_9, .int), (kF_9, .int), (jLo_22, .int), (jS6_22, .int), (jS7_22, .int), (jKe_22, .int), (jCo_22, .int), (jFr_22, .int), (jSi_22, .int), (jTo_22, .int), (jSp_22, .int), (jDo_22, .int), (jRi_22, .int), (jNf_22, .int), (jLd_22, .int), (kM_9, .int)]) [0, 1, 2, 3, 4, 6, 7, 8, 9, 10, 11, 12, 13, 14, 15, 16, 17, 18, 19] rfl).app hK1
        generalize H1 = H at hP hS ⊢
        have hP : va_P (dC, dI) vwCl [(aB_9, .inr (0, [.ref aF_9, .int ius_9, .int 0])), (aR_9, .inl (kR_9, 22, .inl (fun _ => 0))), (aK_9, .inl (kK_9, 8, .inl (fun _ => 0))), (aL_9, .inl (kL_9, 8, .inl (fun _ => 0))), (aC_9, .inl (kC_9, 12, .inl (fun _ => 0))), (aF_9, .inl (kF_9, 49, .inl (fun _ => 0))), (bLo_22, .inl (jLo_22, 6, .inl (fun _ => 0))), (bS6_22, .inl (jS6_22, 6, .inl (fun _ => 0))), (bS7_22, .inl (jS7_22, 6, .inl (fun _ => 0))), (bKe_22, .inl (jKe_22, 6, .inl (fun _ => 0))), (bCo_22, .inl (jCo_22, 12, .inl (fun _ => 0))), (bFr_22, .inl (jFr_22, 8, .inl (fun _ => 0))), (bSi_22, .inl (jSi_22, 8, .inl (fun _ => 0))), (bTo_22, .inl (jTo_22, 8, .inl (fun _ => 0))), (bSp_22, .inl (jSp_22, 8, .inl (fun _ => 0))), (bDo_22, .inl (jDo_22, 8, .inl (fun _ => 0))), (bRi_22, .inl (jRi_22, 8, .inl (fun _ => 0))), (bNf_22, .inl (jNf_22, 8, .inl (fun _ => 0))), (bLd_22, .inl (jLd_22, 8, .inl (fun _ => 0))), (q0, .inr (2, [.ref aU_9, .ref aR_9, .ref aK_9, .ref aL_9, .int 0, .int 25, .int 0, .int 0, .int 1])), (aU_9, .inr (1, [.ref aM_9, .ref aC_9, .ref aB_9, .int 0])), (aM_9, .inl (kM_9, 512, .inl gM2_103)), (q13, .inr (3, [.int jbu_22, .ref bM_22, .ref bLo_22, .ref bS6_22, .ref bS7_22, .ref bKe_22, .ref bCo_22, .int 0, .int 25, .int 0, .int 0, .int 1, .int 0, .int 0, .ref bFr_22, .ref bSi_22, .ref bTo_22, .ref bSp_22, .ref bDo_22, .ref bRi_22, .ref bNf_22, .int 0, .ref bLd_22])), (bM_22, .inl (jM_22, 512, .inl wM2_117))] H := hP
        have hD : va_D A [(aB_9, .inr (0, [.ref aF_9, .int ius_9, .int 0])), (aR_9, .inl (kR_9, 22, .inl (fun _ => 0))), (aK_9, .inl (kK_9, 8, .inl (fun _ => 0))), (aL_9, .inl (kL_9, 8, .inl (fun _ => 0))), (aC_9, .inl (kC_9, 12, .inl (fun _ => 0))), (aF_9, .inl (kF_9, 49, .inl (fun _ => 0))), (bLo_22, .inl (jLo_22, 6, .inl (fun _ => 0))), (bS6_22, .inl (jS6_22, 6, .inl (fun _ => 0))), (bS7_22, .inl (jS7_22, 6, .inl (fun _ => 0))), (bKe_22, .inl (jKe_22, 6, .inl (fun _ => 0))), (bCo_22, .inl (jCo_22, 12, .inl (fun _ => 0))), (bFr_22, .inl (jFr_22, 8, .inl (fun _ => 0))), (bSi_22, .inl (jSi_22, 8, .inl (fun _ => 0))), (bTo_22, .inl (jTo_22, 8, .inl (fun _ => 0))), (bSp_22, .inl (jSp_22, 8, .inl (fun _ => 0))), (bDo_22, .inl (jDo_22, 8, .inl (fun _ => 0))), (bRi_22, .inl (jRi_22, 8, .inl (fun _ => 0))), (bNf_22, .inl (jNf_22, 8, .inl (fun _ => 0))), (bLd_22, .inl (jLd_22, 8, .inl (fun _ => 0))), (q0, .inr (2, [.ref aU_9, .ref aR_9, .ref aK_9, .ref aL_9, .int 0, .int 25, .int 0, .int 0, .int 1])), (aU_9, .inr (1, [.ref aM_9, .ref aC_9, .ref aB_9, .int 0])), (aM_9, .inl (kM_9, 512, .inl gM2_103)), (q13, .inr (3, [.int jbu_22, .ref bM_22, .ref bLo_22, .ref bS6_22, .ref bS7_22, .ref bKe_22, .ref bCo_22, .int 0, .int 25, .int 0, .int 0, .int 1, .int 0, .int 0, .ref bFr_22, .ref bSi_22, .ref bTo_22, .ref bSp_22, .ref bDo_22, .ref bRi_22, .ref bNf_22, .int 0, .ref bLd_22])), (bM_22, .inl (jM_22, 512, .inl wM2_117))] := hD
        have hK : va_K (dC, dI) vwCl [(kR_9, .int), (kK_9, .int), (kL_9, .int), (kC_9, .int), (kF_9, .int), (jLo_22, .int), (jS6_22, .int), (jS7_22, .int), (jKe_22, .int), (jCo_22, .int), (jFr_22, .int), (jSi_22, .int), (jTo_22, .int), (jSp_22, .int), (jDo_22, .int), (jRi_22, .int), (jNf_22, .int), (jLd_22, .int), (kM_9, .int), (jM_22, .int)] s := hK
        refine lv_icmp_eq (tgt := 433) hx hb dL_law_120 (by decide) (fun h120 => ?_) (fun h120 => ?_)
        · refine lv_iinc (k := 0) (v := 7) (lv' := [(3, .int 7), (2, .ref q13), (1, .ref q0), (0, .ref b)]) hx hb dL_law_433 hl rfl (by decide) (by decide) rfl (fun ls hl => ?_)
          refine lv_goto (tgt := 28) hx hb dL_law_436 (by decide) ?_
          refine lv_iload_n hx hb dL_law_28 rfl (lv_at hl 0 rfl) ?_
          refine lv_aload_n hx hb dL_law_29 rfl (lv_at hl 3 rfl) ?_
          refine va_slen hx hb hX hbl hbA hS dL_law_30 ?_
          refine q_casti (y := 7) (by decide) ?_
          refine lv_bipush (v := 6) hx hb dL_law_31 (by decide) ?_
          refine lv_isub hx hb dL_law_33 ?_
          refine q_casti (y := 1) (by decide) ?_
          refine lv_icmp_gt (tgt := 439) hx hb dL_law_34 (by decide) (fun h34_2 => ?_) (fun h34_2 => ?_)
          · refine lv_iconst (v := 1) hx hb dL_law_439 (by decide) ?_
            refine va_forget (fun q hq => hA2 _ (hS.2.2 q hq)) ?_
            refine W.widen (k := 24) (n := 1262) (Nat.le_of_ble_eq_true rfl) (Nat.le_of_ble_eq_true rfl) ?_
            exact lw_ret hx hb hr hlocks dL_law_440
          · exact absurd h34_2 (by decide)
        · exact absurd ((q_z0 p103).trans (q_z0 p117).symm) h120
      by_cases h43_1 : v42 = 1
      · refine lv_tableIn (off := 82) (tgt := 125) hx hb dL_law_43 (by rw [h43_1]; decide) (by rw [h43_1]; decide) (by rw [h43_1]; decide) (by decide) ?_
        refine lv_aload_n hx hb dL_law_125 rfl (lv_at hl 2 rfl) ?_
        refine lv_aload_n hx hb dL_law_126 rfl (lv_at hl 3 rfl) ?_
        refine lv_iload_n hx hb dL_law_127 rfl (lv_at hl 0 rfl) ?_
        refine lv_iconst (v := 1) hx hb dL_law_128 (by decide) ?_
        refine lv_iadd hx hb dL_law_129 ?_
        refine q_casti (y := 2) (by decide) ?_
        refine va_sld hx hb hX hbl hbA hS (vp_in_iff.mpr ⟨by decide, by decide⟩) dL_law_130 ?_
        refine lv_aload_n hx hb dL_law_131 rfl (lv_at hl 3 rfl) ?_
        refine lv_iload_n hx hb dL_law_132 rfl (lv_at hl 0 rfl) ?_
        refine lv_iconst (v := 2) hx hb dL_law_133 (by decide) ?_
        refine lv_iadd hx hb dL_law_134 ?_
        refine q_casti (y := 3) (by decide) ?_
        refine va_sld hx hb hX hbl hbA hS (vp_in_iff.mpr ⟨by decide, by decide⟩) dL_law_135 ?_
        refine lv_i2l hx hb dL_law_136 rfl ?_
        refine lv_topl (fun v136 e136 => ?_)
        refine lv_bipush (v := 32) hx hb dL_law_137 (by decide) ?_
        refine lv_lshl hx hb dL_law_139 rfl ?_
        refine lv_topl (fun v139 e139 => ?_)
        refine lv_aload_n hx hb dL_law_140 rfl (lv_at hl 3 rfl) ?_
        refine lv_iload_n hx hb dL_law_141 rfl (lv_at hl 0 rfl) ?_
        refine lv_iconst (v := 3) hx hb dL_law_142 (by decide) ?_
        refine lv_iadd hx hb dL_law_143 ?_
        refine q_casti (y := 4) (by decide) ?_
        refine va_sld hx hb hX hbl hbA hS (vp_in_iff.mpr ⟨by decide, by decide⟩) dL_law_144 ?_
        refine lv_i2l hx hb dL_law_145 rfl ?_
        refine lv_topl (fun v145 e145 => ?_)
        refine lv_ldc2 (v := 4294967295) hx hb hown (htb _ m3_68) dL_law_146 ?_
        refine lv_land hx hb dL_law_149 ?_
        refine lv_topl (fun v149 e149 => ?_)
        refine lv_lor hx hb dL_law_150 ?_
        refine lv_topl (fun v150 e150 => ?_)
        refine lv_aload_n hx hb dL_law_151 rfl (lv_at hl 3 rfl) ?_
        refine lv_iload_n hx hb dL_law_152 rfl (lv_at hl 0 rfl) ?_
        refine lv_iconst (v := 4) hx hb dL_law_153 (by decide) ?_
        refine lv_iadd hx hb dL_law_154 ?_
        refine q_casti (y := 5) (by decide) ?_
        refine va_sld hx hb hX hbl hbA hS (vp_in_iff.mpr ⟨by decide, by decide⟩) dL_law_155 ?_
        refine lv_i2l hx hb dL_law_156 rfl ?_
        refine lv_topl (fun v156 e156 => ?_)
        refine lv_bipush (v := 32) hx hb dL_law_157 (by decide) ?_
        refine lv_lshl hx hb dL_law_159 rfl ?_
        refine lv_topl (fun v159 e159 => ?_)
        refine lv_aload_n hx hb dL_law_160 rfl (lv_at hl 3 rfl) ?_
        refine lv_iload_n hx hb dL_law_161 rfl (lv_at hl 0 rfl) ?_
        refine lv_iconst (v := 5) hx hb dL_law_162 (by decide) ?_
        refine lv_iadd hx hb dL_law_163 ?_
        refine q_casti (y := 6) (by decide) ?_
        refine va_sld hx hb hX hbl hbA hS (vp_in_iff.mpr ⟨by decide, by decide⟩) dL_law_164 ?_
        refine lv_i2l hx hb dL_law_165 rfl ?_
        refine lv_topl (fun v165 e165 => ?_)
        refine lv_ldc2 (v := 4294967295) hx hb hown (htb _ m3_68) dL_law_166 ?_
        refine lv_land hx hb dL_law_169 ?_
        refine lv_topl (fun v169 e169 => ?_)
        refine lv_lor hx hb dL_law_170 ?_
        refine lv_topl (fun v170 e170 => ?_)
        have hPc := hP.sub (ws' := [(q0, .inr (2, [.ref aU_9, .ref aR_9, .ref aK_9, .ref aL_9, .int 0, .int 25, .int 0, .int 0, .int 1])), (aU_9, .inr (1, [.ref aM_9, .ref aC_9, .ref aB_9, .int 0])), (aM_9, .inl (kM_9, 512, .inl (fun _ => 0)))]) [0, 1, 6] rfl
        have hKc := hK.sub (tys' := [(kM_9, .int)]) [3] rfl
        have hDc := hD.sub (ws' := [(q0, .inr (2, [.ref aU_9, .ref aR_9, .ref aK_9, .ref aL_9, .int 0, .int 25, .int 0, .int 0, .int 1])), (aU_9, .inr (1, [.ref aM_9, .ref aC_9, .ref aB_9, .int 0])), (aM_9, .inl (kM_9, 512, .inl (fun _ => 0)))]) [0, 1, 6] (by decide) rfl
        have hFc := va_free (wc := [(q0, .inr (2, [.ref aU_9, .ref aR_9, .ref aK_9, .ref aL_9, .int 0, .int 25, .int 0, .int 0, .int 1])), (aU_9, .inr (1, [.ref aM_9, .ref aC_9, .ref aB_9, .int 0])), (aM_9, .inl (kM_9, 512, .inl (fun _ => 0)))]) hD hS hA [0, 1, 6] rfl
        refine va_calli (va_runV (As := [.int (xs (2 : Int32).toNatClampNeg), .long v150, .long v170]) (rest := []) ⟨hx, hb, hml, hown, htb⟩ (cX_fill l dC dI H.size q0 (xs (2 : Int32).toNatClampNeg) v150 v170 aU_9 aR_9 aK_9 aL_9 0 25 0 0 1 aM_9 aC_9 aB_9 0 kM_9 (fun _ => 0)) (cwV 3 htb (q_gV m1_88 m1_89 m1_90 m1_1 m1_91) rfl rfl rfl (by decide +kernel) ⟨Nat.le_of_ble_eq_true rfl, Nat.le_of_ble_eq_true rfl⟩) ⟨fun a U g mk q => by obtain ⟨q0, q1, qP, qK, qD, qN9⟩ := q; exact ⟨q0, q1, qP, va_K.moved (u := U) (U := U.calling g mk a) (Vm.Alike.refl U.vm) qK, qD, qN_same (s := U) (U := U.calling g mk a) rfl qN9⟩, va_recv (q0 := 0) hK hP (rfl : vwCl[2]? = some (RX2, TX2, 9)) rfl, fun U hU hW => ⟨rfl, by rw [hU], by rw [hU]; exact hPc, va_K.moved hW.alike hKc, hDc.weaken (fun _ _ _ _ => trivial), qN_warm hW hN⟩⟩ rfl rfl hl.1 rfl (lv_room (Nat.le_of_ble_eq_true rfl)) dL_law_171 ⟨Nat.le_of_ble_eq_true rfl, Nat.le_of_ble_eq_true rfl⟩) hS (fun q _ h => hFc q h) hFc (fun r171 u t H1 locs ht hvm p171 hB hz1 hk1 hS => ?_)
        obtain ⟨gM2_171, rfl⟩ : ∃ z, z = u := ⟨_, rfl⟩
        obtain ⟨hP1, hK1, hD1⟩ := hB
        rw [ht] at hP1
        have hK1 := va_K.moved hvm.symm hK1
        try dsimp only at p171
        obtain ⟨hP, hD⟩ := va_join (wr := [(aB_9, .inr (0, [.ref aF_9, .int ius_9, .int 0])), (aR_9, .inl (kR_9, 22, .inl (fun _ => 0))), (aK_9, .inl (kK_9, 8, .inl (fun _ => 0))), (aL_9, .inl (kL_9, 8, .inl (fun _ => 0))), (aC_9, .inl (kC_9, 12, .inl (fun _ => 0))), (aF_9, .inl (kF_9, 49, .inl (fun _ => 0))), (q13, .inr (3, [.int jbu_22, .ref bM_22, .ref bLo_22, .ref bS6_22, .ref bS7_22, .ref bKe_22, .ref bCo_22, .int 0, .int 25, .int 0, .int 0, .int 1, .int 0, .int 0, .ref bFr_22, .ref bSi_22, .ref bTo_22, .ref bSp_22, .ref bDo_22, .ref bRi_22, .ref bNf_22, .int 0, .ref bLd_22])), (bM_22, .inl (jM_22, 512, .inl (fun _ => 0))), (bLo_22, .inl (jLo_22, 6, .inl (fun _ => 0))), (bS6_22, .inl (jS6_22, 6, .inl (fun _ => 0))), (bS7_22, .inl (jS7_22, 6, .inl (fun _ => 0))), (bKe_22, .inl (jKe_22, 6, .inl (fun _ => 0))), (bCo_22, .inl (jCo_22, 12, .inl (fun _ => 0))), (bFr_22, .inl (jFr_22, 8, .inl (fun _ => 0))), (bSi_22, .inl (jSi_22, 8, .inl (fun _ => 0))), (bTo_22, .inl (jTo_22, 8, .inl (fun _ => 0))), (bSp_22, .inl (jSp_22, 8, .inl (fun _ => 0))), (bDo_22, .inl (jDo_22, 8, .inl (fun _ => 0))), (bRi_22, .inl (jRi_22, 8, .inl (fun _ => 0))), (bNf_22, .inl (jNf_22, 8, .inl (fun _ => 0))), (bLd_22, .inl (jLd_22, 8, .inl (fun _ => 0)))]) (w1 := [(q0, .inr (2, [.ref aU_9, .ref aR_9, .ref aK_9, .ref aL_9, .int 0, .int 25, .int 0, .int 0, .int 1])), (aU_9, .inr (1, [.ref aM_9, .ref aC_9, .ref aB_9, .int 0])), (aM_9, .inl (kM_9, 512, .inl gM2_171))]) hP hD [0, 1, 6] [2, 3, 4, 5, 7, 8, 9, 10, 11, 12, 13, 14, 15, 16, 17, 18, 19, 20, 21, 22, 23] rfl rfl (by decide) (by decide) hk1 hFc hP1 hD1
        have hK := (hK.sub (tys' := [(kR_9, .int), (kK_9, .int), (kL_9, .int), (kC_9, .int), (kF_9, .int), (jM_22, .int), (jLo_22, .int), (jS6_22, .int), (jS7_22, .int), (jKe_22, .int), (jCo_22, .int), (jFr_22, .int), (jSi_22, .int), (jTo_22, .int), (jSp_22, .int), (jDo_22, .int), (jRi_22, .int), (jNf_22, .int), (jLd_22, .int)]) [0, 1, 2, 4, 5, 6, 7, 8, 9, 10, 11, 12, 13, 14, 15, 16, 17, 18, 19] rfl).app hK1
        generalize H1 = H at hP hS ⊢
        have hP : va_P (dC, dI) vwCl [(aB_9, .inr (0, [.ref aF_9, .int ius_9, .int 0])), (aR_9, .inl (kR_9, 22, .inl (fun _ => 0))), (aK_9, .inl (kK_9, 8, .inl (fun _ => 0))), (aL_9, .inl (kL_9, 8, .inl (fun _ => 0))), (aC_9, .inl (kC_9, 12, .inl (fun _ => 0))), (aF_9, .inl (kF_9, 49, .inl (fun _ => 0))), (q13, .inr (3, [.int jbu_22, .ref bM_22, .ref bLo_22, .ref bS6_22, .ref bS7_22, .ref bKe_22, .ref bCo_22, .int 0, .int 25, .int 0, .int 0, .int 1, .int 0, .int 0, .ref bFr_22, .ref bSi_22, .ref bTo_22, .ref bSp_22, .ref bDo_22, .ref bRi_22, .ref bNf_22, .int 0, .ref bLd_22])), (bM_22, .inl (jM_22, 512, .inl (fun _ => 0))), (bLo_22, .inl (jLo_22, 6, .inl (fun _ => 0))), (bS6_22, .inl (jS6_22, 6, .inl (fun _ => 0))), (bS7_22, .inl (jS7_22, 6, .inl (fun _ => 0))), (bKe_22, .inl (jKe_22, 6, .inl (fun _ => 0))), (bCo_22, .inl (jCo_22, 12, .inl (fun _ => 0))), (bFr_22, .inl (jFr_22, 8, .inl (fun _ => 0))), (bSi_22, .inl (jSi_22, 8, .inl (fun _ => 0))), (bTo_22, .inl (jTo_22, 8, .inl (fun _ => 0))), (bSp_22, .inl (jSp_22, 8, .inl (fun _ => 0))), (bDo_22, .inl (jDo_22, 8, .inl (fun _ => 0))), (bRi_22, .inl (jRi_22, 8, .inl (fun _ => 0))), (bNf_22, .inl (jNf_22, 8, .inl (fun _ => 0))), (bLd_22, .inl (jLd_22, 8, .inl (fun _ => 0))), (q0, .inr (2, [.ref aU_9, .ref aR_9, .ref aK_9, .ref aL_9, .int 0, .int 25, .int 0, .int 0, .int 1])), (aU_9, .inr (1, [.ref aM_9, .ref aC_9, .ref aB_9, .int 0])), (aM_9, .inl (kM_9, 512, .inl gM2_171))] H := hP
        have hD : va_D A [(aB_9, .inr (0, [.ref aF_9, .int ius_9, .int 0])), (aR_9, .inl (kR_9, 22, .inl (fun _ => 0))), (aK_9, .inl (kK_9, 8, .inl (fun _ => 0))), (aL_9, .inl (kL_9, 8, .inl (fun _ => 0))), (aC_9, .inl (kC_9, 12, .inl (fun _ => 0))), (aF_9, .inl (kF_9, 49, .inl (fun _ => 0))), (q13, .inr (3, [.int jbu_22, .ref bM_22, .ref bLo_22, .ref bS6_22, .ref bS7_22, .ref bKe_22, .ref bCo_22, .int 0, .int 25, .int 0, .int 0, .int 1, .int 0, .int 0, .ref bFr_22, .ref bSi_22, .ref bTo_22, .ref bSp_22, .ref bDo_22, .ref bRi_22, .ref bNf_22, .int 0, .ref bLd_22])), (bM_22, .inl (jM_22, 512, .inl (fun _ => 0))), (bLo_22, .inl (jLo_22, 6, .inl (fun _ => 0))), (bS6_22, .inl (jS6_22, 6, .inl (fun _ => 0))), (bS7_22, .inl (jS7_22, 6, .inl (fun _ => 0))), (bKe_22, .inl (jKe_22, 6, .inl (fun _ => 0))), (bCo_22, .inl (jCo_22, 12, .inl (fun _ => 0))), (bFr_22, .inl (jFr_22, 8, .inl (fun _ => 0))), (bSi_22, .inl (jSi_22, 8, .inl (fun _ => 0))), (bTo_22, .inl (jTo_22, 8, .inl (fun _ => 0))), (bSp_22, .inl (jSp_22, 8, .inl (fun _ => 0))), (bDo_22, .inl (jDo_22, 8, .inl (fun _ => 0))), (bRi_22, .inl (jRi_22, 8, .inl (fun _ => 0))), (bNf_22, .inl (jNf_22, 8, .inl (fun _ => 0))), (bLd_22, .inl (jLd_22, 8, .inl (fun _ => 0))), (q0, .inr (2, [.ref aU_9, .ref aR_9, .ref aK_9, .ref aL_9, .int 0, .int 25, .int 0, .int 0, .int 1])), (aU_9, .inr (1, [.ref aM_9, .ref aC_9, .ref aB_9, .int 0])), (aM_9, .inl (kM_9, 512, .inl gM2_171))] := hD
        have hK : va_K (dC, dI) vwCl [(kR_9, .int), (kK_9, .int), (kL_9, .int), (kC_9, .int), (kF_9, .int), (jM_22, .int), (jLo_22, .int), (jS6_22, .int), (jS7_22, .int), (jKe_22, .int), (jCo_22, .int), (jFr_22, .int), (jSi_22, .int), (jTo_22, .int), (jSp_22, .int), (jDo_22, .int), (jRi_22, .int), (jNf_22, .int), (jLd_22, .int), (kM_9, .int)] s := hK
        refine lv_aload_n hx hb dL_law_174 rfl (lv_at hl 1 rfl) ?_
        refine lv_aload_n hx hb dL_law_175 rfl (lv_at hl 3 rfl) ?_
        refine lv_iload_n hx hb dL_law_176 rfl (lv_at hl 0 rfl) ?_
        refine lv_iconst (v := 1) hx hb dL_law_177 (by decide) ?_
        refine lv_iadd hx hb dL_law_178 ?_
        refine q_casti (y := 2) (by decide) ?_
        refine va_sld hx hb hX hbl hbA hS (vp_in_iff.mpr ⟨by decide, by decide⟩) dL_law_179 ?_
        refine lv_aload_n hx hb dL_law_180 rfl (lv_at hl 3 rfl) ?_
        refine lv_iload_n hx hb dL_law_181 rfl (lv_at hl 0 rfl) ?_
        refine lv_iconst (v := 2) hx hb dL_law_182 (by decide) ?_
        refine lv_iadd hx hb dL_law_183 ?_
        refine q_casti (y := 3) (by decide) ?_
        refine va_sld hx hb hX hbl hbA hS (vp_in_iff.mpr ⟨by decide, by decide⟩) dL_law_184 ?_
        refine lv_i2l hx hb dL_law_185 rfl ?_
        refine lv_topl (fun v185 e185 => ?_)
        refine lv_bipush (v := 32) hx hb dL_law_186 (by decide) ?_
        refine lv_lshl hx hb dL_law_188 rfl ?_
        refine lv_topl (fun v188 e188 => ?_)
        refine lv_aload_n hx hb dL_law_189 rfl (lv_at hl 3 rfl) ?_
        refine lv_iload_n hx hb dL_law_190 rfl (lv_at hl 0 rfl) ?_
        refine lv_iconst (v := 3) hx hb dL_law_191 (by decide) ?_
        refine lv_iadd hx hb dL_law_192 ?_
        refine q_casti (y := 4) (by decide) ?_
        refine va_sld hx hb hX hbl hbA hS (vp_in_iff.mpr ⟨by decide, by decide⟩) dL_law_193 ?_
        refine lv_i2l hx hb dL_law_194 rfl ?_
        refine lv_topl (fun v194 e194 => ?_)
        refine lv_ldc2 (v := 4294967295) hx hb hown (htb _ m3_68) dL_law_195 ?_
        refine lv_land hx hb dL_law_198 ?_
        refine lv_topl (fun v198 e198 => ?_)
        refine lv_lor hx hb dL_law_199 ?_
        refine lv_topl (fun v199 e199 => ?_)
        refine lv_aload_n hx hb dL_law_200 rfl (lv_at hl 3 rfl) ?_
        refine lv_iload_n hx hb dL_law_201 rfl (lv_at hl 0 rfl) ?_
        refine lv_iconst (v := 4) hx hb dL_law_202 (by decide) ?_
        refine lv_iadd hx hb dL_law_203 ?_
        refine q_casti (y := 5) (by decide) ?_
        refine va_sld hx hb hX hbl hbA hS (vp_in_iff.mpr ⟨by decide, by decide⟩) dL_law_204 ?_
        refine lv_i2l hx hb dL_law_205 rfl ?_
        refine lv_topl (fun v205 e205 => ?_)
        refine lv_bipush (v := 32) hx hb dL_law_206 (by decide) ?_
        refine lv_lshl hx hb dL_law_208 rfl ?_
        refine lv_topl (fun v208 e208 => ?_)
        refine lv_aload_n hx hb dL_law_209 rfl (lv_at hl 3 rfl) ?_
        refine lv_iload_n hx hb dL_law_210 rfl (lv_at hl 0 rfl) ?_
        refine lv_iconst (v := 5) hx hb dL_law_211 (by decide) ?_
        refine lv_iadd hx hb dL_law_212 ?_
        refine q_casti (y := 6) (by decide) ?_
        refine va_sld hx hb hX hbl hbA hS (vp_in_iff.mpr ⟨by decide, by decide⟩) dL_law_213 ?_
        refine lv_i2l hx hb dL_law_214 rfl ?_
        refine lv_topl (fun v214 e214 => ?_)
        refine lv_ldc2 (v := 4294967295) hx hb hown (htb _ m3_68) dL_law_215 ?_
        refine lv_land hx hb dL_law_218 ?_
        refine lv_topl (fun v218 e218 => ?_)
        refine lv_lor hx hb dL_law_219 ?_
        refine lv_topl (fun v219 e219 => ?_)
        have hPc := hP.sub (ws' := [(q13, .inr (3, [.int jbu_22, .ref bM_22, .ref bLo_22, .ref bS6_22, .ref bS7_22, .ref bKe_22, .ref bCo_22, .int 0, .int 25, .int 0, .int 0, .int 1, .int 0, .int 0, .ref bFr_22, .ref bSi_22, .ref bTo_22, .ref bSp_22, .ref bDo_22, .ref bRi_22, .ref bNf_22, .int 0, .ref bLd_22])), (bM_22, .inl (jM_22, 512, .inl (fun _ => 0)))]) [6, 7] rfl
        have hKc := hK.sub (tys' := [(jM_22, .int)]) [5] rfl
        have hDc := hD.sub (ws' := [(q13, .inr (3, [.int jbu_22, .ref bM_22, .ref bLo_22, .ref bS6_22, .ref bS7_22, .ref bKe_22, .ref bCo_22, .int 0, .int 25, .int 0, .int 0, .int 1, .int 0, .int 0, .ref bFr_22, .ref bSi_22, .ref bTo_22, .ref bSp_22, .ref bDo_22, .ref bRi_22, .ref bNf_22, .int 0, .ref bLd_22])), (bM_22, .inl (jM_22, 512, .inl (fun _ => 0)))]) [6, 7] (by decide) rfl
        have hFc := va_free (wc := [(q13, .inr (3, [.int jbu_22, .ref bM_22, .ref bLo_22, .ref bS6_22, .ref bS7_22, .ref bKe_22, .ref bCo_22, .int 0, .int 25, .int 0, .int 0, .int 1, .int 0, .int 0, .ref bFr_22, .ref bSi_22, .ref bTo_22, .ref bSp_22, .ref bDo_22, .ref bRi_22, .ref bNf_22, .int 0, .ref bLd_22])), (bM_22, .inl (jM_22, 512, .inl (fun _ => 0)))]) hD hS hA [6, 7] rfl
        refine va_calli (va_runV (As := [.int (xs (2 : Int32).toNatClampNeg), .long v199, .long v219]) (rest := [.int r171]) ⟨hx, hb, hml, hown, htb⟩ (cM_fill l dC dI H.size q13 (xs (2 : Int32).toNatClampNeg) v199 v219 jbu_22 bM_22 bLo_22 bS6_22 bS7_22 bKe_22 bCo_22 0 25 0 0 1 0 0 bFr_22 bSi_22 bTo_22 bSp_22 bDo_22 bRi_22 bNf_22 0 bLd_22 jM_22 (fun _ => 0)) (cwV 3 htb (q_gV m2_163 m2_164 m2_165 m1_4 m2_166) rfl rfl rfl (by decide +kernel) ⟨Nat.le_of_ble_eq_true rfl, Nat.le_of_ble_eq_true rfl⟩) ⟨fun a U g mk q => by obtain ⟨q0, q1, qP, qK, qD⟩ := q; exact ⟨q0, q1, qP, va_K.moved (u := U) (U := U.calling g mk a) (Vm.Alike.refl U.vm) qK, qD⟩, va_recv (q0 := 6) hK hP (rfl : vwCl[3]? = some (RX3, TX3, 23)) rfl, fun U hU hW => ⟨rfl, by rw [hU], by rw [hU]; exact hPc, va_K.moved hW.alike hKc, hDc.weaken (fun _ _ _ _ => trivial)⟩⟩ rfl rfl hl.1 rfl (lv_room (Nat.le_of_ble_eq_true rfl)) dL_law_220 ⟨Nat.le_of_ble_eq_true rfl, Nat.le_of_ble_eq_true rfl⟩) hS (fun q _ h => hFc q h) hFc (fun r220 u t H1 locs ht hvm p220 hB hz1 hk1 hS => ?_)
        obtain ⟨wM2_220, rfl⟩ : ∃ z, z = u := ⟨_, rfl⟩
        obtain ⟨hP1, hK1, hD1⟩ := hB
        rw [ht] at hP1
        have hK1 := va_K.moved hvm.symm hK1
        try dsimp only at p220
        obtain ⟨hP, hD⟩ := va_join (wr := [(aB_9, .inr (0, [.ref aF_9, .int ius_9, .int 0])), (aR_9, .inl (kR_9, 22, .inl (fun _ => 0))), (aK_9, .inl (kK_9, 8, .inl (fun _ => 0))), (aL_9, .inl (kL_9, 8, .inl (fun _ => 0))), (aC_9, .inl (kC_9, 12, .inl (fun _ => 0))), (aF_9, .inl (kF_9, 49, .inl (fun _ => 0))), (bLo_22, .inl (jLo_22, 6, .inl (fun _ => 0))), (bS6_22, .inl (jS6_22, 6, .inl (fun _ => 0))), (bS7_22, .inl (jS7_22, 6, .inl (fun _ => 0))), (bKe_22, .inl (jKe_22, 6, .inl (fun _ => 0))), (bCo_22, .inl (jCo_22, 12, .inl (fun _ => 0))), (bFr_22, .inl (jFr_22, 8, .inl (fun _ => 0))), (bSi_22, .inl (jSi_22, 8, .inl (fun _ => 0))), (bTo_22, .inl (jTo_22, 8, .inl (fun _ => 0))), (bSp_22, .inl (jSp_22, 8, .inl (fun _ => 0))), (bDo_22, .inl (jDo_22, 8, .inl (fun _ => 0))), (bRi_22, .inl (jRi_22, 8, .inl (fun _ => 0))), (bNf_22, .inl (jNf_22, 8, .inl (fun _ => 0))), (bLd_22, .inl (jLd_22, 8, .inl (fun _ => 0))), (q0, .inr (2, [.ref aU_9, .ref aR_9, .ref aK_9, .ref aL_9, .int 0, .int 25, .int 0, .int 0, .int 1])), (aU_9, .inr (1, [.ref aM_9, .ref aC_9, .ref aB_9, .int 0])), (aM_9, .inl (kM_9, 512, .inl gM2_171))]) (w1 := [(q13, .inr (3, [.int jbu_22, .ref bM_22, .ref bLo_22, .ref bS6_22, .ref bS7_22, .ref bKe_22, .ref bCo_22, .int 0, .int 25, .int 0, .int 0, .int 1, .int 0, .int 0, .ref bFr_22, .ref bSi_22, .ref bTo_22, .ref bSp_22, .ref bDo_22, .ref bRi_22, .ref bNf_22, .int 0, .ref bLd_22])), (bM_22, .inl (jM_22, 512, .inl wM2_220))]) hP hD [6, 7] [0, 1, 2, 3, 4, 5, 8, 9, 10, 11, 12, 13, 14, 15, 16, 17, 18, 19, 20, 21, 22, 23] rfl rfl (by decide) (by decide) hk1 hFc hP1 hD1
        have hK := (hK.sub (tys' := [(kR_9, .int), (kK_9, .int), (kL_9, .int), (kC_9, .int), (kF_9, .int), (jLo_22, .int), (jS6_22, .int), (jS7_22, .int), (jKe_22, .int), (jCo_22, .int), (jFr_22, .int), (jSi_22, .int), (jTo_22, .int), (jSp_22, .int), (jDo_22, .int), (jRi_22, .int), (jNf_22, .int), (jLd_22, .int), (kM_9, .int)]) [0, 1, 2, 3, 4, 6, 7, 8, 9, 10, 11, 12, 13, 14, 15, 16, 17, 18, 19] rfl).app hK1
        generalize H1 = H at hP hS ⊢
        have hP : va_P (dC, dI) vwCl [(aB_9, .inr (0, [.ref aF_9, .int ius_9, .int 0])), (aR_9, .inl (kR_9, 22, .inl (fun _ => 0))), (aK_9, .inl (kK_9, 8, .inl (fun _ => 0))), (aL_9, .inl (kL_9, 8, .inl (fun _ => 0))), (aC_9, .inl (kC_9, 12, .inl (fun _ => 0))), (aF_9, .inl (kF_9, 49, .inl (fun _ => 0))), (bLo_22, .inl (jLo_22, 6, .inl (fun _ => 0))), (bS6_22, .inl (jS6_22, 6, .inl (fun _ => 0))), (bS7_22, .inl (jS7_22, 6, .inl (fun _ => 0))), (bKe_22, .inl (jKe_22, 6, .inl (fun _ => 0))), (bCo_22, .inl (jCo_22, 12, .inl (fun _ => 0))), (bFr_22, .inl (jFr_22, 8, .inl (fun _ => 0))), (bSi_22, .inl (jSi_22, 8, .inl (fun _ => 0))), (bTo_22, .inl (jTo_22, 8, .inl (fun _ => 0))), (bSp_22, .inl (jSp_22, 8, .inl (fun _ => 0))), (bDo_22, .inl (jDo_22, 8, .inl (fun _ => 0))), (bRi_22, .inl (jRi_22, 8, .inl (fun _ => 0))), (bNf_22, .inl (jNf_22, 8, .inl (fun _ => 0))), (bLd_22, .inl (jLd_22, 8, .inl (fun _ => 0))), (q0, .inr (2, [.ref aU_9, .ref aR_9, .ref aK_9, .ref aL_9, .int 0, .int 25, .int 0, .int 0, .int 1])), (aU_9, .inr (1, [.ref aM_9, .ref aC_9, .ref aB_9, .int 0])), (aM_9, .inl (kM_9, 512, .inl gM2_171)), (q13, .inr (3, [.int jbu_22, .ref bM_22, .ref bLo_22, .ref bS6_22, .ref bS7_22, .ref bKe_22, .ref bCo_22, .int 0, .int 25, .int 0, .int 0, .int 1, .int 0, .int 0, .ref bFr_22, .ref bSi_22, .ref bTo_22, .ref bSp_22, .ref bDo_22, .ref bRi_22, .ref bNf_22, .int 0, .ref bLd_22])), (bM_22, .inl (jM_22, 512, .inl wM2_220))] H := hP
        have hD : va_D A [(aB_9, .inr (0, [.ref aF_9, .int ius_9, .int 0])), (aR_9, .inl (kR_9, 22, .inl (fun _ => 0))), (aK_9, .inl (kK_9, 8, .inl (fun _ => 0))), (aL_9, .inl (kL_9, 8, .inl (fun _ => 0))), (aC_9, .inl (kC_9, 12, .inl (fun _ => 0))), (aF_9, .inl (kF_9, 49, .inl (fun _ => 0))), (bLo_22, .inl (jLo_22, 6, .inl (fun _ => 0))), (bS6_22, .inl (jS6_22, 6, .inl (fun _ => 0))), (bS7_22, .inl (jS7_22, 6, .inl (fun _ => 0))), (bKe_22, .inl (jKe_22, 6, .inl (fun _ => 0))), (bCo_22, .inl (jCo_22, 12, .inl (fun _ => 0))), (bFr_22, .inl (jFr_22, 8, .inl (fun _ => 0))), (bSi_22, .inl (jSi_22, 8, .inl (fun _ => 0))), (bTo_22, .inl (jTo_22, 8, .inl (fun _ => 0))), (bSp_22, .inl (jSp_22, 8, .inl (fun _ => 0))), (bDo_22, .inl (jDo_22, 8, .inl (fun _ => 0))), (bRi_22, .inl (jRi_22, 8, .inl (fun _ => 0))), (bNf_22, .inl (jNf_22, 8, .inl (fun _ => 0))), (bLd_22, .inl (jLd_22, 8, .inl (fun _ => 0))), (q0, .inr (2, [.ref aU_9, .ref aR_9, .ref aK_9, .ref aL_9, .int 0, .int 25, .int 0, .int 0, .int 1])), (aU_9, .inr (1, [.ref aM_9, .ref aC_9, .ref aB_9, .int 0])), (aM_9, .inl (kM_9, 512, .inl gM2_171)), (q13, .inr (3, [.int jbu_22, .ref bM_22, .ref bLo_22, .ref bS6_22, .ref bS7_22, .ref bKe_22, .ref bCo_22, .int 0, .int 25, .int 0, .int 0, .int 1, .int 0, .int 0, .ref bFr_22, .ref bSi_22, .ref bTo_22, .ref bSp_22, .ref bDo_22, .ref bRi_22, .ref bNf_22, .int 0, .ref bLd_22])), (bM_22, .inl (jM_22, 512, .inl wM2_220))] := hD
        have hK : va_K (dC, dI) vwCl [(kR_9, .int), (kK_9, .int), (kL_9, .int), (kC_9, .int), (kF_9, .int), (jLo_22, .int), (jS6_22, .int), (jS7_22, .int), (jKe_22, .int), (jCo_22, .int), (jFr_22, .int), (jSi_22, .int), (jTo_22, .int), (jSp_22, .int), (jDo_22, .int), (jRi_22, .int), (jNf_22, .int), (jLd_22, .int), (kM_9, .int), (jM_22, .int)] s := hK
        refine lv_icmp_eq (tgt := 433) hx hb dL_law_223 (by decide) (fun h223 => ?_) (fun h223 => ?_)
        · refine lv_iinc (k := 0) (v := 7) (lv' := [(3, .int 7), (2, .ref q13), (1, .ref q0), (0, .ref b)]) hx hb dL_law_433 hl rfl (by decide) (by decide) rfl (fun ls hl => ?_)
          refine lv_goto (tgt := 28) hx hb dL_law_436 (by decide) ?_
          refine lv_iload_n hx hb dL_law_28 rfl (lv_at hl 0 rfl) ?_
          refine lv_aload_n hx hb dL_law_29 rfl (lv_at hl 3 rfl) ?_
          refine va_slen hx hb hX hbl hbA hS dL_law_30 ?_
          refine q_casti (y := 7) (by decide) ?_
          refine lv_bipush (v := 6) hx hb dL_law_31 (by decide) ?_
          refine lv_isub hx hb dL_law_33 ?_
          refine q_casti (y := 1) (by decide) ?_
          refine lv_icmp_gt (tgt := 439) hx hb dL_law_34 (by decide) (fun h34_2 => ?_) (fun h34_2 => ?_)
          · refine lv_iconst (v := 1) hx hb dL_law_439 (by decide) ?_
            refine va_forget (fun q hq => hA2 _ (hS.2.2 q hq)) ?_
            refine W.widen (k := 24) (n := 1262) (Nat.le_of_ble_eq_true rfl) (Nat.le_of_ble_eq_true rfl) ?_
            exact lw_ret hx hb hr hlocks dL_law_440
          · exact absurd h34_2 (by decide)
        · exact absurd (p171.trans p220.symm) h223
      by_cases h43_2 : v42 = 2
      · refine lv_tableIn (off := 185) (tgt := 228) hx hb dL_law_43 (by rw [h43_2]; decide) (by rw [h43_2]; decide) (by rw [h43_2]; decide) (by decide) ?_
        refine lv_aload_n hx hb dL_law_228 rfl (lv_at hl 2 rfl) ?_
        refine lv_aload_n hx hb dL_law_229 rfl (lv_at hl 3 rfl) ?_
        refine lv_iload_n hx hb dL_law_230 rfl (lv_at hl 0 rfl) ?_
        refine lv_iconst (v := 1) hx hb dL_law_231 (by decide) ?_
        refine lv_iadd hx hb dL_law_232 ?_
        refine q_casti (y := 2) (by decide) ?_
        refine va_sld hx hb hX hbl hbA hS (vp_in_iff.mpr ⟨by decide, by decide⟩) dL_law_233 ?_
        have hPc := hP.sub (ws' := [(q0, .inr (2, [.ref aU_9, .ref aR_9, .ref aK_9, .ref aL_9, .int 0, .int 25, .int 0, .int 0, .int 1])), (aU_9, .inr (1, [.ref aM_9, .ref aC_9, .ref aB_9, .int 0])), (aC_9, .inl (kC_9, 12, .inl (fun _ => 0))), (aB_9, .inr (0, [.ref aF_9, .int ius_9, .int 0]))]) [0, 1, 7, 2] rfl
        have hKc := hK.sub (tys' := [(kC_9, .int)]) [4] rfl
        have hDc := hD.sub (ws' := [(q0, .inr (2, [.ref aU_9, .ref aR_9, .ref aK_9, .ref aL_9, .int 0, .int 25, .int 0, .int 0, .int 1])), (aU_9, .inr (1, [.ref aM_9, .ref aC_9, .ref aB_9, .int 0])), (aC_9, .inl (kC_9, 12, .inl (fun _ => 0))), (aB_9, .inr (0, [.ref aF_9, .int ius_9, .int 0]))]) [0, 1, 7, 2] (by decide) rfl
        have hFc := va_free (wc := [(q0, .inr (2, [.ref aU_9, .ref aR_9, .ref aK_9, .ref aL_9, .int 0, .int 25, .int 0, .int 0, .int 1])), (aU_9, .inr (1, [.ref aM_9, .ref aC_9, .ref aB_9, .int 0])), (aC_9, .inl (kC_9, 12, .inl (fun _ => 0))), (aB_9, .inr (0, [.ref aF_9, .int ius_9, .int 0]))]) hD hS hA [0, 1, 7, 2] rfl
        refine va_callv (va_runV (As := [.int (xs (2 : Int32).toNatClampNeg)]) (rest := []) ⟨hx, hb, hml, hown, htb⟩ (cX_begin l dC dI H.size tB q0 (xs (2 : Int32).toNatClampNeg) aU_9 aR_9 aK_9 aL_9 0 25 0 0 1 aM_9 aC_9 aB_9 0 kC_9 (fun _ => 0) aF_9 ius_9 0) (cwV 1 htb (q_gV m1_93 m1_94 m1_95 m1_1 m1_96) rfl rfl rfl (by decide +kernel) ⟨Nat.le_of_ble_eq_true rfl, Nat.le_of_ble_eq_true rfl⟩) ⟨fun a U g mk q => by obtain ⟨q0, q1, qP, qK, qD, qN9, qZ0, qT0⟩ := q; exact ⟨q0, q1, qP, va_K.moved (u := U) (U := U.calling g mk a) (Vm.Alike.refl U.vm) qK, qD, qN_same (s := U) (U := U.calling g mk a) rfl qN9, va_Z.moved (u := U) (U := U.calling g mk a) (Vm.Alike.refl U.vm) qZ0, va_T.moved (u := U) (U := U.calling g mk a) (Vm.Alike.refl U.vm) qT0⟩, va_recv (q0 := 0) hK hP (rfl : vwCl[2]? = some (RX2, TX2, 9)) rfl, fun U hU hW => ⟨rfl, by rw [hU], by rw [hU]; exact hPc, va_K.moved hW.alike hKc, hDc.weaken (fun _ _ _ _ => trivial), qN_warm hW hN, by rw [hU]; exact ((hZB.kept hS.2.1).narrow hFc).moved hW.alike, by rw [hU]; exact ((hTB.kept hS.2.1).narrow hFc).moved hW.alike⟩⟩ rfl rfl hl.1 rfl (lv_room (Nat.le_of_ble_eq_true rfl)) dL_law_234 ⟨Nat.le_of_ble_eq_true rfl, Nat.le_of_ble_eq_true rfl⟩) hS (fun q _ h => hFc q h) hFc (fun u t H1 locs ht hvm p234 hB hz1 hk1 hS => ?_)
        obtain ⟨ipc2_234, gC2_234⟩ := u
        obtain ⟨hP1, hK1, hD1⟩ := hB
        rw [ht] at hP1
        have hK1 := va_K.moved hvm.symm hK1
        try dsimp only at p234
        obtain ⟨hP, hD⟩ := va_join (wr := [(aR_9, .inl (kR_9, 22, .inl (fun _ => 0))), (aK_9, .inl (kK_9, 8, .inl (fun _ => 0))), (aL_9, .inl (kL_9, 8, .inl (fun _ => 0))), (aM_9, .inl (kM_9, 512, .inl (fun _ => 0))), (aF_9, .inl (kF_9, 49, .inl (fun _ => 0))), (q13, .inr (3, [.int jbu_22, .ref bM_22, .ref bLo_22, .ref bS6_22, .ref bS7_22, .ref bKe_22, .ref bCo_22, .int 0, .int 25, .int 0, .int 0, .int 1, .int 0, .int 0, .ref bFr_22, .ref bSi_22, .ref bTo_22, .ref bSp_22, .ref bDo_22, .ref bRi_22, .ref bNf_22, .int 0, .ref bLd_22])), (bM_22, .inl (jM_22, 512, .inl (fun _ => 0))), (bLo_22, .inl (jLo_22, 6, .inl (fun _ => 0))), (bS6_22, .inl (jS6_22, 6, .inl (fun _ => 0))), (bS7_22, .inl (jS7_22, 6, .inl (fun _ => 0))), (bKe_22, .inl (jKe_22, 6, .inl (fun _ => 0))), (bCo_22, .inl (jCo_22, 12, .inl (fun _ => 0))), (bFr_22, .inl (jFr_22, 8, .inl (fun _ => 0))), (bSi_22, .inl (jSi_22, 8, .inl (fun _ => 0))), (bTo_22, .inl (jTo_22, 8, .inl (fun _ => 0))), (bSp_22, .inl (jSp_22, 8, .inl (fun _ => 0))), (bDo_22, .inl (jDo_22, 8, .inl (fun _ => 0))), (bRi_22, .inl (jRi_22, 8, .inl (fun _ => 0))), (bNf_22, .inl (jNf_22, 8, .inl (fun _ => 0))), (bLd_22, .inl (jLd_22, 8, .inl (fun _ => 0)))]) (w1 := [(q0, .inr (2, [.ref aU_9, .ref aR_9, .ref aK_9, .ref aL_9, .int ipc2_234, .int 25, .int 0, .int 0, .int 0])), (aU_9, .inr (1, [.ref aM_9, .ref aC_9, .ref aB_9, .int 0])), (aC_9, .inl (kC_9, 12, .inl gC2_234)), (aB_9, .inr (0, [.ref aF_9, .int ius_9, .int 0]))]) hP hD [0, 1, 7, 2] [3, 4, 5, 6, 8, 9, 10, 11, 12, 13, 14, 15, 16, 17, 18, 19, 20, 21, 22, 23] rfl rfl (by decide) (by decide) hk1 hFc hP1 hD1
        have hK := (hK.sub (tys' := [(kR_9, .int), (kK_9, .int), (kL_9, .int), (kM_9, .int), (kF_9, .int), (jM_22, .int), (jLo_22, .int), (jS6_22, .int), (jS7_22, .int), (jKe_22, .int), (jCo_22, .int), (jFr_22, .int), (jSi_22, .int), (jTo_22, .int), (jSp_22, .int), (jDo_22, .int), (jRi_22, .int), (jNf_22, .int), (jLd_22, .int)]) [0, 1, 2, 3, 5, 6, 7, 8, 9, 10, 11, 12, 13, 14, 15, 16, 17, 18, 19] rfl).app hK1
        generalize H1 = H at hP hS ⊢
        have hP : va_P (dC, dI) vwCl [(aR_9, .inl (kR_9, 22, .inl (fun _ => 0))), (aK_9, .inl (kK_9, 8, .inl (fun _ => 0))), (aL_9, .inl (kL_9, 8, .inl (fun _ => 0))), (aM_9, .inl (kM_9, 512, .inl (fun _ => 0))), (aF_9, .inl (kF_9, 49, .inl (fun _ => 0))), (q13, .inr (3, [.int jbu_22, .ref bM_22, .ref bLo_22, .ref bS6_22, .ref bS7_22, .ref bKe_22, .ref bCo_22, .int 0, .int 25, .int 0, .int 0, .int 1, .int 0, .int 0, .ref bFr_22, .ref bSi_22, .ref bTo_22, .ref bSp_22, .ref bDo_22, .ref bRi_22, .ref bNf_22, .int 0, .ref bLd_22])), (bM_22, .inl (jM_22, 512, .inl (fun _ => 0))), (bLo_22, .inl (jLo_22, 6, .inl (fun _ => 0))), (bS6_22, .inl (jS6_22, 6, .inl (fun _ => 0))), (bS7_22, .inl (jS7_22, 6, .inl (fun _ => 0))), (bKe_22, .inl (jKe_22, 6, .inl (fun _ => 0))), (bCo_22, .inl (jCo_22, 12, .inl (fun _ => 0))), (bFr_22, .inl (jFr_22, 8, .inl (fun _ => 0))), (bSi_22, .inl (jSi_22, 8, .inl (fun _ => 0))), (bTo_22, .inl (jTo_22, 8, .inl (fun _ => 0))), (bSp_22, .inl (jSp_22, 8, .inl (fun _ => 0))), (bDo_22, .inl (jDo_22, 8, .inl (fun _ => 0))), (bRi_22, .inl (jRi_22, 8, .inl (fun _ => 0))), (bNf_22, .inl (jNf_22, 8, .inl (fun _ => 0))), (bLd_22, .inl (jLd_22, 8, .inl (fun _ => 0))), (q0, .inr (2, [.ref aU_9, .ref aR_9, .ref aK_9, .ref aL_9, .int ipc2_234, .int 25, .int 0, .int 0, .int 0])), (aU_9, .inr (1, [.ref aM_9, .ref aC_9, .ref aB_9, .int 0])), (aC_9, .inl (kC_9, 12, .inl gC2_234)), (aB_9, .inr (0, [.ref aF_9, .int ius_9, .int 0]))] H := hP
        have hD : va_D A [(aR_9, .inl (kR_9, 22, .inl (fun _ => 0))), (aK_9, .inl (kK_9, 8, .inl (fun _ => 0))), (aL_9, .inl (kL_9, 8, .inl (fun _ => 0))), (aM_9, .inl (kM_9, 512, .inl (fun _ => 0))), (aF_9, .inl (kF_9, 49, .inl (fun _ => 0))), (q13, .inr (3, [.int jbu_22, .ref bM_22, .ref bLo_22, .ref bS6_22, .ref bS7_22, .ref bKe_22, .ref bCo_22, .int 0, .int 25, .int 0, .int 0, .int 1, .int 0, .int 0, .ref bFr_22, .ref bSi_22, .ref bTo_22, .ref bSp_22, .ref bDo_22, .ref bRi_22, .ref bNf_22, .int 0, .ref bLd_22])), (bM_22, .inl (jM_22, 512, .inl (fun _ => 0))), (bLo_22, .inl (jLo_22, 6, .inl (fun _ => 0))), (bS6_22, .inl (jS6_22, 6, .inl (fun _ => 0))), (bS7_22, .inl (jS7_22, 6, .inl (fun _ => 0))), (bKe_22, .inl (jKe_22, 6, .inl (fun _ => 0))), (bCo_22, .inl (jCo_22, 12, .inl (fun _ => 0))), (bFr_22, .inl (jFr_22, 8, .inl (fun _ => 0))), (bSi_22, .inl (jSi_22, 8, .inl (fun _ => 0))), (bTo_22, .inl (jTo_22, 8, .inl (fun _ => 0))), (bSp_22, .inl (jSp_22, 8, .inl (fun _ => 0))), (bDo_22, .inl (jDo_22, 8, .inl (fun _ => 0))), (bRi_22, .inl (jRi_22, 8, .inl (fun _ => 0))), (bNf_22, .inl (jNf_22, 8, .inl (fun _ => 0))), (bLd_22, .inl (jLd_22, 8, .inl (fun _ => 0))), (q0, .inr (2, [.ref aU_9, .ref aR_9, .ref aK_9, .ref aL_9, .int ipc2_234, .int 25, .int 0, .int 0, .int 0])), (aU_9, .inr (1, [.ref aM_9, .ref aC_9, .ref aB_9, .int 0])), (aC_9, .inl (kC_9, 12, .inl gC2_234)), (aB_9, .inr (0, [.ref aF_9, .int ius_9, .int 0]))] := hD
        have hK : va_K (dC, dI) vwCl [(kR_9, .int), (kK_9, .int), (kL_9, .int), (kM_9, .int), (kF_9, .int), (jM_22, .int), (jLo_22, .int), (jS6_22, .int), (jS7_22, .int), (jKe_22, .int), (jCo_22, .int), (jFr_22, .int), (jSi_22, .int), (jTo_22, .int), (jSp_22, .int), (jDo_22, .int), (jRi_22, .int), (jNf_22, .int), (jLd_22, .int), (kC_9, .int)] s := hK
        refine lv_aload_n hx hb dL_law_237 rfl (lv_at hl 1 rfl) ?_
        refine lv_aload_n hx hb dL_law_238 rfl (lv_at hl 3 rfl) ?_
        refine lv_iload_n hx hb dL_law_239 rfl (lv_at hl 0 rfl) ?_
        refine lv_iconst (v := 1) hx hb dL_law_240 (by decide) ?_
        refine lv_iadd hx hb dL_law_241 ?_
        refine q_casti (y := 2) (by decide) ?_
        refine va_sld hx hb hX hbl hbA hS (vp_in_iff.mpr ⟨by decide, by decide⟩) dL_law_242 ?_
        have hPc := hP.sub (ws' := [(q13, .inr (3, [.int jbu_22, .ref bM_22, .ref bLo_22, .ref bS6_22, .ref bS7_22, .ref bKe_22, .ref bCo_22, .int 0, .int 25, .int 0, .int 0, .int 1, .int 0, .int 0, .ref bFr_22, .ref bSi_22, .ref bTo_22, .ref bSp_22, .ref bDo_22, .ref bRi_22, .ref bNf_22, .int 0, .ref bLd_22])), (bCo_22, .inl (jCo_22, 12, .inl (fun _ => 0)))]) [5, 11] rfl
        have hKc := hK.sub (tys' := [(jCo_22, .int)]) [10] rfl
        have hDc := hD.sub (ws' := [(q13, .inr (3, [.int jbu_22, .ref bM_22, .ref bLo_22, .ref bS6_22, .ref bS7_22, .ref bKe_22, .ref bCo_22, .int 0, .int 25, .int 0, .int 0, .int 1, .int 0, .int 0, .ref bFr_22, .ref bSi_22, .ref bTo_22, .ref bSp_22, .ref bDo_22, .ref bRi_22, .ref bNf_22, .int 0, .ref bLd_22])), (bCo_22, .inl (jCo_22, 12, .inl (fun _ => 0)))]) [5, 11] (by decide) rfl
        have hFc := va_free (wc := [(q13, .inr (3, [.int jbu_22, .ref bM_22, .ref bLo_22, .ref bS6_22, .ref bS7_22, .ref bKe_22, .ref bCo_22, .int 0, .int 25, .int 0, .int 0, .int 1, .int 0, .int 0, .ref bFr_22, .ref bSi_22, .ref bTo_22, .ref bSp_22, .ref bDo_22, .ref bRi_22, .ref bNf_22, .int 0, .ref bLd_22])), (bCo_22, .inl (jCo_22, 12, .inl (fun _ => 0)))]) hD hS hA [5, 11] rfl
        refine va_callv (va_runV (As := [.int (xs (2 : Int32).toNatClampNeg)]) (rest := []) ⟨hx, hb, hml, hown, htb⟩ (cM_begin l dC dI H.size q13 (xs (2 : Int32).toNatClampNeg) jbu_22 bM_22 bLo_22 bS6_22 bS7_22 bKe_22 bCo_22 0 25 0 0 1 0 0 bFr_22 bSi_22 bTo_22 bSp_22 bDo_22 bRi_22 bNf_22 0 bLd_22 jCo_22 (fun _ => 0)) (cwV 1 htb (q_gV m2_168 m2_169 m2_170 m1_4 m2_171) rfl rfl rfl (by decide +kernel) ⟨Nat.le_of_ble_eq_true rfl, Nat.le_of_ble_eq_true rfl⟩) ⟨fun a U g mk q => by obtain ⟨q0, q1, qP, qK, qD⟩ := q; exact ⟨q0, q1, qP, va_K.moved (u := U) (U := U.calling g mk a) (Vm.Alike.refl U.vm) qK, qD⟩, va_recv (q0 := 5) hK hP (rfl : vwCl[3]? = some (RX3, TX3, 23)) rfl, fun U hU hW => ⟨rfl, by rw [hU], by rw [hU]; exact hPc, va_K.moved hW.alike hKc, hDc.weaken (fun _ _ _ _ => trivial)⟩⟩ rfl rfl hl.1 rfl (lv_room (Nat.le_of_ble_eq_true rfl)) dL_law_243 ⟨Nat.le_of_ble_eq_true rfl, Nat.le_of_ble_eq_true rfl⟩) hS (fun q _ h => hFc q h) hFc (fun u t H1 locs ht hvm p243 hB hz1 hk1 hS => ?_)
        obtain ⟨jpc2_243, wCo2_243⟩ := u
        obtain ⟨hP1, hK1, hD1⟩ := hB
        rw [ht] at hP1
        have hK1 := va_K.moved hvm.symm hK1
        try dsimp only at p243
        obtain ⟨hP, hD⟩ := va_join (wr := [(aR_9, .inl (kR_9, 22, .inl (fun _ => 0))), (aK_9, .inl (kK_9, 8, .inl (fun _ => 0))), (aL_9, .inl (kL_9, 8, .inl (fun _ => 0))), (aM_9, .inl (kM_9, 512, .inl (fun _ => 0))), (aF_9, .inl (kF_9, 49, .inl (fun _ => 0))), (bM_22, .inl (jM_22, 512, .inl (fun _ => 0))), (bLo_22, .inl (jLo_22, 6, .inl (fun _ => 0))), (bS6_22, .inl (jS6_22, 6, .inl (fun _ => 0))), (bS7_22, .inl (jS7_22, 6, .inl (fun _ => 0))), (bKe_22, .inl (jKe_22, 6, .inl (fun _ => 0))), (bFr_22, .inl (jFr_22, 8, .inl (fun _ => 0))), (bSi_22, .inl (jSi_22, 8, .inl (fun _ => 0))), (bTo_22, .inl (jTo_22, 8, .inl (fun _ => 0))), (bSp_22, .inl (jSp_22, 8, .inl (fun _ => 0))), (bDo_22, .inl (jDo_22, 8, .inl (fun _ => 0))), (bRi_22, .inl (jRi_22, 8, .inl (fun _ => 0))), (bNf_22, .inl (jNf_22, 8, .inl (fun _ => 0))), (bLd_22, .inl (jLd_22, 8, .inl (fun _ => 0))), (q0, .inr (2, [.ref aU_9, .ref aR_9, .ref aK_9, .ref aL_9, .int ipc2_234, .int 25, .int 0, .int 0, .int 0])), (aU_9, .inr (1, [.ref aM_9, .ref aC_9, .ref aB_9, .int 0])), (aC_9, .inl (kC_9, 12, .inl gC2_234)), (aB_9, .inr (0, [.ref aF_9, .int ius_9, .int 0]))]) (w1 := [(q13, .inr (3, [.int jbu_22, .ref bM_22, .ref bLo_22, .ref bS6_22, .ref bS7_22, .ref bKe_22, .ref bCo_22, .int jpc2_243, .int 25, .int 0, .int 0, .int 0, .int 0, .int 0, .ref bFr_22, .ref bSi_22, .ref bTo_22, .ref bSp_22, .ref bDo_22, .ref bRi_22, .ref bNf_22, .int 0, .ref bLd_22])), (bCo_22, .inl (jCo_22, 12, .inl wCo2_243))]) hP hD [5, 11] [0, 1, 2, 3, 4, 6, 7, 8, 9, 10, 12, 13, 14, 15, 16, 17, 18, 19, 20, 21, 22, 23] rfl rfl (by decide) (by decide) hk1 hFc hP1 hD1
        have hK := (hK.sub (tys' := [(kR_9, .int), (kK_9, .int), (kL_9, .int), (kM_9, .int), (kF_9, .int), (jM_22, .int), (jLo_22, .int), (jS6_22, .int), (jS7_22, .int), (jKe_22, .int), (jFr_22, .int), (jSi_22, .int), (jTo_22, .int), (jSp_22, .int), (jDo_22, .int), (jRi_22, .int), (jNf_22, .int), (jLd_22, .int), (kC_9, .int)]) [0, 1, 2, 3, 4, 5, 6, 7, 8, 9, 11, 12, 13, 14, 15, 16, 17, 18, 19] rfl).app hK1
        generalize H1 = H at hP hS ⊢
        have hP : va_P (dC, dI) vwCl [(aR_9, .inl (kR_9, 22, .inl (fun _ => 0))), (aK_9, .inl (kK_9, 8, .inl (fun _ => 0))), (aL_9, .inl (kL_9, 8, .inl (fun _ => 0))), (aM_9, .inl (kM_9, 512, .inl (fun _ => 0))), (aF_9, .inl (kF_9, 49, .inl (fun _ => 0))), (bM_22, .inl (jM_22, 512, .inl (fun _ => 0))), (bLo_22, .inl (jLo_22, 6, .inl (fun _ => 0))), (bS6_22, .inl (jS6_22, 6, .inl (fun _ => 0))), (bS7_22, .inl (jS7_22, 6, .inl (fun _ => 0))), (bKe_22, .inl (jKe_22, 6, .inl (fun _ => 0))), (bFr_22, .inl (jFr_22, 8, .inl (fun _ => 0))), (bSi_22, .inl (jSi_22, 8, .inl (fun _ => 0))), (bTo_22, .inl (jTo_22, 8, .inl (fun _ => 0))), (bSp_22, .inl (jSp_22, 8, .inl (fun _ => 0))), (bDo_22, .inl (jDo_22, 8, .inl (fun _ => 0))), (bRi_22, .inl (jRi_22, 8, .inl (fun _ => 0))), (bNf_22, .inl (jNf_22, 8, .inl (fun _ => 0))), (bLd_22, .inl (jLd_22, 8, .inl (fun _ => 0))), (q0, .inr (2, [.ref aU_9, .ref aR_9, .ref aK_9, .ref aL_9, .int ipc2_234, .int 25, .int 0, .int 0, .int 0])), (aU_9, .inr (1, [.ref aM_9, .ref aC_9, .ref aB_9, .int 0])), (aC_9, .inl (kC_9, 12, .inl gC2_234)), (aB_9, .inr (0, [.ref aF_9, .int ius_9, .int 0])), (q13, .inr (3, [.int jbu_22, .ref bM_22, .ref bLo_22, .ref bS6_22, .ref bS7_22, .ref bKe_22, .ref bCo_22, .int jpc2_243, .int 25, .int 0, .int 0, .int 0, .int 0, .int 0, .ref bFr_22, .ref bSi_22, .ref bTo_22, .ref bSp_22, .ref bDo_22, .ref bRi_22, .ref bNf_22, .int 0, .ref bLd_22])), (bCo_22, .inl (jCo_22, 12, .inl wCo2_243))] H := hP
        have hD : va_D A [(aR_9, .inl (kR_9, 22, .inl (fun _ => 0))), (aK_9, .inl (kK_9, 8, .inl (fun _ => 0))), (aL_9, .inl (kL_9, 8, .inl (fun _ => 0))), (aM_9, .inl (kM_9, 512, .inl (fun _ => 0))), (aF_9, .inl (kF_9, 49, .inl (fun _ => 0))), (bM_22, .inl (jM_22, 512, .inl (fun _ => 0))), (bLo_22, .inl (jLo_22, 6, .inl (fun _ => 0))), (bS6_22, .inl (jS6_22, 6, .inl (fun _ => 0))), (bS7_22, .inl (jS7_22, 6, .inl (fun _ => 0))), (bKe_22, .inl (jKe_22, 6, .inl (fun _ => 0))), (bFr_22, .inl (jFr_22, 8, .inl (fun _ => 0))), (bSi_22, .inl (jSi_22, 8, .inl (fun _ => 0))), (bTo_22, .inl (jTo_22, 8, .inl (fun _ => 0))), (bSp_22, .inl (jSp_22, 8, .inl (fun _ => 0))), (bDo_22, .inl (jDo_22, 8, .inl (fun _ => 0))), (bRi_22, .inl (jRi_22, 8, .inl (fun _ => 0))), (bNf_22, .inl (jNf_22, 8, .inl (fun _ => 0))), (bLd_22, .inl (jLd_22, 8, .inl (fun _ => 0))), (q0, .inr (2, [.ref aU_9, .ref aR_9, .ref aK_9, .ref aL_9, .int ipc2_234, .int 25, .int 0, .int 0, .int 0])), (aU_9, .inr (1, [.ref aM_9, .ref aC_9, .ref aB_9, .int 0])), (aC_9, .inl (kC_9, 12, .inl gC2_234)), (aB_9, .inr (0, [.ref aF_9, .int ius_9, .int 0])), (q13, .inr (3, [.int jbu_22, .ref bM_22, .ref bLo_22, .ref bS6_22, .ref bS7_22, .ref bKe_22, .ref bCo_22, .int jpc2_243, .int 25, .int 0, .int 0, .int 0, .int 0, .int 0, .ref bFr_22, .ref bSi_22, .ref bTo_22, .ref bSp_22, .ref bDo_22, .ref bRi_22, .ref bNf_22, .int 0, .ref bLd_22])), (bCo_22, .inl (jCo_22, 12, .inl wCo2_243))] := hD
        have hK : va_K (dC, dI) vwCl [(kR_9, .int), (kK_9, .int), (kL_9, .int), (kM_9, .int), (kF_9, .int), (jM_22, .int), (jLo_22, .int), (jS6_22, .int), (jS7_22, .int), (jKe_22, .int), (jFr_22, .int), (jSi_22, .int), (jTo_22, .int), (jSp_22, .int), (jDo_22, .int), (jRi_22, .int), (jNf_22, .int), (jLd_22, .int), (kC_9, .int), (jCo_22, .int)] s := hK
        refine lv_goto (tgt := 433) hx hb dL_law_246 (by decide) ?_
        refine lv_iinc (k := 0) (v := 7) (lv' := [(3, .int 7), (2, .ref q13), (1, .ref q0), (0, .ref b)]) hx hb dL_law_433 hl rfl (by decide) (by decide) rfl (fun ls hl => ?_)
        refine lv_goto (tgt := 28) hx hb dL_law_436 (by decide) ?_
        refine lv_iload_n hx hb dL_law_28 rfl (lv_at hl 0 rfl) ?_
        refine lv_aload_n hx hb dL_law_29 rfl (lv_at hl 3 rfl) ?_
        refine va_slen hx hb hX hbl hbA hS dL_law_30 ?_
        refine q_casti (y := 7) (by decide) ?_
        refine lv_bipush (v := 6) hx hb dL_law_31 (by decide) ?_
        refine lv_isub hx hb dL_law_33 ?_
        refine q_casti (y := 1) (by decide) ?_
        refine lv_icmp_gt (tgt := 439) hx hb dL_law_34 (by decide) (fun h34_2 => ?_) (fun h34_2 => ?_)
        · refine lv_iconst (v := 1) hx hb dL_law_439 (by decide) ?_
          refine va_forget (fun q hq => hA2 _ (hS.2.2 q hq)) ?_
          refine W.widen (k := 24) (n := 1262) (Nat.le_of_ble_eq_true rfl) (Nat.le_of_ble_eq_true rfl) ?_
          exact lw_ret hx hb hr hlocks dL_law_440
        · exact absurd h34_2 (by decide)
      by_cases h43_3 : v42 = 3
      · refine lv_tableIn (off := 206) (tgt := 249) hx hb dL_law_43 (by rw [h43_3]; decide) (by rw [h43_3]; decide) (by rw [h43_3]; decide) (by decide) ?_
        refine lv_aload_n hx hb dL_law_249 rfl (lv_at hl 2 rfl) ?_
        refine lv_aload_n hx hb dL_law_250 rfl (lv_at hl 3 rfl) ?_
        refine lv_iload_n hx hb dL_law_251 rfl (lv_at hl 0 rfl) ?_
        refine lv_iconst (v := 1) hx hb dL_law_252 (by decide) ?_
        refine lv_iadd hx hb dL_law_253 ?_
        refine q_casti (y := 2) (by decide) ?_
        refine va_sld hx hb hX hbl hbA hS (vp_in_iff.mpr ⟨by decide, by decide⟩) dL_law_254 ?_
        refine lv_aload_n hx hb dL_law_255 rfl (lv_at hl 3 rfl) ?_
        refine lv_iload_n hx hb dL_law_256 rfl (lv_at hl 0 rfl) ?_
        refine lv_iconst (v := 2) hx hb dL_law_257 (by decide) ?_
        refine lv_iadd hx hb dL_law_258 ?_
        refine q_casti (y := 3) (by decide) ?_
        refine va_sld hx hb hX hbl hbA hS (vp_in_iff.mpr ⟨by decide, by decide⟩) dL_law_259 ?_
        have hPc := hP.sub (ws' := [(q0, .inr (2, [.ref aU_9, .ref aR_9, .ref aK_9, .ref aL_9, .int 0, .int 25, .int 0, .int 0, .int 1])), (aR_9, .inl (kR_9, 22, .inl (fun _ => 0)))]) [0, 3] rfl
        have hKc := hK.sub (tys' := [(kR_9, .int)]) [0] rfl
        have hDc := hD.sub (ws' := [(q0, .inr (2, [.ref aU_9, .ref aR_9, .ref aK_9, .ref aL_9, .int 0, .int 25, .int 0, .int 0, .int 1])), (aR_9, .inl (kR_9, 22, .inl (fun _ => 0)))]) [0, 3] (by decide) rfl
        have hFc := va_free (wc := [(q0, .inr (2, [.ref aU_9, .ref aR_9, .ref aK_9, .ref aL_9, .int 0, .int 25, .int 0, .int 0, .int 1])), (aR_9, .inl (kR_9, 22, .inl (fun _ => 0)))]) hD hS hA [0, 3] rfl
        refine va_calli (va_runV (As := [.int (xs (2 : Int32).toNatClampNeg), .int (xs (3 : Int32).toNatClampNeg)]) (rest := []) ⟨hx, hb, hml, hown, htb⟩ (cX_set l dC dI H.size q0 (xs (2 : Int32).toNatClampNeg) (xs (3 : Int32).toNatClampNeg) aU_9 aR_9 aK_9 aL_9 0 25 0 0 1 kR_9 (fun _ => 0)) (cwV 2 htb (q_gV m1_107 m1_108 m1_109 m1_1 m1_110) rfl rfl rfl (by decide +kernel) ⟨Nat.le_of_ble_eq_true rfl, Nat.le_of_ble_eq_true rfl⟩) ⟨fun a U g mk q => by obtain ⟨q0, q1, qP, qK, qD, qN9⟩ := q; exact ⟨q0, q1, qP, va_K.moved (u := U) (U := U.calling g mk a) (Vm.Alike.refl U.vm) qK, qD, qN_same (s := U) (U := U.calling g mk a) rfl qN9⟩, va_recv (q0 := 0) hK hP (rfl : vwCl[2]? = some (RX2, TX2, 9)) rfl, fun U hU hW => ⟨rfl, by rw [hU], by rw [hU]; exact hPc, va_K.moved hW.alike hKc, hDc.weaken (fun _ _ _ _ => trivial), qN_warm hW hN⟩⟩ rfl rfl hl.1 rfl (lv_room (Nat.le_of_ble_eq_true rfl)) dL_law_260 ⟨Nat.le_of_ble_eq_true rfl, Nat.le_of_ble_eq_true rfl⟩) hS (fun q _ h => hFc q h) hFc (fun r260 u t H1 locs ht hvm p260 hB hz1 hk1 hS => ?_)
        obtain ⟨gR2_260, rfl⟩ : ∃ z, z = u := ⟨_, rfl⟩
        obtain ⟨hP1, hK1, hD1⟩ := hB
        rw [ht] at hP1
        have hK1 := va_K.moved hvm.symm hK1
        try dsimp only at p260
        obtain ⟨hP, hD⟩ := va_join (wr := [(aU_9, .inr (1, [.ref aM_9, .ref aC_9, .ref aB_9, .int 0])), (aB_9, .inr (0, [.ref aF_9, .int ius_9, .int 0])), (aK_9, .inl (kK_9, 8, .inl (fun _ => 0))), (aL_9, .inl (kL_9, 8, .inl (fun _ => 0))), (aM_9, .inl (kM_9, 512, .inl (fun _ => 0))), (aC_9, .inl (kC_9, 12, .inl (fun _ => 0))), (aF_9, .inl (kF_9, 49, .inl (fun _ => 0))), (q13, .inr (3, [.int jbu_22, .ref bM_22, .ref bLo_22, .ref bS6_22, .ref bS7_22, .ref bKe_22, .ref bCo_22, .int 0, .int 25, .int 0, .int 0, .int 1, .int 0, .int 0, .ref bFr_22, .ref bSi_22, .ref bTo_22, .ref bSp_22, .ref bDo_22, .ref bRi_22, .ref bNf_22, .int 0, .ref bLd_22])), (bM_22, .inl (jM_22, 512, .inl (fun _ => 0))), (bLo_22, .inl (jLo_22, 6, .inl (fun _ => 0))), (bS6_22, .inl (jS6_22, 6, .inl (fun _ => 0))), (bS7_22, .inl (jS7_22, 6, .inl (fun _ => 0))), (bKe_22, .inl (jKe_22, 6, .inl (fun _ => 0))), (bCo_22, .inl (jCo_22, 12, .inl (fun _ => 0))), (bFr_22, .inl (jFr_22, 8, .inl (fun _ => 0))), (bSi_22, .inl (jSi_22, 8, .inl (fun _ => 0))), (bTo_22, .inl (jTo_22, 8, .inl (fun _ => 0))), (bSp_22, .inl (jSp_22, 8, .inl (fun _ => 0))), (bDo_22, .inl (jDo_22, 8, .inl (fun _ => 0))), (bRi_22, .inl (jRi_22, 8, .inl (fun _ => 0))), (bNf_22, .inl (jNf_22, 8, .inl (fun _ => 0))), (bLd_22, .inl (jLd_22, 8, .inl (fun _ => 0)))]) (w1 := [(q0, .inr (2, [.ref aU_9, .ref aR_9, .ref aK_9, .ref aL_9, .int 0, .int 25, .int 0, .int 0, .int 1])), (aR_9, .inl (kR_9, 22, .inl gR2_260))]) hP hD [0, 3] [1, 2, 4, 5, 6, 7, 8, 9, 10, 11, 12, 13, 14, 15, 16, 17, 18, 19, 20, 21, 22, 23] rfl rfl (by decide) (by decide) hk1 hFc hP1 hD1
        have hK := (hK.sub (tys' := [(kK_9, .int), (kL_9, .int), (kM_9, .int), (kC_9, .int), (kF_9, .int), (jM_22, .int), (jLo_22, .int), (jS6_22, .int), (jS7_22, .int), (jKe_22, .int), (jCo_22, .int), (jFr_22, .int), (jSi_22, .int), (jTo_22, .int), (jSp_22, .int), (jDo_22, .int), (jRi_22, .int), (jNf_22, .int), (jLd_22, .int)]) [1, 2, 3, 4, 5, 6, 7, 8, 9, 10, 11, 12, 13, 14, 15, 16, 17, 18, 19] rfl).app hK1
        generalize H1 = H at hP hS ⊢
        have hP : va_P (dC, dI) vwCl [(aU_9, .inr (1, [.ref aM_9, .ref aC_9, .ref aB_9, .int 0])), (aB_9, .inr (0, [.ref aF_9, .int ius_9, .int 0])), (aK_9, .inl (kK_9, 8, .inl (fun _ => 0))), (aL_9, .inl (kL_9, 8, .inl (fun _ => 0))), (aM_9, .inl (kM_9, 512, .inl (fun _ => 0))), (aC_9, .inl (kC_9, 12, .inl (fun _ => 0))), (aF_9, .inl (kF_9, 49, .inl (fun _ => 0))), (q13, .inr (3, [.int jbu_22, .ref bM_22, .ref bLo_22, .ref bS6_22, .ref bS7_22, .ref bKe_22, .ref bCo_22, .int 0, .int 25, .int 0, .int 0, .int 1, .int 0, .int 0, .ref bFr_22, .ref bSi_22, .ref bTo_22, .ref bSp_22, .ref bDo_22, .ref bRi_22, .ref bNf_22, .int 0, .ref bLd_22])), (bM_22, .inl (jM_22, 512, .inl (fun _ => 0))), (bLo_22, .inl (jLo_22, 6, .inl (fun _ => 0))), (bS6_22, .inl (jS6_22, 6, .inl (fun _ => 0))), (bS7_22, .inl (jS7_22, 6, .inl (fun _ => 0))), (bKe_22, .inl (jKe_22, 6, .inl (fun _ => 0))), (bCo_22, .inl (jCo_22, 12, .inl (fun _ => 0))), (bFr_22, .inl (jFr_22, 8, .inl (fun _ => 0))), (bSi_22, .inl (jSi_22, 8, .inl (fun _ => 0))), (bTo_22, .inl (jTo_22, 8, .inl (fun _ => 0))), (bSp_22, .inl (jSp_22, 8, .inl (fun _ => 0))), (bDo_22, .inl (jDo_22, 8, .inl (fun _ => 0))), (bRi_22, .inl (jRi_22, 8, .inl (fun _ => 0))), (bNf_22, .inl (jNf_22, 8, .inl (fun _ => 0))), (bLd_22, .inl (jLd_22, 8, .inl (fun _ => 0))), (q0, .inr (2, [.ref aU_9, .ref aR_9, .ref aK_9, .ref aL_9, .int 0, .int 25, .int 0, .int 0, .int 1])), (aR_9, .inl (kR_9, 22, .inl gR2_260))] H := hP
        have hD : va_D A [(aU_9, .inr (1, [.ref aM_9, .ref aC_9, .ref aB_9, .int 0])), (aB_9, .inr (0, [.ref aF_9, .int ius_9, .int 0])), (aK_9, .inl (kK_9, 8, .inl (fun _ => 0))), (aL_9, .inl (kL_9, 8, .inl (fun _ => 0))), (aM_9, .inl (kM_9, 512, .inl (fun _ => 0))), (aC_9, .inl (kC_9, 12, .inl (fun _ => 0))), (aF_9, .inl (kF_9, 49, .inl (fun _ => 0))), (q13, .inr (3, [.int jbu_22, .ref bM_22, .ref bLo_22, .ref bS6_22, .ref bS7_22, .ref bKe_22, .ref bCo_22, .int 0, .int 25, .int 0, .int 0, .int 1, .int 0, .int 0, .ref bFr_22, .ref bSi_22, .ref bTo_22, .ref bSp_22, .ref bDo_22, .ref bRi_22, .ref bNf_22, .int 0, .ref bLd_22])), (bM_22, .inl (jM_22, 512, .inl (fun _ => 0))), (bLo_22, .inl (jLo_22, 6, .inl (fun _ => 0))), (bS6_22, .inl (jS6_22, 6, .inl (fun _ => 0))), (bS7_22, .inl (jS7_22, 6, .inl (fun _ => 0))), (bKe_22, .inl (jKe_22, 6, .inl (fun _ => 0))), (bCo_22, .inl (jCo_22, 12, .inl (fun _ => 0))), (bFr_22, .inl (jFr_22, 8, .inl (fun _ => 0))), (bSi_22, .inl (jSi_22, 8, .inl (fun _ => 0))), (bTo_22, .inl (jTo_22, 8, .inl (fun _ => 0))), (bSp_22, .inl (jSp_22, 8, .inl (fun _ => 0))), (bDo_22, .inl (jDo_22, 8, .inl (fun _ => 0))), (bRi_22, .inl (jRi_22, 8, .inl (fun _ => 0))), (bNf_22, .inl (jNf_22, 8, .inl (fun _ => 0))), (bLd_22, .inl (jLd_22, 8, .inl (fun _ => 0))), (q0, .inr (2, [.ref aU_9, .ref aR_9, .ref aK_9, .ref aL_9, .int 0, .int 25, .int 0, .int 0, .int 1])), (aR_9, .inl (kR_9, 22, .inl gR2_260))] := hD
        have hK : va_K (dC, dI) vwCl [(kK_9, .int), (kL_9, .int), (kM_9, .int), (kC_9, .int), (kF_9, .int), (jM_22, .int), (jLo_22, .int), (jS6_22, .int), (jS7_22, .int), (jKe_22, .int), (jCo_22, .int), (jFr_22, .int), (jSi_22, .int), (jTo_22, .int), (jSp_22, .int), (jDo_22, .int), (jRi_22, .int), (jNf_22, .int), (jLd_22, .int), (kR_9, .int)] s := hK
        refine lv_aload_n hx hb dL_law_263 rfl (lv_at hl 1 rfl) ?_
        refine lv_aload_n hx hb dL_law_264 rfl (lv_at hl 3 rfl) ?_
        refine lv_iload_n hx hb dL_law_265 rfl (lv_at hl 0 rfl) ?_
        refine lv_iconst (v := 1) hx hb dL_law_266 (by decide) ?_
        refine lv_iadd hx hb dL_law_267 ?_
        refine q_casti (y := 2) (by decide) ?_
        refine va_sld hx hb hX hbl hbA hS (vp_in_iff.mpr ⟨by decide, by decide⟩) dL_law_268 ?_
        refine lv_aload_n hx hb dL_law_269 rfl (lv_at hl 3 rfl) ?_
        refine lv_iload_n hx hb dL_law_270 rfl (lv_at hl 0 rfl) ?_
        refine lv_iconst (v := 2) hx hb dL_law_271 (by decide) ?_
        refine lv_iadd hx hb dL_law_272 ?_
        refine q_casti (y := 3) (by decide) ?_
        refine va_sld hx hb hX hbl hbA hS (vp_in_iff.mpr ⟨by decide, by decide⟩) dL_law_273 ?_
        have hPc := hP.sub (ws' := [(q13, .inr (3, [.int jbu_22, .ref bM_22, .ref bLo_22, .ref bS6_22, .ref bS7_22, .ref bKe_22, .ref bCo_22, .int 0, .int 25, .int 0, .int 0, .int 1, .int 0, .int 0, .ref bFr_22, .ref bSi_22, .ref bTo_22, .ref bSp_22, .ref bDo_22, .ref bRi_22, .ref bNf_22, .int 0, .ref bLd_22])), (bLo_22, .inl (jLo_22, 6, .inl (fun _ => 0))), (bS6_22, .inl (jS6_22, 6, .inl (fun _ => 0))), (bS7_22, .inl (jS7_22, 6, .inl (fun _ => 0)))]) [7, 9, 10, 11] rfl
        have hKc := hK.sub (tys' := [(jLo_22, .int), (jS6_22, .int), (jS7_22, .int)]) [6, 7, 8] rfl
        have hDc := hD.sub (ws' := [(q13, .inr (3, [.int jbu_22, .ref bM_22, .ref bLo_22, .ref bS6_22, .ref bS7_22, .ref bKe_22, .ref bCo_22, .int 0, .int 25, .int 0, .int 0, .int 1, .int 0, .int 0, .ref bFr_22, .ref bSi_22, .ref bTo_22, .ref bSp_22, .ref bDo_22, .ref bRi_22, .ref bNf_22, .int 0, .ref bLd_22])), (bLo_22, .inl (jLo_22, 6, .inl (fun _ => 0))), (bS6_22, .inl (jS6_22, 6, .inl (fun _ => 0))), (bS7_22, .inl (jS7_22, 6, .inl (fun _ => 0)))]) [7, 9, 10, 11] (by decide) rfl
        have hFc := va_free (wc := [(q13, .inr (3, [.int jbu_22, .ref bM_22, .ref bLo_22, .ref bS6_22, .ref bS7_22, .ref bKe_22, .ref bCo_22, .int 0, .int 25, .int 0, .int 0, .int 1, .int 0, .int 0, .ref bFr_22, .ref bSi_22, .ref bTo_22, .ref bSp_22, .ref bDo_22, .ref bRi_22, .ref bNf_22, .int 0, .ref bLd_22])), (bLo_22, .inl (jLo_22, 6, .inl (fun _ => 0))), (bS6_22, .inl (jS6_22, 6, .inl (fun _ => 0))), (bS7_22, .inl (jS7_22, 6, .inl (fun _ => 0)))]) hD hS hA [7, 9, 10, 11] rfl
        refine va_calli (va_runV (As := [.int (xs (2 : Int32).toNatClampNeg), .int (xs (3 : Int32).toNatClampNeg)]) (rest := [.int r260]) ⟨hx, hb, hml, hown, htb⟩ (cM_set l dC dI H.size q13 (xs (2 : Int32).toNatClampNeg) (xs (3 : Int32).toNatClampNeg) jbu_22 bM_22 bLo_22 bS6_22 bS7_22 bKe_22 bCo_22 0 25 0 0 1 0 0 bFr_22 bSi_22 bTo_22 bSp_22 bDo_22 bRi_22 bNf_22 0 bLd_22 jLo_22 (fun _ => 0) jS6_22 (fun _ => 0) jS7_22 (fun _ => 0) ⟨by decide, by decide⟩) (cwV 2 htb (q_gV m2_172 m2_173 m2_174 m1_4 m2_175) rfl rfl rfl (by decide +kernel) ⟨Nat.le_of_ble_eq_true rfl, Nat.le_of_ble_eq_true rfl⟩) ⟨fun a U g mk q => by obtain ⟨q0, q1, qP, qK, qD⟩ := q; exact ⟨q0, q1, qP, va_K.moved (u := U) (U := U.calling g mk a) (Vm.Alike.refl U.vm) qK, qD⟩, va_recv (q0 := 7) hK hP (rfl : vwCl[3]? = some (RX3, TX3, 23)) rfl, fun U hU hW => ⟨rfl, by rw [hU], by rw [hU]; exact hPc, va_K.moved hW.alike hKc, hDc.weaken (fun _ _ _ _ => trivial)⟩⟩ rfl rfl hl.1 rfl (lv_room (Nat.le_of_ble_eq_true rfl)) dL_law_274 ⟨Nat.le_of_ble_eq_true rfl, Nat.le_of_ble_eq_true rfl⟩) hS (fun q _ h => hFc q h) hFc (fun r274 u t H1 locs ht hvm p274 hB hz1 hk1 hS => ?_)
        obtain ⟨wLo2_274, wS62_274, wS72_274⟩ := u
        obtain ⟨hP1, hK1, hD1⟩ := hB
        rw [ht] at hP1
        have hK1 := va_K.moved hvm.symm hK1
        try dsimp only at p274
        obtain ⟨hP, hD⟩ := va_join (wr := [(aU_9, .inr (1, [.ref aM_9, .ref aC_9, .ref aB_9, .int 0])), (aB_9, .inr (0, [.ref aF_9, .int ius_9, .int 0])), (aK_9, .inl (kK_9, 8, .inl (fun _ => 0))), (aL_9, .inl (kL_9, 8, .inl (fun _ => 0))), (aM_9, .inl (kM_9, 512, .inl (fun _ => 0))), (aC_9, .inl (kC_9, 12, .inl (fun _ => 0))), (aF_9, .inl (kF_9, 49, .inl (fun _ => 0))), (bM_22, .inl (jM_22, 512, .inl (fun _ => 0))), (bKe_22, .inl (jKe_22, 6, .inl (fun _ => 0))), (bCo_22, .inl (jCo_22, 12, .inl (fun _ => 0))), (bFr_22, .inl (jFr_22, 8, .inl (fun _ => 0))), (bSi_22, .inl (jSi_22, 8, .inl (fun _ => 0))), (bTo_22, .inl (jTo_22, 8, .inl (fun _ => 0))), (bSp_22, .inl (jSp_22, 8, .inl (fun _ => 0))), (bDo_22, .inl (jDo_22, 8, .inl (fun _ => 0))), (bRi_22, .inl (jRi_22, 8, .inl (fun _ => 0))), (bNf_22, .inl (jNf_22, 8, .inl (fun _ => 0))), (bLd_22, .inl (jLd_22, 8, .inl (fun _ => 0))), (q0, .inr (2, [.ref aU_9, .ref aR_9, .ref aK_9, .ref aL_9, .int 0, .int 25, .int 0, .int 0, .int 1])), (aR_9, .inl (kR_9, 22, .inl gR2_260))]) (w1 := [(q13, .inr (3, [.int jbu_22, .ref bM_22, .ref bLo_22, .ref bS6_22, .ref bS7_22, .ref bKe_22, .ref bCo_22, .int 0, .int 25, .int 0, .int 0, .int 1, .int 0, .int 0, .ref bFr_22, .ref bSi_22, .ref bTo_22, .ref bSp_22, .ref bDo_22, .ref bRi_22, .ref bNf_22, .int 0, .ref bLd_22])), (bLo_22, .inl (jLo_22, 6, .inl wLo2_274)), (bS6_22, .inl (jS6_22, 6, .inl wS62_274)), (bS7_22, .inl (jS7_22, 6, .inl wS72_274))]) hP hD [7, 9, 10, 11] [0, 1, 2, 3, 4, 5, 6, 8, 12, 13, 14, 15, 16, 17, 18, 19, 20, 21, 22, 23] rfl rfl (by decide) (by decide) hk1 hFc hP1 hD1
        have hK := (hK.sub (tys' := [(kK_9, .int), (kL_9, .int), (kM_9, .int), (kC_9, .int), (kF_9, .int), (jM_22, .int), (jKe_22, .int), (jCo_22, .int), (jFr_22, .int), (jSi_22, .int), (jTo_22, .int), (jSp_22, .int), (jDo_22, .int), (jRi_22, .int), (jNf_22, .int), (jLd_22, .int), (kR_9, .int)]) [0, 1, 2, 3, 4, 5, 9, 10, 11, 12, 13, 14, 15, 16, 17, 18, 19] rfl).app hK1
        generalize H1 = H at hP hS ⊢
        have hP : va_P (dC, dI) vwCl [(aU_9, .inr (1, [.ref aM_9, .ref aC_9, .ref aB_9, .int 0])), (aB_9, .inr (0, [.ref aF_9, .int ius_9, .int 0])), (aK_9, .inl (kK_9, 8, .inl (fun _ => 0))), (aL_9, .inl (kL_9, 8, .inl (fun _ => 0))), (aM_9, .inl (kM_9, 512, .inl (fun _ => 0))), (aC_9, .inl (kC_9, 12, .inl (fun _ => 0))), (aF_9, .inl (kF_9, 49, .inl (fun _ => 0))), (bM_22, .inl (jM_22, 512, .inl (fun _ => 0))), (bKe_22, .inl (jKe_22, 6, .inl (fun _ => 0))), (bCo_22, .inl (jCo_22, 12, .inl (fun _ => 0))), (bFr_22, .inl (jFr_22, 8, .inl (fun _ => 0))), (bSi_22, .inl (jSi_22, 8, .inl (fun _ => 0))), (bTo_22, .inl (jTo_22, 8, .inl (fun _ => 0))), (bSp_22, .inl (jSp_22, 8, .inl (fun _ => 0))), (bDo_22, .inl (jDo_22, 8, .inl (fun _ => 0))), (bRi_22, .inl (jRi_22, 8, .inl (fun _ => 0))), (bNf_22, .inl (jNf_22, 8, .inl (fun _ => 0))), (bLd_22, .inl (jLd_22, 8, .inl (fun _ => 0))), (q0, .inr (2, [.ref aU_9, .ref aR_9, .ref aK_9, .ref aL_9, .int 0, .int 25, .int 0, .int 0, .int 1])), (aR_9, .inl (kR_9, 22, .inl gR2_260)), (q13, .inr (3, [.int jbu_22, .ref bM_22, .ref bLo_22, .ref bS6_22, .ref bS7_22, .ref bKe_22, .ref bCo_22, .int 0, .int 25, .int 0, .int 0, .int 1, .int 0, .int 0, .ref bFr_22, .ref bSi_22, .ref bTo_22, .ref bSp_22, .ref bDo_22, .ref bRi_22, .ref bNf_22, .int 0, .ref bLd_22])), (bLo_22, .inl (jLo_22, 6, .inl wLo2_274)), (bS6_22, .inl (jS6_22, 6, .inl wS62_274)), (bS7_22, .inl (jS7_22, 6, .inl wS72_274))] H := hP
        have hD : va_D A [(aU_9, .inr (1, [.ref aM_9, .ref aC_9, .ref aB_9, .int 0])), (aB_9, .inr (0, [.ref aF_9, .int ius_9, .int 0])), (aK_9, .inl (kK_9, 8, .inl (fun _ => 0))), (aL_9, .inl (kL_9, 8, .inl (fun _ => 0))), (aM_9, .inl (kM_9, 512, .inl (fun _ => 0))), (aC_9, .inl (kC_9, 12, .inl (fun _ => 0))), (aF_9, .inl (kF_9, 49, .inl (fun _ => 0))), (bM_22, .inl (jM_22, 512, .inl (fun _ => 0))), (bKe_22, .inl (jKe_22, 6, .inl (fun _ => 0))), (bCo_22, .inl (jCo_22, 12, .inl (fun _ => 0))), (bFr_22, .inl (jFr_22, 8, .inl (fun _ => 0))), (bSi_22, .inl (jSi_22, 8, .inl (fun _ => 0))), (bTo_22, .inl (jTo_22, 8, .inl (fun _ => 0))), (bSp_22, .inl (jSp_22, 8, .inl (fun _ => 0))), (bDo_22, .inl (jDo_22, 8, .inl (fun _ => 0))), (bRi_22, .inl (jRi_22, 8, .inl (fun _ => 0))), (bNf_22, .inl (jNf_22, 8, .inl (fun _ => 0))), (bLd_22, .inl (jLd_22, 8, .inl (fun _ => 0))), (q0, .inr (2, [.ref aU_9, .ref aR_9, .ref aK_9, .ref aL_9, .int 0, .int 25, .int 0, .int 0, .int 1])), (aR_9, .inl (kR_9, 22, .inl gR2_260)), (q13, .inr (3, [.int jbu_22, .ref bM_22, .ref bLo_22, .ref bS6_22, .ref bS7_22, .ref bKe_22, .ref bCo_22, .int 0, .int 25, .int 0, .int 0, .int 1, .int 0, .int 0, .ref bFr_22, .ref bSi_22, .ref bTo_22, .ref bSp_22, .ref bDo_22, .ref bRi_22, .ref bNf_22, .int 0, .ref bLd_22])), (bLo_22, .inl (jLo_22, 6, .inl wLo2_274)), (bS6_22, .inl (jS6_22, 6, .inl wS62_274)), (bS7_22, .inl (jS7_22, 6, .inl wS72_274))] := hD
        have hK : va_K (dC, dI) vwCl [(kK_9, .int), (kL_9, .int), (kM_9, .int), (kC_9, .int), (kF_9, .int), (jM_22, .int), (jKe_22, .int), (jCo_22, .int), (jFr_22, .int), (jSi_22, .int), (jTo_22, .int), (jSp_22, .int), (jDo_22, .int), (jRi_22, .int), (jNf_22, .int), (jLd_22, .int), (kR_9, .int), (jLo_22, .int), (jS6_22, .int), (jS7_22, .int)] s := hK
        refine lv_icmp_eq (tgt := 433) hx hb dL_law_277 (by decide) (fun h277 => ?_) (fun h277 => ?_)
        · refine lv_iinc (k := 0) (v := 7) (lv' := [(3, .int 7), (2, .ref q13), (1, .ref q0), (0, .ref b)]) hx hb dL_law_433 hl rfl (by decide) (by decide) rfl (fun ls hl => ?_)
          refine lv_goto (tgt := 28) hx hb dL_law_436 (by decide) ?_
          refine lv_iload_n hx hb dL_law_28 rfl (lv_at hl 0 rfl) ?_
          refine lv_aload_n hx hb dL_law_29 rfl (lv_at hl 3 rfl) ?_
          refine va_slen hx hb hX hbl hbA hS dL_law_30 ?_
          refine q_casti (y := 7) (by decide) ?_
          refine lv_bipush (v := 6) hx hb dL_law_31 (by decide) ?_
          refine lv_isub hx hb dL_law_33 ?_
          refine q_casti (y := 1) (by decide) ?_
          refine lv_icmp_gt (tgt := 439) hx hb dL_law_34 (by decide) (fun h34_2 => ?_) (fun h34_2 => ?_)
          · refine lv_iconst (v := 1) hx hb dL_law_439 (by decide) ?_
            refine va_forget (fun q hq => hA2 _ (hS.2.2 q hq)) ?_
            refine W.widen (k := 24) (n := 1262) (Nat.le_of_ble_eq_true rfl) (Nat.le_of_ble_eq_true rfl) ?_
            exact lw_ret hx hb hr hlocks dL_law_440
          · exact absurd h34_2 (by decide)
        · exact absurd (p260.trans p274.symm) h277
      by_cases h43_4 : v42 = 4
      · refine lv_tableIn (off := 239) (tgt := 282) hx hb dL_law_43 (by rw [h43_4]; decide) (by rw [h43_4]; decide) (by rw [h43_4]; decide) (by decide) ?_
        refine lv_aload_n hx hb dL_law_282 rfl (lv_at hl 2 rfl) ?_
        refine lv_aload_n hx hb dL_law_283 rfl (lv_at hl 3 rfl) ?_
        refine lv_iload_n hx hb dL_law_284 rfl (lv_at hl 0 rfl) ?_
        refine lv_iconst (v := 1) hx hb dL_law_285 (by decide) ?_
        refine lv_iadd hx hb dL_law_286 ?_
        refine q_casti (y := 2) (by decide) ?_
        refine va_sld hx hb hX hbl hbA hS (vp_in_iff.mpr ⟨by decide, by decide⟩) dL_law_287 ?_
        refine lv_aload_n hx hb dL_law_288 rfl (lv_at hl 3 rfl) ?_
        refine lv_iload_n hx hb dL_law_289 rfl (lv_at hl 0 rfl) ?_
        refine lv_iconst (v := 2) hx hb dL_law_290 (by decide) ?_
        refine lv_iadd hx hb dL_law_291 ?_
        refine q_casti (y := 3) (by decide) ?_
        refine va_sld hx hb hX hbl hbA hS (vp_in_iff.mpr ⟨by decide, by decide⟩) dL_law_292 ?_
        refine lv_if_eq (tgt := 300) hx hb dL_law_293 (by decide) (fun h293 => ?_) (fun h293 => ?_)
        · refine lv_iconst (v := 0) hx hb dL_law_300 (by decide) ?_
          have hPc := hP.sub (ws' := [(q0, .inr (2, [.ref aU_9, .ref aR_9, .ref aK_9, .ref aL_9, .int 0, .int 25, .int 0, .int 0, .int 1]))]) [0] rfl
          have hKc := hK.sub (tys' := []) [] rfl
          have hDc := hD.sub (ws' := [(q0, .inr (2, [.ref aU_9, .ref aR_9, .ref aK_9, .ref aL_9, .int 0, .int 25, .int 0, .int 0, .int 1]))]) [0] (by decide) rfl
          have hFc := va_free (wc := [(q0, .inr (2, [.ref aU_9, .ref aR_9, .ref aK_9, .ref aL_9, .int 0, .int 25, .int 0, .int 0, .int 1]))]) hD hS hA [0] rfl
          refine va_calli (va_runV (As := [.int (xs (2 : Int32).toNatClampNeg), .int 0]) (rest := []) ⟨hx, hb, hml, hown, htb⟩ (cX_line l dC dI H.size q0 (xs (2 : Int32).toNatClampNeg) 0 aU_9 aR_9 aK_9 aL_9 0 25 0 0 1) (cwV 2 htb (q_gV m1_122 m1_123 m1_124 m1_1 m1_125) rfl rfl rfl (by decide +kernel) ⟨Nat.le_of_ble_eq_true rfl, Nat.le_of_ble_eq_true rfl⟩) ⟨fun a U g mk q => by obtain ⟨q0, q1, qP, qK, qD, qN9⟩ := q; exact ⟨q0, q1, qP, va_K.moved (u := U) (U := U.calling g mk a) (Vm.Alike.refl U.vm) qK, qD, qN_same (s := U) (U := U.calling g mk a) rfl qN9⟩, va_recv (q0 := 0) hK hP (rfl : vwCl[2]? = some (RX2, TX2, 9)) rfl, fun U hU hW => ⟨rfl, by rw [hU], by rw [hU]; exact hPc, va_K.moved hW.alike hKc, hDc.weaken (fun _ _ _ _ => trivial), qN_warm hW hN⟩⟩ rfl rfl hl.1 rfl (lv_room (Nat.le_of_ble_eq_true rfl)) dL_law_301 ⟨Nat.le_of_ble_eq_true rfl, Nat.le_of_ble_eq_true rfl⟩) hS (fun q _ h => hFc q h) hFc (fun r301 u t H1 locs ht hvm p301 hB hz1 hk1 hS => ?_)
          obtain ⟨iln2_301, rfl⟩ : ∃ z, z = u := ⟨_, rfl⟩
          obtain ⟨hP1, hK1, hD1⟩ := hB
          rw [ht] at hP1
          have hK1 := va_K.moved hvm.symm hK1
          try dsimp only at p301
          obtain ⟨hP, hD⟩ := va_join (wr := [(aU_9, .inr (1, [.ref aM_9, .ref aC_9, .ref aB_9, .int 0])), (aB_9, .inr (0, [.ref aF_9, .int ius_9, .int 0])), (aR_9, .inl (kR_9, 22, .inl (fun _ => 0))), (aK_9, .inl (kK_9, 8, .inl (fun _ => 0))), (aL_9, .inl (kL_9, 8, .inl (fun _ => 0))), (aM_9, .inl (kM_9, 512, .inl (fun _ => 0))), (aC_9, .inl (kC_9, 12, .inl (fun _ => 0))), (aF_9, .inl (kF_9, 49, .inl (fun _ => 0))), (q13, .inr (3, [.int jbu_22, .ref bM_22, .ref bLo_22, .ref bS6_22, .ref bS7_22, .ref bKe_22, .ref bCo_22, .int 0, .int 25, .int 0, .int 0, .int 1, .int 0, .int 0, .ref bFr_22, .ref bSi_22, .ref bTo_22, .ref bSp_22, .ref bDo_22, .ref bRi_22, .ref bNf_22, .int 0, .ref bLd_22])), (bM_22, .inl (jM_22, 512, .inl (fun _ => 0))), (bLo_22, .inl (jLo_22, 6, .inl (fun _ => 0))), (bS6_22, .inl (jS6_22, 6, .inl (fun _ => 0))), (bS7_22, .inl (jS7_22, 6, .inl (fun _ => 0))), (bKe_22, .inl (jKe_22, 6, .inl (fun _ => 0))), (bCo_22, .inl (jCo_22, 12, .inl (fun _ => 0))), (bFr_22, .inl (jFr_22, 8, .inl (fun _ => 0))), (bSi_22, .inl (jSi_22, 8, .inl (fun _ => 0))), (bTo_22, .inl (jTo_22, 8, .inl (fun _ => 0))), (bSp_22, .inl (jSp_22, 8, .inl (fun _ => 0))), (bDo_22, .inl (jDo_22, 8, .inl (fun _ => 0))), (bRi_22, .inl (jRi_22, 8, .inl (fun _ => 0))), (bNf_22, .inl (jNf_22, 8, .inl (fun _ => 0))), (bLd_22, .inl (jLd_22, 8, .inl (fun _ => 0)))]) (w1 := [(q0, .inr (2, [.ref aU_9, .ref aR_9, .ref aK_9, .ref aL_9, .int 0, .int 25, .int iln2_301, .int 0, .int 1]))]) hP hD [0] [1, 2, 3, 4, 5, 6, 7, 8, 9, 10, 11, 12, 13, 14, 15, 16, 17, 18, 19, 20, 21, 22, 23] rfl rfl (by decide) (by decide) hk1 hFc hP1 hD1
          have hK := (hK.sub (tys' := [(kR_9, .int), (kK_9, .int), (kL_9, .int), (kM_9, .int), (kC_9, .int), (kF_9, .int), (jM_22, .int), (jLo_22, .int), (jS6_22, .int), (jS7_22, .int), (jKe_22, .int), (jCo_22, .int), (jFr_22, .int), (jSi_22, .int), (jTo_22, .int), (jSp_22, .int), (jDo_22, .int), (jRi_22, .int), (jNf_22, .int), (jLd_22, .int)]) [0, 1, 2, 3, 4, 5, 6, 7, 8, 9, 10, 11, 12, 13, 14, 15, 16, 17, 18, 19] rfl).app hK1
          generalize H1 = H at hP hS ⊢
          have hP : va_P (dC, dI) vwCl [(aU_9, .inr (1, [.ref aM_9, .ref aC_9, .ref aB_9, .int 0])), (aB_9, .inr (0, [.ref aF_9, .int ius_9, .int 0])), (aR_9, .inl (kR_9, 22, .inl (fun _ => 0))), (aK_9, .inl (kK_9, 8, .inl (fun _ => 0))), (aL_9, .inl (kL_9, 8, .inl (fun _ => 0))), (aM_9, .inl (kM_9, 512, .inl (fun _ => 0))), (aC_9, .inl (kC_9, 12, .inl (fun _ => 0))), (aF_9, .inl (kF_9, 49, .inl (fun _ => 0))), (q13, .inr (3, [.int jbu_22, .ref bM_22, .ref bLo_22, .ref bS6_22, .ref bS7_22, .ref bKe_22, .ref bCo_22, .int 0, .int 25, .int 0, .int 0, .int 1, .int 0, .int 0, .ref bFr_22, .ref bSi_22, .ref bTo_22, .ref bSp_22, .ref bDo_22, .ref bRi_22, .ref bNf_22, .int 0, .ref bLd_22])), (bM_22, .inl (jM_22, 512, .inl (fun _ => 0))), (bLo_22, .inl (jLo_22, 6, .inl (fun _ => 0))), (bS6_22, .inl (jS6_22, 6, .inl (fun _ => 0))), (bS7_22, .inl (jS7_22, 6, .inl (fun _ => 0))), (bKe_22, .inl (jKe_22, 6, .inl (fun _ => 0))), (bCo_22, .inl (jCo_22, 12, .inl (fun _ => 0))), (bFr_22, .inl (jFr_22, 8, .inl (fun _ => 0))), (bSi_22, .inl (jSi_22, 8, .inl (fun _ => 0))), (bTo_22, .inl (jTo_22, 8, .inl (fun _ => 0))), (bSp_22, .inl (jSp_22, 8, .inl (fun _ => 0))), (bDo_22, .inl (jDo_22, 8, .inl (fun _ => 0))), (bRi_22, .inl (jRi_22, 8, .inl (fun _ => 0))), (bNf_22, .inl (jNf_22, 8, .inl (fun _ => 0))), (bLd_22, .inl (jLd_22, 8, .inl (fun _ => 0))), (q0, .inr (2, [.ref aU_9, .ref aR_9, .ref aK_9, .ref aL_9, .int 0, .int 25, .int iln2_301, .int 0, .int 1]))] H := hP
          have hD : va_D A [(aU_9, .inr (1, [.ref aM_9, .ref aC_9, .ref aB_9, .int 0])), (aB_9, .inr (0, [.ref aF_9, .int ius_9, .int 0])), (aR_9, .inl (kR_9, 22, .inl (fun _ => 0))), (aK_9, .inl (kK_9, 8, .inl (fun _ => 0))), (aL_9, .inl (kL_9, 8, .inl (fun _ => 0))), (aM_9, .inl (kM_9, 512, .inl (fun _ => 0))), (aC_9, .inl (kC_9, 12, .inl (fun _ => 0))), (aF_9, .inl (kF_9, 49, .inl (fun _ => 0))), (q13, .inr (3, [.int jbu_22, .ref bM_22, .ref bLo_22, .ref bS6_22, .ref bS7_22, .ref bKe_22, .ref bCo_22, .int 0, .int 25, .int 0, .int 0, .int 1, .int 0, .int 0, .ref bFr_22, .ref bSi_22, .ref bTo_22, .ref bSp_22, .ref bDo_22, .ref bRi_22, .ref bNf_22, .int 0, .ref bLd_22])), (bM_22, .inl (jM_22, 512, .inl (fun _ => 0))), (bLo_22, .inl (jLo_22, 6, .inl (fun _ => 0))), (bS6_22, .inl (jS6_22, 6, .inl (fun _ => 0))), (bS7_22, .inl (jS7_22, 6, .inl (fun _ => 0))), (bKe_22, .inl (jKe_22, 6, .inl (fun _ => 0))), (bCo_22, .inl (jCo_22, 12, .inl (fun _ => 0))), (bFr_22, .inl (jFr_22, 8, .inl (fun _ => 0))), (bSi_22, .inl (jSi_22, 8, .inl (fun _ => 0))), (bTo_22, .inl (jTo_22, 8, .inl (fun _ => 0))), (bSp_22, .inl (jSp_22, 8, .inl (fun _ => 0))), (bDo_22, .inl (jDo_22, 8, .inl (fun _ => 0))), (bRi_22, .inl (jRi_22, 8, .inl (fun _ => 0))), (bNf_22, .inl (jNf_22, 8, .inl (fun _ => 0))), (bLd_22, .inl (jLd_22, 8, .inl (fun _ => 0))), (q0, .inr (2, [.ref aU_9, .ref aR_9, .ref aK_9, .ref aL_9, .int 0, .int 25, .int iln2_301, .int 0, .int 1]))] := hD
          have hK : va_K (dC, dI) vwCl [(kR_9, .int), (kK_9, .int), (kL_9, .int), (kM_9, .int), (kC_9, .int), (kF_9, .int), (jM_22, .int), (jLo_22, .int), (jS6_22, .int), (jS7_22, .int), (jKe_22, .int), (jCo_22, .int), (jFr_22, .int), (jSi_22, .int), (jTo_22, .int), (jSp_22, .int), (jDo_22, .int), (jRi_22, .int), (jNf_22, .int), (jLd_22, .int)] s := hK
          refine lv_aload_n hx hb dL_law_304 rfl (lv_at hl 1 rfl) ?_
          refine lv_aload_n hx hb dL_law_305 rfl (lv_at hl 3 rfl) ?_
          refine lv_iload_n hx hb dL_law_306 rfl (lv_at hl 0 rfl) ?_
          refine lv_iconst (v := 1) hx hb dL_law_307 (by decide) ?_
          refine lv_iadd hx hb dL_law_308 ?_
          refine q_casti (y := 2) (by decide) ?_
          refine va_sld hx hb hX hbl hbA hS (vp_in_iff.mpr ⟨by decide, by decide⟩) dL_law_309 ?_
          refine lv_aload_n hx hb dL_law_310 rfl (lv_at hl 3 rfl) ?_
          refine lv_iload_n hx hb dL_law_311 rfl (lv_at hl 0 rfl) ?_
          refine lv_iconst (v := 2) hx hb dL_law_312 (by decide) ?_
          refine lv_iadd hx hb dL_law_313 ?_
          refine q_casti (y := 3) (by decide) ?_
          refine va_sld hx hb hX hbl hbA hS (vp_in_iff.mpr ⟨by decide, by decide⟩) dL_law_314 ?_
          refine lv_if_eq (tgt := 322) hx hb dL_law_315 (by decide) (fun h315 => ?_) (fun h315 => ?_)
          · refine lv_iconst (v := 0) hx hb dL_law_322 (by decide) ?_
            have hPc := hP.sub (ws' := [(q13, .inr (3, [.int jbu_22, .ref bM_22, .ref bLo_22, .ref bS6_22, .ref bS7_22, .ref bKe_22, .ref bCo_22, .int 0, .int 25, .int 0, .int 0, .int 1, .int 0, .int 0, .ref bFr_22, .ref bSi_22, .ref bTo_22, .ref bSp_22, .ref bDo_22, .ref bRi_22, .ref bNf_22, .int 0, .ref bLd_22]))]) [8] rfl
            have hKc := hK.sub (tys' := []) [] rfl
            have hDc := hD.sub (ws' := [(q13, .inr (3, [.int jbu_22, .ref bM_22, .ref bLo_22, .ref bS6_22, .ref bS7_22, .ref bKe_22, .ref bCo_22, .int 0, .int 25, .int 0, .int 0, .int 1, .int 0, .int 0, .ref bFr_22, .ref bSi_22, .ref bTo_22, .ref bSp_22, .ref bDo_22, .ref bRi_22, .ref bNf_22, .int 0, .ref bLd_22]))]) [8] (by decide) rfl
            have hFc := va_free (wc := [(q13, .inr (3, [.int jbu_22, .ref bM_22, .ref bLo_22, .ref bS6_22, .ref bS7_22, .ref bKe_22, .ref bCo_22, .int 0, .int 25, .int 0, .int 0, .int 1, .int 0, .int 0, .ref bFr_22, .ref bSi_22, .ref bTo_22, .ref bSp_22, .ref bDo_22, .ref bRi_22, .ref bNf_22, .int 0, .ref bLd_22]))]) hD hS hA [8] rfl
            refine va_calli (va_runV (As := [.int (xs (2 : Int32).toNatClampNeg), .int 0]) (rest := [.int r301]) ⟨hx, hb, hml, hown, htb⟩ (cM_line l dC dI H.size q13 (xs (2 : Int32).toNatClampNeg) 0 jbu_22 bM_22 bLo_22 bS6_22 bS7_22 bKe_22 bCo_22 0 25 0 0 1 0 0 bFr_22 bSi_22 bTo_22 bSp_22 bDo_22 bRi_22 bNf_22 0 bLd_22) (cwV 2 htb (q_gV m2_184 m2_185 m2_186 m1_4 m2_187) rfl rfl rfl (by decide +kernel) ⟨Nat.le_of_ble_eq_true rfl, Nat.le_of_ble_eq_true rfl⟩) ⟨fun a U g mk q => by obtain ⟨q0, q1, qP, qK, qD⟩ := q; exact ⟨q0, q1, qP, va_K.moved (u := U) (U := U.calling g mk a) (Vm.Alike.refl U.vm) qK, qD⟩, va_recv (q0 := 8) hK hP (rfl : vwCl[3]? = some (RX3, TX3, 23)) rfl, fun U hU hW => ⟨rfl, by rw [hU], by rw [hU]; exact hPc, va_K.moved hW.alike hKc, hDc.weaken (fun _ _ _ _ => trivial)⟩⟩ rfl rfl hl.1 rfl (lv_room (Nat.le_of_ble_eq_true rfl)) dL_law_323 ⟨Nat.le_of_ble_eq_true rfl, Nat.le_of_ble_eq_true rfl⟩) hS (fun q _ h => hFc q h) hFc (fun r323 u t H1 locs ht hvm p323 hB hz1 hk1 hS => ?_)
            obtain ⟨jln2_323, rfl⟩ : ∃ z, z = u := ⟨_, rfl⟩
            obtain ⟨hP1, hK1, hD1⟩ := hB
            rw [ht] at hP1
            have hK1 := va_K.moved hvm.symm hK1
            try dsimp only at p323
            obtain ⟨hP, hD⟩ := va_join (wr := [(aU_9, .inr (1, [.ref aM_9, .ref aC_9, .ref aB_9, .int 0])), (aB_9, .inr (0, [.ref aF_9, .int ius_9, .int 0])), (aR_9, .inl (kR_9, 22, .inl (fun _ => 0))), (aK_9, .inl (kK_9, 8, .inl (fun _ => 0))), (aL_9, .inl (kL_9, 8, .inl (fun _ => 0))), (aM_9, .inl (kM_9, 512, .inl (fun _ => 0))), (aC_9, .inl (kC_9, 12, .inl (fun _ => 0))), (aF_9, .inl (kF_9, 49, .inl (fun _ => 0))), (bM_22, .inl (jM_22, 512, .inl (fun _ => 0))), (bLo_22, .inl (jLo_22, 6, .inl (fun _ => 0))), (bS6_22, .inl (jS6_22, 6, .inl (fun _ => 0))), (bS7_22, .inl (jS7_22, 6, .inl (fun _ => 0))), (bKe_22, .inl (jKe_22, 6, .inl (fun _ => 0))), (bCo_22, .inl (jCo_22, 12, .inl (fun _ => 0))), (bFr_22, .inl (jFr_22, 8, .inl (fun _ => 0))), (bSi_22, .inl (jSi_22, 8, .inl (fun _ => 0))), (bTo_22, .inl (jTo_22, 8, .inl (fun _ => 0))), (bSp_22, .inl (jSp_22, 8, .inl (fun _ => 0))), (bDo_22, .inl (jDo_22, 8, .inl (fun _ => 0))), (bRi_22, .inl (jRi_22, 8, .inl (fun _ => 0))), (bNf_22, .inl (jNf_22, 8, .inl (fun _ => 0))), (bLd_22, .inl (jLd_22, 8, .inl (fun _ => 0))), (q0, .inr (2, [.ref aU_9, .ref aR_9, .ref aK_9, .ref aL_9, .int 0, .int 25, .int iln2_301, .int 0, .int 1]))]) (w1 := [(q13, .inr (3, [.int jbu_22, .ref bM_22, .ref bLo_22, .ref bS6_22, .ref bS7_22, .ref bKe_22, .ref bCo_22, .int 0, .int 25, .int jln2_323, .int 0, .int 1, .int 0, .int 0, .ref bFr_22, .ref bSi_22, .ref bTo_22, .ref bSp_22, .ref bDo_22, .ref bRi_22, .ref bNf_22, .int 0, .ref bLd_22]))]) hP hD [8] [0, 1, 2, 3, 4, 5, 6, 7, 9, 10, 11, 12, 13, 14, 15, 16, 17, 18, 19, 20, 21, 22, 23] rfl rfl (by decide) (by decide) hk1 hFc hP1 hD1
            have hK := (hK.sub (tys' := [(kR_9, .int), (kK_9, .int), (kL_9, .int), (kM_9, .int), (kC_9, .int), (kF_9, .int), (jM_22, .int), (jLo_22, .int), (jS6_22, .int), (jS7_22, .int), (jKe_22, .int), (jCo_22, .int), (jFr_22, .int), (jSi_22, .int), (jTo_22, .int), (jSp_22, .int), (jDo_22, .int), (jRi_22, .int), (jNf_22, .int), (jLd_22, .int)]) [0, 1, 2, 3, 4, 5, 6, 7, 8, 9, 10, 11, 12, 13, 14, 15, 16, 17, 18, 19] rfl).app hK1
            generalize H1 = H at hP hS ⊢
            have hP : va_P (dC, dI) vwCl [(aU_9, .inr (1, [.ref aM_9, .ref aC_9, .ref aB_9, .int 0])), (aB_9, .inr (0, [.ref aF_9, .int ius_9, .int 0])), (aR_9, .inl (kR_9, 22, .inl (fun _ => 0))), (aK_9, .inl (kK_9, 8, .inl (fun _ => 0))), (aL_9, .inl (kL_9, 8, .inl (fun _ => 0))), (aM_9, .inl (kM_9, 512, .inl (fun _ => 0))), (aC_9, .inl (kC_9, 12, .inl (fun _ => 0))), (aF_9, .inl (kF_9, 49, .inl (fun _ => 0))), (bM_22, .inl (jM_22, 512, .inl (fun _ => 0))), (bLo_22, .inl (jLo_22, 6, .inl (fun _ => 0))), (bS6_22, .inl (jS6_22, 6, .inl (fun _ => 0))), (bS7_22, .inl (jS7_22, 6, .inl (fun _ => 0))), (bKe_22, .inl (jKe_22, 6, .inl (fun _ => 0))), (bCo_22, .inl (jCo_22, 12, .inl (fun _ => 0))), (bFr_22, .inl (jFr_22, 8, .inl (fun _ => 0))), (bSi_22, .inl (jSi_22, 8, .inl (fun _ => 0))), (bTo_22, .inl (jTo_22, 8, .inl (fun _ => 0))), (bSp_22, .inl (jSp_22, 8, .inl (fun _ => 0))), (bDo_22, .inl (jDo_22, 8, .inl (fun _ => 0))), (bRi_22, .inl (jRi_22, 8, .inl (fun _ => 0))), (bNf_22, .inl (jNf_22, 8, .inl (fun _ => 0))), (bLd_22, .inl (jLd_22, 8, .inl (fun _ => 0))), (q0, .inr (2, [.ref aU_9, .ref aR_9, .ref aK_9, .ref aL_9, .int 0, .int 25, .int iln2_301, .int 0, .int 1])), (q13, .inr (3, [.int jbu_22, .ref bM_22, .ref bLo_22, .ref bS6_22, .ref bS7_22, .ref bKe_22, .ref bCo_22, .int 0, .int 25, .int jln2_323, .int 0, .int 1, .int 0, .int 0, .ref bFr_22, .ref bSi_22, .ref bTo_22, .ref bSp_22, .ref bDo_22, .ref bRi_22, .ref bNf_22, .int 0, .ref bLd_22]))] H := hP
            have hD : va_D A [(aU_9, .inr (1, [.ref aM_9, .ref aC_9, .ref aB_9, .int 0])), (aB_9, .inr (0, [.ref aF_9, .int ius_9, .int 0])), (aR_9, .inl (kR_9, 22, .inl (fun _ => 0))), (aK_9, .inl (kK_9, 8, .inl (fun _ => 0))), (aL_9, .inl (kL_9, 8, .inl (fun _ => 0))), (aM_9, .inl (kM_9, 512, .inl (fun _ => 0))), (aC_9, .inl (kC_9, 12, .inl (fun _ => 0))), (aF_9, .inl (kF_9, 49, .inl (fun _ => 0))), (bM_22, .inl (jM_22, 512, .inl (fun _ => 0))), (bLo_22, .inl (jLo_22, 6, .inl (fun _ => 0))), (bS6_22, .inl (jS6_22, 6, .inl (fun _ => 0))), (bS7_22, .inl (jS7_22, 6, .inl (fun _ => 0))), (bKe_22, .inl (jKe_22, 6, .inl (fun _ => 0))), (bCo_22, .inl (jCo_22, 12, .inl (fun _ => 0))), (bFr_22, .inl (jFr_22, 8, .inl (fun _ => 0))), (bSi_22, .inl (jSi_22, 8, .inl (fun _ => 0))), (bTo_22, .inl (jTo_22, 8, .inl (fun _ => 0))), (bSp_22, .inl (jSp_22, 8, .inl (fun _ => 0))), (bDo_22, .inl (jDo_22, 8, .inl (fun _ => 0))), (bRi_22, .inl (jRi_22, 8, .inl (fun _ => 0))), (bNf_22, .inl (jNf_22, 8, .inl (fun _ => 0))), (bLd_22, .inl (jLd_22, 8, .inl (fun _ => 0))), (q0, .inr (2, [.ref aU_9, .ref aR_9, .ref aK_9, .ref aL_9, .int 0, .int 25, .int iln2_301, .int 0, .int 1])), (q13, .inr (3, [.int jbu_22, .ref bM_22, .ref bLo_22, .ref bS6_22, .ref bS7_22, .ref bKe_22, .ref bCo_22, .int 0, .int 25, .int jln2_323, .int 0, .int 1, .int 0, .int 0, .ref bFr_22, .ref bSi_22, .ref bTo_22, .ref bSp_22, .ref bDo_22, .ref bRi_22, .ref bNf_22, .int 0, .ref bLd_22]))] := hD
            have hK : va_K (dC, dI) vwCl [(kR_9, .int), (kK_9, .int), (kL_9, .int), (kM_9, .int), (kC_9, .int), (kF_9, .int), (jM_22, .int), (jLo_22, .int), (jS6_22, .int), (jS7_22, .int), (jKe_22, .int), (jCo_22, .int), (jFr_22, .int), (jSi_22, .int), (jTo_22, .int), (jSp_22, .int), (jDo_22, .int), (jRi_22, .int), (jNf_22, .int), (jLd_22, .int)] s := hK
            refine lv_icmp_eq (tgt := 433) hx hb dL_law_326 (by decide) (fun h326 => ?_) (fun h326 => ?_)
            · refine lv_iinc (k := 0) (v := 7) (lv' := [(3, .int 7), (2, .ref q13), (1, .ref q0), (0, .ref b)]) hx hb dL_law_433 hl rfl (by decide) (by decide) rfl (fun ls hl => ?_)
              refine lv_goto (tgt := 28) hx hb dL_law_436 (by decide) ?_
              refine lv_iload_n hx hb dL_law_28 rfl (lv_at hl 0 rfl) ?_
              refine lv_aload_n hx hb dL_law_29 rfl (lv_at hl 3 rfl) ?_
              refine va_slen hx hb hX hbl hbA hS dL_law_30 ?_
              refine q_casti (y := 7) (by decide) ?_
              refine lv_bipush (v := 6) hx hb dL_law_31 (by decide) ?_
              refine lv_isub hx hb dL_law_33 ?_
              refine q_casti (y := 1) (by decide) ?_
              refine lv_icmp_gt (tgt := 439) hx hb dL_law_34 (by decide) (fun h34_2 => ?_) (fun h34_2 => ?_)
              · refine lv_iconst (v := 1) hx hb dL_law_439 (by decide) ?_
                refine va_forget (fun q hq => hA2 _ (hS.2.2 q hq)) ?_
                refine W.widen (k := 24) (n := 1262) (Nat.le_of_ble_eq_true rfl) (Nat.le_of_ble_eq_true rfl) ?_
                exact lw_ret hx hb hr hlocks dL_law_440
              · exact absurd h34_2 (by decide)
            · exact absurd (p301.trans p323.symm) h326
          · refine lv_iconst (v := 1) hx hb dL_law_318 (by decide) ?_
            refine lv_goto (tgt := 323) hx hb dL_law_319 (by decide) ?_
            have hPc := hP.sub (ws' := [(q13, .inr (3, [.int jbu_22, .ref bM_22, .ref bLo_22, .ref bS6_22, .ref bS7_22, .ref bKe_22, .ref bCo_22, .int 0, .int 25, .int 0, .int 0, .int 1, .int 0, .int 0, .ref bFr_22, .ref bSi_22, .ref bTo_22, .ref bSp_22, .ref bDo_22, .ref bRi_22, .ref bNf_22, .int 0, .ref bLd_22]))]) [8] rfl
            have hKc := hK.sub (tys' := []) [] rfl
            have hDc := hD.sub (ws' := [(q13, .inr (3, [.int jbu_22, .ref bM_22, .ref bLo_22, .ref bS6_22, .ref bS7_22, .ref bKe_22, .ref bCo_22, .int 0, .int 25, .int 0, .int 0, .int 1, .int 0, .int 0, .ref bFr_22, .ref bSi_22, .ref bTo_22, .ref bSp_22, .ref bDo_22, .ref bRi_22, .ref bNf_22, .int 0, .ref bLd_22]))]) [8] (by decide) rfl
            have hFc := va_free (wc := [(q13, .inr (3, [.int jbu_22, .ref bM_22, .ref bLo_22, .ref bS6_22, .ref bS7_22, .ref bKe_22, .ref bCo_22, .int 0, .int 25, .int 0, .int 0, .int 1, .int 0, .int 0, .ref bFr_22, .ref bSi_22, .ref bTo_22, .ref bSp_22, .ref bDo_22, .ref bRi_22, .ref bNf_22, .int 0, .ref bLd_22]))]) hD hS hA [8] rfl
            refine va_calli (va_runV (As := [.int (xs (2 : Int32).toNatClampNeg), .int 1]) (rest := [.int r301]) ⟨hx, hb, hml, hown, htb⟩ (cM_line l dC dI H.size q13 (xs (2 : Int32).toNatClampNeg) 1 jbu_22 bM_22 bLo_22 bS6_22 bS7_22 bKe_22 bCo_22 0 25 0 0 1 0 0 bFr_22 bSi_22 bTo_22 bSp_22 bDo_22 bRi_22 bNf_22 0 bLd_22) (cwV 2 htb (q_gV m2_184 m2_185 m2_186 m1_4 m2_187) rfl rfl rfl (by decide +kernel) ⟨Nat.le_of_ble_eq_true rfl, Nat.le_of_ble_eq_true rfl⟩) ⟨fun a U g mk q => by obtain ⟨q0, q1, qP, qK, qD⟩ := q; exact ⟨q0, q1, qP, va_K.moved (u := U) (U := U.calling g mk a) (Vm.Alike.refl U.vm) qK, qD⟩, va_recv (q0 := 8) hK hP (rfl : vwCl[3]? = some (RX3, TX3, 23)) rfl, fun U hU hW => ⟨rfl, by rw [hU], by rw [hU]; exact hPc, va_K.moved hW.alike hKc, hDc.weaken (fun _ _ _ _ => trivial)⟩⟩ rfl rfl hl.1 rfl (lv_room (Nat.le_of_ble_eq_true rfl)) dL_law_323 ⟨Nat.le_of_ble_eq_true rfl, Nat.le_of_ble_eq_true rfl⟩) hS (fun q _ h => hFc q h) hFc (fun r323 u t H1 locs ht hvm p323 hB hz1 hk1 hS => ?_)
            obtain ⟨jln2_323, rfl⟩ : ∃ z, z = u := ⟨_, rfl⟩
            obtain ⟨hP1, hK1, hD1⟩ := hB
            rw [ht] at hP1
            have hK1 := va_K.moved hvm.symm hK1
            try dsimp only at p323
            obtain ⟨hP, hD⟩ := va_join (wr := [(aU_9, .inr (1, [.ref aM_9, .ref aC_9, .ref aB_9, .int 0])), (aB_9, .inr (0, [.ref aF_9, .int ius_9, .int 0])), (aR_9, .inl (kR_9, 22, .inl (fun _ => 0))), (aK_9, .inl (kK_9, 8, .inl (fun _ => 0))), (aL_9, .inl (kL_9, 8, .inl (fun _ => 0))), (aM_9, .inl (kM_9, 512, .inl (fun _ => 0))), (aC_9, .inl (kC_9, 12, .inl (fun _ => 0))), (aF_9, .inl (kF_9, 49, .inl (fun _ => 0))), (bM_22, .inl (jM_22, 512, .inl (fun _ => 0))), (bLo_22, .inl (jLo_22, 6, .inl (fun _ => 0))), (bS6_22, .inl (jS6_22, 6, .inl (fun _ => 0))), (bS7_22, .inl (jS7_22, 6, .inl (fun _ => 0))), (bKe_22, .inl (jKe_22, 6, .inl (fun _ => 0))), (bCo_22, .inl (jCo_22, 12, .inl (fun _ => 0))), (bFr_22, .inl (jFr_22, 8, .inl (fun _ => 0))), (bSi_22, .inl (jSi_22, 8, .inl (fun _ => 0))), (bTo_22, .inl (jTo_22, 8, .inl (fun _ => 0))), (bSp_22, .inl (jSp_22, 8, .inl (fun _ => 0))), (bDo_22, .inl (jDo_22, 8, .inl (fun _ => 0))), (bRi_22, .inl (jRi_22, 8, .inl (fun _ => 0))), (bNf_22, .inl (jNf_22, 8, .inl (fun _ => 0))), (bLd_22, .inl (jLd_22, 8, .inl (fun _ => 0))), (q0, .inr (2, [.ref aU_9, .ref aR_9, .ref aK_9, .ref aL_9, .int 0, .int 25, .int iln2_301, .int 0, .int 1]))]) (w1 := [(q13, .inr (3, [.int jbu_22, .ref bM_22, .ref bLo_22, .ref bS6_22, .ref bS7_22, .ref bKe_22, .ref bCo_22, .int 0, .int 25, .int jln2_323, .int 0, .int 1, .int 0, .int 0, .ref bFr_22, .ref bSi_22, .ref bTo_22, .ref bSp_22, .ref bDo_22, .ref bRi_22, .ref bNf_22, .int 0, .ref bLd_22]))]) hP hD [8] [0, 1, 2, 3, 4, 5, 6, 7, 9, 10, 11, 12, 13, 14, 15, 16, 17, 18, 19, 20, 21, 22, 23] rfl rfl (by decide) (by decide) hk1 hFc hP1 hD1
            have hK := (hK.sub (tys' := [(kR_9, .int), (kK_9, .int), (kL_9, .int), (kM_9, .int), (kC_9, .int), (kF_9, .int), (jM_22, .int), (jLo_22, .int), (jS6_22, .int), (jS7_22, .int), (jKe_22, .int), (jCo_22, .int), (jFr_22, .int), (jSi_22, .int), (jTo_22, .int), (jSp_22, .int), (jDo_22, .int), (jRi_22, .int), (jNf_22, .int), (jLd_22, .int)]) [0, 1, 2, 3, 4, 5, 6, 7, 8, 9, 10, 11, 12, 13, 14, 15, 16, 17, 18, 19] rfl).app hK1
            generalize H1 = H at hP hS ⊢
            have hP : va_P (dC, dI) vwCl [(aU_9, .inr (1, [.ref aM_9, .ref aC_9, .ref aB_9, .int 0])), (aB_9, .inr (0, [.ref aF_9, .int ius_9, .int 0])), (aR_9, .inl (kR_9, 22, .inl (fun _ => 0))), (aK_9, .inl (kK_9, 8, .inl (fun _ => 0))), (aL_9, .inl (kL_9, 8, .inl (fun _ => 0))), (aM_9, .inl (kM_9, 512, .inl (fun _ => 0))), (aC_9, .inl (kC_9, 12, .inl (fun _ => 0))), (aF_9, .inl (kF_9, 49, .inl (fun _ => 0))), (bM_22, .inl (jM_22, 512, .inl (fun _ => 0))), (bLo_22, .inl (jLo_22, 6, .inl (fun _ => 0))), (bS6_22, .inl (jS6_22, 6, .inl (fun _ => 0))), (bS7_22, .inl (jS7_22, 6, .inl (fun _ => 0))), (bKe_22, .inl (jKe_22, 6, .inl (fun _ => 0))), (bCo_22, .inl (jCo_22, 12, .inl (fun _ => 0))), (bFr_22, .inl (jFr_22, 8, .inl (fun _ => 0))), (bSi_22, .inl (jSi_22, 8, .inl (fun _ => 0))), (bTo_22, .inl (jTo_22, 8, .inl (fun _ => 0))), (bSp_22, .inl (jSp_22, 8, .inl (fun _ => 0))), (bDo_22, .inl (jDo_22, 8, .inl (fun _ => 0))), (bRi_22, .inl (jRi_22, 8, .inl (fun _ => 0))), (bNf_22, .inl (jNf_22, 8, .inl (fun _ => 0))), (bLd_22, .inl (jLd_22, 8, .inl (fun _ => 0))), (q0, .inr (2, [.ref aU_9, .ref aR_9, .ref aK_9, .ref aL_9, .int 0, .int 25, .int iln2_301, .int 0, .int 1])), (q13, .inr (3, [.int jbu_22, .ref bM_22, .ref bLo_22, .ref bS6_22, .ref bS7_22, .ref bKe_22, .ref bCo_22, .int 0, .int 25, .int jln2_323, .int 0, .int 1, .int 0, .int 0, .ref bFr_22, .ref bSi_22, .ref bTo_22, .ref bSp_22, .ref bDo_22, .ref bRi_22, .ref bNf_22, .int 0, .ref bLd_22]))] H := hP
            have hD : va_D A [(aU_9, .inr (1, [.ref aM_9, .ref aC_9, .ref aB_9, .int 0])), (aB_9, .inr (0, [.ref aF_9, .int ius_9, .int 0])), (aR_9, .inl (kR_9, 22, .inl (fun _ => 0))), (aK_9, .inl (kK_9, 8, .inl (fun _ => 0))), (aL_9, .inl (kL_9, 8, .inl (fun _ => 0))), (aM_9, .inl (kM_9, 512, .inl (fun _ => 0))), (aC_9, .inl (kC_9, 12, .inl (fun _ => 0))), (aF_9, .inl (kF_9, 49, .inl (fun _ => 0))), (bM_22, .inl (jM_22, 512, .inl (fun _ => 0))), (bLo_22, .inl (jLo_22, 6, .inl (fun _ => 0))), (bS6_22, .inl (jS6_22, 6, .inl (fun _ => 0))), (bS7_22, .inl (jS7_22, 6, .inl (fun _ => 0))), (bKe_22, .inl (jKe_22, 6, .inl (fun _ => 0))), (bCo_22, .inl (jCo_22, 12, .inl (fun _ => 0))), (bFr_22, .inl (jFr_22, 8, .inl (fun _ => 0))), (bSi_22, .inl (jSi_22, 8, .inl (fun _ => 0))), (bTo_22, .inl (jTo_22, 8, .inl (fun _ => 0))), (bSp_22, .inl (jSp_22, 8, .inl (fun _ => 0))), (bDo_22, .inl (jDo_22, 8, .inl (fun _ => 0))), (bRi_22, .inl (jRi_22, 8, .inl (fun _ => 0))), (bNf_22, .inl (jNf_22, 8, .inl (fun _ => 0))), (bLd_22, .inl (jLd_22, 8, .inl (fun _ => 0))), (q0, .inr (2, [.ref aU_9, .ref aR_9, .ref aK_9, .ref aL_9, .int 0, .int 25, .int iln2_301, .int 0, .int 1])), (q13, .inr (3, [.int jbu_22, .ref bM_22, .ref bLo_22, .ref bS6_22, .ref bS7_22, .ref bKe_22, .ref bCo_22, .int 0, .int 25, .int jln2_323, .int 0, .int 1, .int 0, .int 0, .ref bFr_22, .ref bSi_22, .ref bTo_22, .ref bSp_22, .ref bDo_22, .ref bRi_22, .ref bNf_22, .int 0, .ref bLd_22]))] := hD
            have hK : va_K (dC, dI) vwCl [(kR_9, .int), (kK_9, .int), (kL_9, .int), (kM_9, .int), (kC_9, .int), (kF_9, .int), (jM_22, .int), (jLo_22, .int), (jS6_22, .int), (jS7_22, .int), (jKe_22, .int), (jCo_22, .int), (jFr_22, .int), (jSi_22, .int), (jTo_22, .int), (jSp_22, .int), (jDo_22, .int), (jRi_22, .int), (jNf_22, .int), (jLd_22, .int)] s := hK
            refine lv_icmp_eq (tgt := 433) hx hb dL_law_326 (by decide) (fun h326 => ?_) (fun h326 => ?_)
            · refine lv_iinc (k := 0) (v := 7) (lv' := [(3, .int 7), (2, .ref q13), (1, .ref q0), (0, .ref b)]) hx hb dL_law_433 hl rfl (by decide) (by decide) rfl (fun ls hl => ?_)
              refine lv_goto (tgt := 28) hx hb dL_law_436 (by decide) ?_
              refine lv_iload_n hx hb dL_law_28 rfl (lv_at hl 0 rfl) ?_
              refine lv_aload_n hx hb dL_law_29 rfl (lv_at hl 3 rfl) ?_
              refine va_slen hx hb hX hbl hbA hS dL_law_30 ?_
              refine q_casti (y := 7) (by decide) ?_
              refine lv_bipush (v := 6) hx hb dL_law_31 (by decide) ?_
              refine lv_isub hx hb dL_law_33 ?_
              refine q_casti (y := 1) (by decide) ?_
              refine lv_icmp_gt (tgt := 439) hx hb dL_law_34 (by decide) (fun h34_2 => ?_) (fun h34_2 => ?_)
              · refine lv_iconst (v := 1) hx hb dL_law_439 (by decide) ?_
                refine va_forget (fun q hq => hA2 _ (hS.2.2 q hq)) ?_
                refine W.widen (k := 24) (n := 1262) (Nat.le_of_ble_eq_true rfl) (Nat.le_of_ble_eq_true rfl) ?_
                exact lw_ret hx hb hr hlocks dL_law_440
              · exact absurd h34_2 (by decide)
            · exact absurd (p301.trans p323.symm) h326
        · refine lv_iconst (v := 1) hx hb dL_law_296 (by decide) ?_
          refine lv_goto (tgt := 301) hx hb dL_law_297 (by decide) ?_
          have hPc := hP.sub (ws' := [(q0, .inr (2, [.ref aU_9, .ref aR_9, .ref aK_9, .ref aL_9, .int 0, .int 25, .int 0, .int 0, .int 1]))]) [0] rfl
          have hKc := hK.sub (tys' := []) [] rfl
          have hDc := hD.sub (ws' := [(q0, .inr (2, [.ref aU_9, .ref aR_9, .ref aK_9, .ref aL_9, .int 0, .int 25, .int 0, .int 0, .int 1]))]) [0] (by decide) rfl
          have hFc := va_free (wc := [(q0, .inr (2, [.ref aU_9, .ref aR_9, .ref aK_9, .ref aL_9, .int 0, .int 25, .int 0, .int 0, .int 1]))]) hD hS hA [0] rfl
          refine va_calli (va_runV (As := [.int (xs (2 : Int32).toNatClampNeg), .int 1]) (rest := []) ⟨hx, hb, hml, hown, htb⟩ (cX_line l dC dI H.size q0 (xs (2 : Int32).toNatClampNeg) 1 aU_9 aR_9 aK_9 aL_9 0 25 0 0 1) (cwV 2 htb (q_gV m1_122 m1_123 m1_124 m1_1 m1_125) rfl rfl rfl (by decide +kernel) ⟨Nat.le_of_ble_eq_true rfl, Nat.le_of_ble_eq_true rfl⟩) ⟨fun a U g mk q => by obtain ⟨q0, q1, qP, qK, qD, qN9⟩ := q; exact ⟨q0, q1, qP, va_K.moved (u := U) (U := U.calling g mk a) (Vm.Alike.refl U.vm) qK, qD, qN_same (s := U) (U := U.calling g mk a) rfl qN9⟩, va_recv (q0 := 0) hK hP (rfl : vwCl[2]? = some (RX2, TX2, 9)) rfl, fun U hU hW => ⟨rfl, by rw [hU], by rw [hU]; exact hPc, va_K.moved hW.alike hKc, hDc.weaken (fun _ _ _ _ => trivial), qN_warm hW hN⟩⟩ rfl rfl hl.1 rfl (lv_room (Nat.le_of_ble_eq_true rfl)) dL_law_301 ⟨Nat.le_of_ble_eq_true rfl, Nat.le_of_ble_eq_true rfl⟩) hS (fun q _ h => hFc q h) hFc (fun r301 u t H1 locs ht hvm p301 hB hz1 hk1 hS => ?_)
          obtain ⟨iln2_301, rfl⟩ : ∃ z, z = u := ⟨_, rfl⟩
          obtain ⟨hP1, hK1, hD1⟩ := hB
          rw [ht] at hP1
          have hK1 := va_K.moved hvm.symm hK1
          try dsimp only at p301
          obtain ⟨hP, hD⟩ := va_join (wr := [(aU_9, .inr (1, [.ref aM_9, .ref aC_9, .ref aB_9, .int 0])), (aB_9, .inr (0, [.ref aF_9, .int ius_9, .int 0])), (aR_9, .inl (kR_9, 22, .inl (fun _ => 0))), (aK_9, .inl (kK_9, 8, .inl (fun _ => 0))), (aL_9, .inl (kL_9, 8, .inl (fun _ => 0))), (aM_9, .inl (kM_9, 512, .inl (fun _ => 0))), (aC_9, .inl (kC_9, 12, .inl (fun _ => 0))), (aF_9, .inl (kF_9, 49, .inl (fun _ => 0))), (q13, .inr (3, [.int jbu_22, .ref bM_22, .ref bLo_22, .ref bS6_22, .ref bS7_22, .ref bKe_22, .ref bCo_22, .int 0, .int 25, .int 0, .int 0, .int 1, .int 0, .int 0, .ref bFr_22, .ref bSi_22, .ref bTo_22, .ref bSp_22, .ref bDo_22, .ref bRi_22, .ref bNf_22, .int 0, .ref bLd_22])), (bM_22, .inl (jM_22, 512, .inl (fun _ => 0))), (bLo_22, .inl (jLo_22, 6, .inl (fun _ => 0))), (bS6_22, .inl (jS6_22, 6, .inl (fun _ => 0))), (bS7_22, .inl (jS7_22, 6, .inl (fun _ => 0))), (bKe_22, .inl (jKe_22, 6, .inl (fun _ => 0))), (bCo_22, .inl (jCo_22, 12, .inl (fun _ => 0))), (bFr_22, .inl (jFr_22, 8, .inl (fun _ => 0))), (bSi_22, .inl (jSi_22, 8, .inl (fun _ => 0))), (bTo_22, .inl (jTo_22, 8, .inl (fun _ => 0))), (bSp_22, .inl (jSp_22, 8, .inl (fun _ => 0))), (bDo_22, .inl (jDo_22, 8, .inl (fun _ => 0))), (bRi_22, .inl (jRi_22, 8, .inl (fun _ => 0))), (bNf_22, .inl (jNf_22, 8, .inl (fun _ => 0))), (bLd_22, .inl (jLd_22, 8, .inl (fun _ => 0)))]) (w1 := [(q0, .inr (2, [.ref aU_9, .ref aR_9, .ref aK_9, .ref aL_9, .int 0, .int 25, .int iln2_301, .int 0, .int 1]))]) hP hD [0] [1, 2, 3, 4, 5, 6, 7, 8, 9, 10, 11, 12, 13, 14, 15, 16, 17, 18, 19, 20, 21, 22, 23] rfl rfl (by decide) (by decide) hk1 hFc hP1 hD1
          have hK := (hK.sub (tys' := [(kR_9, .int), (kK_9, .int), (kL_9, .int), (kM_9, .int), (kC_9, .int), (kF_9, .int), (jM_22, .int), (jLo_22, .int), (jS6_22, .int), (jS7_22, .int), (jKe_22, .int), (jCo_22, .int), (jFr_22, .int), (jSi_22, .int), (jTo_22, .int), (jSp_22, .int), (jDo_22, .int), (jRi_22, .int), (jNf_22, .int), (jLd_22, .int)]) [0, 1, 2, 3, 4, 5, 6, 7, 8, 9, 10, 11, 12, 13, 14, 15, 16, 17, 18, 19] rfl).app hK1
          generalize H1 = H at hP hS ⊢
          have hP : va_P (dC, dI) vwCl [(aU_9, .inr (1, [.ref aM_9, .ref aC_9, .ref aB_9, .int 0])), (aB_9, .inr (0, [.ref aF_9, .int ius_9, .int 0])), (aR_9, .inl (kR_9, 22, .inl (fun _ => 0))), (aK_9, .inl (kK_9, 8, .inl (fun _ => 0))), (aL_9, .inl (kL_9, 8, .inl (fun _ => 0))), (aM_9, .inl (kM_9, 512, .inl (fun _ => 0))), (aC_9, .inl (kC_9, 12, .inl (fun _ => 0))), (aF_9, .inl (kF_9, 49, .inl (fun _ => 0))), (q13, .inr (3, [.int jbu_22, .ref bM_22, .ref bLo_22, .ref bS6_22, .ref bS7_22, .ref bKe_22, .ref bCo_22, .int 0, .int 25, .int 0, .int 0, .int 1, .int 0, .int 0, .ref bFr_22, .ref bSi_22, .ref bTo_22, .ref bSp_22, .ref bDo_22, .ref bRi_22, .ref bNf_22, .int 0, .ref bLd_22])), (bM_22, .inl (jM_22, 512, .inl (fun _ => 0))), (bLo_22, .inl (jLo_22, 6, .inl (fun _ => 0))), (bS6_22, .inl (jS6_22, 6, .inl (fun _ => 0))), (bS7_22, .inl (jS7_22, 6, .inl (fun _ => 0))), (bKe_22, .inl (jKe_22, 6, .inl (fun _ => 0))), (bCo_22, .inl (jCo_22, 12, .inl (fun _ => 0))), (bFr_22, .inl (jFr_22, 8, .inl (fun _ => 0))), (bSi_22, .inl (jSi_22, 8, .inl (fun _ => 0))), (bTo_22, .inl (jTo_22, 8, .inl (fun _ => 0))), (bSp_22, .inl (jSp_22, 8, .inl (fun _ => 0))), (bDo_22, .inl (jDo_22, 8, .inl (fun _ => 0))), (bRi_22, .inl (jRi_22, 8, .inl (fun _ => 0))), (bNf_22, .inl (jNf_22, 8, .inl (fun _ => 0))), (bLd_22, .inl (jLd_22, 8, .inl (fun _ => 0))), (q0, .inr (2, [.ref aU_9, .ref aR_9, .ref aK_9, .ref aL_9, .int 0, .int 25, .int iln2_301, .int 0, .int 1]))] H := hP
          have hD : va_D A [(aU_9, .inr (1, [.ref aM_9, .ref aC_9, .ref aB_9, .int 0])), (aB_9, .inr (0, [.ref aF_9, .int ius_9, .int 0])), (aR_9, .inl (kR_9, 22, .inl (fun _ => 0))), (aK_9, .inl (kK_9, 8, .inl (fun _ => 0))), (aL_9, .inl (kL_9, 8, .inl (fun _ => 0))), (aM_9, .inl (kM_9, 512, .inl (fun _ => 0))), (aC_9, .inl (kC_9, 12, .inl (fun _ => 0))), (aF_9, .inl (kF_9, 49, .inl (fun _ => 0))), (q13, .inr (3, [.int jbu_22, .ref bM_22, .ref bLo_22, .ref bS6_22, .ref bS7_22, .ref bKe_22, .ref bCo_22, .int 0, .int 25, .int 0, .int 0, .int 1, .int 0, .int 0, .ref bFr_22, .ref bSi_22, .ref bTo_22, .ref bSp_22, .ref bDo_22, .ref bRi_22, .ref bNf_22, .int 0, .ref bLd_22])), (bM_22, .inl (jM_22, 512, .inl (fun _ => 0))), (bLo_22, .inl (jLo_22, 6, .inl (fun _ => 0))), (bS6_22, .inl (jS6_22, 6, .inl (fun _ => 0))), (bS7_22, .inl (jS7_22, 6, .inl (fun _ => 0))), (bKe_22, .inl (jKe_22, 6, .inl (fun _ => 0))), (bCo_22, .inl (jCo_22, 12, .inl (fun _ => 0))), (bFr_22, .inl (jFr_22, 8, .inl (fun _ => 0))), (bSi_22, .inl (jSi_22, 8, .inl (fun _ => 0))), (bTo_22, .inl (jTo_22, 8, .inl (fun _ => 0))), (bSp_22, .inl (jSp_22, 8, .inl (fun _ => 0))), (bDo_22, .inl (jDo_22, 8, .inl (fun _ => 0))), (bRi_22, .inl (jRi_22, 8, .inl (fun _ => 0))), (bNf_22, .inl (jNf_22, 8, .inl (fun _ => 0))), (bLd_22, .inl (jLd_22, 8, .inl (fun _ => 0))), (q0, .inr (2, [.ref aU_9, .ref aR_9, .ref aK_9, .ref aL_9, .int 0, .int 25, .int iln2_301, .int 0, .int 1]))] := hD
          have hK : va_K (dC, dI) vwCl [(kR_9, .int), (kK_9, .int), (kL_9, .int), (kM_9, .int), (kC_9, .int), (kF_9, .int), (jM_22, .int), (jLo_22, .int), (jS6_22, .int), (jS7_22, .int), (jKe_22, .int), (jCo_22, .int), (jFr_22, .int), (jSi_22, .int), (jTo_22, .int), (jSp_22, .int), (jDo_22, .int), (jRi_22, .int), (jNf_22, .int), (jLd_22, .int)] s := hK
          refine lv_aload_n hx hb dL_law_304 rfl (lv_at hl 1 rfl) ?_
          refine lv_aload_n hx hb dL_law_305 rfl (lv_at hl 3 rfl) ?_
          refine lv_iload_n hx hb dL_law_306 rfl (lv_at hl 0 rfl) ?_
          refine lv_iconst (v := 1) hx hb dL_law_307 (by decide) ?_
          refine lv_iadd hx hb dL_law_308 ?_
          refine q_casti (y := 2) (by decide) ?_
          refine va_sld hx hb hX hbl hbA hS (vp_in_iff.mpr ⟨by decide, by decide⟩) dL_law_309 ?_
          refine lv_aload_n hx hb dL_law_310 rfl (lv_at hl 3 rfl) ?_
          refine lv_iload_n hx hb dL_law_311 rfl (lv_at hl 0 rfl) ?_
          refine lv_iconst (v := 2) hx hb dL_law_312 (by decide) ?_
          refine lv_iadd hx hb dL_law_313 ?_
          refine q_casti (y := 3) (by decide) ?_
          refine va_sld hx hb hX hbl hbA hS (vp_in_iff.mpr ⟨by decide, by decide⟩) dL_law_314 ?_
          refine lv_if_eq (tgt := 322) hx hb dL_law_315 (by decide) (fun h315 => ?_) (fun h315 => ?_)
          · refine lv_iconst (v := 0) hx hb dL_law_322 (by decide) ?_
            have hPc := hP.sub (ws' := [(q13, .inr (3, [.int jbu_22, .ref bM_22, .ref bLo_22, .ref bS6_22, .ref bS7_22, .ref bKe_22, .ref bCo_22, .int 0, .int 25, .int 0, .int 0, .int 1, .int 0, .int 0, .ref bFr_22, .ref bSi_22, .ref bTo_22, .ref bSp_22, .ref bDo_22, .ref bRi_22, .ref bNf_22, .int 0, .ref bLd_22]))]) [8] rfl
            have hKc := hK.sub (tys' := []) [] rfl
            have hDc := hD.sub (ws' := [(q13, .inr (3, [.int jbu_22, .ref bM_22, .ref bLo_22, .ref bS6_22, .ref bS7_22, .ref bKe_22, .ref bCo_22, .int 0, .int 25, .int 0, .int 0, .int 1, .int 0, .int 0, .ref bFr_22, .ref bSi_22, .ref bTo_22, .ref bSp_22, .ref bDo_22, .ref bRi_22, .ref bNf_22, .int 0, .ref bLd_22]))]) [8] (by decide) rfl
            have hFc := va_free (wc := [(q13, .inr (3, [.int jbu_22, .ref bM_22, .ref bLo_22, .ref bS6_22, .ref bS7_22, .ref bKe_22, .ref bCo_22, .int 0, .int 25, .int 0, .int 0, .int 1, .int 0, .int 0, .ref bFr_22, .ref bSi_22, .ref bTo_22, .ref bSp_22, .ref bDo_22, .ref bRi_22, .ref bNf_22, .int 0, .ref bLd_22]))]) hD hS hA [8] rfl
            refine va_calli (va_runV (As := [.int (xs (2 : Int32).toNatClampNeg), .int 0]) (rest := [.int r301]) ⟨hx, hb, hml, hown, htb⟩ (cM_line l dC dI H.size q13 (xs (2 : Int32).toNatClampNeg) 0 jbu_22 bM_22 bLo_22 bS6_22 bS7_22 bKe_22 bCo_22 0 25 0 0 1 0 0 bFr_22 bSi_22 bTo_22 bSp_22 bDo_22 bRi_22 bNf_22 0 bLd_22) (cwV 2 htb (q_gV m2_184 m2_185 m2_186 m1_4 m2_187) rfl rfl rfl (by decide +kernel) ⟨Nat.le_of_ble_eq_true rfl, Nat.le_of_ble_eq_true rfl⟩) ⟨fun a U g mk q => by obtain ⟨q0, q1, qP, qK, qD⟩ := q; exact ⟨q0, q1, qP, va_K.moved (u := U) (U := U.calling g mk a) (Vm.Alike.refl U.vm) qK, qD⟩, va_recv (q0 := 8) hK hP (rfl : vwCl[3]? = some (RX3, TX3, 23)) rfl, fun U hU hW => ⟨rfl, by rw [hU], by rw [hU]; exact hPc, va_K.moved hW.alike hKc, hDc.weaken (fun _ _ _ _ => trivial)⟩⟩ rfl rfl hl.1 rfl (lv_room (Nat.le_of_ble_eq_true rfl)) dL_law_323 ⟨Nat.le_of_ble_eq_true rfl, Nat.le_of_ble_eq_true rfl⟩) hS (fun q _ h => hFc q h) hFc (fun r323 u t H1 locs ht hvm p323 hB hz1 hk1 hS => ?_)
            obtain ⟨jln2_323, rfl⟩ : ∃ z, z = u := ⟨_, rfl⟩
            obtain ⟨hP1, hK1, hD1⟩ := hB
            rw [ht] at hP1
            have hK1 := va_K.moved hvm.symm hK1
            try dsimp only at p323
            obtain ⟨hP, hD⟩ := va_join (wr := [(aU_9, .inr (1, [.ref aM_9, .ref aC_9, .ref aB_9, .int 0])), (aB_9, .inr (0, [.ref aF_9, .int ius_9, .int 0])), (aR_9, .inl (kR_9, 22, .inl (fun _ => 0))), (aK_9, .inl (kK_9, 8, .inl (fun _ => 0))), (aL_9, .inl (kL_9, 8, .inl (fun _ => 0))), (aM_9, .inl (kM_9, 512, .inl (fun _ => 0))), (aC_9, .inl (kC_9, 12, .inl (fun _ => 0))), (aF_9, .inl (kF_9, 49, .inl (fun _ => 0))), (bM_22, .inl (jM_22, 512, .inl (fun _ => 0))), (bLo_22, .inl (jLo_22, 6, .inl (fun _ => 0))), (bS6_22, .inl (jS6_22, 6, .inl (fun _ => 0))), (bS7_22, .inl (jS7_22, 6, .inl (fun _ => 0))), (bKe_22, .inl (jKe_22, 6, .inl (fun _ => 0))), (bCo_22, .inl (jCo_22, 12, .inl (fun _ => 0))), (bFr_22, .inl (jFr_22, 8, .inl (fun _ => 0))), (bSi_22, .inl (jSi_22, 8, .inl (fun _ => 0))), (bTo_22, .inl (jTo_22, 8, .inl (fun _ => 0))), (bSp_22, .inl (jSp_22, 8, .inl (fun _ => 0))), (bDo_22, .inl (jDo_22, 8, .inl (fun _ => 0))), (bRi_22, .inl (jRi_22, 8, .inl (fun _ => 0))), (bNf_22, .inl (jNf_22, 8, .inl (fun _ => 0))), (bLd_22, .inl (jLd_22, 8, .inl (fun _ => 0))), (q0, .inr (2, [.ref aU_9, .ref aR_9, .ref aK_9, .ref aL_9, .int 0, .int 25, .int iln2_301, .int 0, .int 1]))]) (w1 := [(q13, .inr (3, [.int jbu_22, .ref bM_22, .ref bLo_22, .ref bS6_22, .ref bS7_22, .ref bKe_22, .ref bCo_22, .int 0, .int 25, .int jln2_323, .int 0, .int 1, .int 0, .int 0, .ref bFr_22, .ref bSi_22, .ref bTo_22, .ref bSp_22, .ref bDo_22, .ref bRi_22, .ref bNf_22, .int 0, .ref bLd_22]))]) hP hD [8] [0, 1, 2, 3, 4, 5, 6, 7, 9, 10, 11, 12, 13, 14, 15, 16, 17, 18, 19, 20, 21, 22, 23] rfl rfl (by decide) (by decide) hk1 hFc hP1 hD1
            have hK := (hK.sub (tys' := [(kR_9, .int), (kK_9, .int), (kL_9, .int), (kM_9, .int), (kC_9, .int), (kF_9, .int), (jM_22, .int), (jLo_22, .int), (jS6_22, .int), (jS7_22, .int), (jKe_22, .int), (jCo_22, .int), (jFr_22, .int), (jSi_22, .int), (jTo_22, .int), (jSp_22, .int), (jDo_22, .int), (jRi_22, .int), (jNf_22, .int), (jLd_22, .int)]) [0, 1, 2, 3, 4, 5, 6, 7, 8, 9, 10, 11, 12, 13, 14, 15, 16, 17, 18, 19] rfl).app hK1
            generalize H1 = H at hP hS ⊢
            have hP : va_P (dC, dI) vwCl [(aU_9, .inr (1, [.ref aM_9, .ref aC_9, .ref aB_9, .int 0])), (aB_9, .inr (0, [.ref aF_9, .int ius_9, .int 0])), (aR_9, .inl (kR_9, 22, .inl (fun _ => 0))), (aK_9, .inl (kK_9, 8, .inl (fun _ => 0))), (aL_9, .inl (kL_9, 8, .inl (fun _ => 0))), (aM_9, .inl (kM_9, 512, .inl (fun _ => 0))), (aC_9, .inl (kC_9, 12, .inl (fun _ => 0))), (aF_9, .inl (kF_9, 49, .inl (fun _ => 0))), (bM_22, .inl (jM_22, 512, .inl (fun _ => 0))), (bLo_22, .inl (jLo_22, 6, .inl (fun _ => 0))), (bS6_22, .inl (jS6_22, 6, .inl (fun _ => 0))), (bS7_22, .inl (jS7_22, 6, .inl (fun _ => 0))), (bKe_22, .inl (jKe_22, 6, .inl (fun _ => 0))), (bCo_22, .inl (jCo_22, 12, .inl (fun _ => 0))), (bFr_22, .inl (jFr_22, 8, .inl (fun _ => 0))), (bSi_22, .inl (jSi_22, 8, .inl (fun _ => 0))), (bTo_22, .inl (jTo_22, 8, .inl (fun _ => 0))), (bSp_22, .inl (jSp_22, 8, .inl (fun _ => 0))), (bDo_22, .inl (jDo_22, 8, .inl (fun _ => 0))), (bRi_22, .inl (jRi_22, 8, .inl (fun _ => 0))), (bNf_22, .inl (jNf_22, 8, .inl (fun _ => 0))), (bLd_22, .inl (jLd_22, 8, .inl (fun _ => 0))), (q0, .inr (2, [.ref aU_9, .ref aR_9, .ref aK_9, .ref aL_9, .int 0, .int 25, .int iln2_301, .int 0, .int 1])), (q13, .inr (3, [.int jbu_22, .ref bM_22, .ref bLo_22, .ref bS6_22, .ref bS7_22, .ref bKe_22, .ref bCo_22, .int 0, .int 25, .int jln2_323, .int 0, .int 1, .int 0, .int 0, .ref bFr_22, .ref bSi_22, .ref bTo_22, .ref bSp_22, .ref bDo_22, .ref bRi_22, .ref bNf_22, .int 0, .ref bLd_22]))] H := hP
            have hD : va_D A [(aU_9, .inr (1, [.ref aM_9, .ref aC_9, .ref aB_9, .int 0])), (aB_9, .inr (0, [.ref aF_9, .int ius_9, .int 0])), (aR_9, .inl (kR_9, 22, .inl (fun _ => 0))), (aK_9, .inl (kK_9, 8, .inl (fun _ => 0))), (aL_9, .inl (kL_9, 8, .inl (fun _ => 0))), (aM_9, .inl (kM_9, 512, .inl (fun _ => 0))), (aC_9, .inl (kC_9, 12, .inl (fun _ => 0))), (aF_9, .inl (kF_9, 49, .inl (fun _ => 0))), (bM_22, .inl (jM_22, 512, .inl (fun _ => 0))), (bLo_22, .inl (jLo_22, 6, .inl (fun _ => 0))), (bS6_22, .inl (jS6_22, 6, .inl (fun _ => 0))), (bS7_22, .inl (jS7_22, 6, .inl (fun _ => 0))), (bKe_22, .inl (jKe_22, 6, .inl (fun _ => 0))), (bCo_22, .inl (jCo_22, 12, .inl (fun _ => 0))), (bFr_22, .inl (jFr_22, 8, .inl (fun _ => 0))), (bSi_22, .inl (jSi_22, 8, .inl (fun _ => 0))), (bTo_22, .inl (jTo_22, 8, .inl (fun _ => 0))), (bSp_22, .inl (jSp_22, 8, .inl (fun _ => 0))), (bDo_22, .inl (jDo_22, 8, .inl (fun _ => 0))), (bRi_22, .inl (jRi_22, 8, .inl (fun _ => 0))), (bNf_22, .inl (jNf_22, 8, .inl (fun _ => 0))), (bLd_22, .inl (jLd_22, 8, .inl (fun _ => 0))), (q0, .inr (2, [.ref aU_9, .ref aR_9, .ref aK_9, .ref aL_9, .int 0, .int 25, .int iln2_301, .int 0, .int 1])), (q13, .inr (3, [.int jbu_22, .ref bM_22, .ref bLo_22, .ref bS6_22, .ref bS7_22, .ref bKe_22, .ref bCo_22, .int 0, .int 25, .int jln2_323, .int 0, .int 1, .int 0, .int 0, .ref bFr_22, .ref bSi_22, .ref bTo_22, .ref bSp_22, .ref bDo_22, .ref bRi_22, .ref bNf_22, .int 0, .ref bLd_22]))] := hD
            have hK : va_K (dC, dI) vwCl [(kR_9, .int), (kK_9, .int), (kL_9, .int), (kM_9, .int), (kC_9, .int), (kF_9, .int), (jM_22, .int), (jLo_22, .int), (jS6_22, .int), (jS7_22, .int), (jKe_22, .int), (jCo_22, .int), (jFr_22, .int), (jSi_22, .int), (jTo_22, .int), (jSp_22, .int), (jDo_22, .int), (jRi_22, .int), (jNf_22, .int), (jLd_22, .int)] s := hK
            refine lv_icmp_eq (tgt := 433) hx hb dL_law_326 (by decide) (fun h326 => ?_) (fun h326 => ?_)
            · refine lv_iinc (k := 0) (v := 7) (lv' := [(3, .int 7), (2, .ref q13), (1, .ref q0), (0, .ref b)]) hx hb dL_law_433 hl rfl (by decide) (by decide) rfl (fun ls hl => ?_)
              refine lv_goto (tgt := 28) hx hb dL_law_436 (by decide) ?_
              refine lv_iload_n hx hb dL_law_28 rfl (lv_at hl 0 rfl) ?_
              refine lv_aload_n hx hb dL_law_29 rfl (lv_at hl 3 rfl) ?_
              refine va_slen hx hb hX hbl hbA hS dL_law_30 ?_
              refine q_casti (y := 7) (by decide) ?_
              refine lv_bipush (v := 6) hx hb dL_law_31 (by decide) ?_
              refine lv_isub hx hb dL_law_33 ?_
              refine q_casti (y := 1) (by decide) ?_
              refine lv_icmp_gt (tgt := 439) hx hb dL_law_34 (by decide) (fun h34_2 => ?_) (fun h34_2 => ?_)
              · refine lv_iconst (v := 1) hx hb dL_law_439 (by decide) ?_
                refine va_forget (fun q hq => hA2 _ (hS.2.2 q hq)) ?_
                refine W.widen (k := 24) (n := 1262) (Nat.le_of_ble_eq_true rfl) (Nat.le_of_ble_eq_true rfl) ?_
                exact lw_ret hx hb hr hlocks dL_law_440
              · exact absurd h34_2 (by decide)
            · exact absurd (p301.trans p323.symm) h326
          · refine lv_iconst (v := 1) hx hb dL_law_318 (by decide) ?_
            refine lv_goto (tgt := 323) hx hb dL_law_319 (by decide) ?_
            have hPc := hP.sub (ws' := [(q13, .inr (3, [.int jbu_22, .ref bM_22, .ref bLo_22, .ref bS6_22, .ref bS7_22, .ref bKe_22, .ref bCo_22, .int 0, .int 25, .int 0, .int 0, .int 1, .int 0, .int 0, .ref bFr_22, .ref bSi_22, .ref bTo_22, .ref bSp_22, .ref bDo_22, .ref bRi_22, .ref bNf_22, .int 0, .ref bLd_22]))]) [8] rfl
            have hKc := hK.sub (tys' := []) [] rfl
            have hDc := hD.sub (ws' := [(q13, .inr (3, [.int jbu_22, .ref bM_22, .ref bLo_22, .ref bS6_22, .ref bS7_22, .ref bKe_22, .ref bCo_22, .int 0, .int 25, .int 0, .int 0, .int 1, .int 0, .int 0, .ref bFr_22, .ref bSi_22, .ref bTo_22, .ref bSp_22, .ref bDo_22, .ref bRi_22, .ref bNf_22, .int 0, .ref bLd_22]))]) [8] (by decide) rfl
            have hFc := va_free (wc := [(q13, .inr (3, [.int jbu_22, .ref bM_22, .ref bLo_22, .ref bS6_22, .ref bS7_22, .ref bKe_22, .ref bCo_22, .int 0, .int 25, .int 0, .int 0, .int 1, .int 0, .int 0, .ref bFr_22, .ref bSi_22, .ref bTo_22, .ref bSp_22, .ref bDo_22, .ref bRi_22, .ref bNf_22, .int 0, .ref bLd_22]))]) hD hS hA [8] rfl
            refine va_calli (va_runV (As := [.int (xs (2 : Int32).toNatClampNeg), .int 1]) (rest := [.int r301]) ⟨hx, hb, hml, hown, htb⟩ (cM_line l dC dI H.size q13 (xs (2 : Int32).toNatClampNeg) 1 jbu_22 bM_22 bLo_22 bS6_22 bS7_22 bKe_22 bCo_22 0 25 0 0 1 0 0 bFr_22 bSi_22 bTo_22 bSp_22 bDo_22 bRi_22 bNf_22 0 bLd_22) (cwV 2 htb (q_gV m2_184 m2_185 m2_186 m1_4 m2_187) rfl rfl rfl (by decide +kernel) ⟨Nat.le_of_ble_eq_true rfl, Nat.le_of_ble_eq_true rfl⟩) ⟨fun a U g mk q => by obtain ⟨q0, q1, qP, qK, qD⟩ := q; exact ⟨q0, q1, qP, va_K.moved (u := U) (U := U.calling g mk a) (Vm.Alike.refl U.vm) qK, qD⟩, va_recv (q0 := 8) hK hP (rfl : vwCl[3]? = some (RX3, TX3, 23)) rfl, fun U hU hW => ⟨rfl, by rw [hU], by rw [hU]; exact hPc, va_K.moved hW.alike hKc, hDc.weaken (fun _ _ _ _ => trivial)⟩⟩ rfl rfl hl.1 rfl (lv_room (Nat.le_of_ble_eq_true rfl)) dL_law_323 ⟨Nat.le_of_ble_eq_true rfl, Nat.le_of_ble_eq_true rfl⟩) hS (fun q _ h => hFc q h) hFc (fun r323 u t H1 locs ht hvm p323 hB hz1 hk1 hS => ?_)
            obtain ⟨jln2_323, rfl⟩ : ∃ z, z = u := ⟨_, rfl⟩
            obtain ⟨hP1, hK1, hD1⟩ := hB
            rw [ht] at hP1
            have hK1 := va_K.moved hvm.symm hK1
            try dsimp only at p323
            obtain ⟨hP, hD⟩ := va_join (wr := [(aU_9, .inr (1, [.ref aM_9, .ref aC_9, .ref aB_9, .int 0])), (aB_9, .inr (0, [.ref aF_9, .int ius_9, .int 0])), (aR_9, .inl (kR_9, 22, .inl (fun _ => 0))), (aK_9, .inl (kK_9, 8, .inl (fun _ => 0))), (aL_9, .inl (kL_9, 8, .inl (fun _ => 0))), (aM_9, .inl (kM_9, 512, .inl (fun _ => 0))), (aC_9, .inl (kC_9, 12, .inl (fun _ => 0))), (aF_9, .inl (kF_9, 49, .inl (fun _ => 0))), (bM_22, .inl (jM_22, 512, .inl (fun _ => 0))), (bLo_22, .inl (jLo_22, 6, .inl (fun _ => 0))), (bS6_22, .inl (jS6_22, 6, .inl (fun _ => 0))), (bS7_22, .inl (jS7_22, 6, .inl (fun _ => 0))), (bKe_22, .inl (jKe_22, 6, .inl (fun _ => 0))), (bCo_22, .inl (jCo_22, 12, .inl (fun _ => 0))), (bFr_22, .inl (jFr_22, 8, .inl (fun _ => 0))), (bSi_22, .inl (jSi_22, 8, .inl (fun _ => 0))), (bTo_22, .inl (jTo_22, 8, .inl (fun _ => 0))), (bSp_22, .inl (jSp_22, 8, .inl (fun _ => 0))), (bDo_22, .inl (jDo_22, 8, .inl (fun _ => 0))), (bRi_22, .inl (jRi_22, 8, .inl (fun _ => 0))), (bNf_22, .inl (jNf_22, 8, .inl (fun _ => 0))), (bLd_22, .inl (jLd_22, 8, .inl (fun _ => 0))), (q0, .inr (2, [.ref aU_9, .ref aR_9, .ref aK_9, .ref aL_9, .int 0, .int 25, .int iln2_301, .int 0, .int 1]))]) (w1 := [(q13, .inr (3, [.int jbu_22, .ref bM_22, .ref bLo_22, .ref bS6_22, .ref bS7_22, .ref bKe_22, .ref bCo_22, .int 0, .int 25, .int jln2_323, .int 0, .int 1, .int 0, .int 0, .ref bFr_22, .ref bSi_22, .ref bTo_22, .ref bSp_22, .ref bDo_22, .ref bRi_22, .ref bNf_22, .int 0, .ref bLd_22]))]) hP hD [8] [0, 1, 2, 3, 4, 5, 6, 7, 9, 10, 11, 12, 13, 14, 15, 16, 17, 18, 19, 20, 21, 22, 23] rfl rfl (by decide) (by decide) hk1 hFc hP1 hD1
            have hK := (hK.sub (tys' := [(kR_9, .int), (kK_9, .int), (kL_9, .int), (kM_9, .int), (kC_9, .int), (kF_9, .int), (jM_22, .int), (jLo_22, .int), (jS6_22, .int), (jS7_22, .int), (jKe_22, .int), (jCo_22, .int), (jFr_22, .int), (jSi_22, .int), (jTo_22, .int), (jSp_22, .int), (jDo_22, .int), (jRi_22, .int), (jNf_22, .int), (jLd_22, .int)]) [0, 1, 2, 3, 4, 5, 6, 7, 8, 9, 10, 11, 12, 13, 14, 15, 16, 17, 18, 19] rfl).app hK1
            generalize H1 = H at hP hS ⊢
            have hP : va_P (dC, dI) vwCl [(aU_9, .inr (1, [.ref aM_9, .ref aC_9, .ref aB_9, .int 0])), (aB_9, .inr (0, [.ref aF_9, .int ius_9, .int 0])), (aR_9, .inl (kR_9, 22, .inl (fun _ => 0))), (aK_9, .inl (kK_9, 8, .inl (fun _ => 0))), (aL_9, .inl (kL_9, 8, .inl (fun _ => 0))), (aM_9, .inl (kM_9, 512, .inl (fun _ => 0))), (aC_9, .inl (kC_9, 12, .inl (fun _ => 0))), (aF_9, .inl (kF_9, 49, .inl (fun _ => 0))), (bM_22, .inl (jM_22, 512, .inl (fun _ => 0))), (bLo_22, .inl (jLo_22, 6, .inl (fun _ => 0))), (bS6_22, .inl (jS6_22, 6, .inl (fun _ => 0))), (bS7_22, .inl (jS7_22, 6, .inl (fun _ => 0))), (bKe_22, .inl (jKe_22, 6, .inl (fun _ => 0))), (bCo_22, .inl (jCo_22, 12, .inl (fun _ => 0))), (bFr_22, .inl (jFr_22, 8, .inl (fun _ => 0))), (bSi_22, .inl (jSi_22, 8, .inl (fun _ => 0))), (bTo_22, .inl (jTo_22, 8, .inl (fun _ => 0))), (bSp_22, .inl (jSp_22, 8, .inl (fun _ => 0))), (bDo_22, .inl (jDo_22, 8, .inl (fun _ => 0))), (bRi_22, .inl (jRi_22, 8, .inl (fun _ => 0))), (bNf_22, .inl (jNf_22, 8, .inl (fun _ => 0))), (bLd_22, .inl (jLd_22, 8, .inl (fun _ => 0))), (q0, .inr (2, [.ref aU_9, .ref aR_9, .ref aK_9, .ref aL_9, .int 0, .int 25, .int iln2_301, .int 0, .int 1])), (q13, .inr (3, [.int jbu_22, .ref bM_22, .ref bLo_22, .ref bS6_22, .ref bS7_22, .ref bKe_22, .ref bCo_22, .int 0, .int 25, .int jln2_323, .int 0, .int 1, .int 0, .int 0, .ref bFr_22, .ref bSi_22, .ref bTo_22, .ref bSp_22, .ref bDo_22, .ref bRi_22, .ref bNf_22, .int 0, .ref bLd_22]))] H := hP
            have hD : va_D A [(aU_9, .inr (1, [.ref aM_9, .ref aC_9, .ref aB_9, .int 0])), (aB_9, .inr (0, [.ref aF_9, .int ius_9, .int 0])), (aR_9, .inl (kR_9, 22, .inl (fun _ => 0))), (aK_9, .inl (kK_9, 8, .inl (fun _ => 0))), (aL_9, .inl (kL_9, 8, .inl (fun _ => 0))), (aM_9, .inl (kM_9, 512, .inl (fun _ => 0))), (aC_9, .inl (kC_9, 12, .inl (fun _ => 0))), (aF_9, .inl (kF_9, 49, .inl (fun _ => 0))), (bM_22, .inl (jM_22, 512, .inl (fun _ => 0))), (bLo_22, .inl (jLo_22, 6, .inl (fun _ => 0))), (bS6_22, .inl (jS6_22, 6, .inl (fun _ => 0))), (bS7_22, .inl (jS7_22, 6, .inl (fun _ => 0))), (bKe_22, .inl (jKe_22, 6, .inl (fun _ => 0))), (bCo_22, .inl (jCo_22, 12, .inl (fun _ => 0))), (bFr_22, .inl (jFr_22, 8, .inl (fun _ => 0))), (bSi_22, .inl (jSi_22, 8, .inl (fun _ => 0))), (bTo_22, .inl (jTo_22, 8, .inl (fun _ => 0))), (bSp_22, .inl (jSp_22, 8, .inl (fun _ => 0))), (bDo_22, .inl (jDo_22, 8, .inl (fun _ => 0))), (bRi_22, .inl (jRi_22, 8, .inl (fun _ => 0))), (bNf_22, .inl (jNf_22, 8, .inl (fun _ => 0))), (bLd_22, .inl (jLd_22, 8, .inl (fun _ => 0))), (q0, .inr (2, [.ref aU_9, .ref aR_9, .ref aK_9, .ref aL_9, .int 0, .int 25, .int iln2_301, .int 0, .int 1])), (q13, .inr (3, [.int jbu_22, .ref bM_22, .ref bLo_22, .ref bS6_22, .ref bS7_22, .ref bKe_22, .ref bCo_22, .int 0, .int 25, .int jln2_323, .int 0, .int 1, .int 0, .int 0, .ref bFr_22, .ref bSi_22, .ref bTo_22, .ref bSp_22, .ref bDo_22, .ref bRi_22, .ref bNf_22, .int 0, .ref bLd_22]))] := hD
            have hK : va_K (dC, dI) vwCl [(kR_9, .int), (kK_9, .int), (kL_9, .int), (kM_9, .int), (kC_9, .int), (kF_9, .int), (jM_22, .int), (jLo_22, .int), (jS6_22, .int), (jS7_22, .int), (jKe_22, .int), (jCo_22, .int), (jFr_22, .int), (jSi_22, .int), (jTo_22, .int), (jSp_22, .int), (jDo_22, .int), (jRi_22, .int), (jNf_22, .int), (jLd_22, .int)] s := hK
            refine lv_icmp_eq (tgt := 433) hx hb dL_law_326 (by decide) (fun h326 => ?_) (fun h326 => ?_)
            · refine lv_iinc (k := 0) (v := 7) (lv' := [(3, .int 7), (2, .ref q13), (1, .ref q0), (0, .ref b)]) hx hb dL_law_433 hl rfl (by decide) (by decide) rfl (fun ls hl => ?_)
              refine lv_goto (tgt := 28) hx hb dL_law_436 (by decide) ?_
              refine lv_iload_n hx hb dL_law_28 rfl (lv_at hl 0 rfl) ?_
              refine lv_aload_n hx hb dL_law_29 rfl (lv_at hl 3 rfl) ?_
              refine va_slen hx hb hX hbl hbA hS dL_law_30 ?_
              refine q_casti (y := 7) (by decide) ?_
              refine lv_bipush (v := 6) hx hb dL_law_31 (by decide) ?_
              refine lv_isub hx hb dL_law_33 ?_
              refine q_casti (y := 1) (by decide) ?_
              refine lv_icmp_gt (tgt := 439) hx hb dL_law_34 (by decide) (fun h34_2 => ?_) (fun h34_2 => ?_)
              · refine lv_iconst (v := 1) hx hb dL_law_439 (by decide) ?_
                refine va_forget (fun q hq => hA2 _ (hS.2.2 q hq)) ?_
                refine W.widen (k := 24) (n := 1262) (Nat.le_of_ble_eq_true rfl) (Nat.le_of_ble_eq_true rfl) ?_
                exact lw_ret hx hb hr hlocks dL_law_440
              · exact absurd h34_2 (by decide)
            · exact absurd (p301.trans p323.symm) h326
      by_cases h43_5 : v42 = 5
      · refine lv_tableIn (off := 288) (tgt := 331) hx hb dL_law_43 (by rw [h43_5]; decide) (by rw [h43_5]; decide) (by rw [h43_5]; decide) (by decide) ?_
        refine lv_aload_n hx hb dL_law_331 rfl (lv_at hl 2 rfl) ?_
        refine lv_aload_n hx hb dL_law_332 rfl (lv_at hl 3 rfl) ?_
        refine lv_iload_n hx hb dL_law_333 rfl (lv_at hl 0 rfl) ?_
        refine lv_iconst (v := 1) hx hb dL_law_334 (by decide) ?_
        refine lv_iadd hx hb dL_law_335 ?_
        refine q_casti (y := 2) (by decide) ?_
        refine va_sld hx hb hX hbl hbA hS (vp_in_iff.mpr ⟨by decide, by decide⟩) dL_law_336 ?_
        have hPc := hP.sub (ws' := [(q0, .inr (2, [.ref aU_9, .ref aR_9, .ref aK_9, .ref aL_9, .int 0, .int 25, .int 0, .int 0, .int 1]))]) [0] rfl
        have hKc := hK.sub (tys' := []) [] rfl
        refine vp_callSi (W.runV (As := [.int (xs (2 : Int32).toNatClampNeg)]) (rest := []) ⟨hx, hb, hml, hown, htb⟩ (cX_run1 l dC dI q0 (xs (2 : Int32).toNatClampNeg) aU_9 aR_9 aK_9 aL_9 0 25 0 0 1 (by decide)) (cwV 1 htb (q_gV m1_126 m1_127 m1_128 m1_1 m1_129) rfl rfl rfl (by decide +kernel) ⟨Nat.le_of_ble_eq_true rfl, Nat.le_of_ble_eq_true rfl⟩) ⟨fun a U g mk q => by obtain ⟨q0, qP, qK, qN9⟩ := q; exact ⟨q0, qP, va_K.moved (u := U) (U := U.calling g mk a) (Vm.Alike.refl U.vm) qK, qN_same (s := U) (U := U.calling g mk a) rfl qN9⟩, va_recv (q0 := 0) hK hP (rfl : vwCl[2]? = some (RX2, TX2, 9)) rfl, fun U hU hW => ⟨rfl, by rw [hU]; exact hPc, va_K.moved hW.alike hKc, qN_warm hW hN⟩⟩ rfl rfl hl.1 rfl (lv_room (Nat.le_of_ble_eq_true rfl)) dL_law_337 ⟨Nat.le_of_ble_eq_true rfl, Nat.le_of_ble_eq_true rfl⟩) (fun r337 p337 => ?_)
        try dsimp only at p337
        refine lv_aload_n hx hb dL_law_340 rfl (lv_at hl 1 rfl) ?_
        refine lv_aload_n hx hb dL_law_341 rfl (lv_at hl 3 rfl) ?_
        refine lv_iload_n hx hb dL_law_342 rfl (lv_at hl 0 rfl) ?_
        refine lv_iconst (v := 1) hx hb dL_law_343 (by decide) ?_
        refine lv_iadd hx hb dL_law_344 ?_
        refine q_casti (y := 2) (by decide) ?_
        refine va_sld hx hb hX hbl hbA hS (vp_in_iff.mpr ⟨by decide, by decide⟩) dL_law_345 ?_
        have hPc := hP.sub (ws' := [(q13, .inr (3, [.int jbu_22, .ref bM_22, .ref bLo_22, .ref bS6_22, .ref bS7_22, .ref bKe_22, .ref bCo_22, .int 0, .int 25, .int 0, .int 0, .int 1, .int 0, .int 0, .ref bFr_22, .ref bSi_22, .ref bTo_22, .ref bSp_22, .ref bDo_22, .ref bRi_22, .ref bNf_22, .int 0, .ref bLd_22]))]) [9] rfl
        have hKc := hK.sub (tys' := []) [] rfl
        refine vp_callSi (W.runV (As := [.int (xs (2 : Int32).toNatClampNeg)]) (rest := [.int r337]) ⟨hx, hb, hml, hown, htb⟩ (cM_run1 l dC dI q13 (xs (2 : Int32).toNatClampNeg) jbu_22 bM_22 bLo_22 bS6_22 bS7_22 bKe_22 bCo_22 0 25 0 0 1 0 0 bFr_22 bSi_22 bTo_22 bSp_22 bDo_22 bRi_22 bNf_22 0 bLd_22 (by decide)) (cwV 1 htb (q_gV m2_188 m2_189 m2_190 m1_4 m2_191) rfl rfl rfl (by decide +kernel) ⟨Nat.le_of_ble_eq_true rfl, Nat.le_of_ble_eq_true rfl⟩) ⟨fun a U g mk q => by obtain ⟨q0, qP, qK⟩ := q; exact ⟨q0, qP, va_K.moved (u := U) (U := U.calling g mk a) (Vm.Alike.refl U.vm) qK⟩, va_recv (q0 := 9) hK hP (rfl : vwCl[3]? = some (RX3, TX3, 23)) rfl, fun U hU hW => ⟨rfl, by rw [hU]; exact hPc, va_K.moved hW.alike hKc⟩⟩ rfl rfl hl.1 rfl (lv_room (Nat.le_of_ble_eq_true rfl)) dL_law_346 ⟨Nat.le_of_ble_eq_true rfl, Nat.le_of_ble_eq_true rfl⟩) (fun r346 p346 => ?_)
        try dsimp only at p346
        refine lv_icmp_eq (tgt := 433) hx hb dL_law_349 (by decide) (fun h349 => ?_) (fun h349 => ?_)
        · refine lv_iinc (k := 0) (v := 7) (lv' := [(3, .int 7), (2, .ref q13), (1, .ref q0), (0, .ref b)]) hx hb dL_law_433 hl rfl (by decide) (by decide) rfl (fun ls hl => ?_)
          refine lv_goto (tgt := 28) hx hb dL_law_436 (by decide) ?_
          refine lv_iload_n hx hb dL_law_28 rfl (lv_at hl 0 rfl) ?_
          refine lv_aload_n hx hb dL_law_29 rfl (lv_at hl 3 rfl) ?_
          refine va_slen hx hb hX hbl hbA hS dL_law_30 ?_
          refine q_casti (y := 7) (by decide) ?_
          refine lv_bipush (v := 6) hx hb dL_law_31 (by decide) ?_
          refine lv_isub hx hb dL_law_33 ?_
          refine q_casti (y := 1) (by decide) ?_
          refine lv_icmp_gt (tgt := 439) hx hb dL_law_34 (by decide) (fun h34_2 => ?_) (fun h34_2 => ?_)
          · refine lv_iconst (v := 1) hx hb dL_law_439 (by decide) ?_
            refine va_forget (fun q hq => hA2 _ (hS.2.2 q hq)) ?_
            refine W.widen (k := 24) (n := 1262) (Nat.le_of_ble_eq_true rfl) (Nat.le_of_ble_eq_true rfl) ?_
            exact lw_ret hx hb hr hlocks dL_law_440
          · exact absurd h34_2 (by decide)
        · exact absurd (p337.trans p346.symm) h349
      by_cases h43_6 : v42 = 6
      · refine lv_tableIn (off := 311) (tgt := 354) hx hb dL_law_43 (by rw [h43_6]; decide) (by rw [h43_6]; decide) (by rw [h43_6]; decide) (by decide) ?_
        refine lv_aload_n hx hb dL_law_354 rfl (lv_at hl 2 rfl) ?_
        refine lv_aload_n hx hb dL_law_355 rfl (lv_at hl 3 rfl) ?_
        refine lv_iload_n hx hb dL_law_356 rfl (lv_at hl 0 rfl) ?_
        refine lv_iconst (v := 1) hx hb dL_law_357 (by decide) ?_
        refine lv_iadd hx hb dL_law_358 ?_
        refine q_casti (y := 2) (by decide) ?_
        refine va_sld hx hb hX hbl hbA hS (vp_in_iff.mpr ⟨by decide, by decide⟩) dL_law_359 ?_
        have hPc := hP.sub (ws' := [(q0, .inr (2, [.ref aU_9, .ref aR_9, .ref aK_9, .ref aL_9, .int 0, .int 25, .int 0, .int 0, .int 1])), (aU_9, .inr (1, [.ref aM_9, .ref aC_9, .ref aB_9, .int 0])), (aM_9, .inl (kM_9, 512, .inl (fun _ => 0)))]) [0, 1, 6] rfl
        have hKc := hK.sub (tys' := [(kM_9, .int)]) [3] rfl
        refine vp_callSi (W.runV (As := [.int (xs (2 : Int32).toNatClampNeg)]) (rest := []) ⟨hx, hb, hml, hown, htb⟩ (cX_word l dC dI q0 (xs (2 : Int32).toNatClampNeg) aU_9 aR_9 aK_9 aL_9 0 25 0 0 1 aM_9 aC_9 aB_9 0 kM_9 (fun _ => 0)) (cwV 1 htb (q_gV m2_64 m2_65 m2_66 m1_1 m2_67) rfl rfl rfl (by decide +kernel) ⟨Nat.le_of_ble_eq_true rfl, Nat.le_of_ble_eq_true rfl⟩) ⟨fun a U g mk q => by obtain ⟨q0, qP, qK, qN9⟩ := q; exact ⟨q0, qP, va_K.moved (u := U) (U := U.calling g mk a) (Vm.Alike.refl U.vm) qK, qN_same (s := U) (U := U.calling g mk a) rfl qN9⟩, va_recv (q0 := 0) hK hP (rfl : vwCl[2]? = some (RX2, TX2, 9)) rfl, fun U hU hW => ⟨rfl, by rw [hU]; exact hPc, va_K.moved hW.alike hKc, qN_warm hW hN⟩⟩ rfl rfl hl.1 rfl (lv_room (Nat.le_of_ble_eq_true rfl)) dL_law_360 ⟨Nat.le_of_ble_eq_true rfl, Nat.le_of_ble_eq_true rfl⟩) (fun r360 p360 => ?_)
        try dsimp only at p360
        refine lv_aload_n hx hb dL_law_363 rfl (lv_at hl 1 rfl) ?_
        refine lv_aload_n hx hb dL_law_364 rfl (lv_at hl 3 rfl) ?_
        refine lv_iload_n hx hb dL_law_365 rfl (lv_at hl 0 rfl) ?_
        refine lv_iconst (v := 1) hx hb dL_law_366 (by decide) ?_
        refine lv_iadd hx hb dL_law_367 ?_
        refine q_casti (y := 2) (by decide) ?_
        refine va_sld hx hb hX hbl hbA hS (vp_in_iff.mpr ⟨by decide, by decide⟩) dL_law_368 ?_
        have hPc := hP.sub (ws' := [(q13, .inr (3, [.int jbu_22, .ref bM_22, .ref bLo_22, .ref bS6_22, .ref bS7_22, .ref bKe_22, .ref bCo_22, .int 0, .int 25, .int 0, .int 0, .int 1, .int 0, .int 0, .ref bFr_22, .ref bSi_22, .ref bTo_22, .ref bSp_22, .ref bDo_22, .ref bRi_22, .ref bNf_22, .int 0, .ref bLd_22])), (bM_22, .inl (jM_22, 512, .inl (fun _ => 0)))]) [9, 10] rfl
        have hKc := hK.sub (tys' := [(jM_22, .int)]) [6] rfl
        refine vp_callSi (W.runV (As := [.int (xs (2 : Int32).toNatClampNeg)]) (rest := [.int r360]) ⟨hx, hb, hml, hown, htb⟩ (cM_word l dC dI q13 (xs (2 : Int32).toNatClampNeg) jbu_22 bM_22 bLo_22 bS6_22 bS7_22 bKe_22 bCo_22 0 25 0 0 1 0 0 bFr_22 bSi_22 bTo_22 bSp_22 bDo_22 bRi_22 bNf_22 0 bLd_22 jM_22 (fun _ => 0)) (cwV 1 htb (q_gV m3_56 m3_57 m3_58 m1_4 m3_59) rfl rfl rfl (by decide +kernel) ⟨Nat.le_of_ble_eq_true rfl, Nat.le_of_ble_eq_true rfl⟩) ⟨fun a U g mk q => by obtain ⟨q0, qP, qK⟩ := q; exact ⟨q0, qP, va_K.moved (u := U) (U := U.calling g mk a) (Vm.Alike.refl U.vm) qK⟩, va_recv (q0 := 9) hK hP (rfl : vwCl[3]? = some (RX3, TX3, 23)) rfl, fun U hU hW => ⟨rfl, by rw [hU]; exact hPc, va_K.moved hW.alike hKc⟩⟩ rfl rfl hl.1 rfl (lv_room (Nat.le_of_ble_eq_true rfl)) dL_law_369 ⟨Nat.le_of_ble_eq_true rfl, Nat.le_of_ble_eq_true rfl⟩) (fun r369 p369 => ?_)
        try dsimp only at p369
        refine lv_icmp_eq (tgt := 433) hx hb dL_law_372 (by decide) (fun h372 => ?_) (fun h372 => ?_)
        · refine lv_iinc (k := 0) (v := 7) (lv' := [(3, .int 7), (2, .ref q13), (1, .ref q0), (0, .ref b)]) hx hb dL_law_433 hl rfl (by decide) (by decide) rfl (fun ls hl => ?_)
          refine lv_goto (tgt := 28) hx hb dL_law_436 (by decide) ?_
          refine lv_iload_n hx hb dL_law_28 rfl (lv_at hl 0 rfl) ?_
          refine lv_aload_n hx hb dL_law_29 rfl (lv_at hl 3 rfl) ?_
          refine va_slen hx hb hX hbl hbA hS dL_law_30 ?_
          refine q_casti (y := 7) (by decide) ?_
          refine lv_bipush (v := 6) hx hb dL_law_31 (by decide) ?_
          refine lv_isub hx hb dL_law_33 ?_
          refine q_casti (y := 1) (by decide) ?_
          refine lv_icmp_gt (tgt := 439) hx hb dL_law_34 (by decide) (fun h34_2 => ?_) (fun h34_2 => ?_)
          · refine lv_iconst (v := 1) hx hb dL_law_439 (by decide) ?_
            refine va_forget (fun q hq => hA2 _ (hS.2.2 q hq)) ?_
            refine W.widen (k := 24) (n := 1262) (Nat.le_of_ble_eq_true rfl) (Nat.le_of_ble_eq_true rfl) ?_
            exact lw_ret hx hb hr hlocks dL_law_440
          · exact absurd h34_2 (by decide)
        · exact absurd ((q_w0 p360).trans (q_w0 p369).symm) h372
      by_cases h43_7 : v42 = 7
      · refine lv_tableIn (off := 334) (tgt := 377) hx hb dL_law_43 (by rw [h43_7]; decide) (by rw [h43_7]; decide) (by rw [h43_7]; decide) (by decide) ?_
        refine lv_aload_n hx hb dL_law_377 rfl (lv_at hl 2 rfl) ?_
        refine lv_aload_n hx hb dL_law_378 rfl (lv_at hl 3 rfl) ?_
        refine lv_iload_n hx hb dL_law_379 rfl (lv_at hl 0 rfl) ?_
        refine lv_iconst (v := 1) hx hb dL_law_380 (by decide) ?_
        refine lv_iadd hx hb dL_law_381 ?_
        refine q_casti (y := 2) (by decide) ?_
        refine va_sld hx hb hX hbl hbA hS (vp_in_iff.mpr ⟨by decide, by decide⟩) dL_law_382 ?_
        have hPc := hP.sub (ws' := [(q0, .inr (2, [.ref aU_9, .ref aR_9, .ref aK_9, .ref aL_9, .int 0, .int 25, .int 0, .int 0, .int 1])), (aU_9, .inr (1, [.ref aM_9, .ref aC_9, .ref aB_9, .int 0])), (aB_9, .inr (0, [.ref aF_9, .int ius_9, .int 0])), (aR_9, .inl (kR_9, 22, .inl (fun _ => 0))), (aK_9, .inl (kK_9, 8, .inl (fun _ => 0))), (aL_9, .inl (kL_9, 8, .inl (fun _ => 0))), (aM_9, .inl (kM_9, 512, .inl (fun _ => 0))), (aC_9, .inl (kC_9, 12, .inl (fun _ => 0))), (aF_9, .inl (kF_9, 49, .inl (fun _ => 0)))]) [0, 1, 2, 3, 4, 5, 6, 7, 8] rfl
        have hKc := hK.sub (tys' := [(kR_9, .int), (kK_9, .int), (kL_9, .int), (kM_9, .int), (kC_9, .int), (kF_9, .int)]) [0, 1, 2, 3, 4, 5] rfl
        refine vp_callSi (W.runV (As := [.int (xs (2 : Int32).toNatClampNeg)]) (rest := []) ⟨hx, hb, hml, hown, htb⟩ (cX_state l dC dI q0 (xs (2 : Int32).toNatClampNeg) aU_9 aR_9 aK_9 aL_9 0 25 0 0 1 aM_9 aC_9 aB_9 0 aF_9 ius_9 0 kR_9 (fun _ => 0) kK_9 (fun _ => 0) kL_9 (fun _ => 0) kM_9 (fun _ => 0) kC_9 (fun _ => 0) kF_9 (fun _ => 0)) (cwV 1 htb (q_gV m2_68 m2_69 m2_70 m1_1 m2_71) rfl rfl rfl (by decide +kernel) ⟨Nat.le_of_ble_eq_true rfl, Nat.le_of_ble_eq_true rfl⟩) ⟨fun a U g mk q => by obtain ⟨q0, qP, qK, qN9⟩ := q; exact ⟨q0, qP, va_K.moved (u := U) (U := U.calling g mk a) (Vm.Alike.refl U.vm) qK, qN_same (s := U) (U := U.calling g mk a) rfl qN9⟩, va_recv (q0 := 0) hK hP (rfl : vwCl[2]? = some (RX2, TX2, 9)) rfl, fun U hU hW => ⟨rfl, by rw [hU]; exact hPc, va_K.moved hW.alike hKc, qN_warm hW hN⟩⟩ rfl rfl hl.1 rfl (lv_room (Nat.le_of_ble_eq_true rfl)) dL_law_383 ⟨Nat.le_of_ble_eq_true rfl, Nat.le_of_ble_eq_true rfl⟩) (fun r383 p383 => ?_)
        try dsimp only at p383
        refine lv_aload_n hx hb dL_law_386 rfl (lv_at hl 1 rfl) ?_
        refine lv_aload_n hx hb dL_law_387 rfl (lv_at hl 3 rfl) ?_
        refine lv_iload_n hx hb dL_law_388 rfl (lv_at hl 0 rfl) ?_
        refine lv_iconst (v := 1) hx hb dL_law_389 (by decide) ?_
        refine lv_iadd hx hb dL_law_390 ?_
        refine q_casti (y := 2) (by decide) ?_
        refine va_sld hx hb hX hbl hbA hS (vp_in_iff.mpr ⟨by decide, by decide⟩) dL_law_391 ?_
        have hPc := hP.sub (ws' := [(q13, .inr (3, [.int jbu_22, .ref bM_22, .ref bLo_22, .ref bS6_22, .ref bS7_22, .ref bKe_22, .ref bCo_22, .int 0, .int 25, .int 0, .int 0, .int 1, .int 0, .int 0, .ref bFr_22, .ref bSi_22, .ref bTo_22, .ref bSp_22, .ref bDo_22, .ref bRi_22, .ref bNf_22, .int 0, .ref bLd_22])), (bLo_22, .inl (jLo_22, 6, .inl (fun _ => 0))), (bS6_22, .inl (jS6_22, 6, .inl (fun _ => 0))), (bS7_22, .inl (jS7_22, 6, .inl (fun _ => 0))), (bKe_22, .inl (jKe_22, 6, .inl (fun _ => 0))), (bCo_22, .inl (jCo_22, 12, .inl (fun _ => 0)))]) [9, 11, 12, 13, 14, 15] rfl
        have hKc := hK.sub (tys' := [(jLo_22, .int), (jS6_22, .int), (jS7_22, .int), (jKe_22, .int), (jCo_22, .int)]) [7, 8, 9, 10, 11] rfl
        refine vp_callSi (W.runV (As := [.int (xs (2 : Int32).toNatClampNeg)]) (rest := [.int r383]) ⟨hx, hb, hml, hown, htb⟩ (cM_state l dC dI q13 (xs (2 : Int32).toNatClampNeg) jbu_22 bM_22 bLo_22 bS6_22 bS7_22 bKe_22 bCo_22 0 25 0 0 1 0 0 bFr_22 bSi_22 bTo_22 bSp_22 bDo_22 bRi_22 bNf_22 0 bLd_22 jLo_22 (fun _ => 0) jS6_22 (fun _ => 0) jS7_22 (fun _ => 0) jKe_22 (fun _ => 0) jCo_22 (fun _ => 0) ⟨by decide, by decide⟩) (cwV 1 htb (q_gV m3_60 m3_61 m3_62 m1_4 m3_63) rfl rfl rfl (by decide +kernel) ⟨Nat.le_of_ble_eq_true rfl, Nat.le_of_ble_eq_true rfl⟩) ⟨fun a U g mk q => by obtain ⟨q0, qP, qK⟩ := q; exact ⟨q0, qP, va_K.moved (u := U) (U := U.calling g mk a) (Vm.Alike.refl U.vm) qK⟩, va_recv (q0 := 9) hK hP (rfl : vwCl[3]? = some (RX3, TX3, 23)) rfl, fun U hU hW => ⟨rfl, by rw [hU]; exact hPc, va_K.moved hW.alike hKc⟩⟩ rfl rfl hl.1 rfl (lv_room (Nat.le_of_ble_eq_true rfl)) dL_law_392 ⟨Nat.le_of_ble_eq_true rfl, Nat.le_of_ble_eq_true rfl⟩) (fun r392 p392 => ?_)
        try dsimp only at p392
        refine lv_icmp_eq (tgt := 433) hx hb dL_law_395 (by decide) (fun h395 => ?_) (fun h395 => ?_)
        · refine lv_iinc (k := 0) (v := 7) (lv' := [(3, .int 7), (2, .ref q13), (1, .ref q0), (0, .ref b)]) hx hb dL_law_433 hl rfl (by decide) (by decide) rfl (fun ls hl => ?_)
          refine lv_goto (tgt := 28) hx hb dL_law_436 (by decide) ?_
          refine lv_iload_n hx hb dL_law_28 rfl (lv_at hl 0 rfl) ?_
          refine lv_aload_n hx hb dL_law_29 rfl (lv_at hl 3 rfl) ?_
          refine va_slen hx hb hX hbl hbA hS dL_law_30 ?_
          refine q_casti (y := 7) (by decide) ?_
          refine lv_bipush (v := 6) hx hb dL_law_31 (by decide) ?_
          refine lv_isub hx hb dL_law_33 ?_
          refine q_casti (y := 1) (by decide) ?_
          refine lv_icmp_gt (tgt := 439) hx hb dL_law_34 (by decide) (fun h34_2 => ?_) (fun h34_2 => ?_)
          · refine lv_iconst (v := 1) hx hb dL_law_439 (by decide) ?_
            refine va_forget (fun q hq => hA2 _ (hS.2.2 q hq)) ?_
            refine W.widen (k := 24) (n := 1262) (Nat.le_of_ble_eq_true rfl) (Nat.le_of_ble_eq_true rfl) ?_
            exact lw_ret hx hb hr hlocks dL_law_440
          · exact absurd h34_2 (by decide)
        · exact absurd ((q_s0 (q_sX p383)).trans (q_s0 (q_sM p392)).symm) h395
      by_cases h43_8 : v42 = 8
      · refine lv_tableIn (off := 357) (tgt := 400) hx hb dL_law_43 (by rw [h43_8]; decide) (by rw [h43_8]; decide) (by rw [h43_8]; decide) (by decide) ?_
        refine lv_aload_n hx hb dL_law_400 rfl (lv_at hl 2 rfl) ?_
        refine lv_aload_n hx hb dL_law_401 rfl (lv_at hl 3 rfl) ?_
        refine lv_iload_n hx hb dL_law_402 rfl (lv_at hl 0 rfl) ?_
        refine lv_iconst (v := 1) hx hb dL_law_403 (by decide) ?_
        refine lv_iadd hx hb dL_law_404 ?_
        refine q_casti (y := 2) (by decide) ?_
        refine va_sld hx hb hX hbl hbA hS (vp_in_iff.mpr ⟨by decide, by decide⟩) dL_law_405 ?_
        refine lv_aload_n hx hb dL_law_406 rfl (lv_at hl 3 rfl) ?_
        refine lv_iload_n hx hb dL_law_407 rfl (lv_at hl 0 rfl) ?_
        refine lv_iconst (v := 2) hx hb dL_law_408 (by decide) ?_
        refine lv_iadd hx hb dL_law_409 ?_
        refine q_casti (y := 3) (by decide) ?_
        refine va_sld hx hb hX hbl hbA hS (vp_in_iff.mpr ⟨by decide, by decide⟩) dL_law_410 ?_
        have hPc := hP.sub (ws' := [(q0, .inr (2, [.ref aU_9, .ref aR_9, .ref aK_9, .ref aL_9, .int 0, .int 25, .int 0, .int 0, .int 1])), (aU_9, .inr (1, [.ref aM_9, .ref aC_9, .ref aB_9, .int 0])), (aB_9, .inr (0, [.ref aF_9, .int ius_9, .int 0])), (aF_9, .inl (kF_9, 49, .inl (fun _ => 0)))]) [0, 1, 2, 8] rfl
        have hKc := hK.sub (tys' := [(kF_9, .int)]) [5] rfl
        refine vp_callSi (W.runV (As := [.int (xs (2 : Int32).toNatClampNeg), .int (xs (3 : Int32).toNatClampNeg)]) (rest := []) ⟨hx, hb, hml, hown, htb⟩ (cX_entry l dC dI q0 (xs (2 : Int32).toNatClampNeg) (xs (3 : Int32).toNatClampNeg) aU_9 aR_9 aK_9 aL_9 0 25 0 0 1 aM_9 aC_9 aB_9 0 aF_9 ius_9 0 kF_9 (fun _ => 0) ⟨by decide, by decide⟩) (cwV 2 htb (q_gV m2_72 m2_73 m2_74 m1_1 m2_75) rfl rfl rfl (by decide +kernel) ⟨Nat.le_of_ble_eq_true rfl, Nat.le_of_ble_eq_true rfl⟩) ⟨fun a U g mk q => by obtain ⟨q0, qP, qK, qN9⟩ := q; exact ⟨q0, qP, va_K.moved (u := U) (U := U.calling g mk a) (Vm.Alike.refl U.vm) qK, qN_same (s := U) (U := U.calling g mk a) rfl qN9⟩, va_recv (q0 := 0) hK hP (rfl : vwCl[2]? = some (RX2, TX2, 9)) rfl, fun U hU hW => ⟨rfl, by rw [hU]; exact hPc, va_K.moved hW.alike hKc, qN_warm hW hN⟩⟩ rfl rfl hl.1 rfl (lv_room (Nat.le_of_ble_eq_true rfl)) dL_law_411 ⟨Nat.le_of_ble_eq_true rfl, Nat.le_of_ble_eq_true rfl⟩) (fun r411 p411 => ?_)
        try dsimp only at p411
        refine lv_aload_n hx hb dL_law_414 rfl (lv_at hl 1 rfl) ?_
        refine lv_aload_n hx hb dL_law_415 rfl (lv_at hl 3 rfl) ?_
        refine lv_iload_n hx hb dL_law_416 rfl (lv_at hl 0 rfl) ?_
        refine lv_iconst (v := 1) hx hb dL_law_417 (by decide) ?_
        refine lv_iadd hx hb dL_law_418 ?_
        refine q_casti (y := 2) (by decide) ?_
        refine va_sld hx hb hX hbl hbA hS (vp_in_iff.mpr ⟨by decide, by decide⟩) dL_law_419 ?_
        refine lv_aload_n hx hb dL_law_420 rfl (lv_at hl 3 rfl) ?_
        refine lv_iload_n hx hb dL_law_421 rfl (lv_at hl 0 rfl) ?_
        refine lv_iconst (v := 2) hx hb dL_law_422 (by decide) ?_
        refine lv_iadd hx hb dL_law_423 ?_
        refine q_casti (y := 3) (by decide) ?_
        refine va_sld hx hb hX hbl hbA hS (vp_in_iff.mpr ⟨by decide, by decide⟩) dL_law_424 ?_
        have hPc := hP.sub (ws' := [(q13, .inr (3, [.int jbu_22, .ref bM_22, .ref bLo_22, .ref bS6_22, .ref bS7_22, .ref bKe_22, .ref bCo_22, .int 0, .int 25, .int 0, .int 0, .int 1, .int 0, .int 0, .ref bFr_22, .ref bSi_22, .ref bTo_22, .ref bSp_22, .ref bDo_22, .ref bRi_22, .ref bNf_22, .int 0, .ref bLd_22])), (bFr_22, .inl (jFr_22, 8, .inl (fun _ => 0))), (bSi_22, .inl (jSi_22, 8, .inl (fun _ => 0))), (bTo_22, .inl (jTo_22, 8, .inl (fun _ => 0))), (bSp_22, .inl (jSp_22, 8, .inl (fun _ => 0))), (bDo_22, .inl (jDo_22, 8, .inl (fun _ => 0))), (bRi_22, .inl (jRi_22, 8, .inl (fun _ => 0))), (bNf_22, .inl (jNf_22, 8, .inl (fun _ => 0)))]) [9, 16, 17, 18, 19, 20, 21, 22] rfl
        have hKc := hK.sub (tys' := [(jFr_22, .int), (jSi_22, .int), (jTo_22, .int), (jSp_22, .int), (jDo_22, .int), (jRi_22, .int), (jNf_22, .int)]) [12, 13, 14, 15, 16, 17, 18] rfl
        refine vp_callSi (W.runV (As := [.int (xs (2 : Int32).toNatClampNeg), .int (xs (3 : Int32).toNatClampNeg)]) (rest := [.int r411]) ⟨hx, hb, hml, hown, htb⟩ (cM_entry l dC dI q13 (xs (2 : Int32).toNatClampNeg) (xs (3 : Int32).toNatClampNeg) jbu_22 bM_22 bLo_22 bS6_22 bS7_22 bKe_22 bCo_22 0 25 0 0 1 0 0 bFr_22 bSi_22 bTo_22 bSp_22 bDo_22 bRi_22 bNf_22 0 bLd_22 jFr_22 (fun _ => 0) jSi_22 (fun _ => 0) jTo_22 (fun _ => 0) jSp_22 (fun _ => 0) jDo_22 (fun _ => 0) jRi_22 (fun _ => 0) jNf_22 (fun _ => 0) ⟨by decide, by decide⟩) (cwV 2 htb (q_gV m3_64 m3_65 m3_66 m1_4 m3_67) rfl rfl rfl (by decide +kernel) ⟨Nat.le_of_ble_eq_true rfl, Nat.le_of_ble_eq_true rfl⟩) ⟨fun a U g mk q => by obtain ⟨q0, qP, qK⟩ := q; exact ⟨q0, qP, va_K.moved (u := U) (U := U.calling g mk a) (Vm.Alike.refl U.vm) qK⟩, va_recv (q0 := 9) hK hP (rfl : vwCl[3]? = some (RX3, TX3, 23)) rfl, fun U hU hW => ⟨rfl, by rw [hU]; exact hPc, va_K.moved hW.alike hKc⟩⟩ rfl rfl hl.1 rfl (lv_room (Nat.le_of_ble_eq_true rfl)) dL_law_425 ⟨Nat.le_of_ble_eq_true rfl, Nat.le_of_ble_eq_true rfl⟩) (fun r425 p425 => ?_)
        try dsimp only at p425
        refine lv_icmp_eq (tgt := 433) hx hb dL_law_428 (by decide) (fun h428 => ?_) (fun h428 => ?_)
        · refine lv_iinc (k := 0) (v := 7) (lv' := [(3, .int 7), (2, .ref q13), (1, .ref q0), (0, .ref b)]) hx hb dL_law_433 hl rfl (by decide) (by decide) rfl (fun ls hl => ?_)
          refine lv_goto (tgt := 28) hx hb dL_law_436 (by decide) ?_
          refine lv_iload_n hx hb dL_law_28 rfl (lv_at hl 0 rfl) ?_
          refine lv_aload_n hx hb dL_law_29 rfl (lv_at hl 3 rfl) ?_
          refine va_slen hx hb hX hbl hbA hS dL_law_30 ?_
          refine q_casti (y := 7) (by decide) ?_
          refine lv_bipush (v := 6) hx hb dL_law_31 (by decide) ?_
          refine lv_isub hx hb dL_law_33 ?_
          refine q_casti (y := 1) (by decide) ?_
          refine lv_icmp_gt (tgt := 439) hx hb dL_law_34 (by decide) (fun h34_2 => ?_) (fun h34_2 => ?_)
          · refine lv_iconst (v := 1) hx hb dL_law_439 (by decide) ?_
            refine va_forget (fun q hq => hA2 _ (hS.2.2 q hq)) ?_
            refine W.widen (k := 24) (n := 1262) (Nat.le_of_ble_eq_true rfl) (Nat.le_of_ble_eq_true rfl) ?_
            exact lw_ret hx hb hr hlocks dL_law_440
          · exact absurd h34_2 (by decide)
        · exact absurd ((q_e0 p411).trans (q_e0 p425).symm) h428
      refine lv_tableOut (tgt := 433) hx hb dL_law_43 (by have z0 := lv_neT h43_0 (show (0 : Int32).toInt = 0 from by decide); have z1 := lv_neT h43_1 (show (1 : Int32).toInt = 1 from by decide); have z2 := lv_neT h43_2 (show (2 : Int32).toInt = 2 from by decide); have z3 := lv_neT h43_3 (show (3 : Int32).toInt = 3 from by decide); have z4 := lv_neT h43_4 (show (4 : Int32).toInt = 4 from by decide); have z5 := lv_neT h43_5 (show (5 : Int32).toInt = 5 from by decide); have z6 := lv_neT h43_6 (show (6 : Int32).toInt = 6 from by decide); have z7 := lv_neT h43_7 (show (7 : Int32).toInt = 7 from by decide); have z8 := lv_neT h43_8 (show (8 : Int32).toInt = 8 from by decide); omega) (by decide) ?_
      refine lv_iinc (k := 0) (v := 7) (lv' := [(3, .int 7), (2, .ref q13), (1, .ref q0), (0, .ref b)]) hx hb dL_law_433 hl rfl (by decide) (by decide) rfl (fun ls hl => ?_)
      refine lv_goto (tgt := 28) hx hb dL_law_436 (by decide) ?_
      refine lv_iload_n hx hb dL_law_28 rfl (lv_at hl 0 rfl) ?_
      refine lv_aload_n hx hb dL_law_29 rfl (lv_at hl 3 rfl) ?_
      refine va_slen hx hb hX hbl hbA hS dL_law_30 ?_
      refine q_casti (y := 7) (by decide) ?_
      refine lv_bipush (v := 6) hx hb dL_law_31 (by decide) ?_
      refine lv_isub hx hb dL_law_33 ?_
      refine q_casti (y := 1) (by decide) ?_
      refine lv_icmp_gt (tgt := 439) hx hb dL_law_34 (by decide) (fun h34_2 => ?_) (fun h34_2 => ?_)
      · refine lv_iconst (v := 1) hx hb dL_law_439 (by decide) ?_
        refine va_forget (fun q hq => hA2 _ (hS.2.2 q hq)) ?_
        refine W.widen (k := 24) (n := 1262) (Nat.le_of_ble_eq_true rfl) (Nat.le_of_ble_eq_true rfl) ?_
        exact lw_ret hx hb hr hlocks dL_law_440
      · exact absurd h34_2 (by decide)
end
section
-- ===== YOUR PART ENDS =====
set_option maxHeartbeats 4000000 in
theorem lw_walk (l : Launch) (b : Addr) (xs : List Int32) : MetFree l x (headSpec (Jvm.Cond.code x code maxLocals ret :: tables_1) room_1) (lw_P b xs) (fun _ _ _ _ _ => True) lw_Q := by
  refine MetFree.of_bodyS (code := code) (maxLocals := maxLocals) (ret := ret) (by decide) ?_ ?_
  · intro args s m h hn
    obtain ⟨meth, c, h1, h2, h3, h4, h5, h6, -, -⟩ := Cond.code_spec hn (atoms_spec (ws := Jvm.Cond.code x code maxLocals ret :: tables_1) h _ List.mem_cons_self)
    exact ⟨meth, c, h1, h2, h3, h4, h5, h6⟩
  · intro p e s m args below meth c s₁ B hml0 hP _
    obtain ⟨rfl, hx, hbd, hgv⟩ := hP
    obtain ⟨scr, harrAt, hlist, hof, hsmall⟩ := hx
    obtain ⟨hcb, hkn, -, -⟩ := State.arrayAt?_spec harrAt
    have hown : s.vm.findClass R_law = some m.cls := findClass_of_methodNamed B.named
    have hts0 : ∀ c ∈ (Jvm.Cond.code x code maxLocals ret :: tables_1), c.before #[Value.ref b] s = true := atoms_spec (ws := Jvm.Cond.code x code maxLocals ret :: tables_1) B.pre
    have hts : ∀ w ∈ lw_tbl, w.before #[Value.ref b] s = true := k2_hts_sels lw_privs (fun w hw => hts0 w (List.mem_cons_of_mem _ hw)) lw_privs_ok
    have hml : c.maxLocals = 4 := B.maxLocals_eq (hts0 _ List.mem_cons_self)
    have X₀ : Stand p l e room_1 s m #[Value.ref b] below meth c s₁ [] 0 0 := Stand.of_body B
    have hh0 : s₁.heap = s.heap := by rw [B.state]; rfl
    have hsz : scr.slots.size = xs.length := by rw [← Array.length_toList, hlist, List.length_map]
    have hval : ∀ j : Nat, j < xs.length → scr.slots[j]? = some (.int (xs.getD j 0)) := fun j hj => by
      rw [← Array.getElem?_toList, hlist]
      simp [hj]
    have hbl : b < s.heap.size := (Array.getElem?_eq_some_iff.mp hcb).1
    have hX : va_X b xs.length (fun j => xs.getD j 0) s s.heap := ⟨scr, hcb, hof, hkn, hsz, hval⟩
    have K : W p l e room_1 s m #[Value.ref b] below meth c s₁.heap [] 0 0 (lw_Z below #[Value.ref b] s) (entryFrame m ([Value.ref b] : List Value).toArray 4) := by
      rw [hh0]
      exact whole_start l hbd ⟨B.exec, B.bytes, B.returns, hml, hown, hts, hX, hbl, B.notSynchronized, hgv⟩
    obtain ⟨t, a1, o, b1, b2, b3⟩ := K s₁ rfl X₀
    exact ⟨t, o, a1, b1, b2, b3⟩
theorem lw_pre_spec {args : Array Value} {s : State} (h : (Jvm.Cond.and given_1 narrow_1).before args s = true) (hr : rest_1_c.before args s = true) : ∃ (b : Addr) (xs : List Int32), lw_P b xs args s := by
  have hs := flat_of_before _ h
  have hq := flat_of_before _ hr
  have hc : (Cond.count 1).before args s = true := hs _ (by decide +kernel)
  have harr : (Cond.arrayOf (.arg 0) .int).before args s = true := hs _ (by decide +kernel)
  have hle : (Cond.le (.length (.arg 0)) (.int 7)).before args s = true := hs _ (by decide +kernel)
  have hlen : (Cond.isInt (.length (.arg 0))).before args s = true := hq _ (by decide +kernel)
  have hall : (Cond.all (.arg 0) (.isInt (.elem (.arg 0) (.index 0)))).before args s = true := hq _ (by decide +kernel)
  obtain ⟨b, xs, hb, hx⟩ := State.ints_of_pre rfl harr hlen hall
  have hsm : xs.length < 2 ^ 31 := hx.choose_spec.2.2.2
  have hev : (Term.length (.arg 0)).eval args s none [] s = some (.int xs.length.toInt32) := hx.length_eval hb
  have hv := Cond.le_ints hev (show (Term.int 7).eval args s none [] s = some (.int 7) from rfl)
  have hd : xs.length.toInt32 ≤ 7 := by
    simpa [Cond.before, Cond.holds, hv] using hle
  have hN : xs.length ≤ 7 := (Int32.ofNat_le_ofNat hsm (by decide)).mp (show Int32.ofNat xs.length ≤ Int32.ofNat 7 from hd)
  exact ⟨b, xs, Cond.one_arg hc (show args[0]? = some (.ref b) from hb), hx, hN, h⟩
theorem lw_comes (l : Launch) : Comes l x (Jvm.Cond.code x code maxLocals ret :: tables_1) room_1 (fun tb e args s => Calls_1 tb e args s ∧ rest_1 tb e args s ∧ Pre_1 tb e args s)
    (fun _ _ args s o t => lw_Q args s o t) := by
  intro p e ha hc hk s m args below hf hfit hheap happ hpre
  obtain ⟨b, xs, hP⟩ := lw_pre_spec hpre.2.2 hpre.2.1
  obtain ⟨k, o, h1, h2, h3, hQ⟩ := lw_walk l b xs p e ha hc hk s m args below hf ((Spec.applies_iff_loose hf).mp happ).1 hP trivial
  exact ⟨k, o, h1, h2, h3, hQ⟩
theorem lw_frame {s t : State} {o : Outcome} {args : Array Value} (h : Framed s o t [] 24 1262) :
    Framed s o t (fieldLocs frame_1_writes args s ++ arrayLocs frame_1_arrays args s ++ staticLocs frame_1_statics s) 24 1262 := h
theorem lw_limb (L : Cond) (hL : ∀ (args : Array Value) (s t : State), L.after args s (.returned (some (.int 1))) t = true) :
    ArmFor flags0 classFile x code maxLocals ret World_1 tables_1 room_1 Calls_1 rest_1 Pre_1
      (fun tb e a s o t => postC L tb e a s o t ∧ Framed s o t (fieldLocs frame_1_writes a s ++ arrayLocs frame_1_arrays a s ++ staticLocs frame_1_statics s) 24 1262) := by
  intro l _ _ _ p e ha hc hk s m args below hf hfit hheap happ hpre
  obtain ⟨k, o, h1, h2, h3, rfl, hF⟩ := lw_comes l p e ha hc hk s m args below hf hfit hheap happ hpre
  exact ⟨k, _, h1, h2, h3, hL args s _, lw_frame hF⟩
theorem i_vc : Claimed_1_1 ∧ Claimed_1_2 := ⟨lw_limb limb_1_1 (fun args s t => by simp [limb_1_1, Cond.after, Cond.holds, Cond.value]), lw_limb limb_1_2 (fun args s t => Cond.after_iff.mpr (by
  first | (rw [show limb_1_2 = Cond.eq .result (.int 1) from rfl, Cond.eq_ints (x := 1) (y := 1) rfl rfl]; simp; done) | (simp [limb_1_2, Cond.value, Term.eval]; done)))⟩
end
