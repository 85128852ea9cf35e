section
-- ===== PART A: goes FIRST, ahead of the names: the tables' words, and 'selects' of the private methods out of them =====
/-- a private method of a class that the tables say can be made, by its rows of tables_1 -/
def lw_okq (q : MethodName × Nat) : Prop := (q.1.cls ≠ "java/lang/invoke/MethodHandle" ∧ q.1.cls ≠ "java/lang/invoke/VarHandle") ∧ Cond.instantiable q.1.cls q.2 ∈ tables_1 ∧ Cond.privateMethod q.1 ∈ tables_1 ∧ Cond.instanceMethod q.1 ∈ tables_1
theorem lw_p0 : lw_okq (⟨"DatumDesk$Text", "append", "(I)V"⟩, 2) := ⟨⟨by decide +kernel, by decide +kernel⟩, List.mem_of_getElem? (i := 24) (by decide +kernel), List.mem_of_getElem? (i := 175) (by decide +kernel), List.mem_of_getElem? (i := 176) (by decide +kernel)⟩
theorem lw_p1 : lw_okq (⟨"DatumDesk$Reader", "readText", "()V"⟩, 5) := ⟨⟨by decide +kernel, by decide +kernel⟩, List.mem_of_getElem? (i := 83) (by decide +kernel), List.mem_of_getElem? (i := 183) (by decide +kernel), List.mem_of_getElem? (i := 184) (by decide +kernel)⟩
theorem lw_p2 : lw_okq (⟨"DatumDesk$Nodes", "clear", "()V"⟩, 10) := ⟨⟨by decide +kernel, by decide +kernel⟩, List.mem_of_getElem? (i := 39) (by decide +kernel), List.mem_of_getElem? (i := 187) (by decide +kernel), List.mem_of_getElem? (i := 188) (by decide +kernel)⟩
theorem lw_p3 : lw_okq (⟨"DatumDesk$Tokens", "scan", "(LDatumDesk$Text;)V"⟩, 4) := ⟨⟨by decide +kernel, by decide +kernel⟩, List.mem_of_getElem? (i := 89) (by decide +kernel), List.mem_of_getElem? (i := 191) (by decide +kernel), List.mem_of_getElem? (i := 192) (by decide +kernel)⟩
theorem lw_p4 : lw_okq (⟨"DatumDesk$Text", "skipBlanks", "(I)I"⟩, 2) := ⟨⟨by decide +kernel, by decide +kernel⟩, List.mem_of_getElem? (i := 24) (by decide +kernel), List.mem_of_getElem? (i := 195) (by decide +kernel), List.mem_of_getElem? (i := 196) (by decide +kernel)⟩
theorem lw_p5 : lw_okq (⟨"DatumDesk$Text", "at", "(I)I"⟩, 2) := ⟨⟨by decide +kernel, by decide +kernel⟩, List.mem_of_getElem? (i := 24) (by decide +kernel), List.mem_of_getElem? (i := 199) (by decide +kernel), List.mem_of_getElem? (i := 200) (by decide +kernel)⟩
theorem lw_p6 : lw_okq (⟨"DatumDesk$Text", "sortAt", "(I)I"⟩, 2) := ⟨⟨by decide +kernel, by decide +kernel⟩, List.mem_of_getElem? (i := 24) (by decide +kernel), List.mem_of_getElem? (i := 203) (by decide +kernel), List.mem_of_getElem? (i := 204) (by decide +kernel)⟩
theorem lw_p7 : lw_okq (⟨"DatumDesk$Text", "tokenEnd", "(II)I"⟩, 2) := ⟨⟨by decide +kernel, by decide +kernel⟩, List.mem_of_getElem? (i := 24) (by decide +kernel), List.mem_of_getElem? (i := 213) (by decide +kernel), List.mem_of_getElem? (i := 214) (by decide +kernel)⟩
theorem lw_p8 : lw_okq (⟨"DatumDesk$Text", "numberEnd", "(I)I"⟩, 2) := ⟨⟨by decide +kernel, by decide +kernel⟩, List.mem_of_getElem? (i := 24) (by decide +kernel), List.mem_of_getElem? (i := 217) (by decide +kernel), List.mem_of_getElem? (i := 218) (by decide +kernel)⟩
theorem lw_p9 : lw_okq (⟨"DatumDesk$Text", "wordEnd", "(I)I"⟩, 2) := ⟨⟨by decide +kernel, by decide +kernel⟩, List.mem_of_getElem? (i := 24) (by decide +kernel), List.mem_of_getElem? (i := 221) (by decide +kernel), List.mem_of_getElem? (i := 222) (by decide +kernel)⟩
theorem lw_p10 : lw_okq (⟨"DatumDesk$Text", "nameEnd", "(I)I"⟩, 2) := ⟨⟨by decide +kernel, by decide +kernel⟩, List.mem_of_getElem? (i := 24) (by decide +kernel), List.mem_of_getElem? (i := 225) (by decide +kernel), List.mem_of_getElem? (i := 226) (by decide +kernel)⟩
theorem lw_p11 : lw_okq (⟨"DatumDesk$Text", "stringEnd", "(I)I"⟩, 2) := ⟨⟨by decide +kernel, by decide +kernel⟩, List.mem_of_getElem? (i := 24) (by decide +kernel), List.mem_of_getElem? (i := 229) (by decide +kernel), List.mem_of_getElem? (i := 230) (by decide +kernel)⟩
theorem lw_p12 : lw_okq (⟨"DatumDesk$Tokens", "sortOf", "(I)I"⟩, 4) := ⟨⟨by decide +kernel, by decide +kernel⟩, List.mem_of_getElem? (i := 89) (by decide +kernel), List.mem_of_getElem? (i := 233) (by decide +kernel), List.mem_of_getElem? (i := 234) (by decide +kernel)⟩
theorem lw_p13 : lw_okq (⟨"DatumDesk$Reader", "readDatum", "(I)I"⟩, 5) := ⟨⟨by decide +kernel, by decide +kernel⟩, List.mem_of_getElem? (i := 83) (by decide +kernel), List.mem_of_getElem? (i := 237) (by decide +kernel), List.mem_of_getElem? (i := 238) (by decide +kernel)⟩
theorem lw_p14 : lw_okq (⟨"DatumDesk$Reader", "readNumber", "()I"⟩, 5) := ⟨⟨by decide +kernel, by decide +kernel⟩, List.mem_of_getElem? (i := 83) (by decide +kernel), List.mem_of_getElem? (i := 241) (by decide +kernel), List.mem_of_getElem? (i := 242) (by decide +kernel)⟩
theorem lw_p15 : lw_okq (⟨"DatumDesk$Tokens", "endOf", "(I)I"⟩, 4) := ⟨⟨by decide +kernel, by decide +kernel⟩, List.mem_of_getElem? (i := 89) (by decide +kernel), List.mem_of_getElem? (i := 245) (by decide +kernel), List.mem_of_getElem? (i := 246) (by decide +kernel)⟩
def lw_privs_1 : List (MethodName × Nat) := [(⟨"DatumDesk$Text", "append", "(I)V"⟩, 2), (⟨"DatumDesk$Reader", "readText", "()V"⟩, 5), (⟨"DatumDesk$Nodes", "clear", "()V"⟩, 10), (⟨"DatumDesk$Tokens", "scan", "(LDatumDesk$Text;)V"⟩, 4), (⟨"DatumDesk$Text", "skipBlanks", "(I)I"⟩, 2), (⟨"DatumDesk$Text", "at", "(I)I"⟩, 2), (⟨"DatumDesk$Text", "sortAt", "(I)I"⟩, 2), (⟨"DatumDesk$Text", "tokenEnd", "(II)I"⟩, 2), (⟨"DatumDesk$Text", "numberEnd", "(I)I"⟩, 2), (⟨"DatumDesk$Text", "wordEnd", "(I)I"⟩, 2), (⟨"DatumDesk$Text", "nameEnd", "(I)I"⟩, 2), (⟨"DatumDesk$Text", "stringEnd", "(I)I"⟩, 2), (⟨"DatumDesk$Tokens", "sortOf", "(I)I"⟩, 4), (⟨"DatumDesk$Reader", "readDatum", "(I)I"⟩, 5), (⟨"DatumDesk$Reader", "readNumber", "()I"⟩, 5), (⟨"DatumDesk$Tokens", "endOf", "(I)I"⟩, 4)]
theorem lw_r1 : ∀ q ∈ lw_privs_1, lw_okq q := List.forall_mem_cons.mpr ⟨lw_p0, List.forall_mem_cons.mpr ⟨lw_p1, List.forall_mem_cons.mpr ⟨lw_p2, List.forall_mem_cons.mpr ⟨lw_p3, List.forall_mem_cons.mpr ⟨lw_p4, List.forall_mem_cons.mpr ⟨lw_p5, List.forall_mem_cons.mpr ⟨lw_p6, List.forall_mem_cons.mpr ⟨lw_p7, List.forall_mem_cons.mpr ⟨lw_p8, List.forall_mem_cons.mpr ⟨lw_p9, List.forall_mem_cons.mpr ⟨lw_p10, List.forall_mem_cons.mpr ⟨lw_p11, List.forall_mem_cons.mpr ⟨lw_p12, List.forall_mem_cons.mpr ⟨lw_p13, List.forall_mem_cons.mpr ⟨lw_p14, List.forall_mem_cons.mpr ⟨lw_p15, fun _ h => absurd h List.not_mem_nil⟩⟩⟩⟩⟩⟩⟩⟩⟩⟩⟩⟩⟩⟩⟩⟩
theorem lw_p16 : lw_okq (⟨"DatumDesk$Tokens", "startOf", "(I)I"⟩, 4) := ⟨⟨by decide +kernel, by decide +kernel⟩, List.mem_of_getElem? (i := 89) (by decide +kernel), List.mem_of_getElem? (i := 249) (by decide +kernel), List.mem_of_getElem? (i := 250) (by decide +kernel)⟩
theorem lw_p17 : lw_okq (⟨"DatumDesk$Reader", "add", "(I)I"⟩, 5) := ⟨⟨by decide +kernel, by decide +kernel⟩, List.mem_of_getElem? (i := 83) (by decide +kernel), List.mem_of_getElem? (i := 254) (by decide +kernel), List.mem_of_getElem? (i := 255) (by decide +kernel)⟩
theorem lw_p18 : lw_okq (⟨"DatumDesk$Nodes", "add", "(I)I"⟩, 10) := ⟨⟨by decide +kernel, by decide +kernel⟩, List.mem_of_getElem? (i := 39) (by decide +kernel), List.mem_of_getElem? (i := 258) (by decide +kernel), List.mem_of_getElem? (i := 259) (by decide +kernel)⟩
theorem lw_p19 : lw_okq (⟨"DatumDesk$Reader", "fault", "()I"⟩, 5) := ⟨⟨by decide +kernel, by decide +kernel⟩, List.mem_of_getElem? (i := 83) (by decide +kernel), List.mem_of_getElem? (i := 262) (by decide +kernel), List.mem_of_getElem? (i := 263) (by decide +kernel)⟩
theorem lw_p20 : lw_okq (⟨"DatumDesk$Nodes", "setAmount", "(II)V"⟩, 10) := ⟨⟨by decide +kernel, by decide +kernel⟩, List.mem_of_getElem? (i := 39) (by decide +kernel), List.mem_of_getElem? (i := 266) (by decide +kernel), List.mem_of_getElem? (i := 267) (by decide +kernel)⟩
theorem lw_p21 : lw_okq (⟨"DatumDesk$Nodes", "has", "(I)Z"⟩, 10) := ⟨⟨by decide +kernel, by decide +kernel⟩, List.mem_of_getElem? (i := 39) (by decide +kernel), List.mem_of_getElem? (i := 270) (by decide +kernel), List.mem_of_getElem? (i := 271) (by decide +kernel)⟩
theorem lw_p22 : lw_okq (⟨"DatumDesk$Reader", "readName", "()I"⟩, 5) := ⟨⟨by decide +kernel, by decide +kernel⟩, List.mem_of_getElem? (i := 83) (by decide +kernel), List.mem_of_getElem? (i := 274) (by decide +kernel), List.mem_of_getElem? (i := 275) (by decide +kernel)⟩
theorem lw_p23 : lw_okq (⟨"DatumDesk$Nodes", "addLetter", "(II)V"⟩, 10) := ⟨⟨by decide +kernel, by decide +kernel⟩, List.mem_of_getElem? (i := 39) (by decide +kernel), List.mem_of_getElem? (i := 278) (by decide +kernel), List.mem_of_getElem? (i := 279) (by decide +kernel)⟩
theorem lw_p24 : lw_okq (⟨"DatumDesk$Reader", "readString", "()I"⟩, 5) := ⟨⟨by decide +kernel, by decide +kernel⟩, List.mem_of_getElem? (i := 83) (by decide +kernel), List.mem_of_getElem? (i := 282) (by decide +kernel), List.mem_of_getElem? (i := 283) (by decide +kernel)⟩
theorem lw_p25 : lw_okq (⟨"DatumDesk$Reader", "readQuoted", "(I)I"⟩, 5) := ⟨⟨by decide +kernel, by decide +kernel⟩, List.mem_of_getElem? (i := 83) (by decide +kernel), List.mem_of_getElem? (i := 286) (by decide +kernel), List.mem_of_getElem? (i := 287) (by decide +kernel)⟩
theorem lw_p26 : lw_okq (⟨"DatumDesk$Nodes", "nameQuote", "(I)V"⟩, 10) := ⟨⟨by decide +kernel, by decide +kernel⟩, List.mem_of_getElem? (i := 39) (by decide +kernel), List.mem_of_getElem? (i := 290) (by decide +kernel), List.mem_of_getElem? (i := 291) (by decide +kernel)⟩
theorem lw_p27 : lw_okq (⟨"DatumDesk$Nodes", "setHead", "(II)V"⟩, 10) := ⟨⟨by decide +kernel, by decide +kernel⟩, List.mem_of_getElem? (i := 39) (by decide +kernel), List.mem_of_getElem? (i := 294) (by decide +kernel), List.mem_of_getElem? (i := 295) (by decide +kernel)⟩
theorem lw_p28 : lw_okq (⟨"DatumDesk$Nodes", "setTail", "(II)V"⟩, 10) := ⟨⟨by decide +kernel, by decide +kernel⟩, List.mem_of_getElem? (i := 39) (by decide +kernel), List.mem_of_getElem? (i := 298) (by decide +kernel), List.mem_of_getElem? (i := 299) (by decide +kernel)⟩
theorem lw_p29 : lw_okq (⟨"DatumDesk$Reader", "readList", "(I)I"⟩, 5) := ⟨⟨by decide +kernel, by decide +kernel⟩, List.mem_of_getElem? (i := 83) (by decide +kernel), List.mem_of_getElem? (i := 302) (by decide +kernel), List.mem_of_getElem? (i := 303) (by decide +kernel)⟩
theorem lw_p30 : lw_okq (⟨"DatumDesk$Reader", "readDotted", "(I)I"⟩, 5) := ⟨⟨by decide +kernel, by decide +kernel⟩, List.mem_of_getElem? (i := 83) (by decide +kernel), List.mem_of_getElem? (i := 306) (by decide +kernel), List.mem_of_getElem? (i := 307) (by decide +kernel)⟩
theorem lw_p31 : lw_okq (⟨"DatumDesk$Nodes", "addDatum", "(I)V"⟩, 10) := ⟨⟨by decide +kernel, by decide +kernel⟩, List.mem_of_getElem? (i := 39) (by decide +kernel), List.mem_of_getElem? (i := 310) (by decide +kernel), List.mem_of_getElem? (i := 311) (by decide +kernel)⟩
def lw_privs_2 : List (MethodName × Nat) := [(⟨"DatumDesk$Tokens", "startOf", "(I)I"⟩, 4), (⟨"DatumDesk$Reader", "add", "(I)I"⟩, 5), (⟨"DatumDesk$Nodes", "add", "(I)I"⟩, 10), (⟨"DatumDesk$Reader", "fault", "()I"⟩, 5), (⟨"DatumDesk$Nodes", "setAmount", "(II)V"⟩, 10), (⟨"DatumDesk$Nodes", "has", "(I)Z"⟩, 10), (⟨"DatumDesk$Reader", "readName", "()I"⟩, 5), (⟨"DatumDesk$Nodes", "addLetter", "(II)V"⟩, 10), (⟨"DatumDesk$Reader", "readString", "()I"⟩, 5), (⟨"DatumDesk$Reader", "readQuoted", "(I)I"⟩, 5), (⟨"DatumDesk$Nodes", "nameQuote", "(I)V"⟩, 10), (⟨"DatumDesk$Nodes", "setHead", "(II)V"⟩, 10), (⟨"DatumDesk$Nodes", "setTail", "(II)V"⟩, 10), (⟨"DatumDesk$Reader", "readList", "(I)I"⟩, 5), (⟨"DatumDesk$Reader", "readDotted", "(I)I"⟩, 5), (⟨"DatumDesk$Nodes", "addDatum", "(I)V"⟩, 10)]
theorem lw_r2 : ∀ q ∈ lw_privs_2, lw_okq q := List.forall_mem_cons.mpr ⟨lw_p16, List.forall_mem_cons.mpr ⟨lw_p17, List.forall_mem_cons.mpr ⟨lw_p18, List.forall_mem_cons.mpr ⟨lw_p19, List.forall_mem_cons.mpr ⟨lw_p20, List.forall_mem_cons.mpr ⟨lw_p21, List.forall_mem_cons.mpr ⟨lw_p22, List.forall_mem_cons.mpr ⟨lw_p23, List.forall_mem_cons.mpr ⟨lw_p24, List.forall_mem_cons.mpr ⟨lw_p25, List.forall_mem_cons.mpr ⟨lw_p26, List.forall_mem_cons.mpr ⟨lw_p27, List.forall_mem_cons.mpr ⟨lw_p28, List.forall_mem_cons.mpr ⟨lw_p29, List.forall_mem_cons.mpr ⟨lw_p30, List.forall_mem_cons.mpr ⟨lw_p31, fun _ h => absurd h List.not_mem_nil⟩⟩⟩⟩⟩⟩⟩⟩⟩⟩⟩⟩⟩⟩⟩⟩
theorem lw_p32 : lw_okq (⟨"DatumDesk$Nodes", "datumNode", "(I)I"⟩, 10) := ⟨⟨by decide +kernel, by decide +kernel⟩, List.mem_of_getElem? (i := 39) (by decide +kernel), List.mem_of_getElem? (i := 322) (by decide +kernel), List.mem_of_getElem? (i := 323) (by decide +kernel)⟩
theorem lw_p33 : lw_okq (⟨"DatumDesk$Nodes", "kindOf", "(I)I"⟩, 10) := ⟨⟨by decide +kernel, by decide +kernel⟩, List.mem_of_getElem? (i := 39) (by decide +kernel), List.mem_of_getElem? (i := 330) (by decide +kernel), List.mem_of_getElem? (i := 331) (by decide +kernel)⟩
theorem lw_p34 : lw_okq (⟨"DatumDesk$Nodes", "amountOf", "(I)I"⟩, 10) := ⟨⟨by decide +kernel, by decide +kernel⟩, List.mem_of_getElem? (i := 39) (by decide +kernel), List.mem_of_getElem? (i := 338) (by decide +kernel), List.mem_of_getElem? (i := 339) (by decide +kernel)⟩
theorem lw_p35 : lw_okq (⟨"DatumDesk$Nodes", "byteOf", "(II)I"⟩, 10) := ⟨⟨by decide +kernel, by decide +kernel⟩, List.mem_of_getElem? (i := 39) (by decide +kernel), List.mem_of_getElem? (i := 346) (by decide +kernel), List.mem_of_getElem? (i := 347) (by decide +kernel)⟩
theorem lw_p36 : lw_okq (⟨"DatumDesk$Nodes", "isOf", "(II)Z"⟩, 10) := ⟨⟨by decide +kernel, by decide +kernel⟩, List.mem_of_getElem? (i := 39) (by decide +kernel), List.mem_of_getElem? (i := 350) (by decide +kernel), List.mem_of_getElem? (i := 351) (by decide +kernel)⟩
theorem lw_p37 : lw_okq (⟨"DatumDesk$Nodes", "headOf", "(I)I"⟩, 10) := ⟨⟨by decide +kernel, by decide +kernel⟩, List.mem_of_getElem? (i := 39) (by decide +kernel), List.mem_of_getElem? (i := 358) (by decide +kernel), List.mem_of_getElem? (i := 359) (by decide +kernel)⟩
theorem lw_p38 : lw_okq (⟨"DatumDesk$Nodes", "tailOf", "(I)I"⟩, 10) := ⟨⟨by decide +kernel, by decide +kernel⟩, List.mem_of_getElem? (i := 39) (by decide +kernel), List.mem_of_getElem? (i := 362) (by decide +kernel), List.mem_of_getElem? (i := 363) (by decide +kernel)⟩
theorem lw_p39 : lw_okq (⟨"DatumDesk$Nodes", "alike", "(III)Z"⟩, 10) := ⟨⟨by decide +kernel, by decide +kernel⟩, List.mem_of_getElem? (i := 39) (by decide +kernel), List.mem_of_getElem? (i := 371) (by decide +kernel), List.mem_of_getElem? (i := 372) (by decide +kernel)⟩
theorem lw_p40 : lw_okq (⟨"DatumDesk$Nodes", "sameContent", "(II)Z"⟩, 10) := ⟨⟨by decide +kernel, by decide +kernel⟩, List.mem_of_getElem? (i := 39) (by decide +kernel), List.mem_of_getElem? (i := 376) (by decide +kernel), List.mem_of_getElem? (i := 377) (by decide +kernel)⟩
theorem lw_p41 : lw_okq (⟨"DatumDesk$Writer", "writeNode", "(II)V"⟩, 2) := ⟨⟨by decide +kernel, by decide +kernel⟩, List.mem_of_getElem? (i := 142) (by decide +kernel), List.mem_of_getElem? (i := 387) (by decide +kernel), List.mem_of_getElem? (i := 388) (by decide +kernel)⟩
theorem lw_p42 : lw_okq (⟨"DatumDesk$Writer", "writeNumber", "(I)V"⟩, 2) := ⟨⟨by decide +kernel, by decide +kernel⟩, List.mem_of_getElem? (i := 142) (by decide +kernel), List.mem_of_getElem? (i := 393) (by decide +kernel), List.mem_of_getElem? (i := 394) (by decide +kernel)⟩
theorem lw_p43 : lw_okq (⟨"DatumDesk$Waiting", "append", "(I)V"⟩, 3) := ⟨⟨by decide +kernel, by decide +kernel⟩, List.mem_of_getElem? (i := 125) (by decide +kernel), List.mem_of_getElem? (i := 397) (by decide +kernel), List.mem_of_getElem? (i := 398) (by decide +kernel)⟩
theorem lw_p44 : lw_okq (⟨"DatumDesk$Writer", "writeName", "(I)V"⟩, 2) := ⟨⟨by decide +kernel, by decide +kernel⟩, List.mem_of_getElem? (i := 142) (by decide +kernel), List.mem_of_getElem? (i := 402) (by decide +kernel), List.mem_of_getElem? (i := 403) (by decide +kernel)⟩
theorem lw_p45 : lw_okq (⟨"DatumDesk$Writer", "writeString", "(I)V"⟩, 2) := ⟨⟨by decide +kernel, by decide +kernel⟩, List.mem_of_getElem? (i := 142) (by decide +kernel), List.mem_of_getElem? (i := 407) (by decide +kernel), List.mem_of_getElem? (i := 408) (by decide +kernel)⟩
theorem lw_p46 : lw_okq (⟨"DatumDesk$Writer", "writePair", "(II)V"⟩, 2) := ⟨⟨by decide +kernel, by decide +kernel⟩, List.mem_of_getElem? (i := 142) (by decide +kernel), List.mem_of_getElem? (i := 411) (by decide +kernel), List.mem_of_getElem? (i := 412) (by decide +kernel)⟩
theorem lw_p47 : lw_okq (⟨"DatumDesk$Nodes", "quotedIn", "(I)I"⟩, 10) := ⟨⟨by decide +kernel, by decide +kernel⟩, List.mem_of_getElem? (i := 39) (by decide +kernel), List.mem_of_getElem? (i := 415) (by decide +kernel), List.mem_of_getElem? (i := 416) (by decide +kernel)⟩
def lw_privs_3 : List (MethodName × Nat) := [(⟨"DatumDesk$Nodes", "datumNode", "(I)I"⟩, 10), (⟨"DatumDesk$Nodes", "kindOf", "(I)I"⟩, 10), (⟨"DatumDesk$Nodes", "amountOf", "(I)I"⟩, 10), (⟨"DatumDesk$Nodes", "byteOf", "(II)I"⟩, 10), (⟨"DatumDesk$Nodes", "isOf", "(II)Z"⟩, 10), (⟨"DatumDesk$Nodes", "headOf", "(I)I"⟩, 10), (⟨"DatumDesk$Nodes", "tailOf", "(I)I"⟩, 10), (⟨"DatumDesk$Nodes", "alike", "(III)Z"⟩, 10), (⟨"DatumDesk$Nodes", "sameContent", "(II)Z"⟩, 10), (⟨"DatumDesk$Writer", "writeNode", "(II)V"⟩, 2), (⟨"DatumDesk$Writer", "writeNumber", "(I)V"⟩, 2), (⟨"DatumDesk$Waiting", "append", "(I)V"⟩, 3), (⟨"DatumDesk$Writer", "writeName", "(I)V"⟩, 2), (⟨"DatumDesk$Writer", "writeString", "(I)V"⟩, 2), (⟨"DatumDesk$Writer", "writePair", "(II)V"⟩, 2), (⟨"DatumDesk$Nodes", "quotedIn", "(I)I"⟩, 10)]
theorem lw_r3 : ∀ q ∈ lw_privs_3, lw_okq q := List.forall_mem_cons.mpr ⟨lw_p32, List.forall_mem_cons.mpr ⟨lw_p33, List.forall_mem_cons.mpr ⟨lw_p34, List.forall_mem_cons.mpr ⟨lw_p35, List.forall_mem_cons.mpr ⟨lw_p36, List.forall_mem_cons.mpr ⟨lw_p37, List.forall_mem_cons.mpr ⟨lw_p38, List.forall_mem_cons.mpr ⟨lw_p39, List.forall_mem_cons.mpr ⟨lw_p40, List.forall_mem_cons.mpr ⟨lw_p41, List.forall_mem_cons.mpr ⟨lw_p42, List.forall_mem_cons.mpr ⟨lw_p43, List.forall_mem_cons.mpr ⟨lw_p44, List.forall_mem_cons.mpr ⟨lw_p45, List.forall_mem_cons.mpr ⟨lw_p46, List.forall_mem_cons.mpr ⟨lw_p47, fun _ h => absurd h List.not_mem_nil⟩⟩⟩⟩⟩⟩⟩⟩⟩⟩⟩⟩⟩⟩⟩⟩
theorem lw_p48 : lw_okq (⟨"DatumDesk$Nodes", "isQuoteName", "(I)Z"⟩, 10) := ⟨⟨by decide +kernel, by decide +kernel⟩, List.mem_of_getElem? (i := 39) (by decide +kernel), List.mem_of_getElem? (i := 421) (by decide +kernel), List.mem_of_getElem? (i := 422) (by decide +kernel)⟩
theorem lw_p49 : lw_okq (⟨"DatumDesk$Waiting", "take", "()I"⟩, 3) := ⟨⟨by decide +kernel, by decide +kernel⟩, List.mem_of_getElem? (i := 125) (by decide +kernel), List.mem_of_getElem? (i := 435) (by decide +kernel), List.mem_of_getElem? (i := 436) (by decide +kernel)⟩
theorem lw_p50 : lw_okq (⟨"DatumDeskModel", "token", "()I"⟩, 21) := ⟨⟨by decide +kernel, by decide +kernel⟩, List.mem_of_getElem? (i := 443) (by decide +kernel), List.mem_of_getElem? (i := 521) (by decide +kernel), List.mem_of_getElem? (i := 522) (by decide +kernel)⟩
theorem lw_p51 : lw_okq (⟨"DatumDeskModel", "skip", "()V"⟩, 21) := ⟨⟨by decide +kernel, by decide +kernel⟩, List.mem_of_getElem? (i := 443) (by decide +kernel), List.mem_of_getElem? (i := 525) (by decide +kernel), List.mem_of_getElem? (i := 526) (by decide +kernel)⟩
theorem lw_p52 : lw_okq (⟨"DatumDeskModel", "peek", "(I)I"⟩, 21) := ⟨⟨by decide +kernel, by decide +kernel⟩, List.mem_of_getElem? (i := 443) (by decide +kernel), List.mem_of_getElem? (i := 529) (by decide +kernel), List.mem_of_getElem? (i := 530) (by decide +kernel)⟩
theorem lw_p53 : lw_okq (⟨"DatumDeskModel", "string", "()I"⟩, 21) := ⟨⟨by decide +kernel, by decide +kernel⟩, List.mem_of_getElem? (i := 443) (by decide +kernel), List.mem_of_getElem? (i := 542) (by decide +kernel), List.mem_of_getElem? (i := 543) (by decide +kernel)⟩
theorem lw_p54 : lw_okq (⟨"DatumDeskModel", "fail", "(I)V"⟩, 21) := ⟨⟨by decide +kernel, by decide +kernel⟩, List.mem_of_getElem? (i := 443) (by decide +kernel), List.mem_of_getElem? (i := 546) (by decide +kernel), List.mem_of_getElem? (i := 547) (by decide +kernel)⟩
theorem lw_p55 : lw_okq (⟨"DatumDeskModel", "opens", "(Z)V"⟩, 21) := ⟨⟨by decide +kernel, by decide +kernel⟩, List.mem_of_getElem? (i := 443) (by decide +kernel), List.mem_of_getElem? (i := 550) (by decide +kernel), List.mem_of_getElem? (i := 551) (by decide +kernel)⟩
theorem lw_p56 : lw_okq (⟨"DatumDeskModel", "begin", "()V"⟩, 21) := ⟨⟨by decide +kernel, by decide +kernel⟩, List.mem_of_getElem? (i := 443) (by decide +kernel), List.mem_of_getElem? (i := 554) (by decide +kernel), List.mem_of_getElem? (i := 555) (by decide +kernel)⟩
theorem lw_p57 : lw_okq (⟨"DatumDeskModel", "node", "(I)I"⟩, 21) := ⟨⟨by decide +kernel, by decide +kernel⟩, List.mem_of_getElem? (i := 443) (by decide +kernel), List.mem_of_getElem? (i := 558) (by decide +kernel), List.mem_of_getElem? (i := 559) (by decide +kernel)⟩
theorem lw_p58 : lw_okq (⟨"DatumDeskModel", "letter", "(II)V"⟩, 21) := ⟨⟨by decide +kernel, by decide +kernel⟩, List.mem_of_getElem? (i := 443) (by decide +kernel), List.mem_of_getElem? (i := 603) (by decide +kernel), List.mem_of_getElem? (i := 604) (by decide +kernel)⟩
theorem lw_p59 : lw_okq (⟨"DatumDeskModel", "closes", "()V"⟩, 21) := ⟨⟨by decide +kernel, by decide +kernel⟩, List.mem_of_getElem? (i := 443) (by decide +kernel), List.mem_of_getElem? (i := 607) (by decide +kernel), List.mem_of_getElem? (i := 608) (by decide +kernel)⟩
theorem lw_p60 : lw_okq (⟨"DatumDeskModel", "end", "(I)V"⟩, 21) := ⟨⟨by decide +kernel, by decide +kernel⟩, List.mem_of_getElem? (i := 443) (by decide +kernel), List.mem_of_getElem? (i := 611) (by decide +kernel), List.mem_of_getElem? (i := 612) (by decide +kernel)⟩
theorem lw_p61 : lw_okq (⟨"DatumDeskModel", "atom", "(I)I"⟩, 21) := ⟨⟨by decide +kernel, by decide +kernel⟩, List.mem_of_getElem? (i := 443) (by decide +kernel), List.mem_of_getElem? (i := 615) (by decide +kernel), List.mem_of_getElem? (i := 616) (by decide +kernel)⟩
theorem lw_p62 : lw_okq (⟨"DatumDeskModel", "isNode", "(I)Z"⟩, 21) := ⟨⟨by decide +kernel, by decide +kernel⟩, List.mem_of_getElem? (i := 443) (by decide +kernel), List.mem_of_getElem? (i := 632) (by decide +kernel), List.mem_of_getElem? (i := 633) (by decide +kernel)⟩
theorem lw_p63 : lw_okq (⟨"DatumDeskModel", "same", "(II)Z"⟩, 21) := ⟨⟨by decide +kernel, by decide +kernel⟩, List.mem_of_getElem? (i := 443) (by decide +kernel), List.mem_of_getElem? (i := 652) (by decide +kernel), List.mem_of_getElem? (i := 653) (by decide +kernel)⟩
def lw_privs_4 : List (MethodName × Nat) := [(⟨"DatumDesk$Nodes", "isQuoteName", "(I)Z"⟩, 10), (⟨"DatumDesk$Waiting", "take", "()I"⟩, 3), (⟨"DatumDeskModel", "token", "()I"⟩, 21), (⟨"DatumDeskModel", "skip", "()V"⟩, 21), (⟨"DatumDeskModel", "peek", "(I)I"⟩, 21), (⟨"DatumDeskModel", "string", "()I"⟩, 21), (⟨"DatumDeskModel", "fail", "(I)V"⟩, 21), (⟨"DatumDeskModel", "opens", "(Z)V"⟩, 21), (⟨"DatumDeskModel", "begin", "()V"⟩, 21), (⟨"DatumDeskModel", "node", "(I)I"⟩, 21), (⟨"DatumDeskModel", "letter", "(II)V"⟩, 21), (⟨"DatumDeskModel", "closes", "()V"⟩, 21), (⟨"DatumDeskModel", "end", "(I)V"⟩, 21), (⟨"DatumDeskModel", "atom", "(I)I"⟩, 21), (⟨"DatumDeskModel", "isNode", "(I)Z"⟩, 21), (⟨"DatumDeskModel", "same", "(II)Z"⟩, 21)]
theorem lw_r4 : ∀ q ∈ lw_privs_4, lw_okq q := List.forall_mem_cons.mpr ⟨lw_p48, List.forall_mem_cons.mpr ⟨lw_p49, List.forall_mem_cons.mpr ⟨lw_p50, List.forall_mem_cons.mpr ⟨lw_p51, List.forall_mem_cons.mpr ⟨lw_p52, List.forall_mem_cons.mpr ⟨lw_p53, List.forall_mem_cons.mpr ⟨lw_p54, List.forall_mem_cons.mpr ⟨lw_p55, List.forall_mem_cons.mpr ⟨lw_p56, List.forall_mem_cons.mpr ⟨lw_p57, List.forall_mem_cons.mpr ⟨lw_p58, List.forall_mem_cons.mpr ⟨lw_p59, List.forall_mem_cons.mpr ⟨lw_p60, List.forall_mem_cons.mpr ⟨lw_p61, List.forall_mem_cons.mpr ⟨lw_p62, List.forall_mem_cons.mpr ⟨lw_p63, fun _ h => absurd h List.not_mem_nil⟩⟩⟩⟩⟩⟩⟩⟩⟩⟩⟩⟩⟩⟩⟩⟩
theorem lw_p64 : lw_okq (⟨"DatumDeskModel", "step", "(II)I"⟩, 21) := ⟨⟨by decide +kernel, by decide +kernel⟩, List.mem_of_getElem? (i := 443) (by decide +kernel), List.mem_of_getElem? (i := 660) (by decide +kernel), List.mem_of_getElem? (i := 661) (by decide +kernel)⟩
theorem lw_p65 : lw_okq (⟨"DatumDeskModel", "say", "(I)V"⟩, 21) := ⟨⟨by decide +kernel, by decide +kernel⟩, List.mem_of_getElem? (i := 443) (by decide +kernel), List.mem_of_getElem? (i := 664) (by decide +kernel), List.mem_of_getElem? (i := 665) (by decide +kernel)⟩
theorem lw_p66 : lw_okq (⟨"DatumDeskModel", "isQuote", "(I)Z"⟩, 21) := ⟨⟨by decide +kernel, by decide +kernel⟩, List.mem_of_getElem? (i := 443) (by decide +kernel), List.mem_of_getElem? (i := 668) (by decide +kernel), List.mem_of_getElem? (i := 669) (by decide +kernel)⟩
theorem lw_p67 : lw_okq (⟨"DatumDeskModel", "number", "(I)V"⟩, 21) := ⟨⟨by decide +kernel, by decide +kernel⟩, List.mem_of_getElem? (i := 443) (by decide +kernel), List.mem_of_getElem? (i := 672) (by decide +kernel), List.mem_of_getElem? (i := 673) (by decide +kernel)⟩
theorem lw_p68 : lw_okq (⟨"DatumDeskModel", "letters", "(I)V"⟩, 21) := ⟨⟨by decide +kernel, by decide +kernel⟩, List.mem_of_getElem? (i := 443) (by decide +kernel), List.mem_of_getElem? (i := 676) (by decide +kernel), List.mem_of_getElem? (i := 677) (by decide +kernel)⟩
def lw_privs_5 : List (MethodName × Nat) := [(⟨"DatumDeskModel", "step", "(II)I"⟩, 21), (⟨"DatumDeskModel", "say", "(I)V"⟩, 21), (⟨"DatumDeskModel", "isQuote", "(I)Z"⟩, 21), (⟨"DatumDeskModel", "number", "(I)V"⟩, 21), (⟨"DatumDeskModel", "letters", "(I)V"⟩, 21)]
theorem lw_r5 : ∀ q ∈ lw_privs_5, lw_okq q := List.forall_mem_cons.mpr ⟨lw_p64, List.forall_mem_cons.mpr ⟨lw_p65, List.forall_mem_cons.mpr ⟨lw_p66, List.forall_mem_cons.mpr ⟨lw_p67, List.forall_mem_cons.mpr ⟨lw_p68, fun _ h => absurd h List.not_mem_nil⟩⟩⟩⟩⟩
def lw_privs : List (MethodName × Nat) := lw_privs_1 ++ (lw_privs_2 ++ (lw_privs_3 ++ (lw_privs_4 ++ (lw_privs_5))))
def lw_tbl : List Cond := k2_sels lw_privs ++ tables_1
theorem lw_privs_ok : ∀ q ∈ lw_privs, lw_okq q := by
  show ∀ q ∈ lw_privs_1 ++ (lw_privs_2 ++ (lw_privs_3 ++ (lw_privs_4 ++ (lw_privs_5)))), lw_okq q
  exact List.forall_mem_append.mpr ⟨lw_r1, List.forall_mem_append.mpr ⟨lw_r2, List.forall_mem_append.mpr ⟨lw_r3, List.forall_mem_append.mpr ⟨lw_r4, lw_r5⟩⟩⟩⟩
end
section
/-! printed by wip/gen/gen.py out of the claim: names, fields, the world, the words -/
abbrev aK : Type := Nat ⊕ (Nat × List (Option Value))
def T_Nodes : u_T := fun k => match k with
  | 0 => ("DatumDesk$Nodes", "kinds", "[I", true)
  | 1 => ("DatumDesk$Nodes", "amounts", "[I", true)
  | 2 => ("DatumDesk$Nodes", "starts", "[I", true)
  | 3 => ("DatumDesk$Nodes", "heads", "[I", true)
  | 4 => ("DatumDesk$Nodes", "tails", "[I", true)
  | 5 => ("DatumDesk$Nodes", "count", "I", false)
  | 6 => ("DatumDesk$Nodes", "data", "[I", true)
  | 7 => ("DatumDesk$Nodes", "dataCount", "I", false)
  | 8 => ("DatumDesk$Nodes", "letters", "[I", true)
  | _ => ("DatumDesk$Nodes", "letterCount", "I", false)
def t_Nodes : Nat → FieldType := fun k => match k with
  | 0 => .array .int
  | 1 => .array .int
  | 2 => .array .int
  | 3 => .array .int
  | 4 => .array .int
  | 5 => .int
  | 6 => .array .int
  | 7 => .int
  | 8 => .array .int
  | _ => .int
theorem nm_Nodes : ∀ a, a < 10 → ∀ b, b < 10 → a ≠ b → (T_Nodes a).2.1 ≠ (T_Nodes b).2.1 := by decide +kernel
theorem tok_Nodes : ∀ k, k < 10 → parseFieldDescriptor (T_Nodes k).2.2.1 = some (t_Nodes k) := by decide +kernel
def T_Reader : u_T := fun k => match k with
  | 0 => ("DatumDesk$Reader", "text", "LDatumDesk$Text;", true)
  | 1 => ("DatumDesk$Reader", "nodes", "LDatumDesk$Nodes;", true)
  | 2 => ("DatumDesk$Reader", "tokens", "LDatumDesk$Tokens;", true)
  | 3 => ("DatumDesk$Reader", "cursor", "I", false)
  | _ => ("DatumDesk$Reader", "faultPlace", "I", false)
def t_Reader : Nat → FieldType := fun k => match k with
  | 0 => .object "DatumDesk$Text"
  | 1 => .object "DatumDesk$Nodes"
  | 2 => .object "DatumDesk$Tokens"
  | 3 => .int
  | _ => .int
theorem nm_Reader : ∀ a, a < 5 → ∀ b, b < 5 → a ≠ b → (T_Reader a).2.1 ≠ (T_Reader b).2.1 := by decide +kernel
theorem tok_Reader : ∀ k, k < 5 → parseFieldDescriptor (T_Reader k).2.2.1 = some (t_Reader k) := by decide +kernel
def T_Text : u_T := fun k => match k with
  | 0 => ("DatumDesk$Text", "bytes", "[I", true)
  | _ => ("DatumDesk$Text", "length", "I", false)
def t_Text : Nat → FieldType := fun k => match k with
  | 0 => .array .int
  | _ => .int
theorem nm_Text : ∀ a, a < 2 → ∀ b, b < 2 → a ≠ b → (T_Text a).2.1 ≠ (T_Text b).2.1 := by decide +kernel
theorem tok_Text : ∀ k, k < 2 → parseFieldDescriptor (T_Text k).2.2.1 = some (t_Text k) := by decide +kernel
def T_Tokens : u_T := fun k => match k with
  | 0 => ("DatumDesk$Tokens", "sorts", "[I", true)
  | 1 => ("DatumDesk$Tokens", "starts", "[I", true)
  | 2 => ("DatumDesk$Tokens", "ends", "[I", true)
  | _ => ("DatumDesk$Tokens", "count", "I", false)
def t_Tokens : Nat → FieldType := fun k => match k with
  | 0 => .array .int
  | 1 => .array .int
  | 2 => .array .int
  | _ => .int
theorem nm_Tokens : ∀ a, a < 4 → ∀ b, b < 4 → a ≠ b → (T_Tokens a).2.1 ≠ (T_Tokens b).2.1 := by decide +kernel
theorem tok_Tokens : ∀ k, k < 4 → parseFieldDescriptor (T_Tokens k).2.2.1 = some (t_Tokens k) := by decide +kernel
def T_Waiting : u_T := fun k => match k with
  | 0 => ("DatumDesk$Waiting", "bytes", "[I", true)
  | 1 => ("DatumDesk$Waiting", "first", "I", false)
  | _ => ("DatumDesk$Waiting", "count", "I", false)
def t_Waiting : Nat → FieldType := fun k => match k with
  | 0 => .array .int
  | 1 => .int
  | _ => .int
theorem nm_Waiting : ∀ a, a < 3 → ∀ b, b < 3 → a ≠ b → (T_Waiting a).2.1 ≠ (T_Waiting b).2.1 := by decide +kernel
theorem tok_Waiting : ∀ k, k < 3 → parseFieldDescriptor (T_Waiting k).2.2.1 = some (t_Waiting k) := by decide +kernel
def T_Writer : u_T := fun k => match k with
  | 0 => ("DatumDesk$Writer", "nodes", "LDatumDesk$Nodes;", true)
  | _ => ("DatumDesk$Writer", "waiting", "LDatumDesk$Waiting;", true)
def t_Writer : Nat → FieldType := fun k => match k with
  | 0 => .object "DatumDesk$Nodes"
  | _ => .object "DatumDesk$Waiting"
theorem nm_Writer : ∀ a, a < 2 → ∀ b, b < 2 → a ≠ b → (T_Writer a).2.1 ≠ (T_Writer b).2.1 := by decide +kernel
theorem tok_Writer : ∀ k, k < 2 → parseFieldDescriptor (T_Writer k).2.2.1 = some (t_Writer k) := by decide +kernel
def T_Desk : u_T := fun k => match k with
  | 0 => ("DatumDesk", "text", "LDatumDesk$Text;", true)
  | 1 => ("DatumDesk", "nodes", "LDatumDesk$Nodes;", true)
  | 2 => ("DatumDesk", "reader", "LDatumDesk$Reader;", true)
  | 3 => ("DatumDesk", "waiting", "LDatumDesk$Waiting;", true)
  | _ => ("DatumDesk", "writer", "LDatumDesk$Writer;", true)
def t_Desk : Nat → FieldType := fun k => match k with
  | 0 => .object "DatumDesk$Text"
  | 1 => .object "DatumDesk$Nodes"
  | 2 => .object "DatumDesk$Reader"
  | 3 => .object "DatumDesk$Waiting"
  | _ => .object "DatumDesk$Writer"
theorem nm_Desk : ∀ a, a < 5 → ∀ b, b < 5 → a ≠ b → (T_Desk a).2.1 ≠ (T_Desk b).2.1 := by decide +kernel
theorem tok_Desk : ∀ k, k < 5 → parseFieldDescriptor (T_Desk k).2.2.1 = some (t_Desk k) := by decide +kernel
def T_Model : u_T := fun k => match k with
  | 0 => ("DatumDeskModel", "text", "[I", true)
  | 1 => ("DatumDeskModel", "size", "I", false)
  | 2 => ("DatumDeskModel", "at", "I", false)
  | 3 => ("DatumDeskModel", "place", "I", false)
  | 4 => ("DatumDeskModel", "fault", "I", false)
  | 5 => ("DatumDeskModel", "nodes", "I", false)
  | 6 => ("DatumDeskModel", "kinds", "[I", true)
  | 7 => ("DatumDeskModel", "values", "[I", true)
  | 8 => ("DatumDeskModel", "bytes", "[I", true)
  | 9 => ("DatumDeskModel", "heads", "[I", true)
  | 10 => ("DatumDeskModel", "tails", "[I", true)
  | 11 => ("DatumDeskModel", "data", "I", false)
  | 12 => ("DatumDeskModel", "datums", "[I", true)
  | 13 => ("DatumDeskModel", "open", "I", false)
  | 14 => ("DatumDeskModel", "firsts", "[I", true)
  | 15 => ("DatumDeskModel", "lasts", "[I", true)
  | 16 => ("DatumDeskModel", "states", "[I", true)
  | 17 => ("DatumDeskModel", "written", "[I", true)
  | 18 => ("DatumDeskModel", "waits", "I", false)
  | 19 => ("DatumDeskModel", "ones", "[I", true)
  | _ => ("DatumDeskModel", "others", "[I", true)
def t_Model : Nat → FieldType := fun k => match k with
  | 0 => .array .int
  | 1 => .int
  | 2 => .int
  | 3 => .int
  | 4 => .int
  | 5 => .int
  | 6 => .array .int
  | 7 => .array .int
  | 8 => .array .int
  | 9 => .array .int
  | 10 => .array .int
  | 11 => .int
  | 12 => .array .int
  | 13 => .int
  | 14 => .array .int
  | 15 => .array .int
  | 16 => .array .int
  | 17 => .array .int
  | 18 => .int
  | 19 => .array .int
  | _ => .array .int
theorem nm_Model : ∀ a, a < 21 → ∀ b, b < 21 → a ≠ b → (T_Model a).2.1 ≠ (T_Model b).2.1 := by decide +kernel
theorem tok_Model : ∀ k, k < 21 → parseFieldDescriptor (T_Model k).2.2.1 = some (t_Model k) := by decide +kernel
abbrev CL : List vw_C := [("DatumDesk$Nodes", T_Nodes, 10), ("DatumDesk$Reader", T_Reader, 5), ("DatumDesk$Text", T_Text, 2), ("DatumDesk$Tokens", T_Tokens, 4), ("DatumDesk$Waiting", T_Waiting, 3), ("DatumDesk$Writer", T_Writer, 2), ("DatumDesk", T_Desk, 5), ("DatumDeskModel", T_Model, 21)]
def SH : List aK := [.inr (6, [some (.ref 1), some (.ref 3), some (.ref 11), some (.ref 16), some (.ref 18)]), .inr (2, [some (.ref 2), none]), .inl 400, .inr (0, [some (.ref 4), some (.ref 5), some (.ref 6), some (.ref 7), some (.ref 8), none, some (.ref 9), none, some (.ref 10), none]), .inl 200, .inl 200, .inl 200, .inl 200, .inl 200, .inl 200, .inl 405, .inr (1, [some (.ref 1), some (.ref 3), some (.ref 12), none, none]), .inr (3, [some (.ref 13), some (.ref 14), some (.ref 15), none]), .inl 401, .inl 401, .inl 401, .inr (4, [some (.ref 17), none, none]), .inl 500, .inr (5, [some (.ref 3), some (.ref 16)]), .inr (7, [some (.ref 20), none, none, none, none, none, some (.ref 21), some (.ref 22), some (.ref 23), some (.ref 24), some (.ref 25), none, some (.ref 26), none, some (.ref 27), some (.ref 28), some (.ref 29), some (.ref 30), none, some (.ref 31), some (.ref 32)]), .inl 400, .inl 200, .inl 200, .inl 4000, .inl 200, .inl 200, .inl 200, .inl 15, .inl 15, .inl 15, .inl 500, .inl 420, .inl 420]
def QF : Nat → Int32 := fun k => match k with
  | 0 => 113
  | 1 => 117
  | 2 => 111
  | 3 => 116
  | _ => 101
def XS : List (String × String × String × Value) := [("DatumDesk", "QUOTE", "[I", .ref 1000)]
def nw_is (w : Cond) : Bool := match w with
  | .fieldLinkNest _ _ _ _ _ _ => true
  | .methodLinkNest _ _ _ _ => true
  | _ => false
def TB : List Cond := lw_tbl.filter goodWord
def NWs : List Cond := lw_tbl.filter nw_is
theorem tb_of (i : Nat) {w : Cond} (h : lw_tbl[i]? = some w) (hg : goodWord w = true) : w ∈ TB := List.mem_filter.mpr ⟨List.mem_of_getElem? h, hg⟩
theorem nw_of (i : Nat) {w : Cond} (h : lw_tbl[i]? = some w) (hg : nw_is w = true) : w ∈ NWs := List.mem_filter.mpr ⟨List.mem_of_getElem? h, hg⟩
theorem TB_good : ∀ w ∈ TB, (w.onTables && w.keeps) = true ∨ ∃ ty, w = .arrayClass ty := fun w h => good_of_word (List.mem_filter.mp h).2
set_option maxRecDepth 20000 in
theorem in_Nodes : ∀ w ∈ u_ws "DatumDesk$Nodes" T_Nodes 10, w ∈ TB := by
  intro w hw
  have h : w ∈ [(Cond.laysFinal "DatumDesk$Nodes" "DatumDesk$Nodes" "kinds" "[I"), (Cond.laysFinal "DatumDesk$Nodes" "DatumDesk$Nodes" "amounts" "[I"), (Cond.laysFinal "DatumDesk$Nodes" "DatumDesk$Nodes" "starts" "[I"), (Cond.laysFinal "DatumDesk$Nodes" "DatumDesk$Nodes" "heads" "[I"), (Cond.laysFinal "DatumDesk$Nodes" "DatumDesk$Nodes" "tails" "[I"), (Cond.lays "DatumDesk$Nodes" "DatumDesk$Nodes" "count" "I"), (Cond.laysFinal "DatumDesk$Nodes" "DatumDesk$Nodes" "data" "[I"), (Cond.lays "DatumDesk$Nodes" "DatumDesk$Nodes" "dataCount" "I"), (Cond.laysFinal "DatumDesk$Nodes" "DatumDesk$Nodes" "letters" "[I"), (Cond.lays "DatumDesk$Nodes" "DatumDesk$Nodes" "letterCount" "I")] := hw
  simp only [List.mem_cons, List.not_mem_nil, or_false] at h
  rcases h with rfl | rfl | rfl | rfl | rfl | rfl | rfl | rfl | rfl | rfl
  · exact tb_of 130 rfl rfl
  · exact tb_of 132 rfl rfl
  · exact tb_of 134 rfl rfl
  · exact tb_of 136 rfl rfl
  · exact tb_of 138 rfl rfl
  · exact tb_of 140 rfl rfl
  · exact tb_of 142 rfl rfl
  · exact tb_of 144 rfl rfl
  · exact tb_of 146 rfl rfl
  · exact tb_of 148 rfl rfl
set_option maxRecDepth 20000 in
theorem in_Reader : ∀ w ∈ u_ws "DatumDesk$Reader" T_Reader 5, w ∈ TB := by
  intro w hw
  have h : w ∈ [(Cond.laysFinal "DatumDesk$Reader" "DatumDesk$Reader" "text" "LDatumDesk$Text;"), (Cond.laysFinal "DatumDesk$Reader" "DatumDesk$Reader" "nodes" "LDatumDesk$Nodes;"), (Cond.laysFinal "DatumDesk$Reader" "DatumDesk$Reader" "tokens" "LDatumDesk$Tokens;"), (Cond.lays "DatumDesk$Reader" "DatumDesk$Reader" "cursor" "I"), (Cond.lays "DatumDesk$Reader" "DatumDesk$Reader" "faultPlace" "I")] := hw
  simp only [List.mem_cons, List.not_mem_nil, or_false] at h
  rcases h with rfl | rfl | rfl | rfl | rfl
  · exact tb_of 182 rfl rfl
  · exact tb_of 184 rfl rfl
  · exact tb_of 186 rfl rfl
  · exact tb_of 188 rfl rfl
  · exact tb_of 190 rfl rfl
set_option maxRecDepth 20000 in
theorem in_Text : ∀ w ∈ u_ws "DatumDesk$Text" T_Text 2, w ∈ TB := by
  intro w hw
  have h : w ∈ [(Cond.laysFinal "DatumDesk$Text" "DatumDesk$Text" "bytes" "[I"), (Cond.lays "DatumDesk$Text" "DatumDesk$Text" "length" "I")] := hw
  simp only [List.mem_cons, List.not_mem_nil, or_false] at h
  rcases h with rfl | rfl
  · exact tb_of 101 rfl rfl
  · exact tb_of 103 rfl rfl
set_option maxRecDepth 20000 in
theorem in_Tokens : ∀ w ∈ u_ws "DatumDesk$Tokens" T_Tokens 4, w ∈ TB := by
  intro w hw
  have h : w ∈ [(Cond.laysFinal "DatumDesk$Tokens" "DatumDesk$Tokens" "sorts" "[I"), (Cond.laysFinal "DatumDesk$Tokens" "DatumDesk$Tokens" "starts" "[I"), (Cond.laysFinal "DatumDesk$Tokens" "DatumDesk$Tokens" "ends" "[I"), (Cond.lays "DatumDesk$Tokens" "DatumDesk$Tokens" "count" "I")] := hw
  simp only [List.mem_cons, List.not_mem_nil, or_false] at h
  rcases h with rfl | rfl | rfl | rfl
  · exact tb_of 167 rfl rfl
  · exact tb_of 169 rfl rfl
  · exact tb_of 171 rfl rfl
  · exact tb_of 173 rfl rfl
set_option maxRecDepth 20000 in
theorem in_Waiting : ∀ w ∈ u_ws "DatumDesk$Waiting" T_Waiting 3, w ∈ TB := by
  intro w hw
  have h : w ∈ [(Cond.laysFinal "DatumDesk$Waiting" "DatumDesk$Waiting" "bytes" "[I"), (Cond.lays "DatumDesk$Waiting" "DatumDesk$Waiting" "first" "I"), (Cond.lays "DatumDesk$Waiting" "DatumDesk$Waiting" "count" "I")] := hw
  simp only [List.mem_cons, List.not_mem_nil, or_false] at h
  rcases h with rfl | rfl | rfl
  · exact tb_of 203 rfl rfl
  · exact tb_of 205 rfl rfl
  · exact tb_of 207 rfl rfl
set_option maxRecDepth 20000 in
theorem in_Writer : ∀ w ∈ u_ws "DatumDesk$Writer" T_Writer 2, w ∈ TB := by
  intro w hw
  have h : w ∈ [(Cond.laysFinal "DatumDesk$Writer" "DatumDesk$Writer" "nodes" "LDatumDesk$Nodes;"), (Cond.laysFinal "DatumDesk$Writer" "DatumDesk$Writer" "waiting" "LDatumDesk$Waiting;")] := hw
  simp only [List.mem_cons, List.not_mem_nil, or_false] at h
  rcases h with rfl | rfl
  · exact tb_of 218 rfl rfl
  · exact tb_of 220 rfl rfl
set_option maxRecDepth 20000 in
theorem in_Desk : ∀ w ∈ u_ws "DatumDesk" T_Desk 5, w ∈ TB := by
  intro w hw
  have h : w ∈ [(Cond.laysFinal "DatumDesk" "DatumDesk" "text" "LDatumDesk$Text;"), (Cond.laysFinal "DatumDesk" "DatumDesk" "nodes" "LDatumDesk$Nodes;"), (Cond.laysFinal "DatumDesk" "DatumDesk" "reader" "LDatumDesk$Reader;"), (Cond.laysFinal "DatumDesk" "DatumDesk" "waiting" "LDatumDesk$Waiting;"), (Cond.laysFinal "DatumDesk" "DatumDesk" "writer" "LDatumDesk$Writer;")] := hw
  simp only [List.mem_cons, List.not_mem_nil, or_false] at h
  rcases h with rfl | rfl | rfl | rfl | rfl
  · exact tb_of 228 rfl rfl
  · exact tb_of 230 rfl rfl
  · exact tb_of 232 rfl rfl
  · exact tb_of 234 rfl rfl
  · exact tb_of 236 rfl rfl
set_option maxRecDepth 20000 in
theorem in_Model : ∀ w ∈ u_ws "DatumDeskModel" T_Model 21, w ∈ TB := by
  intro w hw
  have h : w ∈ [(Cond.laysFinal "DatumDeskModel" "DatumDeskModel" "text" "[I"), (Cond.lays "DatumDeskModel" "DatumDeskModel" "size" "I"), (Cond.lays "DatumDeskModel" "DatumDeskModel" "at" "I"), (Cond.lays "DatumDeskModel" "DatumDeskModel" "place" "I"), (Cond.lays "DatumDeskModel" "DatumDeskModel" "fault" "I"), (Cond.lays "DatumDeskModel" "DatumDeskModel" "nodes" "I"), (Cond.laysFinal "DatumDeskModel" "DatumDeskModel" "kinds" "[I"), (Cond.laysFinal "DatumDeskModel" "DatumDeskModel" "values" "[I"), (Cond.laysFinal "DatumDeskModel" "DatumDeskModel" "bytes" "[I"), (Cond.laysFinal "DatumDeskModel" "DatumDeskModel" "heads" "[I"), (Cond.laysFinal "DatumDeskModel" "DatumDeskModel" "tails" "[I"), (Cond.lays "DatumDeskModel" "DatumDeskModel" "data" "I"), (Cond.laysFinal "DatumDeskModel" "DatumDeskModel" "datums" "[I"), (Cond.lays "DatumDeskModel" "DatumDeskModel" "open" "I"), (Cond.laysFinal "DatumDeskModel" "DatumDeskModel" "firsts" "[I"), (Cond.laysFinal "DatumDeskModel" "DatumDeskModel" "lasts" "[I"), (Cond.laysFinal "DatumDeskModel" "DatumDeskModel" "states" "[I"), (Cond.laysFinal "DatumDeskModel" "DatumDeskModel" "written" "[I"), (Cond.lays "DatumDeskModel" "DatumDeskModel" "waits" "I"), (Cond.laysFinal "DatumDeskModel" "DatumDeskModel" "ones" "[I"), (Cond.laysFinal "DatumDeskModel" "DatumDeskModel" "others" "[I")] := hw
  simp only [List.mem_cons, List.not_mem_nil, or_false] at h
  rcases h with rfl | rfl | rfl | rfl | rfl | rfl | rfl | rfl | rfl | rfl | rfl | rfl | rfl | rfl | rfl | rfl | rfl | rfl | rfl | rfl | rfl
  · exact tb_of 538 rfl rfl
  · exact tb_of 540 rfl rfl
  · exact tb_of 542 rfl rfl
  · exact tb_of 544 rfl rfl
  · exact tb_of 546 rfl rfl
  · exact tb_of 548 rfl rfl
  · exact tb_of 550 rfl rfl
  · exact tb_of 552 rfl rfl
  · exact tb_of 554 rfl rfl
  · exact tb_of 556 rfl rfl
  · exact tb_of 558 rfl rfl
  · exact tb_of 560 rfl rfl
  · exact tb_of 562 rfl rfl
  · exact tb_of 564 rfl rfl
  · exact tb_of 566 rfl rfl
  · exact tb_of 568 rfl rfl
  · exact tb_of 570 rfl rfl
  · exact tb_of 572 rfl rfl
  · exact tb_of 574 rfl rfl
  · exact tb_of 576 rfl rfl
  · exact tb_of 578 rfl rfl
end
section
/-! THE PICTURE OF THE MACHINE. Every cell that the system uses has a number (its place in SH); M i j is the int in slot j of cell i; a reference is the number of its cell. An instruction is a function of what comes behind it: 'aI'. -/
abbrev aM : Type := Nat → Nat → Int32
abbrev aL : Type := List (Option Value)
abbrev aJ : Type := Nat → aL → List Value → aM → Prop
abbrev aR : Type := Option Value → aM → Prop
abbrev aI : Type := aJ → aR → Nat → aL → List Value → aM → Prop
abbrev aG : Type := Launch × va_G × ClassId × (Nat → Nat) × (Nat → Prop) × Nat × (Nat → Int32)
abbrev aY : Type := MethodName × ByteArray × Nat × Option FieldType
abbrev aS : Type := List Value → aM → aR → Prop
def g_l (G : aG) : Launch := G.1
def g_D (G : aG) : va_G := G.2.1
def g_c (G : aG) : ClassId := G.2.2.1
def g_a (G : aG) : Nat → Nat := G.2.2.2.1
def g_B (G : aG) : Nat → Prop := G.2.2.2.2.1
def g_n (G : aG) : Nat := G.2.2.2.2.2.1
def g_x (G : aG) : Nat → Int32 := G.2.2.2.2.2.2
def am_v (ad : Nat → Nat) (v : Value) : Value := match v with
  | .ref k => .ref (ad k)
  | w => w
def am_fs (ad : Nat → Nat) (f : Nat → Int32) : Nat → List (Option Value) → List Value
  | _, [] => []
  | k, none :: r => .int (f k) :: am_fs ad f (k + 1) r
  | k, some v :: r => am_v ad v :: am_fs ad f (k + 1) r
def am_cell (cI : ClassId) (ad : Nat → Nat) (f : Nat → Int32) (k : aK) : va_E := match k with
  | .inl n => .inl (cI, n, .inl f)
  | .inr q => .inr (q.1, am_fs ad f 0 q.2)
def am_ws (cI : ClassId) (ad : Nat → Nat) (M : aM) : Nat → List aK → va_W
  | _, [] => []
  | i, k :: r => (ad i, am_cell cI ad (M i) k) :: am_ws cI ad M (i + 1) r
def am_W (G : aG) (M : aM) : va_W := am_ws (g_c G) (g_a G) M 0 SH
def am_up (M : aM) (i j : Nat) (x : Int32) : aM := fun a => if a = i then upd (M i) j x else M a
def am_A (G : aG) (sz : Nat) : Nat → Prop := fun q => (∃ i, i < SH.length ∧ q = g_a G i) ∨ sz ≤ q
theorem am_ws_get (cI : ClassId) (ad : Nat → Nat) (M : aM) : ∀ (sh : List aK) (i0 i : Nat), (am_ws cI ad M i0 sh)[i]? = (sh[i]?).map (fun k => (ad (i0 + i), am_cell cI ad (M (i0 + i)) k))
  | [], _, _ => by simp [am_ws]
  | k :: r, i0, 0 => by simp [am_ws]
  | k :: r, i0, i + 1 => by
    simp only [am_ws, List.getElem?_cons_succ]
    rw [am_ws_get cI ad M r (i0 + 1) i, show i0 + 1 + i = i0 + (i + 1) by omega]
theorem am_W_get {G : aG} {M : aM} {i : Nat} {k : aK} (h : SH[i]? = some k) : (am_W G M)[i]? = some (g_a G i, am_cell (g_c G) (g_a G) (M i) k) := by
  unfold am_W
  rw [am_ws_get, h]
  simp
theorem am_W_of {G : aG} {M : aM} {i : Nat} {q : Nat × va_E} (h : (am_W G M)[i]? = some q) : i < SH.length ∧ q.1 = g_a G i := by
  unfold am_W at h
  rw [am_ws_get] at h
  cases hk : SH[i]? with
  | none => rw [hk] at h; simp at h
  | some k =>
    rw [hk] at h
    simp at h
    exact ⟨(List.getElem?_eq_some_iff.mp hk).1, by rw [← h]⟩
theorem am_W_len {G : aG} {M : aM} : (am_W G M).length = SH.length := by
  apply Nat.le_antisymm
  · apply Nat.le_of_not_lt
    intro h
    have h1 := (am_W_of (G := G) (M := M) (i := SH.length) (List.getElem?_eq_getElem h)).1
    omega
  · apply Nat.le_of_not_lt
    intro h
    have h1 := am_W_get (G := G) (M := M) (List.getElem?_eq_getElem h)
    rw [List.getElem?_eq_none (Nat.le_refl _)] at h1
    cases h1
theorem am_up_self (M : aM) (i j : Nat) (x : Int32) : am_up M i j x i = upd (M i) j x := by simp [am_up]
theorem am_up_ne {M : aM} {i j a : Nat} {x : Int32} (h : a ≠ i) : am_up M i j x a = M a := by simp [am_up, h]
theorem am_W_up {G : aG} {M : aM} {i j : Nat} {x : Int32} {k : aK} (h : SH[i]? = some k) : am_W G (am_up M i j x) = (am_W G M).set i (g_a G i, am_cell (g_c G) (g_a G) (upd (M i) j x) k) := by
  apply List.ext_getElem?
  intro n
  by_cases hn : n = i
  · subst hn
    rw [am_W_get h, am_up_self, List.getElem?_set_self (by rw [am_W_len]; exact (List.getElem?_eq_some_iff.mp h).1)]
  · rw [List.getElem?_set_ne (fun q => hn q.symm)]
    unfold am_W
    rw [am_ws_get, am_ws_get]
    simp only [Nat.zero_add]
    rw [am_up_ne hn]
theorem am_fs_get (ad : Nat → Nat) (f : Nat → Int32) : ∀ (fs : List (Option Value)) (k0 k : Nat), (am_fs ad f k0 fs)[k]? = (fs[k]?).map (fun o => match o with | none => .int (f (k0 + k)) | some v => am_v ad v)
  | [], _, _ => by simp [am_fs]
  | none :: r, k0, 0 => by simp [am_fs]
  | some v :: r, k0, 0 => by simp [am_fs]
  | none :: r, k0, k + 1 => by
    simp only [am_fs, List.getElem?_cons_succ]
    rw [am_fs_get ad f r (k0 + 1) k, show k0 + 1 + k = k0 + (k + 1) by omega]
  | some v :: r, k0, k + 1 => by
    simp only [am_fs, List.getElem?_cons_succ]
    rw [am_fs_get ad f r (k0 + 1) k, show k0 + 1 + k = k0 + (k + 1) by omega]
theorem am_fs_len (ad : Nat → Nat) (f : Nat → Int32) : ∀ (fs : List (Option Value)) (k0 : Nat), (am_fs ad f k0 fs).length = fs.length
  | [], _ => rfl
  | none :: r, k0 => by simp [am_fs, am_fs_len ad f r]
  | some v :: r, k0 => by simp [am_fs, am_fs_len ad f r]
theorem am_fs_upd (ad : Nat → Nat) (f : Nat → Int32) (fs : List (Option Value)) {k : Nat} {x : Int32} (h : fs[k]? = some none) : am_fs ad (upd f k x) 0 fs = (am_fs ad f 0 fs).set k (.int x) := by
  apply List.ext_getElem?
  intro n
  by_cases hn : n = k
  · subst hn
    rw [am_fs_get, h, List.getElem?_set_self (by rw [am_fs_len]; exact (List.getElem?_eq_some_iff.mp h).1)]
    simp [upd]
  · rw [List.getElem?_set_ne (fun q => hn q.symm), am_fs_get, am_fs_get]
    cases fs[n]? with
    | none => rfl
    | some o =>
      cases o with
      | none => simp [upd, hn]
      | some v => rfl
/-- the numbers are apart, and lie in the zone -/
def am_ok (G : aG) : Prop := (∀ i j, i < SH.length → j < SH.length → g_a G i = g_a G j → i = j) ∧ ∀ i, i < SH.length → g_B G (g_a G i)
theorem am_D {G : aG} (h : am_ok G) (M : aM) (sz : Nat) : va_D (am_A G sz) (am_W G M) := by
  refine ⟨fun i j x y hi hj hxy => ?_, fun k q hk => ?_⟩
  · obtain ⟨a1, a2⟩ := am_W_of hi
    obtain ⟨b1, b2⟩ := am_W_of hj
    exact h.1 i j a1 b1 (by rw [← a2, ← b2]; exact hxy)
  · obtain ⟨a1, a2⟩ := am_W_of hk
    exact Or.inl ⟨k, a1, a2⟩
/-- what stays as it is outside the world: arrays and static fields -/
def am_XA (G : aG) : List (Nat × Nat × (Nat → Int32)) := [(1000, 5, QF), (1001, g_n G, g_x G)]
/-- the text "quote": an object, its bytes, what its methods ask -/
def am_str (G : aG) (B : Nat → Prop) (U : State) (H : Heap) : Prop := va_O "java/lang/String" (g_a G 1002) B U H ∧ va_OF "java/lang/String" "coder" "B" (.int 0) (g_a G 1002) B U H ∧ va_OF "java/lang/String" "value" "[B" (.ref (g_a G 1003)) (g_a G 1002) B U H ∧ va_T .byte (g_a G 1003) 5 (fun j => .int (QF j)) B U H ∧ va_Z "java/lang/String" "COMPACT_STRINGS" "Z" (.int 1) B U H ∧ (va_Z "jdk/internal/util/Preconditions" "SIOOBE_FORMATTER" "Ljava/util/function/BiFunction;" .null B U H ∨ va_Z "jdk/internal/util/Preconditions" "SIOOBE_FORMATTER" "Ljava/util/function/BiFunction;" (.ref (g_a G 1004)) B U H)
theorem am_str.narrow {G : aG} {A B : Nat → Prop} {U : State} {H : Heap} (h : am_str G A U H) (hAB : ∀ q, B q → A q) : am_str G B U H := by
  obtain ⟨h1, h2, h3, h4, h5, h6⟩ := h
  exact ⟨h1.narrow hAB, h2.narrow hAB, h3.narrow hAB, h4.narrow hAB, h5.narrow hAB, h6.imp (fun q => q.narrow hAB) (fun q => q.narrow hAB)⟩
theorem am_str.moved {G : aG} {A : Nat → Prop} {u U : State} {H : Heap} (hvm : u.vm.Alike U.vm) (h : am_str G A u H) : am_str G A U H := by
  obtain ⟨h1, h2, h3, h4, h5, h6⟩ := h
  exact ⟨h1.moved hvm, h2.moved hvm, h3.moved hvm, h4.moved hvm, h5.moved hvm, h6.imp (fun q => q.moved hvm) (fun q => q.moved hvm)⟩
theorem am_str.kept {G : aG} {A : Nat → Prop} {U : State} {H H1 : Heap} (h : am_str G A U H) (hq : ∀ a : Nat, a < H.size → ¬ A a → H1[a]? = H[a]?) : am_str G A U H1 := by
  obtain ⟨h1, h2, h3, h4, h5, h6⟩ := h
  exact ⟨h1.kept hq, h2.kept hq, h3.kept hq, h4.kept hq, h5.kept hq, h6.imp (fun q => q.kept hq) (fun q => q.kept hq)⟩
def am_E (G : aG) (B : Nat → Prop) (U : State) (H : Heap) : Prop := (∀ q ∈ am_XA G, va_T .int (g_a G q.1) q.2.1 (fun j => .int (q.2.2 j)) B U H) ∧ (∀ q ∈ XS, va_Z q.1 q.2.1 q.2.2.1 (am_v (g_a G) q.2.2.2) B U H) ∧ am_str G B U H
theorem am_E.narrow {G : aG} {A B : Nat → Prop} {U : State} {H : Heap} (h : am_E G A U H) (hAB : ∀ q, B q → A q) : am_E G B U H := ⟨fun q hq => (h.1 q hq).narrow hAB, fun q hq => (h.2.1 q hq).narrow hAB, h.2.2.narrow hAB⟩
theorem am_E.moved {G : aG} {A : Nat → Prop} {u U : State} {H : Heap} (hvm : u.vm.Alike U.vm) (h : am_E G A u H) : am_E G A U H := ⟨fun q hq => (h.1 q hq).moved hvm, fun q hq => (h.2.1 q hq).moved hvm, h.2.2.moved hvm⟩
theorem am_E.kept {G : aG} {A : Nat → Prop} {U : State} {H H1 : Heap} (h : am_E G A U H) (hq : ∀ a : Nat, a < H.size → ¬ A a → H1[a]? = H[a]?) : am_E G A U H1 := ⟨fun q h1 => (h.1 q h1).kept hq, fun q h1 => (h.2.1 q h1).kept hq, h.2.2.kept hq⟩
/-- the tables, and the links of nest mates -/
def am_T (G : aG) (U : State) : Prop := va_K (g_D G) CL [(g_c G, .int)] U ∧ (∀ w ∈ NWs, nw_is w = true ∧ va_Nw w U) ∧ vk_R "DatumDeskModel" 106 "quote" (g_a G 1002) U
theorem am_nw {w : Cond} {s U : State} (hn : nw_is w = true) (hW : s.WarmedH U.vm) (h : va_Nw w s) : va_Nw w U := by
  cases w <;> first | (cases hn; done) | exact va_Nw.warmF hW h | exact va_Nw.warmM hW h
theorem am_T.warm {G : aG} {s U : State} (hW : s.WarmedH U.vm) (h : am_T G s) : am_T G U := ⟨h.1.moved hW.alike, fun w hw => ⟨(h.2.1 w hw).1, am_nw (h.2.1 w hw).1 hW (h.2.1 w hw).2⟩, h.2.2.warm hW⟩
def am_wd (Y : aY) : List Cond := .code Y.1 Y.2.1 Y.2.2.1 Y.2.2.2 :: TB
def am_room (d : Nat) : Room := { frames := d, cells := 0, slots := 0, locals := 40 * d }
/-- a method's start -/
def am_P (G : aG) (M : aM) (sz : Nat) (U : State) : Prop := U.heap.size = sz ∧ va_P (g_D G) CL (am_W G M) U.heap ∧ am_T G U ∧ am_E G (g_B G) U U.heap ∧ ∀ q, sz ≤ q → g_B G q
/-- a method's end -/
def am_Q (G : aG) (K : aR) (A : Nat → Prop) : Array Value → State → Outcome → State → Prop := fun _ st oc t => (∃ (r : Option Value) (M : aM), oc = .returned (r.map (am_v (g_a G))) ∧ K r M ∧ va_P (g_D G) CL (am_W G M) t.heap) ∧ va_F A st t
def am_Met (G : aG) (Y : aY) (d : Nat) (As : List Value) (M : aM) (K : aR) : Prop := ∀ sz, Met (g_l G) Y.1 (am_wd Y) (am_room d) (va_Pc (As.map (am_v (g_a G))) (am_P G M sz)) (am_Q G K (am_A G sz)) 0 0 (am_A G sz)
/-- the locals -/
def am_lv (ls : Array Slot) (nL : Nat) (ad : Nat → Nat) (L : aL) : Prop := ls.size = nL ∧ lv_wf ls ∧ ∀ (k : Nat) (v : Value), L[k]? = some (some v) → ls[k]? = some (.val (am_v ad v))
theorem am_lv.look {ls : Array Slot} {nL : Nat} {ad : Nat → Nat} {L : aL} (h : am_lv ls nL ad L) {k : Nat} {v : Value} (hk : L[k]? = some (some v)) : ls[k]? = some (.val (am_v ad v)) := h.2.2 k v hk
def am_ll (ad : Nat → Nat) : Nat → aL → List (Nat × Value)
  | _, [] => []
  | i, none :: r => am_ll ad (i + 1) r
  | i, some v :: r => (i, am_v ad v) :: am_ll ad (i + 1) r
theorem am_ll_mem (ad : Nat → Nat) : ∀ (L : aL) (i : Nat) (q : Nat × Value), q ∈ am_ll ad i L ↔ ∃ (k : Nat) (v : Value), q = (i + k, am_v ad v) ∧ L[k]? = some (some v)
  | [], i, q => by simp [am_ll]
  | none :: r, i, q => by
    simp only [am_ll, am_ll_mem ad r (i + 1) q]
    constructor
    · rintro ⟨k, v, h1, h2⟩
      exact ⟨k + 1, v, by rw [h1, show i + 1 + k = i + (k + 1) by omega], by simpa using h2⟩
    · rintro ⟨k, v, h1, h2⟩
      cases k with
      | zero => simp at h2
      | succ k => exact ⟨k, v, by rw [h1, show i + 1 + k = i + (k + 1) by omega], by simpa using h2⟩
  | some w :: r, i, q => by
    simp only [am_ll, List.mem_cons, am_ll_mem ad r (i + 1) q]
    constructor
    · rintro (h | ⟨k, v, h1, h2⟩)
      · exact ⟨0, w, by rw [h]; rfl, by simp⟩
      · exact ⟨k + 1, v, by rw [h1, show i + 1 + k = i + (k + 1) by omega], by simpa using h2⟩
    · rintro ⟨k, v, h1, h2⟩
      cases k with
      | zero =>
        simp at h2
        left
        rw [h1, h2]; rfl
      | succ k => exact Or.inr ⟨k, v, by rw [h1, show i + 1 + k = i + (k + 1) by omega], by simpa using h2⟩
theorem am_lv.has {ls : Array Slot} {nL : Nat} {ad : Nat → Nat} {L : aL} (h : am_lv ls nL ad L) : lv_has ls nL (am_ll ad 0 L) := by
  refine ⟨h.1, h.2.1, fun q hq => ?_⟩
  obtain ⟨k, v, h1, h2⟩ := (am_ll_mem ad L 0 q).mp hq
  rw [h1]
  simp only [Nat.zero_add]
  exact h.2.2 k v h2
theorem am_v_cat (ad : Nat → Nat) (v : Value) : (am_v ad v).category = v.category := by cases v <;> rfl
/-- no long is cut by a store at i -/
def am_c1 (v : Value) : Bool := match v with
  | .long _ => false
  | .double _ => false
  | _ => true
def am_cut (L : aL) (i : Nat) : Bool := match i with
  | 0 => true
  | k + 1 => match L[k]? with
    | some (some v) => am_c1 v
    | _ => true
theorem am_cut_0 (L : aL) : am_cut L 0 = true := rfl
theorem am_cut_s (L : aL) (k : Nat) : am_cut L (k + 1) = match L[k]? with
    | some (some v) => am_c1 v
    | _ => true := rfl
theorem am_cut_of {L : aL} {i k : Nat} {v : Value} (h : am_cut L i = true) (hk : L[k]? = some (some v)) (hi : k + 1 = i) : ¬ v.category = 2 := by
  subst hi
  simp only [am_cut, hk] at h
  cases v <;> first | (cases h; done) | (intro q; cases q)
theorem am_lv.set1 {ls ls' : Array Slot} {nL i : Nat} {ad : Nat → Nat} {L : aL} {v : Value} (h : am_lv ls nL ad L) (hc : am_cut L i = true)
    (h' : lv_has ls' nL ((i, am_v ad v) :: (am_ll ad 0 L).filter (fun q => !(q.1 == i) && !(q.1 + 1 == i && q.2.category == 2)))) : am_lv ls' nL ad (L.set i (some v)) := by
  refine ⟨h'.1, h'.2.1, fun k w hk => ?_⟩
  by_cases hki : k = i
  · subst hki
    have hl : k < L.length := by
      have := (List.getElem?_eq_some_iff.mp hk).1
      simpa using this
    rw [List.getElem?_set_self hl] at hk
    have : v = w := by simpa using hk
    subst this
    exact h'.2.2 _ List.mem_cons_self
  · rw [List.getElem?_set_ne (fun q => hki q.symm)] at hk
    refine h'.2.2 (k, am_v ad w) (List.mem_cons_of_mem _ (List.mem_filter.mpr ⟨(am_ll_mem ad L 0 _).mpr ⟨k, w, by simp, hk⟩, ?_⟩))
    have h2 : k + 1 = i → ¬ w.category = 2 := fun e => am_cut_of hc hk e
    simp only [am_v_cat, Bool.and_eq_true, Bool.not_eq_true', beq_eq_false_iff_ne, Bool.and_eq_false_iff]
    refine ⟨hki, ?_⟩
    by_cases e : k + 1 = i
    · exact Or.inr (h2 e)
    · exact Or.inl e
theorem am_lv.set2 {ls ls' : Array Slot} {nL i : Nat} {ad : Nat → Nat} {L : aL} {v : Value} (h : am_lv ls nL ad L) (hc : am_cut L i = true)
    (h' : lv_has ls' nL ((i, am_v ad v) :: (am_ll ad 0 L).filter (fun q => !(q.1 == i) && (!(q.1 == i + 1) && !(q.1 + 1 == i && q.2.category == 2))))) : am_lv ls' nL ad ((L.set i (some v)).set (i + 1) none) := by
  refine ⟨h'.1, h'.2.1, fun k w hk => ?_⟩
  by_cases hk1 : k = i + 1
  · subst hk1
    have hl : i + 1 < (L.set i (some v)).length := by
      have := (List.getElem?_eq_some_iff.mp hk).1
      simpa using this
    rw [List.getElem?_set_self hl] at hk
    simp at hk
  rw [List.getElem?_set_ne (fun q => hk1 q.symm)] at hk
  by_cases hki : k = i
  · subst hki
    have hl : k < L.length := by
      have := (List.getElem?_eq_some_iff.mp hk).1
      simpa using this
    rw [List.getElem?_set_self hl] at hk
    have : v = w := by simpa using hk
    subst this
    exact h'.2.2 _ List.mem_cons_self
  · rw [List.getElem?_set_ne (fun q => hki q.symm)] at hk
    refine h'.2.2 (k, am_v ad w) (List.mem_cons_of_mem _ (List.mem_filter.mpr ⟨(am_ll_mem ad L 0 _).mpr ⟨k, w, by simp, hk⟩, ?_⟩))
    have h2 : k + 1 = i → ¬ w.category = 2 := fun e => am_cut_of hc hk e
    simp only [am_v_cat, Bool.and_eq_true, Bool.not_eq_true', beq_eq_false_iff_ne, Bool.and_eq_false_iff]
    refine ⟨hki, hk1, ?_⟩
    by_cases e : k + 1 = i
    · exact Or.inr (h2 e)
    · exact Or.inl e
end
section
/-! the instructions; nx is where the next one stands -/
def ai_const (v : Int32) (nx : Nat) : aI := fun j _ _ L S M => j nx L (.int v :: S) M
def ai_lconst (v : Int64) (nx : Nat) : aI := fun j _ _ L S M => j nx L (.long v :: S) M
def ai_iload (k nx : Nat) : aI := fun j _ _ L S M => match L[k]? with
  | some (some (.int x)) => j nx L (.int x :: S) M
  | _ => False
def ai_aload (k nx : Nat) : aI := fun j _ _ L S M => match L[k]? with
  | some (some (.ref x)) => j nx L (.ref x :: S) M
  | _ => False
def ai_lload (k nx : Nat) : aI := fun j _ _ L S M => match L[k]? with
  | some (some (.long x)) => j nx L (.long x :: S) M
  | _ => False
def ai_istore (k nx : Nat) : aI := fun j _ _ L S M => match S with
  | .int x :: S => am_cut L k = true ∧ j nx (L.set k (some (.int x))) S M
  | _ => False
def ai_astore (k nx : Nat) : aI := fun j _ _ L S M => match S with
  | .ref x :: S => am_cut L k = true ∧ j nx (L.set k (some (.ref x))) S M
  | _ => False
def ai_lstore (k nx : Nat) : aI := fun j _ _ L S M => match S with
  | .long x :: S => am_cut L k = true ∧ j nx ((L.set k (some (.long x))).set (k + 1) none) S M
  | _ => False
def ai_iinc (k : Nat) (v : Int32) (nx : Nat) : aI := fun j _ _ L S M => match L[k]? with
  | some (some (.int x)) => am_cut L k = true ∧ j nx (L.set k (some (.int (x + v)))) S M
  | _ => False
def ai_bin (f : Int32 → Int32 → Int32) (nx : Nat) : aI := fun j _ _ L S M => match S with
  | .int y :: .int x :: S => j nx L (.int (f x y) :: S) M
  | _ => False
def ai_iadd (nx : Nat) : aI := ai_bin (fun x y => x + y) nx
def ai_isub (nx : Nat) : aI := ai_bin (fun x y => x - y) nx
def ai_imul (nx : Nat) : aI := ai_bin (fun x y => x * y) nx
def ai_iand (nx : Nat) : aI := ai_bin (fun x y => x &&& y) nx
def ai_ior (nx : Nat) : aI := ai_bin (fun x y => x ||| y) nx
def ai_idiv (nx : Nat) : aI := fun j _ _ L S M => match S with
  | .int y :: .int x :: S => ¬ y = 0 ∧ j nx L (.int (x / y) :: S) M
  | _ => False
def ai_irem (nx : Nat) : aI := fun j _ _ L S M => match S with
  | .int y :: .int x :: S => ¬ y = 0 ∧ j nx L (.int (x - x / y * y) :: S) M
  | _ => False
def ai_ineg (nx : Nat) : aI := fun j _ _ L S M => match S with
  | .int x :: S => j nx L (.int (-x) :: S) M
  | _ => False
def ai_lbin (f : Int64 → Int64 → Int64) (nx : Nat) : aI := fun j _ _ L S M => match S with
  | .long y :: .long x :: S => j nx L (.long (f x y) :: S) M
  | _ => False
def ai_lor (nx : Nat) : aI := ai_lbin (fun x y => x ||| y) nx
def ai_land (nx : Nat) : aI := ai_lbin (fun x y => x &&& y) nx
def ai_ladd (nx : Nat) : aI := ai_lbin (fun x y => x + y) nx
def ai_lushr (nx : Nat) : aI := fun j _ _ L S M => match S with
  | .int y :: .long x :: S => j nx L (.long ((x.toUInt64 >>> (y.toInt64.toUInt64 &&& Int64.toUInt64 63)).toInt64) :: S) M
  | _ => False
def ai_lshl (nx : Nat) : aI := fun j _ _ L S M => match S with
  | .int y :: .long x :: S => j nx L (.long (x <<< (y.toInt64 &&& 63)) :: S) M
  | _ => False
def ai_lshr (nx : Nat) : aI := fun j _ _ L S M => match S with
  | .int y :: .long x :: S => j nx L (.long (x >>> (y.toInt64 &&& 63)) :: S) M
  | _ => False
def ai_ishl (nx : Nat) : aI := ai_bin (fun x y => x <<< (y &&& 31)) nx
def ai_ishr (nx : Nat) : aI := ai_bin (fun x y => x >>> (y &&& 31)) nx
def ai_i2l (nx : Nat) : aI := fun j _ _ L S M => match S with
  | .int x :: S => j nx L (.long x.toInt64 :: S) M
  | _ => False
def ai_l2i (nx : Nat) : aI := fun j _ _ L S M => match S with
  | .long x :: S => j nx L (.int x.toInt32 :: S) M
  | _ => False
def ai_dup (nx : Nat) : aI := fun j _ _ L S M => match S with
  | v :: S => am_c1 v = true ∧ j nx L (v :: v :: S) M
  | _ => False
def ai_dup2 (nx : Nat) : aI := fun j _ _ L S M => match S with
  | v :: w :: S => am_c1 v = true ∧ am_c1 w = true ∧ j nx L (v :: w :: v :: w :: S) M
  | _ => False
def ai_dup_x1 (nx : Nat) : aI := fun j _ _ L S M => match S with
  | v :: w :: S => am_c1 v = true ∧ am_c1 w = true ∧ j nx L (v :: w :: v :: S) M
  | _ => False
def ai_dup_x2 (nx : Nat) : aI := fun j _ _ L S M => match S with
  | v :: w :: u :: S => am_c1 v = true ∧ am_c1 w = true ∧ am_c1 u = true ∧ j nx L (v :: w :: u :: v :: S) M
  | _ => False
def ai_pop (nx : Nat) : aI := fun j _ _ L S M => match S with
  | v :: S => am_c1 v = true ∧ j nx L S M
  | _ => False
def ai_ifeq (tg nx : Nat) : aI := fun j _ _ L S M => match S with
  | .int x :: S => if x = 0 then j tg L S M else j nx L S M
  | _ => False
def ai_ifne (tg nx : Nat) : aI := fun j _ _ L S M => match S with
  | .int x :: S => if x = 0 then j nx L S M else j tg L S M
  | _ => False
def ai_iflt (tg nx : Nat) : aI := fun j _ _ L S M => match S with
  | .int x :: S => if x < 0 then j tg L S M else j nx L S M
  | _ => False
def ai_ifge (tg nx : Nat) : aI := fun j _ _ L S M => match S with
  | .int x :: S => if 0 ≤ x then j tg L S M else j nx L S M
  | _ => False
def ai_ifgt (tg nx : Nat) : aI := fun j _ _ L S M => match S with
  | .int x :: S => if 0 < x then j tg L S M else j nx L S M
  | _ => False
def ai_ifle (tg nx : Nat) : aI := fun j _ _ L S M => match S with
  | .int x :: S => if x ≤ 0 then j tg L S M else j nx L S M
  | _ => False
def ai_cmpeq (tg nx : Nat) : aI := fun j _ _ L S M => match S with
  | .int y :: .int x :: S => if x = y then j tg L S M else j nx L S M
  | _ => False
def ai_cmpne (tg nx : Nat) : aI := fun j _ _ L S M => match S with
  | .int y :: .int x :: S => if x = y then j nx L S M else j tg L S M
  | _ => False
def ai_cmplt (tg nx : Nat) : aI := fun j _ _ L S M => match S with
  | .int y :: .int x :: S => if x < y then j tg L S M else j nx L S M
  | _ => False
def ai_cmpge (tg nx : Nat) : aI := fun j _ _ L S M => match S with
  | .int y :: .int x :: S => if x < y then j nx L S M else j tg L S M
  | _ => False
def ai_cmpgt (tg nx : Nat) : aI := fun j _ _ L S M => match S with
  | .int y :: .int x :: S => if y < x then j tg L S M else j nx L S M
  | _ => False
def ai_cmple (tg nx : Nat) : aI := fun j _ _ L S M => match S with
  | .int y :: .int x :: S => if y < x then j nx L S M else j tg L S M
  | _ => False
def ai_lcmp (nx : Nat) : aI := fun j _ _ L S M => match S with
  | .long y :: .long x :: S => j nx L (.int (lg_cmp x y) :: S) M
  | _ => False
def ai_goto (tg : Nat) : aI := fun j _ _ L S M => j tg L S M
def am_sw (x : Int32) (d : Nat) (f : Nat → Prop) : List (Int32 × Nat) → Prop
  | [] => f d
  | q :: r => if x = q.1 then f q.2 else am_sw x d f r
def am_tg (x : Int32) (d : Nat) : List (Int32 × Nat) → Nat
  | [] => d
  | q :: r => if x = q.1 then q.2 else am_tg x d r
def ai_switch (cs : List (Int32 × Nat)) (d : Nat) : aI := fun j _ _ L S M => match S with
  | .int x :: S => am_sw x d (fun t => j t L S M) cs
  | _ => False
def am_fd (a ci k : Nat) : Option (Option Value) := match SH[a]? with
  | some (.inr q) => if q.1 = ci then q.2[k]? else none
  | _ => none
def am_ln (a : Nat) : Option Nat := match SH[a]? with
  | some (.inl n) => some n
  | _ => none
def am_kd (a ci : Nat) : Bool := match SH[a]? with
  | some (.inr q) => q.1 == ci
  | _ => false
def ai_getf (ci k nx : Nat) : aI := fun j _ _ L S M => match S with
  | .ref a :: S => match am_fd a ci k with
    | some none => j nx L (.int (M a k) :: S) M
    | some (some v) => j nx L (v :: S) M
    | none => False
  | _ => False
def ai_putf (ci k nx : Nat) : aI := fun j _ _ L S M => match S with
  | .int x :: .ref a :: S => am_fd a ci k = some none ∧ j nx L S (am_up M a k x)
  | _ => False
def ai_iald (nx : Nat) : aI := fun j _ _ L S M => match S with
  | .int i :: .ref a :: S => match am_ln a with
    | some n => vp_in i n ∧ j nx L (.int (M a i.toNatClampNeg) :: S) M
    | none => False
  | _ => False
def ai_iast (nx : Nat) : aI := fun j _ _ L S M => match S with
  | .int x :: .int i :: .ref a :: S => match am_ln a with
    | some n => vp_in i n ∧ j nx L S (am_up M a i.toNatClampNeg x)
    | none => False
  | _ => False
def ai_alen (nx : Nat) : aI := fun j _ _ L S M => match S with
  | .ref a :: S => match am_ln a with
    | some n => j nx L (.int (Int32.ofNat n) :: S) M
    | none => False
  | _ => False
/-- an array outside the world -/
def ai_xald (a n : Nat) (f : Nat → Int32) (nx : Nat) : aI := fun j _ _ L S M => match S with
  | .int i :: .ref b :: S => b = a ∧ vp_in i n ∧ j nx L (.int (f i.toNatClampNeg) :: S) M
  | _ => False
def ai_xlen (a n : Nat) (nx : Nat) : aI := fun j _ _ L S M => match S with
  | .ref b :: S => b = a ∧ j nx L (.int (Int32.ofNat n) :: S) M
  | _ => False
def ai_gets (v : Value) (nx : Nat) : aI := fun j _ _ L S M => j nx L (v :: S) M
def am_few (S : List Value) : Prop := match S with
  | [] => True
  | [_] => True
  | [_, _] => True
  | [_, _, _] => True
  | [_, _, _, _] => True
  | _ => False
def am_push (r : Option Value) (S : List Value) : List Value := match r with
  | none => S
  | some v => v :: S
/-- calls of an object of kind ci, with 0 to 3 values behind it; of a static method -/
def ai_callv1 (ci : Nat) (sp : aS) (nx : Nat) : aI := fun j _ _ L S M => match S with
  | .ref a :: S => am_kd a ci = true ∧ am_few S ∧ sp [.ref a] M (fun r M1 => j nx L (am_push r S) M1)
  | _ => False
def ai_callv2 (ci : Nat) (sp : aS) (nx : Nat) : aI := fun j _ _ L S M => match S with
  | x :: .ref a :: S => am_kd a ci = true ∧ am_few S ∧ sp [.ref a, x] M (fun r M1 => j nx L (am_push r S) M1)
  | _ => False
def ai_callv3 (ci : Nat) (sp : aS) (nx : Nat) : aI := fun j _ _ L S M => match S with
  | y :: x :: .ref a :: S => am_kd a ci = true ∧ am_few S ∧ sp [.ref a, x, y] M (fun r M1 => j nx L (am_push r S) M1)
  | _ => False
def ai_callv4 (ci : Nat) (sp : aS) (nx : Nat) : aI := fun j _ _ L S M => match S with
  | z :: y :: x :: .ref a :: S => am_kd a ci = true ∧ am_few S ∧ sp [.ref a, x, y, z] M (fun r M1 => j nx L (am_push r S) M1)
  | _ => False
def ai_calls1 (sp : aS) (nx : Nat) : aI := fun j _ _ L S M => match S with
  | x :: S => am_few S ∧ sp [x] M (fun r M1 => j nx L (am_push r S) M1)
  | _ => False
def ai_calls2 (sp : aS) (nx : Nat) : aI := fun j _ _ L S M => match S with
  | y :: x :: S => am_few S ∧ sp [x, y] M (fun r M1 => j nx L (am_push r S) M1)
  | _ => False
def ai_min (nx : Nat) : aI := fun j _ _ L S M => match S with
  | .int y :: .int x :: S => am_few S ∧ j nx L (.int (if y < x then y else x) :: S) M
  | _ => False
def ai_iret : aI := fun _ K _ _ S M => match S with
  | [.int x] => K (some (.int x)) M
  | _ => False
def ai_zret : aI := fun _ K _ _ S M => match S with
  | [.int x] => (x = 0 ∨ x = 1) ∧ K (some (.int x)) M
  | _ => False
def ai_lret : aI := fun _ K _ _ S M => match S with
  | [.long x] => K (some (.long x)) M
  | _ => False
def ai_vret : aI := fun _ K _ _ S M => match S with
  | [] => K none M
  | _ => False
def ai_bad : aI := fun _ _ _ _ _ _ => False
end
section
/-! what an instruction of the picture says of the machine -/
def am_C (G : aG) (Y : aY) (p : Program) (s : State) (m : MethodId) (args : Array Value) (meth : Method) (c : Code) : Prop :=
  am_ok G ∧ p.tables.exec = Jvm.exec ∧ c.code = Y.2.1 ∧ c.maxLocals = Y.2.2.1 ∧ meth.sig.returnType = Y.2.2.2 ∧ s.vm.findClass Y.1.cls = some m.cls ∧ (∀ w ∈ TB, w.before args s = true) ∧ meth.locks = false ∧ am_T G s ∧ am_E G (g_B G) s s.heap ∧ ∀ q, s.heap.size ≤ q → g_B G q
def am_J (G : aG) (Y : aY) (p : Program) (e : Env) (R : Room) (s : State) (m : MethodId) (args : Array Value) (below : List Frame) (meth : Method) (c : Code) (Q : State → Prop) (kc ks : Nat) : aJ := fun pc L S M =>
  ∀ (H : Heap) (locs : List Loc) (ls : Array Slot), va_P (g_D G) CL (am_W G M) H → va_S (am_A G s.heap.size) s.heap H locs → am_lv ls Y.2.2.1 (g_a G) L → W p (g_l G) e R s m args below meth c H locs kc ks Q (F0 m pc ls (S.map (am_v (g_a G))))
/-- an instruction at pc is sound for a judgement J and an end K -/
def am_S (J : aJ) (K : aR) (pc : Nat) (i : aI) : Prop := ∀ j : aJ, (∀ pc L S M, j pc L S M → J pc L S M) → ∀ L S M, i j K pc L S M → J pc L S M
section AMS
variable {G : aG} {Y : aY} {p : Program} {e : Env} {R : Room} {s : State} {m : MethodId} {args : Array Value} {below : List Frame} {meth : Method} {c : Code} {Q : State → Prop} {kc ks : Nat} {K : aR} {pc nx tg : Nat}
theorem as_iconst (C : am_C G Y p s m args meth c) {n : Int} {v : Int32} (hd : decode Y.2.1 pc = .ok (.iconst n, 1)) (hv : Int32.ofInt n = v) (hn : nx = pc + 1) : am_S (am_J G Y p e R s m args below meth c Q kc ks) K pc (ai_const v nx) := by
  obtain ⟨hG, hx, hb, hml, hr, hown, hts, hlk, hT, hE, hB⟩ := C
  subst hn
  intro j hj L S M h H locs ls hP hS hl
  exact lv_iconst hx hb hd hv (hj _ _ _ _ h H locs ls hP hS hl)
theorem as_bipush (C : am_C G Y p s m args meth c) {n : Int} {v : Int32} (hd : decode Y.2.1 pc = .ok (.bipush n, 2)) (hv : (Int8.ofInt n).toInt32 = v) (hn : nx = pc + 2) : am_S (am_J G Y p e R s m args below meth c Q kc ks) K pc (ai_const v nx) := by
  obtain ⟨hG, hx, hb, hml, hr, hown, hts, hlk, hT, hE, hB⟩ := C
  subst hn
  intro j hj L S M h H locs ls hP hS hl
  exact lv_bipush hx hb hd hv (hj _ _ _ _ h H locs ls hP hS hl)
theorem as_sipush (C : am_C G Y p s m args meth c) {n : Int} {v : Int32} (hd : decode Y.2.1 pc = .ok (.sipush n, 3)) (hv : (Int16.ofInt n).toInt32 = v) (hn : nx = pc + 3) : am_S (am_J G Y p e R s m args below meth c Q kc ks) K pc (ai_const v nx) := by
  obtain ⟨hG, hx, hb, hml, hr, hown, hts, hlk, hT, hE, hB⟩ := C
  subst hn
  intro j hj L S M h H locs ls hP hS hl
  exact lv_sipush hx hb hd hv (hj _ _ _ _ h H locs ls hP hS hl)
theorem as_ldc (C : am_C G Y p s m args meth c) {ix : Nat} {v : Int32} (hc : Cond.constant Y.1.cls ix v ∈ TB) (hd : decode Y.2.1 pc = .ok (.ldc ix, 2)) (hn : nx = pc + 2) : am_S (am_J G Y p e R s m args below meth c Q kc ks) K pc (ai_const v nx) := by
  obtain ⟨hG, hx, hb, hml, hr, hown, hts, hlk, hT, hE, hB⟩ := C
  subst hn
  intro j hj L S M h H locs ls hP hS hl
  exact lv_ldc hx hb hown (hts _ hc) hd (hj _ _ _ _ h H locs ls hP hS hl)
theorem as_ldc2 (C : am_C G Y p s m args meth c) {ix : Nat} {v : Int64} (hc : Cond.constantLong Y.1.cls ix v ∈ TB) (hd : decode Y.2.1 pc = .ok (.ldc2_w ix, 3)) (hn : nx = pc + 3) : am_S (am_J G Y p e R s m args below meth c Q kc ks) K pc (ai_lconst v nx) := by
  obtain ⟨hG, hx, hb, hml, hr, hown, hts, hlk, hT, hE, hB⟩ := C
  subst hn
  intro j hj L S M h H locs ls hP hS hl
  exact lv_ldc2 hx hb hown (hts _ hc) hd (hj _ _ _ _ h H locs ls hP hS hl)
theorem as_lconst (C : am_C G Y p s m args meth c) {n : Fin 2} {v : Int64} (hd : decode Y.2.1 pc = .ok (.lconst n, 1)) (hv : Int64.ofNat (n : Nat) = v) (hn : nx = pc + 1) : am_S (am_J G Y p e R s m args below meth c Q kc ks) K pc (ai_lconst v nx) := by
  obtain ⟨hG, hx, hb, hml, hr, hown, hts, hlk, hT, hE, hB⟩ := C
  subst hn
  intro j hj L S M h H locs ls hP hS hl
  exact lv_lconst hx hb hd hv (hj _ _ _ _ h H locs ls hP hS hl)
theorem am_ldI {L : aL} {k : Nat} {f : Int32 → Prop} (h : match L[k]? with
  | some (some (.int x)) => f x
  | _ => False) : ∃ x, L[k]? = some (some (.int x)) ∧ f x := by
  split at h
  · next x hx => exact ⟨x, hx, h⟩
  · cases h
theorem am_ldA {L : aL} {k : Nat} {f : Nat → Prop} (h : match L[k]? with
  | some (some (.ref x)) => f x
  | _ => False) : ∃ x, L[k]? = some (some (.ref x)) ∧ f x := by
  split at h
  · next x hx => exact ⟨x, hx, h⟩
  · cases h
theorem am_ldL {L : aL} {k : Nat} {f : Int64 → Prop} (h : match L[k]? with
  | some (some (.long x)) => f x
  | _ => False) : ∃ x, L[k]? = some (some (.long x)) ∧ f x := by
  split at h
  · next x hx => exact ⟨x, hx, h⟩
  · cases h
theorem as_iload_n (C : am_C G Y p s m args meth c) {q : Fin 4} {k : Nat} (hd : decode Y.2.1 pc = .ok (.iload_n q, 1)) (hk : (q : Nat) = k) (hn : nx = pc + 1) : am_S (am_J G Y p e R s m args below meth c Q kc ks) K pc (ai_iload k nx) := by
  obtain ⟨hG, hx, hb, hml, hr, hown, hts, hlk, hT, hE, hB⟩ := C
  subst hn
  intro j hj L S M h H locs ls hP hS hl
  obtain ⟨x, h1, h2⟩ := am_ldI h
  exact lv_iload_n hx hb hd hk (hl.look h1) (hj _ _ _ _ h2 H locs ls hP hS hl)
theorem as_iload (C : am_C G Y p s m args meth c) {k : Nat} (hd : decode Y.2.1 pc = .ok (.iload k, 2)) (hn : nx = pc + 2) : am_S (am_J G Y p e R s m args below meth c Q kc ks) K pc (ai_iload k nx) := by
  obtain ⟨hG, hx, hb, hml, hr, hown, hts, hlk, hT, hE, hB⟩ := C
  subst hn
  intro j hj L S M h H locs ls hP hS hl
  obtain ⟨x, h1, h2⟩ := am_ldI h
  exact lv_iload hx hb hd (hl.look h1) (hj _ _ _ _ h2 H locs ls hP hS hl)
theorem as_aload_n (C : am_C G Y p s m args meth c) {q : Fin 4} {k : Nat} (hd : decode Y.2.1 pc = .ok (.aload_n q, 1)) (hk : (q : Nat) = k) (hn : nx = pc + 1) : am_S (am_J G Y p e R s m args below meth c Q kc ks) K pc (ai_aload k nx) := by
  obtain ⟨hG, hx, hb, hml, hr, hown, hts, hlk, hT, hE, hB⟩ := C
  subst hn
  intro j hj L S M h H locs ls hP hS hl
  obtain ⟨x, h1, h2⟩ := am_ldA h
  exact lv_aload_n hx hb hd hk (hl.look h1) (hj _ _ _ _ h2 H locs ls hP hS hl)
theorem as_aload (C : am_C G Y p s m args meth c) {k : Nat} (hd : decode Y.2.1 pc = .ok (.aload k, 2)) (hn : nx = pc + 2) : am_S (am_J G Y p e R s m args below meth c Q kc ks) K pc (ai_aload k nx) := by
  obtain ⟨hG, hx, hb, hml, hr, hown, hts, hlk, hT, hE, hB⟩ := C
  subst hn
  intro j hj L S M h H locs ls hP hS hl
  obtain ⟨x, h1, h2⟩ := am_ldA h
  exact lv_aload hx hb hd (hl.look h1) (hj _ _ _ _ h2 H locs ls hP hS hl)
theorem as_lload_n (C : am_C G Y p s m args meth c) {q : Fin 4} {k : Nat} (hd : decode Y.2.1 pc = .ok (.lload_n q, 1)) (hk : (q : Nat) = k) (hn : nx = pc + 1) : am_S (am_J G Y p e R s m args below meth c Q kc ks) K pc (ai_lload k nx) := by
  obtain ⟨hG, hx, hb, hml, hr, hown, hts, hlk, hT, hE, hB⟩ := C
  subst hn
  intro j hj L S M h H locs ls hP hS hl
  obtain ⟨x, h1, h2⟩ := am_ldL h
  exact lv_lload_n hx hb hd hk (hl.look h1) (hj _ _ _ _ h2 H locs ls hP hS hl)
theorem as_lload (C : am_C G Y p s m args meth c) {k : Nat} (hd : decode Y.2.1 pc = .ok (.lload k, 2)) (hn : nx = pc + 2) : am_S (am_J G Y p e R s m args below meth c Q kc ks) K pc (ai_lload k nx) := by
  obtain ⟨hG, hx, hb, hml, hr, hown, hts, hlk, hT, hE, hB⟩ := C
  subst hn
  intro j hj L S M h H locs ls hP hS hl
  obtain ⟨x, h1, h2⟩ := am_ldL h
  exact lv_lload hx hb hd (hl.look h1) (hj _ _ _ _ h2 H locs ls hP hS hl)
theorem as_istore_n (C : am_C G Y p s m args meth c) {q : Fin 4} {k : Nat} (hd : decode Y.2.1 pc = .ok (.istore_n q, 1)) (hk : (q : Nat) = k) (hm : k < Y.2.2.1) (hn : nx = pc + 1) : am_S (am_J G Y p e R s m args below meth c Q kc ks) K pc (ai_istore k nx) := by
  obtain ⟨hG, hx, hb, hml, hr, hown, hts, hlk, hT, hE, hB⟩ := C
  subst hn
  intro j hj L S M h H locs ls hP hS hl
  unfold ai_istore at h
  split at h
  · next x S' =>
    exact lv_istore_n hx hb hd hk hl.has hm rfl (fun ls' h' => hj _ _ _ _ h.2 H locs ls' hP hS (hl.set1 (v := .int x) h.1 h'))
  · cases h
theorem as_istore (C : am_C G Y p s m args meth c) {k : Nat} (hd : decode Y.2.1 pc = .ok (.istore k, 2)) (hm : k < Y.2.2.1) (hn : nx = pc + 2) : am_S (am_J G Y p e R s m args below meth c Q kc ks) K pc (ai_istore k nx) := by
  obtain ⟨hG, hx, hb, hml, hr, hown, hts, hlk, hT, hE, hB⟩ := C
  subst hn
  intro j hj L S M h H locs ls hP hS hl
  unfold ai_istore at h
  split at h
  · next x S' =>
    exact lv_istore hx hb hd hl.has hm rfl (fun ls' h' => hj _ _ _ _ h.2 H locs ls' hP hS (hl.set1 (v := .int x) h.1 h'))
  · cases h
theorem as_astore_n (C : am_C G Y p s m args meth c) {q : Fin 4} {k : Nat} (hd : decode Y.2.1 pc = .ok (.astore_n q, 1)) (hk : (q : Nat) = k) (hm : k < Y.2.2.1) (hn : nx = pc + 1) : am_S (am_J G Y p e R s m args below meth c Q kc ks) K pc (ai_astore k nx) := by
  obtain ⟨hG, hx, hb, hml, hr, hown, hts, hlk, hT, hE, hB⟩ := C
  subst hn
  intro j hj L S M h H locs ls hP hS hl
  unfold ai_astore at h
  split at h
  · next x S' =>
    exact lv_astore_n hx hb hd hk hl.has hm rfl (fun ls' h' => hj _ _ _ _ h.2 H locs ls' hP hS (hl.set1 (v := .ref x) h.1 h'))
  · cases h
theorem as_astore (C : am_C G Y p s m args meth c) {k : Nat} (hd : decode Y.2.1 pc = .ok (.astore k, 2)) (hm : k < Y.2.2.1) (hn : nx = pc + 2) : am_S (am_J G Y p e R s m args below meth c Q kc ks) K pc (ai_astore k nx) := by
  obtain ⟨hG, hx, hb, hml, hr, hown, hts, hlk, hT, hE, hB⟩ := C
  subst hn
  intro j hj L S M h H locs ls hP hS hl
  unfold ai_astore at h
  split at h
  · next x S' =>
    exact lv_astore hx hb hd hl.has hm rfl (fun ls' h' => hj _ _ _ _ h.2 H locs ls' hP hS (hl.set1 (v := .ref x) h.1 h'))
  · cases h
theorem as_lstore_n (C : am_C G Y p s m args meth c) {q : Fin 4} {k : Nat} (hd : decode Y.2.1 pc = .ok (.lstore_n q, 1)) (hk : (q : Nat) = k) (hm : k + 1 < Y.2.2.1) (hn : nx = pc + 1) : am_S (am_J G Y p e R s m args below meth c Q kc ks) K pc (ai_lstore k nx) := by
  obtain ⟨hG, hx, hb, hml, hr, hown, hts, hlk, hT, hE, hB⟩ := C
  subst hn
  intro j hj L S M h H locs ls hP hS hl
  unfold ai_lstore at h
  split at h
  · next x S' =>
    exact lv_lstore_n hx hb hd hk hl.has hm rfl (fun ls' h' => hj _ _ _ _ h.2 H locs ls' hP hS (hl.set2 (v := .long x) h.1 h'))
  · cases h
theorem as_lstore (C : am_C G Y p s m args meth c) {k : Nat} (hd : decode Y.2.1 pc = .ok (.lstore k, 2)) (hm : k + 1 < Y.2.2.1) (hn : nx = pc + 2) : am_S (am_J G Y p e R s m args below meth c Q kc ks) K pc (ai_lstore k nx) := by
  obtain ⟨hG, hx, hb, hml, hr, hown, hts, hlk, hT, hE, hB⟩ := C
  subst hn
  intro j hj L S M h H locs ls hP hS hl
  unfold ai_lstore at h
  split at h
  · next x S' =>
    exact lv_lstore hx hb hd hl.has hm rfl (fun ls' h' => hj _ _ _ _ h.2 H locs ls' hP hS (hl.set2 (v := .long x) h.1 h'))
  · cases h
theorem as_iinc (C : am_C G Y p s m args meth c) {k : Nat} {n : Int} {v : Int32} (hd : decode Y.2.1 pc = .ok (.iinc k n, 3)) (hv : Int32.ofInt n = v) (hm : k < Y.2.2.1) (hn : nx = pc + 3) : am_S (am_J G Y p e R s m args below meth c Q kc ks) K pc (ai_iinc k v nx) := by
  obtain ⟨hG, hx, hb, hml, hr, hown, hts, hlk, hT, hE, hB⟩ := C
  subst hn
  subst hv
  intro j hj L S M h H locs ls hP hS hl
  obtain ⟨x, h1, h2⟩ := am_ldI (f := fun x => am_cut L k = true ∧ j (pc + 3) (L.set k (some (.int (x + Int32.ofInt n)))) S M) h
  have hmem : (k, Value.int x) ∈ am_ll (g_a G) 0 L := (am_ll_mem (g_a G) L 0 _).mpr ⟨k, .int x, by simp [am_v], h1⟩
  obtain ⟨i, hi⟩ := List.getElem?_of_mem hmem
  exact lv_iinc hx hb hd hl.has hi rfl hm rfl (fun ls' h' => hj _ _ _ _ h2.2 H locs ls' hP hS (hl.set1 (v := .int (x + Int32.ofInt n)) h2.1 h'))
theorem as_iadd (C : am_C G Y p s m args meth c) (hd : decode Y.2.1 pc = .ok (.iadd, 1)) (hn : nx = pc + 1) : am_S (am_J G Y p e R s m args below meth c Q kc ks) K pc (ai_iadd nx) := by
  obtain ⟨hG, hx, hb, hml, hr, hown, hts, hlk, hT, hE, hB⟩ := C
  subst hn
  intro j hj L S M h H locs ls hP hS hl
  unfold ai_iadd at h
  unfold ai_bin at h
  split at h
  · exact lv_iadd hx hb hd (hj _ _ _ _ h H locs ls hP hS hl)
  · cases h
theorem as_isub (C : am_C G Y p s m args meth c) (hd : decode Y.2.1 pc = .ok (.isub, 1)) (hn : nx = pc + 1) : am_S (am_J G Y p e R s m args below meth c Q kc ks) K pc (ai_isub nx) := by
  obtain ⟨hG, hx, hb, hml, hr, hown, hts, hlk, hT, hE, hB⟩ := C
  subst hn
  intro j hj L S M h H locs ls hP hS hl
  unfold ai_isub at h
  unfold ai_bin at h
  split at h
  · exact lv_isub hx hb hd (hj _ _ _ _ h H locs ls hP hS hl)
  · cases h
theorem as_imul (C : am_C G Y p s m args meth c) (hd : decode Y.2.1 pc = .ok (.imul, 1)) (hn : nx = pc + 1) : am_S (am_J G Y p e R s m args below meth c Q kc ks) K pc (ai_imul nx) := by
  obtain ⟨hG, hx, hb, hml, hr, hown, hts, hlk, hT, hE, hB⟩ := C
  subst hn
  intro j hj L S M h H locs ls hP hS hl
  unfold ai_imul at h
  unfold ai_bin at h
  split at h
  · exact lv_imul hx hb hd (hj _ _ _ _ h H locs ls hP hS hl)
  · cases h
theorem as_iand (C : am_C G Y p s m args meth c) (hd : decode Y.2.1 pc = .ok (.iand, 1)) (hn : nx = pc + 1) : am_S (am_J G Y p e R s m args below meth c Q kc ks) K pc (ai_iand nx) := by
  obtain ⟨hG, hx, hb, hml, hr, hown, hts, hlk, hT, hE, hB⟩ := C
  subst hn
  intro j hj L S M h H locs ls hP hS hl
  unfold ai_iand at h
  unfold ai_bin at h
  split at h
  · exact lv_iand hx hb hd (hj _ _ _ _ h H locs ls hP hS hl)
  · cases h
theorem as_ior (C : am_C G Y p s m args meth c) (hd : decode Y.2.1 pc = .ok (.ior, 1)) (hn : nx = pc + 1) : am_S (am_J G Y p e R s m args below meth c Q kc ks) K pc (ai_ior nx) := by
  obtain ⟨hG, hx, hb, hml, hr, hown, hts, hlk, hT, hE, hB⟩ := C
  subst hn
  intro j hj L S M h H locs ls hP hS hl
  unfold ai_ior at h
  unfold ai_bin at h
  split at h
  · exact lv_ior hx hb hd (hj _ _ _ _ h H locs ls hP hS hl)
  · cases h
theorem as_ishl (C : am_C G Y p s m args meth c) (hd : decode Y.2.1 pc = .ok (.ishl, 1)) (hn : nx = pc + 1) : am_S (am_J G Y p e R s m args below meth c Q kc ks) K pc (ai_ishl nx) := by
  obtain ⟨hG, hx, hb, hml, hr, hown, hts, hlk, hT, hE, hB⟩ := C
  subst hn
  intro j hj L S M h H locs ls hP hS hl
  unfold ai_ishl at h
  unfold ai_bin at h
  split at h
  · exact lv_ishl hx hb hd (hj _ _ _ _ h H locs ls hP hS hl)
  · cases h
theorem as_ishr (C : am_C G Y p s m args meth c) (hd : decode Y.2.1 pc = .ok (.ishr, 1)) (hn : nx = pc + 1) : am_S (am_J G Y p e R s m args below meth c Q kc ks) K pc (ai_ishr nx) := by
  obtain ⟨hG, hx, hb, hml, hr, hown, hts, hlk, hT, hE, hB⟩ := C
  subst hn
  intro j hj L S M h H locs ls hP hS hl
  unfold ai_ishr at h
  unfold ai_bin at h
  split at h
  · exact lv_ishr hx hb hd (hj _ _ _ _ h H locs ls hP hS hl)
  · cases h
theorem as_idiv (C : am_C G Y p s m args meth c) (hd : decode Y.2.1 pc = .ok (.idiv, 1)) (hn : nx = pc + 1) : am_S (am_J G Y p e R s m args below meth c Q kc ks) K pc (ai_idiv nx) := by
  obtain ⟨hG, hx, hb, hml, hr, hown, hts, hlk, hT, hE, hB⟩ := C
  subst hn
  intro j hj L S M h H locs ls hP hS hl
  unfold ai_idiv at h
  split at h
  · exact lv_idiv hx hb hd h.1 (hj _ _ _ _ h.2 H locs ls hP hS hl)
  · cases h
theorem as_irem (C : am_C G Y p s m args meth c) (hd : decode Y.2.1 pc = .ok (.irem, 1)) (hn : nx = pc + 1) : am_S (am_J G Y p e R s m args below meth c Q kc ks) K pc (ai_irem nx) := by
  obtain ⟨hG, hx, hb, hml, hr, hown, hts, hlk, hT, hE, hB⟩ := C
  subst hn
  intro j hj L S M h H locs ls hP hS hl
  unfold ai_irem at h
  split at h
  · exact lv_irem hx hb hd h.1 (hj _ _ _ _ h.2 H locs ls hP hS hl)
  · cases h
theorem as_ineg (C : am_C G Y p s m args meth c) (hd : decode Y.2.1 pc = .ok (.ineg, 1)) (hn : nx = pc + 1) : am_S (am_J G Y p e R s m args below meth c Q kc ks) K pc (ai_ineg nx) := by
  obtain ⟨hG, hx, hb, hml, hr, hown, hts, hlk, hT, hE, hB⟩ := C
  subst hn
  intro j hj L S M h H locs ls hP hS hl
  unfold ai_ineg at h
  split at h
  · exact lv_ineg hx hb hd (hj _ _ _ _ h H locs ls hP hS hl)
  · cases h
theorem as_lor (C : am_C G Y p s m args meth c) (hd : decode Y.2.1 pc = .ok (.lor, 1)) (hn : nx = pc + 1) : am_S (am_J G Y p e R s m args below meth c Q kc ks) K pc (ai_lor nx) := by
  obtain ⟨hG, hx, hb, hml, hr, hown, hts, hlk, hT, hE, hB⟩ := C
  subst hn
  intro j hj L S M h H locs ls hP hS hl
  unfold ai_lor at h
  unfold ai_lbin at h
  split at h
  · exact lv_lor hx hb hd (hj _ _ _ _ h H locs ls hP hS hl)
  · cases h
theorem as_land (C : am_C G Y p s m args meth c) (hd : decode Y.2.1 pc = .ok (.land, 1)) (hn : nx = pc + 1) : am_S (am_J G Y p e R s m args below meth c Q kc ks) K pc (ai_land nx) := by
  obtain ⟨hG, hx, hb, hml, hr, hown, hts, hlk, hT, hE, hB⟩ := C
  subst hn
  intro j hj L S M h H locs ls hP hS hl
  unfold ai_land at h
  unfold ai_lbin at h
  split at h
  · exact lv_land hx hb hd (hj _ _ _ _ h H locs ls hP hS hl)
  · cases h
theorem as_ladd (C : am_C G Y p s m args meth c) (hd : decode Y.2.1 pc = .ok (.ladd, 1)) (hn : nx = pc + 1) : am_S (am_J G Y p e R s m args below meth c Q kc ks) K pc (ai_ladd nx) := by
  obtain ⟨hG, hx, hb, hml, hr, hown, hts, hlk, hT, hE, hB⟩ := C
  subst hn
  intro j hj L S M h H locs ls hP hS hl
  unfold ai_ladd at h
  unfold ai_lbin at h
  split at h
  · exact lv_ladd hx hb hd (hj _ _ _ _ h H locs ls hP hS hl)
  · cases h
theorem as_lushr (C : am_C G Y p s m args meth c) (hd : decode Y.2.1 pc = .ok (.lushr, 1)) (hn : nx = pc + 1) : am_S (am_J G Y p e R s m args below meth c Q kc ks) K pc (ai_lushr nx) := by
  obtain ⟨hG, hx, hb, hml, hr, hown, hts, hlk, hT, hE, hB⟩ := C
  subst hn
  intro j hj L S M h H locs ls hP hS hl
  unfold ai_lushr at h
  split at h
  · exact lv_lushr hx hb hd rfl (hj _ _ _ _ h H locs ls hP hS hl)
  · cases h
theorem as_lshl (C : am_C G Y p s m args meth c) (hd : decode Y.2.1 pc = .ok (.lshl, 1)) (hn : nx = pc + 1) : am_S (am_J G Y p e R s m args below meth c Q kc ks) K pc (ai_lshl nx) := by
  obtain ⟨hG, hx, hb, hml, hr, hown, hts, hlk, hT, hE, hB⟩ := C
  subst hn
  intro j hj L S M h H locs ls hP hS hl
  unfold ai_lshl at h
  split at h
  · exact lv_lshl hx hb hd rfl (hj _ _ _ _ h H locs ls hP hS hl)
  · cases h
theorem as_lshr (C : am_C G Y p s m args meth c) (hd : decode Y.2.1 pc = .ok (.lshr, 1)) (hn : nx = pc + 1) : am_S (am_J G Y p e R s m args below meth c Q kc ks) K pc (ai_lshr nx) := by
  obtain ⟨hG, hx, hb, hml, hr, hown, hts, hlk, hT, hE, hB⟩ := C
  subst hn
  intro j hj L S M h H locs ls hP hS hl
  unfold ai_lshr at h
  split at h
  · exact lv_lshr hx hb hd rfl (hj _ _ _ _ h H locs ls hP hS hl)
  · cases h
theorem as_i2l (C : am_C G Y p s m args meth c) (hd : decode Y.2.1 pc = .ok (.i2l, 1)) (hn : nx = pc + 1) : am_S (am_J G Y p e R s m args below meth c Q kc ks) K pc (ai_i2l nx) := by
  obtain ⟨hG, hx, hb, hml, hr, hown, hts, hlk, hT, hE, hB⟩ := C
  subst hn
  intro j hj L S M h H locs ls hP hS hl
  unfold ai_i2l at h
  split at h
  · exact lv_i2l hx hb hd rfl (hj _ _ _ _ h H locs ls hP hS hl)
  · cases h
theorem as_l2i (C : am_C G Y p s m args meth c) (hd : decode Y.2.1 pc = .ok (.l2i, 1)) (hn : nx = pc + 1) : am_S (am_J G Y p e R s m args below meth c Q kc ks) K pc (ai_l2i nx) := by
  obtain ⟨hG, hx, hb, hml, hr, hown, hts, hlk, hT, hE, hB⟩ := C
  subst hn
  intro j hj L S M h H locs ls hP hS hl
  unfold ai_l2i at h
  split at h
  · exact lv_l2i hx hb hd rfl (hj _ _ _ _ h H locs ls hP hS hl)
  · cases h
theorem as_lcmp (C : am_C G Y p s m args meth c) (hd : decode Y.2.1 pc = .ok (.lcmp, 1)) (hn : nx = pc + 1) : am_S (am_J G Y p e R s m args below meth c Q kc ks) K pc (ai_lcmp nx) := by
  obtain ⟨hG, hx, hb, hml, hr, hown, hts, hlk, hT, hE, hB⟩ := C
  subst hn
  intro j hj L S M h H locs ls hP hS hl
  unfold ai_lcmp at h
  split at h
  · exact W.lcmp hx hb hd (hj _ _ _ _ h H locs ls hP hS hl)
  · cases h
theorem am_c1_cat {v : Value} (ad : Nat → Nat) (h : am_c1 v = true) : (am_v ad v).category = 1 := by cases v <;> first | (cases h; done) | rfl
theorem as_dup (C : am_C G Y p s m args meth c) (hd : decode Y.2.1 pc = .ok (.dup, 1)) (hn : nx = pc + 1) : am_S (am_J G Y p e R s m args below meth c Q kc ks) K pc (ai_dup nx) := by
  obtain ⟨hG, hx, hb, hml, hr, hown, hts, hlk, hT, hE, hB⟩ := C
  subst hn
  intro j hj L S M h H locs ls hP hS hl
  unfold ai_dup at h
  split at h
  · exact lv_dup hx hb hd (am_c1_cat _ h.1) (hj _ _ _ _ h.2 H locs ls hP hS hl)
  · cases h
theorem as_pop (C : am_C G Y p s m args meth c) (hd : decode Y.2.1 pc = .ok (.pop, 1)) (hn : nx = pc + 1) : am_S (am_J G Y p e R s m args below meth c Q kc ks) K pc (ai_pop nx) := by
  obtain ⟨hG, hx, hb, hml, hr, hown, hts, hlk, hT, hE, hB⟩ := C
  subst hn
  intro j hj L S M h H locs ls hP hS hl
  unfold ai_pop at h
  split at h
  · exact lv_pop hx hb hd (am_c1_cat _ h.1) (hj _ _ _ _ h.2 H locs ls hP hS hl)
  · cases h
theorem as_dup2 (C : am_C G Y p s m args meth c) (hd : decode Y.2.1 pc = .ok (.dup2, 1)) (hn : nx = pc + 1) : am_S (am_J G Y p e R s m args below meth c Q kc ks) K pc (ai_dup2 nx) := by
  obtain ⟨hG, hx, hb, hml, hr, hown, hts, hlk, hT, hE, hB⟩ := C
  subst hn
  intro j hj L S M h H locs ls hP hS hl
  unfold ai_dup2 at h
  split at h
  · exact lv_dup2_11 hx hb hd (am_c1_cat _ h.1) (am_c1_cat _ h.2.1) (hj _ _ _ _ h.2.2 H locs ls hP hS hl)
  · cases h
theorem as_dup_x1 (C : am_C G Y p s m args meth c) (hd : decode Y.2.1 pc = .ok (.dup_x1, 1)) (hn : nx = pc + 1) : am_S (am_J G Y p e R s m args below meth c Q kc ks) K pc (ai_dup_x1 nx) := by
  obtain ⟨hG, hx, hb, hml, hr, hown, hts, hlk, hT, hE, hB⟩ := C
  subst hn
  intro j hj L S M h H locs ls hP hS hl
  unfold ai_dup_x1 at h
  split at h
  · exact lv_dup_x1 hx hb hd (am_c1_cat _ h.1) (am_c1_cat _ h.2.1) (hj _ _ _ _ h.2.2 H locs ls hP hS hl)
  · cases h
theorem as_dup_x2 (C : am_C G Y p s m args meth c) (hd : decode Y.2.1 pc = .ok (.dup_x2, 1)) (hn : nx = pc + 1) : am_S (am_J G Y p e R s m args below meth c Q kc ks) K pc (ai_dup_x2 nx) := by
  obtain ⟨hG, hx, hb, hml, hr, hown, hts, hlk, hT, hE, hB⟩ := C
  subst hn
  intro j hj L S M h H locs ls hP hS hl
  unfold ai_dup_x2 at h
  split at h
  · exact lv_dup_x2 hx hb hd (am_c1_cat _ h.1) (am_c1_cat _ h.2.1) (am_c1_cat _ h.2.2.1) (hj _ _ _ _ h.2.2.2 H locs ls hP hS hl)
  · cases h
theorem as_ifeq (C : am_C G Y p s m args meth c) {off : Int} (hd : decode Y.2.1 pc = .ok (.ifCond .eq off, 3)) (ht : (pc : Int) + off = (tg : Int)) (hn : nx = pc + 3) : am_S (am_J G Y p e R s m args below meth c Q kc ks) K pc (ai_ifeq tg nx) := by
  obtain ⟨hG, hx, hb, hml, hr, hown, hts, hlk, hT, hE, hB⟩ := C
  subst hn
  intro j hj L S M h H locs ls hP hS hl
  unfold ai_ifeq at h
  split at h
  · exact lv_if_eq hx hb hd ht (fun q => hj _ _ _ _ (by rw [if_pos q] at h; exact h) H locs ls hP hS hl) (fun q => hj _ _ _ _ (by rw [if_neg q] at h; exact h) H locs ls hP hS hl)
  · cases h
theorem as_ifne (C : am_C G Y p s m args meth c) {off : Int} (hd : decode Y.2.1 pc = .ok (.ifCond .ne off, 3)) (ht : (pc : Int) + off = (tg : Int)) (hn : nx = pc + 3) : am_S (am_J G Y p e R s m args below meth c Q kc ks) K pc (ai_ifne tg nx) := by
  obtain ⟨hG, hx, hb, hml, hr, hown, hts, hlk, hT, hE, hB⟩ := C
  subst hn
  intro j hj L S M h H locs ls hP hS hl
  unfold ai_ifne at h
  split at h
  · exact lv_if_ne hx hb hd ht (fun q => hj _ _ _ _ (by rw [if_neg q] at h; exact h) H locs ls hP hS hl) (fun q => hj _ _ _ _ (by rw [if_pos q] at h; exact h) H locs ls hP hS hl)
  · cases h
theorem as_iflt (C : am_C G Y p s m args meth c) {off : Int} (hd : decode Y.2.1 pc = .ok (.ifCond .lt off, 3)) (ht : (pc : Int) + off = (tg : Int)) (hn : nx = pc + 3) : am_S (am_J G Y p e R s m args below meth c Q kc ks) K pc (ai_iflt tg nx) := by
  obtain ⟨hG, hx, hb, hml, hr, hown, hts, hlk, hT, hE, hB⟩ := C
  subst hn
  intro j hj L S M h H locs ls hP hS hl
  unfold ai_iflt at h
  split at h
  · exact lv_if_lt hx hb hd ht (fun q => hj _ _ _ _ (by rw [if_pos q] at h; exact h) H locs ls hP hS hl) (fun q => hj _ _ _ _ (by rw [if_neg q] at h; exact h) H locs ls hP hS hl)
  · cases h
theorem as_ifge (C : am_C G Y p s m args meth c) {off : Int} (hd : decode Y.2.1 pc = .ok (.ifCond .ge off, 3)) (ht : (pc : Int) + off = (tg : Int)) (hn : nx = pc + 3) : am_S (am_J G Y p e R s m args below meth c Q kc ks) K pc (ai_ifge tg nx) := by
  obtain ⟨hG, hx, hb, hml, hr, hown, hts, hlk, hT, hE, hB⟩ := C
  subst hn
  intro j hj L S M h H locs ls hP hS hl
  unfold ai_ifge at h
  split at h
  · exact lv_if_ge hx hb hd ht (fun q => hj _ _ _ _ (by rw [if_pos q] at h; exact h) H locs ls hP hS hl) (fun q => hj _ _ _ _ (by rw [if_neg q] at h; exact h) H locs ls hP hS hl)
  · cases h
theorem as_ifgt (C : am_C G Y p s m args meth c) {off : Int} (hd : decode Y.2.1 pc = .ok (.ifCond .gt off, 3)) (ht : (pc : Int) + off = (tg : Int)) (hn : nx = pc + 3) : am_S (am_J G Y p e R s m args below meth c Q kc ks) K pc (ai_ifgt tg nx) := by
  obtain ⟨hG, hx, hb, hml, hr, hown, hts, hlk, hT, hE, hB⟩ := C
  subst hn
  intro j hj L S M h H locs ls hP hS hl
  unfold ai_ifgt at h
  split at h
  · exact lv_if_gt hx hb hd ht (fun q => hj _ _ _ _ (by rw [if_pos q] at h; exact h) H locs ls hP hS hl) (fun q => hj _ _ _ _ (by rw [if_neg q] at h; exact h) H locs ls hP hS hl)
  · cases h
theorem as_ifle (C : am_C G Y p s m args meth c) {off : Int} (hd : decode Y.2.1 pc = .ok (.ifCond .le off, 3)) (ht : (pc : Int) + off = (tg : Int)) (hn : nx = pc + 3) : am_S (am_J G Y p e R s m args below meth c Q kc ks) K pc (ai_ifle tg nx) := by
  obtain ⟨hG, hx, hb, hml, hr, hown, hts, hlk, hT, hE, hB⟩ := C
  subst hn
  intro j hj L S M h H locs ls hP hS hl
  unfold ai_ifle at h
  split at h
  · exact lv_if_le hx hb hd ht (fun q => hj _ _ _ _ (by rw [if_pos q] at h; exact h) H locs ls hP hS hl) (fun q => hj _ _ _ _ (by rw [if_neg q] at h; exact h) H locs ls hP hS hl)
  · cases h
theorem as_cmpeq (C : am_C G Y p s m args meth c) {off : Int} (hd : decode Y.2.1 pc = .ok (.if_icmp .eq off, 3)) (ht : (pc : Int) + off = (tg : Int)) (hn : nx = pc + 3) : am_S (am_J G Y p e R s m args below meth c Q kc ks) K pc (ai_cmpeq tg nx) := by
  obtain ⟨hG, hx, hb, hml, hr, hown, hts, hlk, hT, hE, hB⟩ := C
  subst hn
  intro j hj L S M h H locs ls hP hS hl
  unfold ai_cmpeq at h
  split at h
  · exact lv_icmp_eq hx hb hd ht (fun q => hj _ _ _ _ (by rw [if_pos q] at h; exact h) H locs ls hP hS hl) (fun q => hj _ _ _ _ (by rw [if_neg q] at h; exact h) H locs ls hP hS hl)
  · cases h
theorem as_cmpne (C : am_C G Y p s m args meth c) {off : Int} (hd : decode Y.2.1 pc = .ok (.if_icmp .ne off, 3)) (ht : (pc : Int) + off = (tg : Int)) (hn : nx = pc + 3) : am_S (am_J G Y p e R s m args below meth c Q kc ks) K pc (ai_cmpne tg nx) := by
  obtain ⟨hG, hx, hb, hml, hr, hown, hts, hlk, hT, hE, hB⟩ := C
  subst hn
  intro j hj L S M h H locs ls hP hS hl
  unfold ai_cmpne at h
  split at h
  · exact lv_icmp_ne hx hb hd ht (fun q => hj _ _ _ _ (by rw [if_neg q] at h; exact h) H locs ls hP hS hl) (fun q => hj _ _ _ _ (by rw [if_pos q] at h; exact h) H locs ls hP hS hl)
  · cases h
theorem as_cmplt (C : am_C G Y p s m args meth c) {off : Int} (hd : decode Y.2.1 pc = .ok (.if_icmp .lt off, 3)) (ht : (pc : Int) + off = (tg : Int)) (hn : nx = pc + 3) : am_S (am_J G Y p e R s m args below meth c Q kc ks) K pc (ai_cmplt tg nx) := by
  obtain ⟨hG, hx, hb, hml, hr, hown, hts, hlk, hT, hE, hB⟩ := C
  subst hn
  intro j hj L S M h H locs ls hP hS hl
  unfold ai_cmplt at h
  split at h
  · exact lv_icmp_lt hx hb hd ht (fun q => hj _ _ _ _ (by rw [if_pos q] at h; exact h) H locs ls hP hS hl) (fun q => hj _ _ _ _ (by rw [if_neg q] at h; exact h) H locs ls hP hS hl)
  · cases h
theorem as_cmpge (C : am_C G Y p s m args meth c) {off : Int} (hd : decode Y.2.1 pc = .ok (.if_icmp .ge off, 3)) (ht : (pc : Int) + off = (tg : Int)) (hn : nx = pc + 3) : am_S (am_J G Y p e R s m args below meth c Q kc ks) K pc (ai_cmpge tg nx) := by
  obtain ⟨hG, hx, hb, hml, hr, hown, hts, hlk, hT, hE, hB⟩ := C
  subst hn
  intro j hj L S M h H locs ls hP hS hl
  unfold ai_cmpge at h
  split at h
  · exact lv_icmp_ge hx hb hd ht (fun q => hj _ _ _ _ (by rw [if_neg (Int32.not_lt.mpr q)] at h; exact h) H locs ls hP hS hl) (fun q => hj _ _ _ _ (by rw [if_pos (Int32.not_le.mp q)] at h; exact h) H locs ls hP hS hl)
  · cases h
theorem as_cmpgt (C : am_C G Y p s m args meth c) {off : Int} (hd : decode Y.2.1 pc = .ok (.if_icmp .gt off, 3)) (ht : (pc : Int) + off = (tg : Int)) (hn : nx = pc + 3) : am_S (am_J G Y p e R s m args below meth c Q kc ks) K pc (ai_cmpgt tg nx) := by
  obtain ⟨hG, hx, hb, hml, hr, hown, hts, hlk, hT, hE, hB⟩ := C
  subst hn
  intro j hj L S M h H locs ls hP hS hl
  unfold ai_cmpgt at h
  split at h
  · exact lv_icmp_gt hx hb hd ht (fun q => hj _ _ _ _ (by rw [if_pos q] at h; exact h) H locs ls hP hS hl) (fun q => hj _ _ _ _ (by rw [if_neg q] at h; exact h) H locs ls hP hS hl)
  · cases h
theorem as_cmple (C : am_C G Y p s m args meth c) {off : Int} (hd : decode Y.2.1 pc = .ok (.if_icmp .le off, 3)) (ht : (pc : Int) + off = (tg : Int)) (hn : nx = pc + 3) : am_S (am_J G Y p e R s m args below meth c Q kc ks) K pc (ai_cmple tg nx) := by
  obtain ⟨hG, hx, hb, hml, hr, hown, hts, hlk, hT, hE, hB⟩ := C
  subst hn
  intro j hj L S M h H locs ls hP hS hl
  unfold ai_cmple at h
  split at h
  · exact lv_icmp_le hx hb hd ht (fun q => hj _ _ _ _ (by rw [if_neg (Int32.not_lt.mpr q)] at h; exact h) H locs ls hP hS hl) (fun q => hj _ _ _ _ (by rw [if_pos (Int32.not_le.mp q)] at h; exact h) H locs ls hP hS hl)
  · cases h
theorem as_goto (C : am_C G Y p s m args meth c) {off : Int} (hd : decode Y.2.1 pc = .ok (.goto off, 3)) (ht : (pc : Int) + off = (tg : Int)) : am_S (am_J G Y p e R s m args below meth c Q kc ks) K pc (ai_goto tg) := by
  obtain ⟨hG, hx, hb, hml, hr, hown, hts, hlk, hT, hE, hB⟩ := C
  intro j hj L S M h H locs ls hP hS hl
  exact lv_goto hx hb hd ht (hj _ _ _ _ h H locs ls hP hS hl)
theorem am_sw_tg (x : Int32) (d : Nat) (f : Nat → Prop) : ∀ cs, am_sw x d f cs → f (am_tg x d cs)
  | [], h => h
  | q :: r, h => by
    simp only [am_sw] at h
    simp only [am_tg]
    split at h
    · next e => rw [if_pos e]; exact h
    · next e => rw [if_neg e]; exact am_sw_tg x d f r h
/-- a table of keys as the code has it -/
def am_lk (pc : Nat) : List (Int × Int) → List (Int32 × Nat) → Bool
  | [], [] => true
  | a :: r, b :: t => b.1.toInt == a.1 && (pc : Int) + a.2 == (b.2 : Int) && am_lk pc r t
  | _, _ => false
theorem am_lk_of {dflt : Int} {d : Nat} (x : Int32) (hd : (pc : Int) + dflt = (d : Int)) : ∀ (ps : List (Int × Int)) (cs : List (Int32 × Nat)), am_lk pc ps cs = true → (pc : Int) + Op.lookupswitch.offset ps dflt x.toInt = ((am_tg x d cs : Nat) : Int)
  | [], [], _ => by simpa [Op.lookupswitch.offset, am_tg] using hd
  | [], _ :: _, h => by cases h
  | _ :: _, [], h => by cases h
  | a :: r, b :: t, h => by
    simp only [am_lk, Bool.and_eq_true, beq_iff_eq] at h
    obtain ⟨⟨h1, h2⟩, h3⟩ := h
    obtain ⟨a1, a2⟩ := a
    simp only [am_tg]
    rw [Op.lookupswitch.offset_cons]
    by_cases hx : x = b.1
    · rw [if_pos hx, if_pos (by rw [hx]; exact h1.symm)]
      exact h2
    · rw [if_neg hx, if_neg (fun q => hx (Int32.toInt_inj.mp (by rw [h1]; exact q.symm)))]
      exact am_lk_of x hd r t h3
theorem as_lookup (C : am_C G Y p s m args meth c) {dflt : Int} {ps : Array (Int × Int)} {len d : Nat} {cs : List (Int32 × Nat)} (hd : decode Y.2.1 pc = .ok (.lookupswitch dflt ps, len)) (hp : (ps.toList.zip (ps.toList.drop 1)).all (fun (a, next) => a.1 < next.1) = true) (hk : am_lk pc ps.toList cs = true) (ht : (pc : Int) + dflt = (d : Int)) : am_S (am_J G Y p e R s m args below meth c Q kc ks) K pc (ai_switch cs d) := by
  obtain ⟨hG, hx, hb, hml, hr, hown, hts, hlk, hT, hE, hB⟩ := C
  intro j hj L S M h H locs ls hP hS hl
  unfold ai_switch at h
  split at h
  · next x S' =>
    exact lv_lookup hx hb hd hp rfl (am_lk_of x ht _ _ hk) (hj _ _ _ _ (am_sw_tg x d (fun t => j t L S' M) cs h) H locs ls hP hS hl)
  · cases h
/-- a table of neighbours as the code has it -/
def am_tk (pc : Nat) : Int → List Int → List (Int32 × Nat) → Bool
  | _, [], [] => true
  | lo, a :: r, b :: t => b.1.toInt == lo && (pc : Int) + a == (b.2 : Int) && am_tk pc (lo + 1) r t
  | _, _, _ => false
theorem am_tk_out {d : Nat} (x : Int32) : ∀ (lo : Int) (os : List Int) (cs : List (Int32 × Nat)), am_tk pc lo os cs = true → (x.toInt < lo ∨ lo + os.length ≤ x.toInt) → am_tg x d cs = d
  | _, [], [], _, _ => rfl
  | _, [], _ :: _, h, _ => by cases h
  | _, _ :: _, [], h, _ => by cases h
  | lo, a :: r, b :: t, h, ho => by
    simp only [am_tk, Bool.and_eq_true, beq_iff_eq] at h
    obtain ⟨⟨h1, h2⟩, h3⟩ := h
    simp only [List.length_cons] at ho
    simp only [am_tg]
    rw [if_neg (fun q => by rw [q, h1] at ho; omega)]
    exact am_tk_out x (lo + 1) r t h3 (by omega)
theorem am_tk_in {d : Nat} (x : Int32) : ∀ (lo : Int) (os : List Int) (cs : List (Int32 × Nat)), am_tk pc lo os cs = true → ¬ x.toInt < lo → x.toInt < lo + os.length → ∃ off, os[(x.toInt - lo).toNat]? = some off ∧ (pc : Int) + off = ((am_tg x d cs : Nat) : Int)
  | lo, [], _, _, h1, h2 => by simp at h2; omega
  | _, _ :: _, [], h, _, _ => by cases h
  | lo, a :: r, b :: t, h, ho, h9 => by
    simp only [am_tk, Bool.and_eq_true, beq_iff_eq] at h
    obtain ⟨⟨h1, h2⟩, h3⟩ := h
    simp only [List.length_cons] at h9
    simp only [am_tg]
    by_cases hx : x = b.1
    · refine ⟨a, ?_, by rw [if_pos hx]; exact h2⟩
      rw [hx, h1]
      simp
    · have hne : ¬ x.toInt = lo := fun q => hx (Int32.toInt_inj.mp (by rw [h1]; exact q))
      obtain ⟨off, g1, g2⟩ := am_tk_in (d := d) x (lo + 1) r t h3 (by omega) (by omega)
      refine ⟨off, ?_, by rw [if_neg hx]; exact g2⟩
      rw [show (x.toInt - lo).toNat = (x.toInt - (lo + 1)).toNat + 1 by omega, List.getElem?_cons_succ]
      exact g1
theorem as_table (C : am_C G Y p s m args meth c) {dflt lo hi : Int} {offs : Array Int} {len d : Nat} {cs : List (Int32 × Nat)} (hd : decode Y.2.1 pc = .ok (.tableswitch dflt lo hi offs, len)) (hk : am_tk pc lo offs.toList cs = true) (hh : hi + 1 = lo + offs.toList.length) (ht : (pc : Int) + dflt = (d : Int)) : am_S (am_J G Y p e R s m args below meth c Q kc ks) K pc (ai_switch cs d) := by
  obtain ⟨hG, hx, hb, hml, hr, hown, hts, hlk, hT, hE, hB⟩ := C
  intro j hj L S M h H locs ls hP hS hl
  unfold ai_switch at h
  split at h
  · next x S' =>
    have hq := am_sw_tg x d (fun t => j t L S' M) cs h
    by_cases ho : x.toInt < lo ∨ hi < x.toInt
    · rw [am_tk_out (d := d) x lo _ cs hk (by omega)] at hq
      exact lv_tableOut hx hb hd ho ht (hj _ _ _ _ hq H locs ls hP hS hl)
    · obtain ⟨off, g1, g2⟩ := am_tk_in (d := d) x lo _ cs hk (by omega) (by omega)
      exact lv_tableIn hx hb hd (by omega) (by omega) (by rw [← Array.getElem?_toList]; exact g1) g2 (hj _ _ _ _ hq H locs ls hP hS hl)
  · cases h
theorem am_fd_of {a ci k : Nat} {o : Option Value} (h : am_fd a ci k = some o) : ∃ fs, SH[a]? = some (.inr (ci, fs)) ∧ fs[k]? = some o := by
  unfold am_fd at h
  split at h
  · next q hq =>
    split at h
    · next e => exact ⟨q.2, by rw [hq, ← e], h⟩
    · cases h
  · cases h
theorem am_ln_of {a n : Nat} (h : am_ln a = some n) : SH[a]? = some (.inl n) := by
  unfold am_ln at h
  split at h
  · next q hq => cases h; exact hq
  · cases h
theorem am_kd_of {a ci : Nat} (h : am_kd a ci = true) : ∃ fs, SH[a]? = some (.inr (ci, fs)) := by
  unfold am_kd at h
  split at h
  · next q hq => exact ⟨q.2, by rw [hq, ← (beq_iff_eq.mp h)]⟩
  · cases h
def am_fv (o : Option Value) (x : Int32) : Value := match o with
  | none => .int x
  | some v => v
theorem am_getf_of {ci k nx : Nat} {j : aJ} {L : aL} {S : List Value} {M : aM} (h : ai_getf ci k nx j K pc L S M) : ∃ a S1 o, S = .ref a :: S1 ∧ am_fd a ci k = some o ∧ j nx L ((am_fv o (M a k)) :: S1) M := by
  unfold ai_getf at h
  split at h
  · next a S1 =>
    split at h
    · next e => exact ⟨a, S1, none, rfl, e, h⟩
    · next v e => exact ⟨a, S1, some v, rfl, e, h⟩
    · cases h
  · cases h
theorem as_getf (C : am_C G Y p s m args meth c) {ci k ix N : Nat} {Cn : String} {T : u_T} (hcl : CL[ci]? = some (Cn, T, N)) (hin : ∀ w ∈ u_ws Cn T N, w ∈ TB) (hk : k < N) (hdc : (T k).1 = Cn) (hlink : Cond.fieldLink Y.1.cls ix Cn (T k).2.1 (T k).2.2.1 ∈ TB) (hd : decode Y.2.1 pc = .ok (.getfield ix, 3)) (hn : nx = pc + 3) : am_S (am_J G Y p e R s m args below meth c Q kc ks) K pc (ai_getf ci k nx) := by
  obtain ⟨hG, hx, hb, hml, hr, hown, hts, hlk, hT, hE, hB⟩ := C
  subst hn
  intro j hj L S M h H locs ls hP hS hl
  obtain ⟨a, S1, o, rfl, ho, h⟩ := am_getf_of h
  obtain ⟨fs, h1, h2⟩ := am_fd_of ho
  refine va_get (v := am_v (g_a G) (am_fv o (M a k))) hx hb hts hin hown hT.1 hP a (am_W_get h1) hcl k hk (hts _ hlink) (fun _ h9 => by rw [← hdc]; exact h9) ?_ hd (hj _ _ _ _ h H locs ls hP hS hl)
  rw [am_fs_get, h2]
  cases o with
  | none => simp [am_v, am_fv]
  | some v => rfl
theorem as_getfN (C : am_C G Y p s m args meth c) {ci k ix N : Nat} {Cn host : String} {T : u_T} (hcl : CL[ci]? = some (Cn, T, N)) (hin : ∀ w ∈ u_ws Cn T N, w ∈ TB) (hk : k < N) (hdc : (T k).1 = Cn) (hlink : Cond.fieldLinkNest Y.1.cls ix Cn (T k).2.1 (T k).2.2.1 host ∈ NWs) (hd : decode Y.2.1 pc = .ok (.getfield ix, 3)) (hn : nx = pc + 3) : am_S (am_J G Y p e R s m args below meth c Q kc ks) K pc (ai_getf ci k nx) := by
  obtain ⟨hG, hx, hb, hml, hr, hown, hts, hlk, hT, hE, hB⟩ := C
  subst hn
  intro j hj L S M h H locs ls hP hS hl
  obtain ⟨a, S1, o, rfl, ho, h⟩ := am_getf_of h
  obtain ⟨fs, h1, h2⟩ := am_fd_of ho
  refine va_getN (v := am_v (g_a G) (am_fv o (M a k))) hx hb hts hin hown hT.1 hP a (am_W_get h1) hcl k hk (va_Nw.use rfl (hT.2.1 _ hlink).2) (fun _ h9 => by rw [← hdc]; exact h9) ?_ hd (hj _ _ _ _ h H locs ls hP hS hl)
  rw [am_fs_get, h2]
  cases o with
  | none => simp [am_v, am_fv]
  | some v => rfl
theorem am_putf_of {ci k nx : Nat} {j : aJ} {L : aL} {S : List Value} {M : aM} (h : ai_putf ci k nx j K pc L S M) : ∃ x a S1, S = .int x :: .ref a :: S1 ∧ am_fd a ci k = some none ∧ j nx L S1 (am_up M a k x) := by
  unfold ai_putf at h
  split at h
  · next x a S1 => exact ⟨x, a, S1, rfl, h.1, h.2⟩
  · cases h
theorem as_putf (C : am_C G Y p s m args meth c) {ci k ix N : Nat} {Cn : String} {T : u_T} (ty0 : Nat → FieldType) (hcl : CL[ci]? = some (Cn, T, N)) (hin : ∀ w ∈ u_ws Cn T N, w ∈ TB) (hty : ∀ k, k < N → parseFieldDescriptor (T k).2.2.1 = some (ty0 k)) (hnm : ∀ a, a < N → ∀ b, b < N → a ≠ b → (T a).2.1 ≠ (T b).2.1) (hk : k < N) (hdc : (T k).1 = Cn) (hfi : (T k).2.2.2 = false) (hI : parseFieldDescriptor (T k).2.2.1 = some .int) (hlink : Cond.fieldLink Y.1.cls ix Cn (T k).2.1 (T k).2.2.1 ∈ TB) (hd : decode Y.2.1 pc = .ok (.putfield ix, 3)) (hn : nx = pc + 3) : am_S (am_J G Y p e R s m args below meth c Q kc ks) K pc (ai_putf ci k nx) := by
  obtain ⟨hG, hx, hb, hml, hr, hown, hts, hlk, hT, hE, hB⟩ := C
  subst hn
  intro j hj L S M h H locs ls hP hS hl
  obtain ⟨x, a, S1, rfl, ho, h⟩ := am_putf_of h
  obtain ⟨fs, h1, h2⟩ := am_fd_of ho
  refine va_put (v := .int x) hx hb hts hin ty0 hty hnm hown hT.1 hP (am_D hG M _) hS a (am_W_get h1) hcl k hk (hts _ hlink) (fun _ h9 => by rw [← hdc]; exact h9) hfi hI rfl rfl (by rw [am_fs_len]; exact (List.getElem?_eq_some_iff.mp h2).1) hd (fun H1 locs1 hP1 _ hS1 => ?_)
  refine hj _ _ _ _ h H1 locs1 ls ?_ hS1 hl
  rw [am_W_up h1]
  show va_P (g_D G) CL ((am_W G M).set a (g_a G a, .inr (ci, am_fs (g_a G) (upd (M a) k x) 0 fs))) H1
  rw [am_fs_upd _ _ _ h2]
  exact hP1
theorem as_putfN (C : am_C G Y p s m args meth c) {ci k ix N : Nat} {Cn host : String} {T : u_T} (ty0 : Nat → FieldType) (hcl : CL[ci]? = some (Cn, T, N)) (hin : ∀ w ∈ u_ws Cn T N, w ∈ TB) (hty : ∀ k, k < N → parseFieldDescriptor (T k).2.2.1 = some (ty0 k)) (hnm : ∀ a, a < N → ∀ b, b < N → a ≠ b → (T a).2.1 ≠ (T b).2.1) (hk : k < N) (hdc : (T k).1 = Cn) (hfi : (T k).2.2.2 = false) (hI : parseFieldDescriptor (T k).2.2.1 = some .int) (hlink : Cond.fieldLinkNest Y.1.cls ix Cn (T k).2.1 (T k).2.2.1 host ∈ NWs) (hd : decode Y.2.1 pc = .ok (.putfield ix, 3)) (hn : nx = pc + 3) : am_S (am_J G Y p e R s m args below meth c Q kc ks) K pc (ai_putf ci k nx) := by
  obtain ⟨hG, hx, hb, hml, hr, hown, hts, hlk, hT, hE, hB⟩ := C
  subst hn
  intro j hj L S M h H locs ls hP hS hl
  obtain ⟨x, a, S1, rfl, ho, h⟩ := am_putf_of h
  obtain ⟨fs, h1, h2⟩ := am_fd_of ho
  refine va_putN (v := .int x) hx hb hts hin ty0 hty hnm hown hT.1 hP (am_D hG M _) hS a (am_W_get h1) hcl k hk (va_Nw.use rfl (hT.2.1 _ hlink).2) (fun _ h9 => by rw [← hdc]; exact h9) hfi hI rfl rfl (by rw [am_fs_len]; exact (List.getElem?_eq_some_iff.mp h2).1) hd (fun H1 locs1 hP1 _ hS1 => ?_)
  refine hj _ _ _ _ h H1 locs1 ls ?_ hS1 hl
  rw [am_W_up h1]
  show va_P (g_D G) CL ((am_W G M).set a (g_a G a, .inr (ci, am_fs (g_a G) (upd (M a) k x) 0 fs))) H1
  rw [am_fs_upd _ _ _ h2]
  exact hP1
theorem as_iald (C : am_C G Y p s m args meth c) (hd : decode Y.2.1 pc = .ok (.iaload, 1)) (hn : nx = pc + 1) : am_S (am_J G Y p e R s m args below meth c Q kc ks) K pc (ai_iald nx) := by
  obtain ⟨hG, hx, hb, hml, hr, hown, hts, hlk, hT, hE, hB⟩ := C
  subst hn
  intro j hj L S M h H locs ls hP hS hl
  unfold ai_iald at h
  split at h
  · next i a S1 =>
    split at h
    · next n e => exact va_iald hx hb hT.1 hP a 0 (am_W_get (am_ln_of e)) rfl h.1 hd (hj _ _ _ _ h.2 H locs ls hP hS hl)
    · cases h
  · cases h
theorem as_iast (C : am_C G Y p s m args meth c) (hd : decode Y.2.1 pc = .ok (.iastore, 1)) (hn : nx = pc + 1) : am_S (am_J G Y p e R s m args below meth c Q kc ks) K pc (ai_iast nx) := by
  obtain ⟨hG, hx, hb, hml, hr, hown, hts, hlk, hT, hE, hB⟩ := C
  subst hn
  intro j hj L S M h H locs ls hP hS hl
  unfold ai_iast at h
  split at h
  · next x i a S1 =>
    split at h
    · next n e =>
      refine va_iast hx hb hT.1 hP (am_D hG M _) hS a 0 (am_W_get (am_ln_of e)) rfl h.1 hd (fun H1 locs1 hP1 _ hS1 => ?_)
      refine hj _ _ _ _ h.2 H1 locs1 ls ?_ hS1 hl
      rw [am_W_up (am_ln_of e)]
      exact hP1
    · cases h
  · cases h
theorem as_alen (C : am_C G Y p s m args meth c) (hd : decode Y.2.1 pc = .ok (.arraylength, 1)) (hn : nx = pc + 1) : am_S (am_J G Y p e R s m args below meth c Q kc ks) K pc (ai_alen nx) := by
  obtain ⟨hG, hx, hb, hml, hr, hown, hts, hlk, hT, hE, hB⟩ := C
  subst hn
  intro j hj L S M h H locs ls hP hS hl
  unfold ai_alen at h
  split at h
  · next a S1 =>
    split at h
    · next n e => exact va_alen hx hb hT.1 hP a 0 (am_W_get (am_ln_of e)) rfl rfl hd (hj _ _ _ _ h H locs ls hP hS hl)
    · cases h
  · cases h
theorem am_AB (hG : am_ok G) (hB : ∀ q, s.heap.size ≤ q → g_B G q) : ∀ q, am_A G s.heap.size q → g_B G q := by
  intro q h
  rcases h with ⟨i, h1, h2⟩ | h
  · rw [h2]; exact hG.2 i h1
  · exact hB q h
theorem as_xald (C : am_C G Y p s m args meth c) {a n : Nat} {f : Nat → Int32} (hm : (a, n, f) ∈ am_XA G) (hd : decode Y.2.1 pc = .ok (.iaload, 1)) (hn : nx = pc + 1) : am_S (am_J G Y p e R s m args below meth c Q kc ks) K pc (ai_xald a n f nx) := by
  obtain ⟨hG, hx, hb, hml, hr, hown, hts, hlk, hT, hE, hB⟩ := C
  subst hn
  intro j hj L S M h H locs ls hP hS hl
  unfold ai_xald at h
  split at h
  · next i b S1 =>
    obtain ⟨rfl, h1, h2⟩ := h
    exact va_ti hx hb ((hE.1 _ hm).narrow (am_AB hG hB)) hS h1 rfl hd (hj _ _ _ _ h2 H locs ls hP hS hl)
  · cases h
theorem as_xlen (C : am_C G Y p s m args meth c) {a n : Nat} {f : Nat → Int32} (hm : (a, n, f) ∈ am_XA G) (hd : decode Y.2.1 pc = .ok (.arraylength, 1)) (hn : nx = pc + 1) : am_S (am_J G Y p e R s m args below meth c Q kc ks) K pc (ai_xlen a n nx) := by
  obtain ⟨hG, hx, hb, hml, hr, hown, hts, hlk, hT, hE, hB⟩ := C
  subst hn
  intro j hj L S M h H locs ls hP hS hl
  unfold ai_xlen at h
  split at h
  · next b S1 =>
    obtain ⟨rfl, h2⟩ := h
    exact va_tlen hx hb ((hE.1 _ hm).narrow (am_AB hG hB)) hS rfl hd (hj _ _ _ _ h2 H locs ls hP hS hl)
  · cases h
theorem as_gets (C : am_C G Y p s m args meth c) {ix : Nat} {Cn f d : String} {v : Value} (hm : (Cn, f, d, v) ∈ XS) (hlink : Cond.fieldLink Y.1.cls ix Cn f d ∈ TB) (hd : decode Y.2.1 pc = .ok (.getstatic ix, 3)) (hn : nx = pc + 3) : am_S (am_J G Y p e R s m args below meth c Q kc ks) K pc (ai_gets v nx) := by
  obtain ⟨hG, hx, hb, hml, hr, hown, hts, hlk, hT, hE, hB⟩ := C
  subst hn
  intro j hj L S M h H locs ls hP hS hl
  exact va_gets hx hb ((hE.2.1 _ hm).narrow (am_AB hG hB)) hS hown (hts _ hlink) (fun _ h9 => h9) hd (hj _ _ _ _ h H locs ls hP hS hl)
theorem as_getsN (C : am_C G Y p s m args meth c) {ix : Nat} {Cn f d host : String} {v : Value} (hm : (Cn, f, d, v) ∈ XS) (hlink : Cond.fieldLinkNest Y.1.cls ix Cn f d host ∈ NWs) (hd : decode Y.2.1 pc = .ok (.getstatic ix, 3)) (hn : nx = pc + 3) : am_S (am_J G Y p e R s m args below meth c Q kc ks) K pc (ai_gets v nx) := by
  obtain ⟨hG, hx, hb, hml, hr, hown, hts, hlk, hT, hE, hB⟩ := C
  subst hn
  intro j hj L S M h H locs ls hP hS hl
  exact va_getsN hx hb ((hE.2.1 _ hm).narrow (am_AB hG hB)) hS hown (va_Nw.use rfl (hT.2.1 _ hlink).2) (fun _ h9 => h9) hd (hj _ _ _ _ h H locs ls hP hS hl)
end AMS
end
section
theorem am_few_sum {S : List Value} (ad : Nat → Nat) (h : am_few S) : ((S.map (am_v ad)).map fun v => v.category).sum ≤ 8 := by
  have hc : ∀ v : Value, (am_v ad v).category ≤ 2 := fun v => by rcases lv_cat (am_v ad v) with q | q <;> omega
  unfold am_few at h
  split at h
  · simp
  · next a => have := hc a; simp; omega
  · next a b => have := hc a; have := hc b; simp; omega
  · next a b d => have := hc a; have := hc b; have := hc d; simp; omega
  · next a b d f => have := hc a; have := hc b; have := hc d; have := hc f; simp; omega
  · cases h
theorem am_P.calling {G : aG} {M : aM} {sz : Nat} {U : State} {g : JFrame} {mk : MethodId} {a : Array Value} (h : am_P G M sz U) : am_P G M sz (U.calling g mk a) := by
  obtain ⟨h1, h2, h3, h4, h5⟩ := h
  refine ⟨h1, h2, ⟨va_K.moved (u := U) (U := U.calling g mk a) (Vm.Alike.refl U.vm) h3.1, fun w hw => ⟨(h3.2.1 w hw).1, ?_⟩, vk_R.same (u := U) rfl h3.2.2⟩, am_E.moved (u := U) (U := U.calling g mk a) (Vm.Alike.refl U.vm) h4, h5⟩
  have hn := (h3.2.1 w hw).1
  exact va_Nw.same (u := U) (by cases w <;> first | (cases hn; done) | rfl) rfl (h3.2.1 w hw).2
section AMC
variable {G : aG} {Y : aY} {p : Program} {e : Env} {R : Room} {s : State} {m : MethodId} {args : Array Value} {below : List Frame} {meth : Method} {c : Code} {Q : State → Prop} {kc ks : Nat} {K : aR} {pc nx : Nat}
theorem am_pre (C : am_C G Y p s m args meth c) {M : aM} {H : Heap} {locs : List Loc} (hP : va_P (g_D G) CL (am_W G M) H) (hS : va_S (am_A G s.heap.size) s.heap H locs) {U : State} (hU : U.heap = H) (hW : s.WarmedH U.vm) : am_P G M H.size U := by
  obtain ⟨hG, hx, hb, hml, hr, hown, hts, hlk, hT, hE, hB⟩ := C
  refine ⟨by rw [hU], by rw [hU]; exact hP, hT.warm hW, ?_, fun q hq => hB q (Nat.le_trans hS.1 hq)⟩
  rw [hU]
  exact (hE.kept (fun a h1 h2 => hS.2.1 a h1 (fun z => h2 (am_AB hG hB a z)))).moved hW.alike
theorem am_call {K1 : aR} {H : Heap} {locs : List Loc} {ls : Array Slot} {st0 rest : List Value} {a : Array Value} (hr : va_Run p (g_l G) e R s m args below meth c H locs kc ks 0 0 (F0 m pc ls st0) rest (am_Q G K1 (am_A G H.size) a) (am_A G H.size)) (hS : va_S (am_A G s.heap.size) s.heap H locs)
    (kk : ∀ (r : Option Value) (M1 : aM) (H1 : Heap) (locs1 : List Loc), K1 r M1 → va_P (g_D G) CL (am_W G M1) H1 → va_S (am_A G s.heap.size) s.heap H1 locs1 → W p (g_l G) e R s m args below meth c H1 locs1 kc ks Q (F0 m (pc + 3) ls ((r.map (am_v (g_a G))).toList ++ rest))) : W p (g_l G) e R s m args below meth c H locs kc ks Q (F0 m pc ls st0) := by
  have hA : ∀ q, am_A G H.size q → am_A G s.heap.size q := fun q h => by
    rcases h with h | h
    · exact Or.inl h
    · exact Or.inr (Nat.le_trans hS.1 h)
  intro T hT X
  obtain ⟨v, st₀, t, T', L, h0, X', hL, e1, e2, ⟨⟨r, M1, hv, hp, hb⟩, hz, hk⟩, st⟩ := hr T hT X
  cases hv
  rw [h0] at hz hk
  obtain ⟨t2, a1, b1⟩ := kk r M1 T'.heap (locs ++ L) hp (by rw [e1]; exact hb)
    ⟨Nat.le_trans hS.1 (by rw [e1]; exact hz), fun q h1 h2 => by rw [e1, hk q (Nat.lt_of_lt_of_le h1 hS.1) (fun z => h2 (hA q z))]; exact hS.2.1 q h1 h2, fun q hq => by
      rcases List.mem_append.mp hq with h | h
      · exact hS.2.2 q h
      · exact hA _ (hL q h)⟩ T' rfl X'
  exact ⟨t2, st t2 a1, b1⟩
theorem am_push_eq (ad : Nat → Nat) (r : Option Value) (S : List Value) : (r.map (am_v ad)).toList ++ S.map (am_v ad) = (am_push r S).map (am_v ad) := by cases r <;> rfl
def am_Sp (G : aG) (Y : aY) (d : Nat) (sp : aS) : Prop := ∀ (As : List Value) (M : aM) (K : aR), sp As M K → am_Met G Y d As M K
theorem am_good (Z : aY) (hc : Cond.code Z.1 Z.2.1 Z.2.2.1 Z.2.2.2 ∈ TB) : GoodIn TB (am_wd Z) := by
  intro w hw
  rcases List.mem_cons.mp hw with rfl | hw
  · exact ⟨hc, TB_good _ hc⟩
  · exact ⟨hw, TB_good _ hw⟩
/-- the room of a call -/
def am_rm (R : Room) (d n kc ks : Nat) : Prop := d + 1 ≤ R.frames ∧ 8 + (n + 11) + 40 * d ≤ R.locals ∧ kc ≤ R.cells ∧ ks ≤ R.slots
theorem am_vn (C : am_C G Y p s m args meth c) {Z : aY} {d ci ix n a : Nat} {Cn host : String} {T : u_T} {N : Nat} {As S st0 : List Value} {M : aM} {K1 : aR} (hM : am_Met G Z d (.ref a :: As) M K1) (hkd : am_kd a ci = true) (hcl : CL[ci]? = some (Cn, T, N))
    (hcode : Cond.code Z.1 Z.2.1 Z.2.2.1 Z.2.2.2 ∈ TB) (hini : Cond.initialized Z.1.cls ∈ TB) (hinst : Cond.instanceMethod Z.1 ∈ TB) (hsel : Cond.selects Cn Z.1 Z.1 ∈ TB) (hlink : Cond.methodLinkNest Y.1.cls ix Z.1 host ∈ NWs)
    (hy : Z.1.cls ≠ "java/lang/invoke/MethodHandle" ∧ Z.1.cls ≠ "java/lang/invoke/VarHandle" ∧ (parseMethodDescriptor Z.1.desc).map (fun d => d.parameters.length) = some n) (hR : am_rm R d Z.2.2.1 kc ks) (hn : As.length = n) (hst : st0 = As.reverse ++ .ref a :: S) (hf : am_few S) (hd : decode Y.2.1 pc = .ok (.invokevirtual ix, 3))
    {H : Heap} {locs : List Loc} {ls : Array Slot} {L : aL} (hP : va_P (g_D G) CL (am_W G M) H) (hS : va_S (am_A G s.heap.size) s.heap H locs) (hl : am_lv ls Y.2.2.1 (g_a G) L)
    (kk : ∀ r M1, K1 r M1 → am_J G Y p e R s m args below meth c Q kc ks (pc + 3) L (am_push r S) M1) : W p (g_l G) e R s m args below meth c H locs kc ks Q (F0 m pc ls (st0.map (am_v (g_a G)))) := by
  have C0 := C
  obtain ⟨hG, hx, hb, hml, hr, hown, hts, hlk, hT, hE, hB⟩ := C
  obtain ⟨fs, hfs⟩ := am_kd_of hkd
  refine am_call (va_runVN (As := As.map (am_v (g_a G))) (rest := S.map (am_v (g_a G))) (b := g_a G a) (C := Cn) ⟨hx, hb, hml, hown, hts⟩ (hM H.size) ⟨va_cnB n hts (am_good Z hcode) rfl rfl rfl (hT.2.1 _ hlink).2 (hts _ hini) hy ⟨hR.1, hR.2.1⟩, hts _ hinst, hts _ hsel⟩ ⟨fun a U g mk q => ⟨q.1, q.2.calling⟩, va_recv hT.1 hP hcl (am_W_get hfs), fun U hU hW => ⟨rfl, am_pre C0 hP hS hU hW⟩⟩ rfl (by simpa using hn) hl.1 (by rw [hst]; simp [am_v]) (lv_room (am_few_sum (g_a G) hf)) hd ⟨hR.2.2.1, hR.2.2.2⟩) hS (fun r M1 H1 locs1 h1 h2 h3 => ?_)
  rw [am_push_eq]
  exact kk r M1 h1 H1 locs1 ls h2 h3 hl
theorem am_vo (C : am_C G Y p s m args meth c) {Z : aY} {d ci ix n a : Nat} {Cn : String} {T : u_T} {N : Nat} {As S st0 : List Value} {M : aM} {K1 : aR} (hM : am_Met G Z d (.ref a :: As) M K1) (hkd : am_kd a ci = true) (hcl : CL[ci]? = some (Cn, T, N))
    (hcode : Cond.code Z.1 Z.2.1 Z.2.2.1 Z.2.2.2 ∈ TB) (hini : Cond.initialized Z.1.cls ∈ TB) (hinst : Cond.instanceMethod Z.1 ∈ TB) (hsel : Cond.selects Cn Z.1 Z.1 ∈ TB) (hlink : Cond.methodLink Y.1.cls ix Z.1 ∈ TB)
    (hy : Z.1.cls ≠ "java/lang/invoke/MethodHandle" ∧ Z.1.cls ≠ "java/lang/invoke/VarHandle" ∧ (parseMethodDescriptor Z.1.desc).map (fun d => d.parameters.length) = some n) (hR : am_rm R d Z.2.2.1 kc ks) (hn : As.length = n) (hst : st0 = As.reverse ++ .ref a :: S) (hf : am_few S) (hd : decode Y.2.1 pc = .ok (.invokevirtual ix, 3))
    {H : Heap} {locs : List Loc} {ls : Array Slot} {L : aL} (hP : va_P (g_D G) CL (am_W G M) H) (hS : va_S (am_A G s.heap.size) s.heap H locs) (hl : am_lv ls Y.2.2.1 (g_a G) L)
    (kk : ∀ r M1, K1 r M1 → am_J G Y p e R s m args below meth c Q kc ks (pc + 3) L (am_push r S) M1) : W p (g_l G) e R s m args below meth c H locs kc ks Q (F0 m pc ls (st0.map (am_v (g_a G)))) := by
  have C0 := C
  obtain ⟨hG, hx, hb, hml, hr, hown, hts, hlk, hT, hE, hB⟩ := C
  obtain ⟨fs, hfs⟩ := am_kd_of hkd
  refine am_call (va_runV (As := As.map (am_v (g_a G))) (rest := S.map (am_v (g_a G))) (b := g_a G a) (C := Cn) ⟨hx, hb, hml, hown, hts⟩ (hM H.size) ⟨callB_of n hts (am_good Z hcode) rfl rfl rfl (hts _ hini) (hts _ hlink) hy ⟨hR.1, hR.2.1⟩, hts _ hinst, hts _ hsel⟩ ⟨fun a U g mk q => ⟨q.1, q.2.calling⟩, va_recv hT.1 hP hcl (am_W_get hfs), fun U hU hW => ⟨rfl, am_pre C0 hP hS hU hW⟩⟩ rfl (by simpa using hn) hl.1 (by rw [hst]; simp [am_v]) (lv_room (am_few_sum (g_a G) hf)) hd ⟨hR.2.2.1, hR.2.2.2⟩) hS (fun r M1 H1 locs1 h1 h2 h3 => ?_)
  rw [am_push_eq]
  exact kk r M1 h1 H1 locs1 ls h2 h3 hl
theorem am_so (C : am_C G Y p s m args meth c) {Z : aY} {d ix n : Nat} {As S st0 : List Value} {M : aM} {K1 : aR} (hM : am_Met G Z d As M K1)
    (hcode : Cond.code Z.1 Z.2.1 Z.2.2.1 Z.2.2.2 ∈ TB) (hini : Cond.initialized Z.1.cls ∈ TB) (hstat : Cond.static Z.1 ∈ TB) (hlink : Cond.methodLink Y.1.cls ix Z.1 ∈ TB)
    (hy : Z.1.cls ≠ "java/lang/invoke/MethodHandle" ∧ Z.1.cls ≠ "java/lang/invoke/VarHandle" ∧ (parseMethodDescriptor Z.1.desc).map (fun d => d.parameters.length) = some n) (hR : am_rm R d Z.2.2.1 kc ks) (hn : As.length = n) (hst : st0 = As.reverse ++ S) (hf : am_few S) (hd : decode Y.2.1 pc = .ok (.invokestatic ix, 3))
    {H : Heap} {locs : List Loc} {ls : Array Slot} {L : aL} (hP : va_P (g_D G) CL (am_W G M) H) (hS : va_S (am_A G s.heap.size) s.heap H locs) (hl : am_lv ls Y.2.2.1 (g_a G) L)
    (kk : ∀ r M1, K1 r M1 → am_J G Y p e R s m args below meth c Q kc ks (pc + 3) L (am_push r S) M1) : W p (g_l G) e R s m args below meth c H locs kc ks Q (F0 m pc ls (st0.map (am_v (g_a G)))) := by
  have C0 := C
  obtain ⟨hG, hx, hb, hml, hr, hown, hts, hlk, hT, hE, hB⟩ := C
  refine am_call (va_runS (As := As.map (am_v (g_a G))) (rest := S.map (am_v (g_a G))) ⟨hx, hb, hml, hown, hts⟩ (hM H.size) ⟨callB_of n hts (am_good Z hcode) rfl rfl rfl (hts _ hini) (hts _ hlink) hy ⟨hR.1, hR.2.1⟩, hts _ hstat⟩ ⟨fun a U g mk q => ⟨q.1, q.2.calling⟩, fun U hU hW => ⟨rfl, am_pre C0 hP hS hU hW⟩⟩ rfl (by simpa using hn) hl.1 (by rw [hst]; simp) (lv_room (am_few_sum (g_a G) hf)) hd ⟨hR.2.2.1, hR.2.2.2⟩) hS (fun r M1 H1 locs1 h1 h2 h3 => ?_)
  rw [am_push_eq]
  exact kk r M1 h1 H1 locs1 ls h2 h3 hl
theorem as_callv1N (C : am_C G Y p s m args meth c) {Z : aY} {d ci ix : Nat} {Cn host : String} {T : u_T} {N : Nat} {sp : aS} (hsp : am_Sp G Z d sp) (hcl : CL[ci]? = some (Cn, T, N)) (hcode : Cond.code Z.1 Z.2.1 Z.2.2.1 Z.2.2.2 ∈ TB) (hini : Cond.initialized Z.1.cls ∈ TB) (hinst : Cond.instanceMethod Z.1 ∈ TB) (hsel : Cond.selects Cn Z.1 Z.1 ∈ TB) (hlink : Cond.methodLinkNest Y.1.cls ix Z.1 host ∈ NWs) (hy : Z.1.cls ≠ "java/lang/invoke/MethodHandle" ∧ Z.1.cls ≠ "java/lang/invoke/VarHandle" ∧ (parseMethodDescriptor Z.1.desc).map (fun d => d.parameters.length) = some 0) (hR : am_rm R d Z.2.2.1 kc ks) (hd : decode Y.2.1 pc = .ok (.invokevirtual ix, 3)) (hn : nx = pc + 3) : am_S (am_J G Y p e R s m args below meth c Q kc ks) K pc (ai_callv1 ci sp nx) := by
  subst hn
  intro j hj L S M h H locs ls hP hS hl
  unfold ai_callv1 at h
  split at h
  · obtain ⟨h1, h2, h3⟩ := h
    exact am_vn C (As := []) (hsp _ _ _ h3) h1 hcl hcode hini hinst hsel hlink hy hR rfl rfl h2 hd hP hS hl (fun r M1 q => hj _ _ _ _ q)
  · cases h
theorem as_callv1 (C : am_C G Y p s m args meth c) {Z : aY} {d ci ix : Nat} {Cn : String} {T : u_T} {N : Nat} {sp : aS} (hsp : am_Sp G Z d sp) (hcl : CL[ci]? = some (Cn, T, N)) (hcode : Cond.code Z.1 Z.2.1 Z.2.2.1 Z.2.2.2 ∈ TB) (hini : Cond.initialized Z.1.cls ∈ TB) (hinst : Cond.instanceMethod Z.1 ∈ TB) (hsel : Cond.selects Cn Z.1 Z.1 ∈ TB) (hlink : Cond.methodLink Y.1.cls ix Z.1 ∈ TB) (hy : Z.1.cls ≠ "java/lang/invoke/MethodHandle" ∧ Z.1.cls ≠ "java/lang/invoke/VarHandle" ∧ (parseMethodDescriptor Z.1.desc).map (fun d => d.parameters.length) = some 0) (hR : am_rm R d Z.2.2.1 kc ks) (hd : decode Y.2.1 pc = .ok (.invokevirtual ix, 3)) (hn : nx = pc + 3) : am_S (am_J G Y p e R s m args below meth c Q kc ks) K pc (ai_callv1 ci sp nx) := by
  subst hn
  intro j hj L S M h H locs ls hP hS hl
  unfold ai_callv1 at h
  split at h
  · obtain ⟨h1, h2, h3⟩ := h
    exact am_vo C (As := []) (hsp _ _ _ h3) h1 hcl hcode hini hinst hsel hlink hy hR rfl rfl h2 hd hP hS hl (fun r M1 q => hj _ _ _ _ q)
  · cases h
theorem as_callv2N (C : am_C G Y p s m args meth c) {Z : aY} {d ci ix : Nat} {Cn host : String} {T : u_T} {N : Nat} {sp : aS} (hsp : am_Sp G Z d sp) (hcl : CL[ci]? = some (Cn, T, N)) (hcode : Cond.code Z.1 Z.2.1 Z.2.2.1 Z.2.2.2 ∈ TB) (hini : Cond.initialized Z.1.cls ∈ TB) (hinst : Cond.instanceMethod Z.1 ∈ TB) (hsel : Cond.selects Cn Z.1 Z.1 ∈ TB) (hlink : Cond.methodLinkNest Y.1.cls ix Z.1 host ∈ NWs) (hy : Z.1.cls ≠ "java/lang/invoke/MethodHandle" ∧ Z.1.cls ≠ "java/lang/invoke/VarHandle" ∧ (parseMethodDescriptor Z.1.desc).map (fun d => d.parameters.length) = some 1) (hR : am_rm R d Z.2.2.1 kc ks) (hd : decode Y.2.1 pc = .ok (.invokevirtual ix, 3)) (hn : nx = pc + 3) : am_S (am_J G Y p e R s m args below meth c Q kc ks) K pc (ai_callv2 ci sp nx) := by
  subst hn
  intro j hj L S M h H locs ls hP hS hl
  unfold ai_callv2 at h
  split at h
  · obtain ⟨h1, h2, h3⟩ := h
    exact am_vn C (As := [_]) (hsp _ _ _ h3) h1 hcl hcode hini hinst hsel hlink hy hR rfl rfl h2 hd hP hS hl (fun r M1 q => hj _ _ _ _ q)
  · cases h
theorem as_callv2 (C : am_C G Y p s m args meth c) {Z : aY} {d ci ix : Nat} {Cn : String} {T : u_T} {N : Nat} {sp : aS} (hsp : am_Sp G Z d sp) (hcl : CL[ci]? = some (Cn, T, N)) (hcode : Cond.code Z.1 Z.2.1 Z.2.2.1 Z.2.2.2 ∈ TB) (hini : Cond.initialized Z.1.cls ∈ TB) (hinst : Cond.instanceMethod Z.1 ∈ TB) (hsel : Cond.selects Cn Z.1 Z.1 ∈ TB) (hlink : Cond.methodLink Y.1.cls ix Z.1 ∈ TB) (hy : Z.1.cls ≠ "java/lang/invoke/MethodHandle" ∧ Z.1.cls ≠ "java/lang/invoke/VarHandle" ∧ (parseMethodDescriptor Z.1.desc).map (fun d => d.parameters.length) = some 1) (hR : am_rm R d Z.2.2.1 kc ks) (hd : decode Y.2.1 pc = .ok (.invokevirtual ix, 3)) (hn : nx = pc + 3) : am_S (am_J G Y p e R s m args below meth c Q kc ks) K pc (ai_callv2 ci sp nx) := by
  subst hn
  intro j hj L S M h H locs ls hP hS hl
  unfold ai_callv2 at h
  split at h
  · obtain ⟨h1, h2, h3⟩ := h
    exact am_vo C (As := [_]) (hsp _ _ _ h3) h1 hcl hcode hini hinst hsel hlink hy hR rfl rfl h2 hd hP hS hl (fun r M1 q => hj _ _ _ _ q)
  · cases h
theorem as_callv3N (C : am_C G Y p s m args meth c) {Z : aY} {d ci ix : Nat} {Cn host : String} {T : u_T} {N : Nat} {sp : aS} (hsp : am_Sp G Z d sp) (hcl : CL[ci]? = some (Cn, T, N)) (hcode : Cond.code Z.1 Z.2.1 Z.2.2.1 Z.2.2.2 ∈ TB) (hini : Cond.initialized Z.1.cls ∈ TB) (hinst : Cond.instanceMethod Z.1 ∈ TB) (hsel : Cond.selects Cn Z.1 Z.1 ∈ TB) (hlink : Cond.methodLinkNest Y.1.cls ix Z.1 host ∈ NWs) (hy : Z.1.cls ≠ "java/lang/invoke/MethodHandle" ∧ Z.1.cls ≠ "java/lang/invoke/VarHandle" ∧ (parseMethodDescriptor Z.1.desc).map (fun d => d.parameters.length) = some 2) (hR : am_rm R d Z.2.2.1 kc ks) (hd : decode Y.2.1 pc = .ok (.invokevirtual ix, 3)) (hn : nx = pc + 3) : am_S (am_J G Y p e R s m args below meth c Q kc ks) K pc (ai_callv3 ci sp nx) := by
  subst hn
  intro j hj L S M h H locs ls hP hS hl
  unfold ai_callv3 at h
  split at h
  · obtain ⟨h1, h2, h3⟩ := h
    exact am_vn C (As := [_, _]) (hsp _ _ _ h3) h1 hcl hcode hini hinst hsel hlink hy hR rfl rfl h2 hd hP hS hl (fun r M1 q => hj _ _ _ _ q)
  · cases h
theorem as_callv3 (C : am_C G Y p s m args meth c) {Z : aY} {d ci ix : Nat} {Cn : String} {T : u_T} {N : Nat} {sp : aS} (hsp : am_Sp G Z d sp) (hcl : CL[ci]? = some (Cn, T, N)) (hcode : Cond.code Z.1 Z.2.1 Z.2.2.1 Z.2.2.2 ∈ TB) (hini : Cond.initialized Z.1.cls ∈ TB) (hinst : Cond.instanceMethod Z.1 ∈ TB) (hsel : Cond.selects Cn Z.1 Z.1 ∈ TB) (hlink : Cond.methodLink Y.1.cls ix Z.1 ∈ TB) (hy : Z.1.cls ≠ "java/lang/invoke/MethodHandle" ∧ Z.1.cls ≠ "java/lang/invoke/VarHandle" ∧ (parseMethodDescriptor Z.1.desc).map (fun d => d.parameters.length) = some 2) (hR : am_rm R d Z.2.2.1 kc ks) (hd : decode Y.2.1 pc = .ok (.invokevirtual ix, 3)) (hn : nx = pc + 3) : am_S (am_J G Y p e R s m args below meth c Q kc ks) K pc (ai_callv3 ci sp nx) := by
  subst hn
  intro j hj L S M h H locs ls hP hS hl
  unfold ai_callv3 at h
  split at h
  · obtain ⟨h1, h2, h3⟩ := h
    exact am_vo C (As := [_, _]) (hsp _ _ _ h3) h1 hcl hcode hini hinst hsel hlink hy hR rfl rfl h2 hd hP hS hl (fun r M1 q => hj _ _ _ _ q)
  · cases h
theorem as_callv4N (C : am_C G Y p s m args meth c) {Z : aY} {d ci ix : Nat} {Cn host : String} {T : u_T} {N : Nat} {sp : aS} (hsp : am_Sp G Z d sp) (hcl : CL[ci]? = some (Cn, T, N)) (hcode : Cond.code Z.1 Z.2.1 Z.2.2.1 Z.2.2.2 ∈ TB) (hini : Cond.initialized Z.1.cls ∈ TB) (hinst : Cond.instanceMethod Z.1 ∈ TB) (hsel : Cond.selects Cn Z.1 Z.1 ∈ TB) (hlink : Cond.methodLinkNest Y.1.cls ix Z.1 host ∈ NWs) (hy : Z.1.cls ≠ "java/lang/invoke/MethodHandle" ∧ Z.1.cls ≠ "java/lang/invoke/VarHandle" ∧ (parseMethodDescriptor Z.1.desc).map (fun d => d.parameters.length) = some 3) (hR : am_rm R d Z.2.2.1 kc ks) (hd : decode Y.2.1 pc = .ok (.invokevirtual ix, 3)) (hn : nx = pc + 3) : am_S (am_J G Y p e R s m args below meth c Q kc ks) K pc (ai_callv4 ci sp nx) := by
  subst hn
  intro j hj L S M h H locs ls hP hS hl
  unfold ai_callv4 at h
  split at h
  · obtain ⟨h1, h2, h3⟩ := h
    exact am_vn C (As := [_, _, _]) (hsp _ _ _ h3) h1 hcl hcode hini hinst hsel hlink hy hR rfl rfl h2 hd hP hS hl (fun r M1 q => hj _ _ _ _ q)
  · cases h
theorem as_callv4 (C : am_C G Y p s m args meth c) {Z : aY} {d ci ix : Nat} {Cn : String} {T : u_T} {N : Nat} {sp : aS} (hsp : am_Sp G Z d sp) (hcl : CL[ci]? = some (Cn, T, N)) (hcode : Cond.code Z.1 Z.2.1 Z.2.2.1 Z.2.2.2 ∈ TB) (hini : Cond.initialized Z.1.cls ∈ TB) (hinst : Cond.instanceMethod Z.1 ∈ TB) (hsel : Cond.selects Cn Z.1 Z.1 ∈ TB) (hlink : Cond.methodLink Y.1.cls ix Z.1 ∈ TB) (hy : Z.1.cls ≠ "java/lang/invoke/MethodHandle" ∧ Z.1.cls ≠ "java/lang/invoke/VarHandle" ∧ (parseMethodDescriptor Z.1.desc).map (fun d => d.parameters.length) = some 3) (hR : am_rm R d Z.2.2.1 kc ks) (hd : decode Y.2.1 pc = .ok (.invokevirtual ix, 3)) (hn : nx = pc + 3) : am_S (am_J G Y p e R s m args below meth c Q kc ks) K pc (ai_callv4 ci sp nx) := by
  subst hn
  intro j hj L S M h H locs ls hP hS hl
  unfold ai_callv4 at h
  split at h
  · obtain ⟨h1, h2, h3⟩ := h
    exact am_vo C (As := [_, _, _]) (hsp _ _ _ h3) h1 hcl hcode hini hinst hsel hlink hy hR rfl rfl h2 hd hP hS hl (fun r M1 q => hj _ _ _ _ q)
  · cases h
theorem as_calls1 (C : am_C G Y p s m args meth c) {Z : aY} {d ix : Nat} {sp : aS} (hsp : am_Sp G Z d sp) (hcode : Cond.code Z.1 Z.2.1 Z.2.2.1 Z.2.2.2 ∈ TB) (hini : Cond.initialized Z.1.cls ∈ TB) (hstat : Cond.static Z.1 ∈ TB) (hlink : Cond.methodLink Y.1.cls ix Z.1 ∈ TB) (hy : Z.1.cls ≠ "java/lang/invoke/MethodHandle" ∧ Z.1.cls ≠ "java/lang/invoke/VarHandle" ∧ (parseMethodDescriptor Z.1.desc).map (fun d => d.parameters.length) = some 1) (hR : am_rm R d Z.2.2.1 kc ks) (hd : decode Y.2.1 pc = .ok (.invokestatic ix, 3)) (hn : nx = pc + 3) : am_S (am_J G Y p e R s m args below meth c Q kc ks) K pc (ai_calls1 sp nx) := by
  subst hn
  intro j hj L S M h H locs ls hP hS hl
  unfold ai_calls1 at h
  split at h
  · obtain ⟨h2, h3⟩ := h
    exact am_so C (As := [_]) (hsp _ _ _ h3) hcode hini hstat hlink hy hR rfl rfl h2 hd hP hS hl (fun r M1 q => hj _ _ _ _ q)
  · cases h
theorem as_calls2 (C : am_C G Y p s m args meth c) {Z : aY} {d ix : Nat} {sp : aS} (hsp : am_Sp G Z d sp) (hcode : Cond.code Z.1 Z.2.1 Z.2.2.1 Z.2.2.2 ∈ TB) (hini : Cond.initialized Z.1.cls ∈ TB) (hstat : Cond.static Z.1 ∈ TB) (hlink : Cond.methodLink Y.1.cls ix Z.1 ∈ TB) (hy : Z.1.cls ≠ "java/lang/invoke/MethodHandle" ∧ Z.1.cls ≠ "java/lang/invoke/VarHandle" ∧ (parseMethodDescriptor Z.1.desc).map (fun d => d.parameters.length) = some 2) (hR : am_rm R d Z.2.2.1 kc ks) (hd : decode Y.2.1 pc = .ok (.invokestatic ix, 3)) (hn : nx = pc + 3) : am_S (am_J G Y p e R s m args below meth c Q kc ks) K pc (ai_calls2 sp nx) := by
  subst hn
  intro j hj L S M h H locs ls hP hS hl
  unfold ai_calls2 at h
  split at h
  · obtain ⟨h2, h3⟩ := h
    exact am_so C (As := [_, _]) (hsp _ _ _ h3) hcode hini hstat hlink hy hR rfl rfl h2 hd hP hS hl (fun r M1 q => hj _ _ _ _ q)
  · cases h
theorem as_min (C : am_C G Y p s m args meth c) {ix : Nat} (hlink : Cond.methodLink Y.1.cls ix Lib.Math.min.name ∈ TB) (hstat : Cond.static Lib.Math.min.name ∈ TB) (hini : Cond.initialized "java/lang/Math" ∈ TB) (hcode : Cond.code Lib.Math.min.name Lib.Math.min.code 2 (some .int) ∈ TB) (hR : 1 ≤ R.frames ∧ 21 ≤ R.locals ∧ kc ≤ R.cells ∧ ks ≤ R.slots) (hd : decode Y.2.1 pc = .ok (.invokestatic ix, 3)) (hn : nx = pc + 3) : am_S (am_J G Y p e R s m args below meth c Q kc ks) K pc (ai_min nx) := by
  obtain ⟨hG, hx, hb, hml, hr, hown, hts, hlk, hT, hE, hB⟩ := C
  subst hn
  intro j hj L S M h H locs ls hP hS hl
  unfold ai_min at h
  split at h
  · have hf := am_few_sum (g_a G) h.1
    exact va_mmin hx hb (by rw [hml]; exact hl.1.symm) hown (hts _ hlink) (hts _ hstat) (hts _ hini) (hts _ hcode) hR.1 (by omega) hR.2.2.1 hR.2.2.2 hd (hj _ _ _ _ h.2 H locs ls hP hS hl)
  · cases h
end AMC
/-! the ends of a method -/
section AMR
variable {G : aG} {Y : aY} {p : Program} {e : Env} {R : Room} {s : State} {m : MethodId} {args : Array Value} {below : List Frame} {meth : Method} {c : Code} {K : aR} {pc : Nat}
def am_Z (G : aG) (K : aR) (s : State) (args : Array Value) (below : List Frame) : State → Prop := MQ below (am_Q G K (am_A G s.heap.size)) args s 0 0 (am_A G s.heap.size)
theorem as_iret (C : am_C G Y p s m args meth c) (hy : Y.2.2.2 = some .int) (hd : decode Y.2.1 pc = .ok (.ireturn, 1)) : am_S (am_J G Y p e R s m args below meth c (am_Z G K s args below) 0 0) K pc ai_iret := by
  obtain ⟨hG, hx, hb, hml, hr, hown, hts, hlk, hT, hE, hB⟩ := C
  intro j hj L S M h H locs ls hP hS hl
  unfold ai_iret at h
  split at h
  · next x => exact W.iret (hlocks := hlk) hx hb (hr.trans hy) (fun t ht _ => ⟨⟨some (.int x), M, rfl, h, by rw [ht]; exact hP⟩, hS.F ht⟩) hS.2.2 hd
  · cases h
theorem as_zret (C : am_C G Y p s m args meth c) (hy : Y.2.2.2 = some .boolean) (hd : decode Y.2.1 pc = .ok (.ireturn, 1)) : am_S (am_J G Y p e R s m args below meth c (am_Z G K s args below) 0 0) K pc ai_zret := by
  obtain ⟨hG, hx, hb, hml, hr, hown, hts, hlk, hT, hE, hB⟩ := C
  intro j hj L S M h H locs ls hP hS hl
  unfold ai_zret at h
  split at h
  · next x =>
    refine W.zret (hlocks := hlk) hx hb (hr.trans hy) ?_ (fun t ht _ => ⟨⟨some (.int x), M, rfl, h.2, by rw [ht]; exact hP⟩, hS.F ht⟩) hS.2.2 hd
    rcases h.1 with q | q <;> rw [q] <;> rfl
  · cases h
theorem as_lret (C : am_C G Y p s m args meth c) (hy : Y.2.2.2 = some .long) (hd : decode Y.2.1 pc = .ok (.lreturn, 1)) : am_S (am_J G Y p e R s m args below meth c (am_Z G K s args below) 0 0) K pc ai_lret := by
  obtain ⟨hG, hx, hb, hml, hr, hown, hts, hlk, hT, hE, hB⟩ := C
  intro j hj L S M h H locs ls hP hS hl
  unfold ai_lret at h
  split at h
  · next x => exact W.lret (hlocks := hlk) hx hb (hr.trans hy) (fun t ht _ => ⟨⟨some (.long x), M, rfl, h, by rw [ht]; exact hP⟩, hS.F ht⟩) hS.2.2 hd
  · cases h
theorem as_vret (C : am_C G Y p s m args meth c) (hy : Y.2.2.2 = none) (hd : decode Y.2.1 pc = .ok (.return_, 1)) : am_S (am_J G Y p e R s m args below meth c (am_Z G K s args below) 0 0) K pc ai_vret := by
  obtain ⟨hG, hx, hb, hml, hr, hown, hts, hlk, hT, hE, hB⟩ := C
  intro j hj L S M h H locs ls hP hS hl
  unfold ai_vret at h
  split at h
  · exact W.vret (hlocks := hlk) hx hb (hr.trans hy) (fun t ht _ => ⟨⟨none, M, rfl, h, by rw [ht]; exact hP⟩, hS.F ht⟩) hS.2.2 hd
  · cases h
end AMR
/-! a method as a whole -/
def am_at : List (Nat × aI) → Nat → aI
  | [], _ => ai_bad
  | q :: r, pc => if pc = q.1 then q.2 else am_at r pc
def am_all (P : Nat → aI → Prop) : List (Nat × aI) → Prop
  | [] => True
  | q :: r => P q.1 q.2 ∧ am_all P r
theorem am_all_at {P : Nat → aI → Prop} (hb : ∀ pc, P pc ai_bad) : ∀ (code : List (Nat × aI)) (pc : Nat), am_all P code → P pc (am_at code pc)
  | [], pc, _ => hb pc
  | q :: r, pc, h => by
    simp only [am_at]
    split
    · next e => rw [e]; exact h.1
    · exact am_all_at hb r pc h.2
def am_X (G : aG) (Y : aY) (d : Nat) (K : aR) : aJ := fun pc L S M => ∀ (p : Program) (e : Env) (s : State) (m : MethodId) (args : Array Value) (below : List Frame) (meth : Method) (c : Code), am_C G Y p s m args meth c → am_J G Y p e (am_room d) s m args below meth c (am_Z G K s args below) 0 0 pc L S M
def am_tab (G : aG) (Y : aY) (d : Nat) (code : List (Nat × aI)) : Prop := ∀ (K : aR) (p : Program) (e : Env) (s : State) (m : MethodId) (args : Array Value) (below : List Frame) (meth : Method) (c : Code), am_C G Y p s m args meth c → am_all (fun pc i => am_S (am_J G Y p e (am_room d) s m args below meth c (am_Z G K s args below) 0 0) K pc i) code
def am_run (code : List (Nat × aI)) (cuts : List Nat) (J : aJ) (K : aR) : Nat → aJ
  | 0 => fun _ _ _ _ => False
  | n + 1 => fun pc L S M => if cuts.contains pc = true then J pc L S M else am_at code pc (am_run code cuts J K n) K pc L S M
theorem am_step {G : aG} {Y : aY} {d : Nat} {code : List (Nat × aI)} (hT : am_tab G Y d code) {K : aR} {j : aJ} (hj : ∀ pc L S M, j pc L S M → am_X G Y d K pc L S M) {pc : Nat} {L : aL} {S : List Value} {M : aM} (h : am_at code pc j K pc L S M) : am_X G Y d K pc L S M := by
  intro p e s m args below meth c C
  exact am_all_at (P := fun pc i => am_S (am_J G Y p e (am_room d) s m args below meth c (am_Z G K s args below) 0 0) K pc i) (fun pc j hj L S M h => h.elim) code pc (hT K p e s m args below meth c C) j (fun pc L S M q => hj pc L S M q p e s m args below meth c C) L S M h
theorem am_go {G : aG} {Y : aY} {d : Nat} {code : List (Nat × aI)} (hT : am_tab G Y d code) {K : aR} {cuts : List Nat} : ∀ (n pc : Nat) (L : aL) (S : List Value) (M : aM), am_run code cuts (am_X G Y d K) K n pc L S M → am_X G Y d K pc L S M
  | 0, _, _, _, _, h => h.elim
  | n + 1, pc, L, S, M, h => by
    simp only [am_run] at h
    split at h
    · exact h
    · exact am_step hT (am_go hT n) h
/-- from a cut on -/
theorem am_from {G : aG} {Y : aY} {d : Nat} {code : List (Nat × aI)} (hT : am_tab G Y d code) {K : aR} (cuts : List Nat) (n : Nat) {pc : Nat} {L : aL} {S : List Value} {M : aM} (h : am_at code pc (am_run code cuts (am_X G Y d K) K n) K pc L S M) : am_X G Y d K pc L S M := am_step hT (am_go hT n) h
/-- the locals at the start -/
def am_l0 : Nat → List Value → aL
  | n, [] => List.replicate n none
  | 0, _ :: _ => []
  | n + 1, v :: r => some v :: (if am_c1 v = true then am_l0 n r else none :: am_l0 (n - 1) r)
theorem am_l0_in (ad : Nat → Nat) : ∀ (As : List Value) (n i k : Nat) (v : Value), (am_l0 n As)[k]? = some (some v) → (i + k, am_v ad v) ∈ lv_args i (As.map (am_v ad))
  | [], n, i, k, v, h => by
    simp only [am_l0, List.getElem?_replicate] at h
    split at h
    · cases h
    · cases h
  | a :: r, 0, i, k, v, h => by simp [am_l0] at h
  | a :: r, n + 1, i, k, v, h => by
    simp only [am_l0] at h
    simp only [List.map_cons, lv_args, List.mem_cons]
    cases k with
    | zero =>
      simp at h
      left
      rw [h]; rfl
    | succ k =>
      right
      rw [List.getElem?_cons_succ] at h
      by_cases hc : am_c1 a = true
      · rw [if_pos hc] at h
        rw [if_neg (by rw [am_c1_cat ad hc]; decide), show i + (k + 1) = i + 1 + k by omega]
        exact am_l0_in ad r n (i + 1) k v h
      · rw [if_neg hc] at h
        have h2 : (am_v ad a).category = 2 := by cases a <;> first | rfl | (exact absurd rfl hc)
        rw [if_pos h2]
        cases k with
        | zero => simp at h
        | succ k =>
          rw [List.getElem?_cons_succ] at h
          rw [show i + (k + 1 + 1) = i + 2 + k by omega]
          exact am_l0_in ad r (n - 1) (i + 2) k v h
theorem am_entry {G : aG} {Y : aY} {d : Nat} {K : aR} {As : List Value} {M : aM} (hG : am_ok G) (hy : plainName Y.1.cls = true) (hl : (lg_sl (As.map (am_v (g_a G)))).length ≤ Y.2.2.1) (h : am_X G Y d K 0 (am_l0 Y.2.2.1 As) [] M) : am_Met G Y d As M K := by
  intro sz
  refine Met.ofW (cc := Y.2.1) (maxL := Y.2.2.1) (ret := Y.2.2.2) hy rfl ?_
  intro p e s m args below meth c s₁ B hml hv
  obtain ⟨rfl, hsz, hP, hT, hE, hB⟩ := hv
  subst hsz
  have hts := atoms_spec (ws := am_wd Y) B.pre
  have hown : s.vm.findClass Y.1.cls = some m.cls := findClass_of_methodNamed B.named
  have C : am_C G Y p s m _ meth c := ⟨hG, B.exec, B.bytes, hml, B.returns, hown, fun w hw => hts w (List.mem_cons_of_mem _ hw), B.notSynchronized, hT, hE, hB⟩
  have hl0 := lv_entry (As.map (am_v (g_a G))) (n := Y.2.2.1) hl
  rw [lg_entry_eq]
  exact h p e s m _ below meth c C s.heap [] _ hP va_S.rf ⟨hl0.1, hl0.2.1, fun k v hk => hl0.2.2 _ (by simpa using am_l0_in (g_a G) As Y.2.2.1 0 k v hk)⟩
theorem am_rm_of {d d1 n : Nat} (h : d1 < d) (hn : n ≤ 21) : am_rm (am_room d) d1 n 0 0 := ⟨h, by show 8 + (n + 11) + 40 * d1 ≤ 40 * d; omega, Nat.le_refl 0, Nat.le_refl 0⟩
theorem hm_1000 (G : aG) : (1000, 5, QF) ∈ am_XA G := List.mem_cons_self
theorem hm_1001 (G : aG) : (1001, g_n G, g_x G) ∈ am_XA G := List.mem_cons_of_mem _ List.mem_cons_self
theorem li_10 : ((1 : Int32) = 0) = False := eq_false (by decide)
end
section
/-! printed by wip/gen/gen.py: the methods, the words -/
set_option maxRecDepth 20000 in
theorem w_0 : (Jvm.Cond.selects "DatumDesk$Text" ({ cls := "DatumDesk$Text", name := "append", desc := "(I)V" } : Jvm.MethodName) ({ cls := "DatumDesk$Text", name := "append", desc := "(I)V" } : Jvm.MethodName)) ∈ TB := tb_of 0 rfl rfl
set_option maxRecDepth 20000 in
theorem w_1 : (Jvm.Cond.selects "DatumDesk$Reader" ({ cls := "DatumDesk$Reader", name := "readText", desc := "()V" } : Jvm.MethodName) ({ cls := "DatumDesk$Reader", name := "readText", desc := "()V" } : Jvm.MethodName)) ∈ TB := tb_of 1 rfl rfl
set_option maxRecDepth 20000 in
theorem w_2 : (Jvm.Cond.selects "DatumDesk$Nodes" ({ cls := "DatumDesk$Nodes", name := "clear", desc := "()V" } : Jvm.MethodName) ({ cls := "DatumDesk$Nodes", name := "clear", desc := "()V" } : Jvm.MethodName)) ∈ TB := tb_of 2 rfl rfl
set_option maxRecDepth 20000 in
theorem w_3 : (Jvm.Cond.selects "DatumDesk$Tokens" ({ cls := "DatumDesk$Tokens", name := "scan", desc := "(LDatumDesk$Text;)V" } : Jvm.MethodName) ({ cls := "DatumDesk$Tokens", name := "scan", desc := "(LDatumDesk$Text;)V" } : Jvm.MethodName)) ∈ TB := tb_of 3 rfl rfl
set_option maxRecDepth 20000 in
theorem w_4 : (Jvm.Cond.selects "DatumDesk$Text" ({ cls := "DatumDesk$Text", name := "skipBlanks", desc := "(I)I" } : Jvm.MethodName) ({ cls := "DatumDesk$Text", name := "skipBlanks", desc := "(I)I" } : Jvm.MethodName)) ∈ TB := tb_of 4 rfl rfl
set_option maxRecDepth 20000 in
theorem w_5 : (Jvm.Cond.selects "DatumDesk$Text" ({ cls := "DatumDesk$Text", name := "at", desc := "(I)I" } : Jvm.MethodName) ({ cls := "DatumDesk$Text", name := "at", desc := "(I)I" } : Jvm.MethodName)) ∈ TB := tb_of 5 rfl rfl
set_option maxRecDepth 20000 in
theorem w_6 : (Jvm.Cond.selects "DatumDesk$Text" ({ cls := "DatumDesk$Text", name := "sortAt", desc := "(I)I" } : Jvm.MethodName) ({ cls := "DatumDesk$Text", name := "sortAt", desc := "(I)I" } : Jvm.MethodName)) ∈ TB := tb_of 6 rfl rfl
set_option maxRecDepth 20000 in
theorem w_7 : (Jvm.Cond.selects "DatumDesk$Text" ({ cls := "DatumDesk$Text", name := "tokenEnd", desc := "(II)I" } : Jvm.MethodName) ({ cls := "DatumDesk$Text", name := "tokenEnd", desc := "(II)I" } : Jvm.MethodName)) ∈ TB := tb_of 7 rfl rfl
set_option maxRecDepth 20000 in
theorem w_8 : (Jvm.Cond.selects "DatumDesk$Text" ({ cls := "DatumDesk$Text", name := "numberEnd", desc := "(I)I" } : Jvm.MethodName) ({ cls := "DatumDesk$Text", name := "numberEnd", desc := "(I)I" } : Jvm.MethodName)) ∈ TB := tb_of 8 rfl rfl
set_option maxRecDepth 20000 in
theorem w_9 : (Jvm.Cond.selects "DatumDesk$Text" ({ cls := "DatumDesk$Text", name := "wordEnd", desc := "(I)I" } : Jvm.MethodName) ({ cls := "DatumDesk$Text", name := "wordEnd", desc := "(I)I" } : Jvm.MethodName)) ∈ TB := tb_of 9 rfl rfl
set_option maxRecDepth 20000 in
theorem w_10 : (Jvm.Cond.selects "DatumDesk$Text" ({ cls := "DatumDesk$Text", name := "nameEnd", desc := "(I)I" } : Jvm.MethodName) ({ cls := "DatumDesk$Text", name := "nameEnd", desc := "(I)I" } : Jvm.MethodName)) ∈ TB := tb_of 10 rfl rfl
set_option maxRecDepth 20000 in
theorem w_11 : (Jvm.Cond.selects "DatumDesk$Text" ({ cls := "DatumDesk$Text", name := "stringEnd", desc := "(I)I" } : Jvm.MethodName) ({ cls := "DatumDesk$Text", name := "stringEnd", desc := "(I)I" } : Jvm.MethodName)) ∈ TB := tb_of 11 rfl rfl
set_option maxRecDepth 20000 in
theorem w_12 : (Jvm.Cond.selects "DatumDesk$Tokens" ({ cls := "DatumDesk$Tokens", name := "sortOf", desc := "(I)I" } : Jvm.MethodName) ({ cls := "DatumDesk$Tokens", name := "sortOf", desc := "(I)I" } : Jvm.MethodName)) ∈ TB := tb_of 12 rfl rfl
set_option maxRecDepth 20000 in
theorem w_13 : (Jvm.Cond.selects "DatumDesk$Reader" ({ cls := "DatumDesk$Reader", name := "readDatum", desc := "(I)I" } : Jvm.MethodName) ({ cls := "DatumDesk$Reader", name := "readDatum", desc := "(I)I" } : Jvm.MethodName)) ∈ TB := tb_of 13 rfl rfl
set_option maxRecDepth 20000 in
theorem w_14 : (Jvm.Cond.selects "DatumDesk$Reader" ({ cls := "DatumDesk$Reader", name := "readNumber", desc := "()I" } : Jvm.MethodName) ({ cls := "DatumDesk$Reader", name := "readNumber", desc := "()I" } : Jvm.MethodName)) ∈ TB := tb_of 14 rfl rfl
set_option maxRecDepth 20000 in
theorem w_15 : (Jvm.Cond.selects "DatumDesk$Tokens" ({ cls := "DatumDesk$Tokens", name := "endOf", desc := "(I)I" } : Jvm.MethodName) ({ cls := "DatumDesk$Tokens", name := "endOf", desc := "(I)I" } : Jvm.MethodName)) ∈ TB := tb_of 15 rfl rfl
set_option maxRecDepth 20000 in
theorem w_16 : (Jvm.Cond.selects "DatumDesk$Tokens" ({ cls := "DatumDesk$Tokens", name := "startOf", desc := "(I)I" } : Jvm.MethodName) ({ cls := "DatumDesk$Tokens", name := "startOf", desc := "(I)I" } : Jvm.MethodName)) ∈ TB := tb_of 16 rfl rfl
set_option maxRecDepth 20000 in
theorem w_17 : (Jvm.Cond.selects "DatumDesk$Reader" ({ cls := "DatumDesk$Reader", name := "add", desc := "(I)I" } : Jvm.MethodName) ({ cls := "DatumDesk$Reader", name := "add", desc := "(I)I" } : Jvm.MethodName)) ∈ TB := tb_of 17 rfl rfl
set_option maxRecDepth 20000 in
theorem w_18 : (Jvm.Cond.selects "DatumDesk$Nodes" ({ cls := "DatumDesk$Nodes", name := "add", desc := "(I)I" } : Jvm.MethodName) ({ cls := "DatumDesk$Nodes", name := "add", desc := "(I)I" } : Jvm.MethodName)) ∈ TB := tb_of 18 rfl rfl
set_option maxRecDepth 20000 in
theorem w_19 : (Jvm.Cond.selects "DatumDesk$Reader" ({ cls := "DatumDesk$Reader", name := "fault", desc := "()I" } : Jvm.MethodName) ({ cls := "DatumDesk$Reader", name := "fault", desc := "()I" } : Jvm.MethodName)) ∈ TB := tb_of 19 rfl rfl
set_option maxRecDepth 20000 in
theorem w_20 : (Jvm.Cond.selects "DatumDesk$Nodes" ({ cls := "DatumDesk$Nodes", name := "setAmount", desc := "(II)V" } : Jvm.MethodName) ({ cls := "DatumDesk$Nodes", name := "setAmount", desc := "(II)V" } : Jvm.MethodName)) ∈ TB := tb_of 20 rfl rfl
set_option maxRecDepth 20000 in
theorem w_21 : (Jvm.Cond.selects "DatumDesk$Nodes" ({ cls := "DatumDesk$Nodes", name := "has", desc := "(I)Z" } : Jvm.MethodName) ({ cls := "DatumDesk$Nodes", name := "has", desc := "(I)Z" } : Jvm.MethodName)) ∈ TB := tb_of 21 rfl rfl
set_option maxRecDepth 20000 in
theorem w_22 : (Jvm.Cond.selects "DatumDesk$Reader" ({ cls := "DatumDesk$Reader", name := "readName", desc := "()I" } : Jvm.MethodName) ({ cls := "DatumDesk$Reader", name := "readName", desc := "()I" } : Jvm.MethodName)) ∈ TB := tb_of 22 rfl rfl
set_option maxRecDepth 20000 in
theorem w_23 : (Jvm.Cond.selects "DatumDesk$Nodes" ({ cls := "DatumDesk$Nodes", name := "addLetter", desc := "(II)V" } : Jvm.MethodName) ({ cls := "DatumDesk$Nodes", name := "addLetter", desc := "(II)V" } : Jvm.MethodName)) ∈ TB := tb_of 23 rfl rfl
set_option maxRecDepth 20000 in
theorem w_24 : (Jvm.Cond.selects "DatumDesk$Reader" ({ cls := "DatumDesk$Reader", name := "readString", desc := "()I" } : Jvm.MethodName) ({ cls := "DatumDesk$Reader", name := "readString", desc := "()I" } : Jvm.MethodName)) ∈ TB := tb_of 24 rfl rfl
set_option maxRecDepth 20000 in
theorem w_25 : (Jvm.Cond.selects "DatumDesk$Reader" ({ cls := "DatumDesk$Reader", name := "readQuoted", desc := "(I)I" } : Jvm.MethodName) ({ cls := "DatumDesk$Reader", name := "readQuoted", desc := "(I)I" } : Jvm.MethodName)) ∈ TB := tb_of 25 rfl rfl
set_option maxRecDepth 20000 in
theorem w_26 : (Jvm.Cond.selects "DatumDesk$Nodes" ({ cls := "DatumDesk$Nodes", name := "nameQuote", desc := "(I)V" } : Jvm.MethodName) ({ cls := "DatumDesk$Nodes", name := "nameQuote", desc := "(I)V" } : Jvm.MethodName)) ∈ TB := tb_of 26 rfl rfl
set_option maxRecDepth 20000 in
theorem w_27 : (Jvm.Cond.selects "DatumDesk$Nodes" ({ cls := "DatumDesk$Nodes", name := "setHead", desc := "(II)V" } : Jvm.MethodName) ({ cls := "DatumDesk$Nodes", name := "setHead", desc := "(II)V" } : Jvm.MethodName)) ∈ TB := tb_of 27 rfl rfl
set_option maxRecDepth 20000 in
theorem w_28 : (Jvm.Cond.selects "DatumDesk$Nodes" ({ cls := "DatumDesk$Nodes", name := "setTail", desc := "(II)V" } : Jvm.MethodName) ({ cls := "DatumDesk$Nodes", name := "setTail", desc := "(II)V" } : Jvm.MethodName)) ∈ TB := tb_of 28 rfl rfl
set_option maxRecDepth 20000 in
theorem w_29 : (Jvm.Cond.selects "DatumDesk$Reader" ({ cls := "DatumDesk$Reader", name := "readList", desc := "(I)I" } : Jvm.MethodName) ({ cls := "DatumDesk$Reader", name := "readList", desc := "(I)I" } : Jvm.MethodName)) ∈ TB := tb_of 29 rfl rfl
set_option maxRecDepth 20000 in
theorem w_30 : (Jvm.Cond.selects "DatumDesk$Reader" ({ cls := "DatumDesk$Reader", name := "readDotted", desc := "(I)I" } : Jvm.MethodName) ({ cls := "DatumDesk$Reader", name := "readDotted", desc := "(I)I" } : Jvm.MethodName)) ∈ TB := tb_of 30 rfl rfl
set_option maxRecDepth 20000 in
theorem w_31 : (Jvm.Cond.selects "DatumDesk$Nodes" ({ cls := "DatumDesk$Nodes", name := "addDatum", desc := "(I)V" } : Jvm.MethodName) ({ cls := "DatumDesk$Nodes", name := "addDatum", desc := "(I)V" } : Jvm.MethodName)) ∈ TB := tb_of 31 rfl rfl
set_option maxRecDepth 20000 in
theorem w_32 : (Jvm.Cond.selects "DatumDesk$Nodes" ({ cls := "DatumDesk$Nodes", name := "datumNode", desc := "(I)I" } : Jvm.MethodName) ({ cls := "DatumDesk$Nodes", name := "datumNode", desc := "(I)I" } : Jvm.MethodName)) ∈ TB := tb_of 32 rfl rfl
set_option maxRecDepth 20000 in
theorem w_33 : (Jvm.Cond.selects "DatumDesk$Nodes" ({ cls := "DatumDesk$Nodes", name := "kindOf", desc := "(I)I" } : Jvm.MethodName) ({ cls := "DatumDesk$Nodes", name := "kindOf", desc := "(I)I" } : Jvm.MethodName)) ∈ TB := tb_of 33 rfl rfl
set_option maxRecDepth 20000 in
theorem w_34 : (Jvm.Cond.selects "DatumDesk$Nodes" ({ cls := "DatumDesk$Nodes", name := "amountOf", desc := "(I)I" } : Jvm.MethodName) ({ cls := "DatumDesk$Nodes", name := "amountOf", desc := "(I)I" } : Jvm.MethodName)) ∈ TB := tb_of 34 rfl rfl
set_option maxRecDepth 20000 in
theorem w_35 : (Jvm.Cond.selects "DatumDesk$Nodes" ({ cls := "DatumDesk$Nodes", name := "byteOf", desc := "(II)I" } : Jvm.MethodName) ({ cls := "DatumDesk$Nodes", name := "byteOf", desc := "(II)I" } : Jvm.MethodName)) ∈ TB := tb_of 35 rfl rfl
set_option maxRecDepth 20000 in
theorem w_36 : (Jvm.Cond.selects "DatumDesk$Nodes" ({ cls := "DatumDesk$Nodes", name := "isOf", desc := "(II)Z" } : Jvm.MethodName) ({ cls := "DatumDesk$Nodes", name := "isOf", desc := "(II)Z" } : Jvm.MethodName)) ∈ TB := tb_of 36 rfl rfl
set_option maxRecDepth 20000 in
theorem w_37 : (Jvm.Cond.selects "DatumDesk$Nodes" ({ cls := "DatumDesk$Nodes", name := "headOf", desc := "(I)I" } : Jvm.MethodName) ({ cls := "DatumDesk$Nodes", name := "headOf", desc := "(I)I" } : Jvm.MethodName)) ∈ TB := tb_of 37 rfl rfl
set_option maxRecDepth 20000 in
theorem w_38 : (Jvm.Cond.selects "DatumDesk$Nodes" ({ cls := "DatumDesk$Nodes", name := "tailOf", desc := "(I)I" } : Jvm.MethodName) ({ cls := "DatumDesk$Nodes", name := "tailOf", desc := "(I)I" } : Jvm.MethodName)) ∈ TB := tb_of 38 rfl rfl
set_option maxRecDepth 20000 in
theorem w_39 : (Jvm.Cond.selects "DatumDesk$Nodes" ({ cls := "DatumDesk$Nodes", name := "alike", desc := "(III)Z" } : Jvm.MethodName) ({ cls := "DatumDesk$Nodes", name := "alike", desc := "(III)Z" } : Jvm.MethodName)) ∈ TB := tb_of 39 rfl rfl
set_option maxRecDepth 20000 in
theorem w_40 : (Jvm.Cond.selects "DatumDesk$Nodes" ({ cls := "DatumDesk$Nodes", name := "sameContent", desc := "(II)Z" } : Jvm.MethodName) ({ cls := "DatumDesk$Nodes", name := "sameContent", desc := "(II)Z" } : Jvm.MethodName)) ∈ TB := tb_of 40 rfl rfl
set_option maxRecDepth 20000 in
theorem w_41 : (Jvm.Cond.selects "DatumDesk$Writer" ({ cls := "DatumDesk$Writer", name := "writeNode", desc := "(II)V" } : Jvm.MethodName) ({ cls := "DatumDesk$Writer", name := "writeNode", desc := "(II)V" } : Jvm.MethodName)) ∈ TB := tb_of 41 rfl rfl
set_option maxRecDepth 20000 in
theorem w_42 : (Jvm.Cond.selects "DatumDesk$Writer" ({ cls := "DatumDesk$Writer", name := "writeNumber", desc := "(I)V" } : Jvm.MethodName) ({ cls := "DatumDesk$Writer", name := "writeNumber", desc := "(I)V" } : Jvm.MethodName)) ∈ TB := tb_of 42 rfl rfl
set_option maxRecDepth 20000 in
theorem w_43 : (Jvm.Cond.selects "DatumDesk$Waiting" ({ cls := "DatumDesk$Waiting", name := "append", desc := "(I)V" } : Jvm.MethodName) ({ cls := "DatumDesk$Waiting", name := "append", desc := "(I)V" } : Jvm.MethodName)) ∈ TB := tb_of 43 rfl rfl
set_option maxRecDepth 20000 in
theorem w_44 : (Jvm.Cond.selects "DatumDesk$Writer" ({ cls := "DatumDesk$Writer", name := "writeName", desc := "(I)V" } : Jvm.MethodName) ({ cls := "DatumDesk$Writer", name := "writeName", desc := "(I)V" } : Jvm.MethodName)) ∈ TB := tb_of 44 rfl rfl
set_option maxRecDepth 20000 in
theorem w_45 : (Jvm.Cond.selects "DatumDesk$Writer" ({ cls := "DatumDesk$Writer", name := "writeString", desc := "(I)V" } : Jvm.MethodName) ({ cls := "DatumDesk$Writer", name := "writeString", desc := "(I)V" } : Jvm.MethodName)) ∈ TB := tb_of 45 rfl rfl
set_option maxRecDepth 20000 in
theorem w_46 : (Jvm.Cond.selects "DatumDesk$Writer" ({ cls := "DatumDesk$Writer", name := "writePair", desc := "(II)V" } : Jvm.MethodName) ({ cls := "DatumDesk$Writer", name := "writePair", desc := "(II)V" } : Jvm.MethodName)) ∈ TB := tb_of 46 rfl rfl
set_option maxRecDepth 20000 in
theorem w_47 : (Jvm.Cond.selects "DatumDesk$Nodes" ({ cls := "DatumDesk$Nodes", name := "quotedIn", desc := "(I)I" } : Jvm.MethodName) ({ cls := "DatumDesk$Nodes", name := "quotedIn", desc := "(I)I" } : Jvm.MethodName)) ∈ TB := tb_of 47 rfl rfl
set_option maxRecDepth 20000 in
theorem w_48 : (Jvm.Cond.selects "DatumDesk$Nodes" ({ cls := "DatumDesk$Nodes", name := "isQuoteName", desc := "(I)Z" } : Jvm.MethodName) ({ cls := "DatumDesk$Nodes", name := "isQuoteName", desc := "(I)Z" } : Jvm.MethodName)) ∈ TB := tb_of 48 rfl rfl
set_option maxRecDepth 20000 in
theorem w_49 : (Jvm.Cond.selects "DatumDesk$Waiting" ({ cls := "DatumDesk$Waiting", name := "take", desc := "()I" } : Jvm.MethodName) ({ cls := "DatumDesk$Waiting", name := "take", desc := "()I" } : Jvm.MethodName)) ∈ TB := tb_of 49 rfl rfl
set_option maxRecDepth 20000 in
theorem w_50 : (Jvm.Cond.selects "DatumDeskModel" ({ cls := "DatumDeskModel", name := "token", desc := "()I" } : Jvm.MethodName) ({ cls := "DatumDeskModel", name := "token", desc := "()I" } : Jvm.MethodName)) ∈ TB := tb_of 50 rfl rfl
set_option maxRecDepth 20000 in
theorem w_51 : (Jvm.Cond.selects "DatumDeskModel" ({ cls := "DatumDeskModel", name := "skip", desc := "()V" } : Jvm.MethodName) ({ cls := "DatumDeskModel", name := "skip", desc := "()V" } : Jvm.MethodName)) ∈ TB := tb_of 51 rfl rfl
set_option maxRecDepth 20000 in
theorem w_52 : (Jvm.Cond.selects "DatumDeskModel" ({ cls := "DatumDeskModel", name := "peek", desc := "(I)I" } : Jvm.MethodName) ({ cls := "DatumDeskModel", name := "peek", desc := "(I)I" } : Jvm.MethodName)) ∈ TB := tb_of 52 rfl rfl
set_option maxRecDepth 20000 in
theorem w_53 : (Jvm.Cond.selects "DatumDeskModel" ({ cls := "DatumDeskModel", name := "string", desc := "()I" } : Jvm.MethodName) ({ cls := "DatumDeskModel", name := "string", desc := "()I" } : Jvm.MethodName)) ∈ TB := tb_of 53 rfl rfl
set_option maxRecDepth 20000 in
theorem w_54 : (Jvm.Cond.selects "DatumDeskModel" ({ cls := "DatumDeskModel", name := "fail", desc := "(I)V" } : Jvm.MethodName) ({ cls := "DatumDeskModel", name := "fail", desc := "(I)V" } : Jvm.MethodName)) ∈ TB := tb_of 54 rfl rfl
set_option maxRecDepth 20000 in
theorem w_55 : (Jvm.Cond.selects "DatumDeskModel" ({ cls := "DatumDeskModel", name := "opens", desc := "(Z)V" } : Jvm.MethodName) ({ cls := "DatumDeskModel", name := "opens", desc := "(Z)V" } : Jvm.MethodName)) ∈ TB := tb_of 55 rfl rfl
set_option maxRecDepth 20000 in
theorem w_56 : (Jvm.Cond.selects "DatumDeskModel" ({ cls := "DatumDeskModel", name := "begin", desc := "()V" } : Jvm.MethodName) ({ cls := "DatumDeskModel", name := "begin", desc := "()V" } : Jvm.MethodName)) ∈ TB := tb_of 56 rfl rfl
set_option maxRecDepth 20000 in
theorem w_57 : (Jvm.Cond.selects "DatumDeskModel" ({ cls := "DatumDeskModel", name := "node", desc := "(I)I" } : Jvm.MethodName) ({ cls := "DatumDeskModel", name := "node", desc := "(I)I" } : Jvm.MethodName)) ∈ TB := tb_of 57 rfl rfl
set_option maxRecDepth 20000 in
theorem w_58 : (Jvm.Cond.selects "DatumDeskModel" ({ cls := "DatumDeskModel", name := "letter", desc := "(II)V" } : Jvm.MethodName) ({ cls := "DatumDeskModel", name := "letter", desc := "(II)V" } : Jvm.MethodName)) ∈ TB := tb_of 58 rfl rfl
set_option maxRecDepth 20000 in
theorem w_59 : (Jvm.Cond.selects "DatumDeskModel" ({ cls := "DatumDeskModel", name := "closes", desc := "()V" } : Jvm.MethodName) ({ cls := "DatumDeskModel", name := "closes", desc := "()V" } : Jvm.MethodName)) ∈ TB := tb_of 59 rfl rfl
set_option maxRecDepth 20000 in
theorem w_60 : (Jvm.Cond.selects "DatumDeskModel" ({ cls := "DatumDeskModel", name := "end", desc := "(I)V" } : Jvm.MethodName) ({ cls := "DatumDeskModel", name := "end", desc := "(I)V" } : Jvm.MethodName)) ∈ TB := tb_of 60 rfl rfl
set_option maxRecDepth 20000 in
theorem w_61 : (Jvm.Cond.selects "DatumDeskModel" ({ cls := "DatumDeskModel", name := "atom", desc := "(I)I" } : Jvm.MethodName) ({ cls := "DatumDeskModel", name := "atom", desc := "(I)I" } : Jvm.MethodName)) ∈ TB := tb_of 61 rfl rfl
set_option maxRecDepth 20000 in
theorem w_62 : (Jvm.Cond.selects "DatumDeskModel" ({ cls := "DatumDeskModel", name := "isNode", desc := "(I)Z" } : Jvm.MethodName) ({ cls := "DatumDeskModel", name := "isNode", desc := "(I)Z" } : Jvm.MethodName)) ∈ TB := tb_of 62 rfl rfl
set_option maxRecDepth 20000 in
theorem w_63 : (Jvm.Cond.selects "DatumDeskModel" ({ cls := "DatumDeskModel", name := "same", desc := "(II)Z" } : Jvm.MethodName) ({ cls := "DatumDeskModel", name := "same", desc := "(II)Z" } : Jvm.MethodName)) ∈ TB := tb_of 63 rfl rfl
set_option maxRecDepth 20000 in
theorem w_64 : (Jvm.Cond.selects "DatumDeskModel" ({ cls := "DatumDeskModel", name := "step", desc := "(II)I" } : Jvm.MethodName) ({ cls := "DatumDeskModel", name := "step", desc := "(II)I" } : Jvm.MethodName)) ∈ TB := tb_of 64 rfl rfl
set_option maxRecDepth 20000 in
theorem w_65 : (Jvm.Cond.selects "DatumDeskModel" ({ cls := "DatumDeskModel", name := "say", desc := "(I)V" } : Jvm.MethodName) ({ cls := "DatumDeskModel", name := "say", desc := "(I)V" } : Jvm.MethodName)) ∈ TB := tb_of 65 rfl rfl
set_option maxRecDepth 20000 in
theorem w_66 : (Jvm.Cond.selects "DatumDeskModel" ({ cls := "DatumDeskModel", name := "isQuote", desc := "(I)Z" } : Jvm.MethodName) ({ cls := "DatumDeskModel", name := "isQuote", desc := "(I)Z" } : Jvm.MethodName)) ∈ TB := tb_of 66 rfl rfl
set_option maxRecDepth 20000 in
theorem w_67 : (Jvm.Cond.selects "DatumDeskModel" ({ cls := "DatumDeskModel", name := "number", desc := "(I)V" } : Jvm.MethodName) ({ cls := "DatumDeskModel", name := "number", desc := "(I)V" } : Jvm.MethodName)) ∈ TB := tb_of 67 rfl rfl
set_option maxRecDepth 20000 in
theorem w_68 : (Jvm.Cond.selects "DatumDeskModel" ({ cls := "DatumDeskModel", name := "letters", desc := "(I)V" } : Jvm.MethodName) ({ cls := "DatumDeskModel", name := "letters", desc := "(I)V" } : Jvm.MethodName)) ∈ TB := tb_of 68 rfl rfl
set_option maxRecDepth 20000 in
theorem w_71 : (Jvm.Cond.initialized "DatumDesk$Text") ∈ TB := tb_of 71 rfl rfl
set_option maxRecDepth 20000 in
theorem w_72 : (Jvm.Cond.initialized "DatumDesk$Nodes") ∈ TB := tb_of 72 rfl rfl
set_option maxRecDepth 20000 in
theorem w_74 : (Jvm.Cond.initialized "DatumDesk$Reader") ∈ TB := tb_of 74 rfl rfl
set_option maxRecDepth 20000 in
theorem w_75 : (Jvm.Cond.initialized "DatumDesk$Tokens") ∈ TB := tb_of 75 rfl rfl
set_option maxRecDepth 20000 in
theorem w_76 : (Jvm.Cond.initialized "DatumDesk$Waiting") ∈ TB := tb_of 76 rfl rfl
set_option maxRecDepth 20000 in
theorem w_77 : (Jvm.Cond.initialized "DatumDesk$Writer") ∈ TB := tb_of 77 rfl rfl
set_option maxRecDepth 20000 in
theorem w_78 : (Jvm.Cond.initialized "DatumDeskModel") ∈ TB := tb_of 78 rfl rfl
set_option maxRecDepth 20000 in
theorem w_79 : (Jvm.Cond.initialized "java/lang/String") ∈ TB := tb_of 79 rfl rfl
set_option maxRecDepth 20000 in
theorem w_83 : (Jvm.Cond.initialized "java/lang/Math") ∈ TB := tb_of 83 rfl rfl
set_option maxRecDepth 20000 in
theorem w_98 : (Jvm.Cond.fieldLink "DatumDesk$Text" (9 : Nat) "DatumDesk$Text" "bytes" "[I") ∈ TB := tb_of 98 rfl rfl
set_option maxRecDepth 20000 in
theorem w_99 : (Jvm.Cond.fieldLink "DatumDesk$Text" (15 : Nat) "DatumDesk$Text" "length" "I") ∈ TB := tb_of 99 rfl rfl
set_option maxRecDepth 20000 in
theorem w_100 : (Jvm.Cond.fieldLinkNest "DatumDesk" (48 : Nat) "DatumDesk$Text" "length" "I" "DatumDesk") ∈ NWs := nw_of 100 rfl rfl
set_option maxRecDepth 20000 in
theorem w_113 : (Jvm.Cond.fieldLinkNest "DatumDesk$Nodes" (37 : Nat) "DatumDesk" "QUOTE" "[I" "DatumDesk") ∈ NWs := nw_of 113 rfl rfl
set_option maxRecDepth 20000 in
theorem w_118 : (Jvm.Cond.fieldLink "DatumDesk$Nodes" (9 : Nat) "DatumDesk$Nodes" "kinds" "[I") ∈ TB := tb_of 118 rfl rfl
set_option maxRecDepth 20000 in
theorem w_119 : (Jvm.Cond.fieldLink "DatumDesk$Nodes" (15 : Nat) "DatumDesk$Nodes" "amounts" "[I") ∈ TB := tb_of 119 rfl rfl
set_option maxRecDepth 20000 in
theorem w_120 : (Jvm.Cond.fieldLink "DatumDesk$Nodes" (18 : Nat) "DatumDesk$Nodes" "starts" "[I") ∈ TB := tb_of 120 rfl rfl
set_option maxRecDepth 20000 in
theorem w_121 : (Jvm.Cond.fieldLink "DatumDesk$Nodes" (21 : Nat) "DatumDesk$Nodes" "heads" "[I") ∈ TB := tb_of 121 rfl rfl
set_option maxRecDepth 20000 in
theorem w_122 : (Jvm.Cond.fieldLink "DatumDesk$Nodes" (24 : Nat) "DatumDesk$Nodes" "tails" "[I") ∈ TB := tb_of 122 rfl rfl
set_option maxRecDepth 20000 in
theorem w_123 : (Jvm.Cond.fieldLink "DatumDesk$Nodes" (27 : Nat) "DatumDesk$Nodes" "count" "I") ∈ TB := tb_of 123 rfl rfl
set_option maxRecDepth 20000 in
theorem w_124 : (Jvm.Cond.fieldLinkNest "DatumDesk" (109 : Nat) "DatumDesk$Nodes" "count" "I" "DatumDesk") ∈ NWs := nw_of 124 rfl rfl
set_option maxRecDepth 20000 in
theorem w_125 : (Jvm.Cond.fieldLink "DatumDesk$Nodes" (31 : Nat) "DatumDesk$Nodes" "data" "[I") ∈ TB := tb_of 125 rfl rfl
set_option maxRecDepth 20000 in
theorem w_126 : (Jvm.Cond.fieldLink "DatumDesk$Nodes" (34 : Nat) "DatumDesk$Nodes" "dataCount" "I") ∈ TB := tb_of 126 rfl rfl
set_option maxRecDepth 20000 in
theorem w_127 : (Jvm.Cond.fieldLinkNest "DatumDesk" (62 : Nat) "DatumDesk$Nodes" "dataCount" "I" "DatumDesk") ∈ NWs := nw_of 127 rfl rfl
set_option maxRecDepth 20000 in
theorem w_128 : (Jvm.Cond.fieldLink "DatumDesk$Nodes" (40 : Nat) "DatumDesk$Nodes" "letters" "[I") ∈ TB := tb_of 128 rfl rfl
set_option maxRecDepth 20000 in
theorem w_129 : (Jvm.Cond.fieldLink "DatumDesk$Nodes" (43 : Nat) "DatumDesk$Nodes" "letterCount" "I") ∈ TB := tb_of 129 rfl rfl
set_option maxRecDepth 20000 in
theorem w_163 : (Jvm.Cond.fieldLink "DatumDesk$Tokens" (9 : Nat) "DatumDesk$Tokens" "sorts" "[I") ∈ TB := tb_of 163 rfl rfl
set_option maxRecDepth 20000 in
theorem w_164 : (Jvm.Cond.fieldLink "DatumDesk$Tokens" (15 : Nat) "DatumDesk$Tokens" "starts" "[I") ∈ TB := tb_of 164 rfl rfl
set_option maxRecDepth 20000 in
theorem w_165 : (Jvm.Cond.fieldLink "DatumDesk$Tokens" (18 : Nat) "DatumDesk$Tokens" "ends" "[I") ∈ TB := tb_of 165 rfl rfl
set_option maxRecDepth 20000 in
theorem w_166 : (Jvm.Cond.fieldLink "DatumDesk$Tokens" (21 : Nat) "DatumDesk$Tokens" "count" "I") ∈ TB := tb_of 166 rfl rfl
set_option maxRecDepth 20000 in
theorem w_176 : (Jvm.Cond.fieldLink "DatumDesk$Reader" (25 : Nat) "DatumDesk$Reader" "text" "LDatumDesk$Text;") ∈ TB := tb_of 176 rfl rfl
set_option maxRecDepth 20000 in
theorem w_177 : (Jvm.Cond.fieldLink "DatumDesk$Reader" (29 : Nat) "DatumDesk$Reader" "nodes" "LDatumDesk$Nodes;") ∈ TB := tb_of 177 rfl rfl
set_option maxRecDepth 20000 in
theorem w_178 : (Jvm.Cond.fieldLink "DatumDesk$Reader" (12 : Nat) "DatumDesk$Reader" "tokens" "LDatumDesk$Tokens;") ∈ TB := tb_of 178 rfl rfl
set_option maxRecDepth 20000 in
theorem w_179 : (Jvm.Cond.fieldLink "DatumDesk$Reader" (18 : Nat) "DatumDesk$Reader" "cursor" "I") ∈ TB := tb_of 179 rfl rfl
set_option maxRecDepth 20000 in
theorem w_180 : (Jvm.Cond.fieldLink "DatumDesk$Reader" (22 : Nat) "DatumDesk$Reader" "faultPlace" "I") ∈ TB := tb_of 180 rfl rfl
set_option maxRecDepth 20000 in
theorem w_181 : (Jvm.Cond.fieldLinkNest "DatumDesk" (59 : Nat) "DatumDesk$Reader" "faultPlace" "I" "DatumDesk") ∈ NWs := nw_of 181 rfl rfl
set_option maxRecDepth 20000 in
theorem w_199 : (Jvm.Cond.fieldLink "DatumDesk$Waiting" (9 : Nat) "DatumDesk$Waiting" "bytes" "[I") ∈ TB := tb_of 199 rfl rfl
set_option maxRecDepth 20000 in
theorem w_200 : (Jvm.Cond.fieldLink "DatumDesk$Waiting" (15 : Nat) "DatumDesk$Waiting" "first" "I") ∈ TB := tb_of 200 rfl rfl
set_option maxRecDepth 20000 in
theorem w_201 : (Jvm.Cond.fieldLink "DatumDesk$Waiting" (19 : Nat) "DatumDesk$Waiting" "count" "I") ∈ TB := tb_of 201 rfl rfl
set_option maxRecDepth 20000 in
theorem w_202 : (Jvm.Cond.fieldLinkNest "DatumDesk" (97 : Nat) "DatumDesk$Waiting" "count" "I" "DatumDesk") ∈ NWs := nw_of 202 rfl rfl
set_option maxRecDepth 20000 in
theorem w_216 : (Jvm.Cond.fieldLink "DatumDesk$Writer" (9 : Nat) "DatumDesk$Writer" "nodes" "LDatumDesk$Nodes;") ∈ TB := tb_of 216 rfl rfl
set_option maxRecDepth 20000 in
theorem w_217 : (Jvm.Cond.fieldLink "DatumDesk$Writer" (15 : Nat) "DatumDesk$Writer" "waiting" "LDatumDesk$Waiting;") ∈ TB := tb_of 217 rfl rfl
set_option maxRecDepth 20000 in
theorem w_223 : (Jvm.Cond.fieldLink "DatumDesk" (10 : Nat) "DatumDesk" "text" "LDatumDesk$Text;") ∈ TB := tb_of 223 rfl rfl
set_option maxRecDepth 20000 in
theorem w_224 : (Jvm.Cond.fieldLink "DatumDesk" (19 : Nat) "DatumDesk" "nodes" "LDatumDesk$Nodes;") ∈ TB := tb_of 224 rfl rfl
set_option maxRecDepth 20000 in
theorem w_225 : (Jvm.Cond.fieldLink "DatumDesk" (28 : Nat) "DatumDesk" "reader" "LDatumDesk$Reader;") ∈ TB := tb_of 225 rfl rfl
set_option maxRecDepth 20000 in
theorem w_226 : (Jvm.Cond.fieldLink "DatumDesk" (35 : Nat) "DatumDesk" "waiting" "LDatumDesk$Waiting;") ∈ TB := tb_of 226 rfl rfl
set_option maxRecDepth 20000 in
theorem w_227 : (Jvm.Cond.fieldLink "DatumDesk" (44 : Nat) "DatumDesk" "writer" "LDatumDesk$Writer;") ∈ TB := tb_of 227 rfl rfl
set_option maxRecDepth 20000 in
theorem w_243 : (Jvm.Cond.methodLinkNest "DatumDesk" (52 : Nat) ({ cls := "DatumDesk$Text", name := "append", desc := "(I)V" } : Jvm.MethodName) "DatumDesk") ∈ NWs := nw_of 243 rfl rfl
set_option maxRecDepth 20000 in
theorem w_245 : (Jvm.Cond.instanceMethod ({ cls := "DatumDesk$Text", name := "append", desc := "(I)V" } : Jvm.MethodName)) ∈ TB := tb_of 245 rfl rfl
set_option maxRecDepth 20000 in
theorem w_246 : (Jvm.Cond.code ({ cls := "DatumDesk$Text", name := "append", desc := "(I)V" } : Jvm.MethodName) prog_4_method_2_code (2 : Nat) (Option.none : Option Jvm.ClassFile.FieldType)) ∈ TB := tb_of 246 rfl rfl
set_option maxRecDepth 20000 in
theorem w_251 : (Jvm.Cond.methodLinkNest "DatumDesk" (56 : Nat) ({ cls := "DatumDesk$Reader", name := "readText", desc := "()V" } : Jvm.MethodName) "DatumDesk") ∈ NWs := nw_of 251 rfl rfl
set_option maxRecDepth 20000 in
theorem w_253 : (Jvm.Cond.instanceMethod ({ cls := "DatumDesk$Reader", name := "readText", desc := "()V" } : Jvm.MethodName)) ∈ TB := tb_of 253 rfl rfl
set_option maxRecDepth 20000 in
theorem w_254 : (Jvm.Cond.code ({ cls := "DatumDesk$Reader", name := "readText", desc := "()V" } : Jvm.MethodName) prog_3_method_2_code (3 : Nat) (Option.none : Option Jvm.ClassFile.FieldType)) ∈ TB := tb_of 254 rfl rfl
set_option maxRecDepth 20000 in
theorem w_255 : (Jvm.Cond.methodLinkNest "DatumDesk$Reader" (33 : Nat) ({ cls := "DatumDesk$Nodes", name := "clear", desc := "()V" } : Jvm.MethodName) "DatumDesk") ∈ NWs := nw_of 255 rfl rfl
set_option maxRecDepth 20000 in
theorem w_257 : (Jvm.Cond.instanceMethod ({ cls := "DatumDesk$Nodes", name := "clear", desc := "()V" } : Jvm.MethodName)) ∈ TB := tb_of 257 rfl rfl
set_option maxRecDepth 20000 in
theorem w_258 : (Jvm.Cond.code ({ cls := "DatumDesk$Nodes", name := "clear", desc := "()V" } : Jvm.MethodName) prog_2_method_2_code (1 : Nat) (Option.none : Option Jvm.ClassFile.FieldType)) ∈ TB := tb_of 258 rfl rfl
set_option maxRecDepth 20000 in
theorem w_259 : (Jvm.Cond.methodLinkNest "DatumDesk$Reader" (38 : Nat) ({ cls := "DatumDesk$Tokens", name := "scan", desc := "(LDatumDesk$Text;)V" } : Jvm.MethodName) "DatumDesk") ∈ NWs := nw_of 259 rfl rfl
set_option maxRecDepth 20000 in
theorem w_261 : (Jvm.Cond.instanceMethod ({ cls := "DatumDesk$Tokens", name := "scan", desc := "(LDatumDesk$Text;)V" } : Jvm.MethodName)) ∈ TB := tb_of 261 rfl rfl
set_option maxRecDepth 20000 in
theorem w_262 : (Jvm.Cond.code ({ cls := "DatumDesk$Tokens", name := "scan", desc := "(LDatumDesk$Text;)V" } : Jvm.MethodName) prog_5_method_2_code (7 : Nat) (Option.none : Option Jvm.ClassFile.FieldType)) ∈ TB := tb_of 262 rfl rfl
set_option maxRecDepth 20000 in
theorem w_263 : (Jvm.Cond.methodLinkNest "DatumDesk$Tokens" (25 : Nat) ({ cls := "DatumDesk$Text", name := "skipBlanks", desc := "(I)I" } : Jvm.MethodName) "DatumDesk") ∈ NWs := nw_of 263 rfl rfl
set_option maxRecDepth 20000 in
theorem w_265 : (Jvm.Cond.instanceMethod ({ cls := "DatumDesk$Text", name := "skipBlanks", desc := "(I)I" } : Jvm.MethodName)) ∈ TB := tb_of 265 rfl rfl
set_option maxRecDepth 20000 in
theorem w_266 : (Jvm.Cond.code ({ cls := "DatumDesk$Text", name := "skipBlanks", desc := "(I)I" } : Jvm.MethodName) prog_4_method_4_code (5 : Nat) (Option.some Jvm.ClassFile.FieldType.int)) ∈ TB := tb_of 266 rfl rfl
set_option maxRecDepth 20000 in
theorem w_267 : (Jvm.Cond.methodLink "DatumDesk$Text" (19 : Nat) ({ cls := "DatumDesk$Text", name := "at", desc := "(I)I" } : Jvm.MethodName)) ∈ TB := tb_of 267 rfl rfl
set_option maxRecDepth 20000 in
theorem w_269 : (Jvm.Cond.instanceMethod ({ cls := "DatumDesk$Text", name := "at", desc := "(I)I" } : Jvm.MethodName)) ∈ TB := tb_of 269 rfl rfl
set_option maxRecDepth 20000 in
theorem w_270 : (Jvm.Cond.code ({ cls := "DatumDesk$Text", name := "at", desc := "(I)I" } : Jvm.MethodName) prog_4_method_3_code (2 : Nat) (Option.some Jvm.ClassFile.FieldType.int)) ∈ TB := tb_of 270 rfl rfl
set_option maxRecDepth 20000 in
theorem w_271 : (Jvm.Cond.methodLinkNest "DatumDesk$Tokens" (31 : Nat) ({ cls := "DatumDesk$Text", name := "sortAt", desc := "(I)I" } : Jvm.MethodName) "DatumDesk") ∈ NWs := nw_of 271 rfl rfl
set_option maxRecDepth 20000 in
theorem w_273 : (Jvm.Cond.instanceMethod ({ cls := "DatumDesk$Text", name := "sortAt", desc := "(I)I" } : Jvm.MethodName)) ∈ TB := tb_of 273 rfl rfl
set_option maxRecDepth 20000 in
theorem w_274 : (Jvm.Cond.code ({ cls := "DatumDesk$Text", name := "sortAt", desc := "(I)I" } : Jvm.MethodName) prog_4_method_5_code (3 : Nat) (Option.some Jvm.ClassFile.FieldType.int)) ∈ TB := tb_of 274 rfl rfl
set_option maxRecDepth 20000 in
theorem w_275 : (Jvm.Cond.methodLink "DatumDesk$Text" (23 : Nat) ({ cls := "DatumDesk$Text", name := "isDigit", desc := "(I)Z" } : Jvm.MethodName)) ∈ TB := tb_of 275 rfl rfl
set_option maxRecDepth 20000 in
theorem w_276 : (Jvm.Cond.static ({ cls := "DatumDesk$Text", name := "isDigit", desc := "(I)Z" } : Jvm.MethodName)) ∈ TB := tb_of 276 rfl rfl
set_option maxRecDepth 20000 in
theorem w_277 : (Jvm.Cond.code ({ cls := "DatumDesk$Text", name := "isDigit", desc := "(I)Z" } : Jvm.MethodName) prog_4_method_11_code (1 : Nat) (Option.some Jvm.ClassFile.FieldType.boolean)) ∈ TB := tb_of 277 rfl rfl
set_option maxRecDepth 20000 in
theorem w_278 : (Jvm.Cond.methodLink "DatumDesk$Text" (27 : Nat) ({ cls := "DatumDesk$Text", name := "isWordByte", desc := "(I)Z" } : Jvm.MethodName)) ∈ TB := tb_of 278 rfl rfl
set_option maxRecDepth 20000 in
theorem w_279 : (Jvm.Cond.static ({ cls := "DatumDesk$Text", name := "isWordByte", desc := "(I)Z" } : Jvm.MethodName)) ∈ TB := tb_of 279 rfl rfl
set_option maxRecDepth 20000 in
theorem w_280 : (Jvm.Cond.code ({ cls := "DatumDesk$Text", name := "isWordByte", desc := "(I)Z" } : Jvm.MethodName) prog_4_method_12_code (1 : Nat) (Option.some Jvm.ClassFile.FieldType.boolean)) ∈ TB := tb_of 280 rfl rfl
set_option maxRecDepth 20000 in
theorem w_281 : (Jvm.Cond.methodLinkNest "DatumDesk$Tokens" (34 : Nat) ({ cls := "DatumDesk$Text", name := "tokenEnd", desc := "(II)I" } : Jvm.MethodName) "DatumDesk") ∈ NWs := nw_of 281 rfl rfl
set_option maxRecDepth 20000 in
theorem w_283 : (Jvm.Cond.instanceMethod ({ cls := "DatumDesk$Text", name := "tokenEnd", desc := "(II)I" } : Jvm.MethodName)) ∈ TB := tb_of 283 rfl rfl
set_option maxRecDepth 20000 in
theorem w_284 : (Jvm.Cond.code ({ cls := "DatumDesk$Text", name := "tokenEnd", desc := "(II)I" } : Jvm.MethodName) prog_4_method_6_code (3 : Nat) (Option.some Jvm.ClassFile.FieldType.int)) ∈ TB := tb_of 284 rfl rfl
set_option maxRecDepth 20000 in
theorem w_285 : (Jvm.Cond.methodLink "DatumDesk$Text" (30 : Nat) ({ cls := "DatumDesk$Text", name := "numberEnd", desc := "(I)I" } : Jvm.MethodName)) ∈ TB := tb_of 285 rfl rfl
set_option maxRecDepth 20000 in
theorem w_287 : (Jvm.Cond.instanceMethod ({ cls := "DatumDesk$Text", name := "numberEnd", desc := "(I)I" } : Jvm.MethodName)) ∈ TB := tb_of 287 rfl rfl
set_option maxRecDepth 20000 in
theorem w_288 : (Jvm.Cond.code ({ cls := "DatumDesk$Text", name := "numberEnd", desc := "(I)I" } : Jvm.MethodName) prog_4_method_7_code (5 : Nat) (Option.some Jvm.ClassFile.FieldType.int)) ∈ TB := tb_of 288 rfl rfl
set_option maxRecDepth 20000 in
theorem w_289 : (Jvm.Cond.methodLink "DatumDesk$Text" (39 : Nat) ({ cls := "DatumDesk$Text", name := "wordEnd", desc := "(I)I" } : Jvm.MethodName)) ∈ TB := tb_of 289 rfl rfl
set_option maxRecDepth 20000 in
theorem w_291 : (Jvm.Cond.instanceMethod ({ cls := "DatumDesk$Text", name := "wordEnd", desc := "(I)I" } : Jvm.MethodName)) ∈ TB := tb_of 291 rfl rfl
set_option maxRecDepth 20000 in
theorem w_292 : (Jvm.Cond.code ({ cls := "DatumDesk$Text", name := "wordEnd", desc := "(I)I" } : Jvm.MethodName) prog_4_method_9_code (3 : Nat) (Option.some Jvm.ClassFile.FieldType.int)) ∈ TB := tb_of 292 rfl rfl
set_option maxRecDepth 20000 in
theorem w_293 : (Jvm.Cond.methodLink "DatumDesk$Text" (33 : Nat) ({ cls := "DatumDesk$Text", name := "nameEnd", desc := "(I)I" } : Jvm.MethodName)) ∈ TB := tb_of 293 rfl rfl
set_option maxRecDepth 20000 in
theorem w_295 : (Jvm.Cond.instanceMethod ({ cls := "DatumDesk$Text", name := "nameEnd", desc := "(I)I" } : Jvm.MethodName)) ∈ TB := tb_of 295 rfl rfl
set_option maxRecDepth 20000 in
theorem w_296 : (Jvm.Cond.code ({ cls := "DatumDesk$Text", name := "nameEnd", desc := "(I)I" } : Jvm.MethodName) prog_4_method_8_code (3 : Nat) (Option.some Jvm.ClassFile.FieldType.int)) ∈ TB := tb_of 296 rfl rfl
set_option maxRecDepth 20000 in
theorem w_297 : (Jvm.Cond.methodLink "DatumDesk$Text" (36 : Nat) ({ cls := "DatumDesk$Text", name := "stringEnd", desc := "(I)I" } : Jvm.MethodName)) ∈ TB := tb_of 297 rfl rfl
set_option maxRecDepth 20000 in
theorem w_299 : (Jvm.Cond.instanceMethod ({ cls := "DatumDesk$Text", name := "stringEnd", desc := "(I)I" } : Jvm.MethodName)) ∈ TB := tb_of 299 rfl rfl
set_option maxRecDepth 20000 in
theorem w_300 : (Jvm.Cond.code ({ cls := "DatumDesk$Text", name := "stringEnd", desc := "(I)I" } : Jvm.MethodName) prog_4_method_10_code (5 : Nat) (Option.some Jvm.ClassFile.FieldType.int)) ∈ TB := tb_of 300 rfl rfl
set_option maxRecDepth 20000 in
theorem w_301 : (Jvm.Cond.methodLinkNest "DatumDesk$Reader" (42 : Nat) ({ cls := "DatumDesk$Tokens", name := "sortOf", desc := "(I)I" } : Jvm.MethodName) "DatumDesk") ∈ NWs := nw_of 301 rfl rfl
set_option maxRecDepth 20000 in
theorem w_303 : (Jvm.Cond.instanceMethod ({ cls := "DatumDesk$Tokens", name := "sortOf", desc := "(I)I" } : Jvm.MethodName)) ∈ TB := tb_of 303 rfl rfl
set_option maxRecDepth 20000 in
theorem w_304 : (Jvm.Cond.code ({ cls := "DatumDesk$Tokens", name := "sortOf", desc := "(I)I" } : Jvm.MethodName) prog_5_method_3_code (2 : Nat) (Option.some Jvm.ClassFile.FieldType.int)) ∈ TB := tb_of 304 rfl rfl
set_option maxRecDepth 20000 in
theorem w_305 : (Jvm.Cond.methodLink "DatumDesk$Reader" (46 : Nat) ({ cls := "DatumDesk$Reader", name := "readDatum", desc := "(I)I" } : Jvm.MethodName)) ∈ TB := tb_of 305 rfl rfl
set_option maxRecDepth 20000 in
theorem w_307 : (Jvm.Cond.instanceMethod ({ cls := "DatumDesk$Reader", name := "readDatum", desc := "(I)I" } : Jvm.MethodName)) ∈ TB := tb_of 307 rfl rfl
set_option maxRecDepth 20000 in
theorem w_308 : (Jvm.Cond.code ({ cls := "DatumDesk$Reader", name := "readDatum", desc := "(I)I" } : Jvm.MethodName) prog_3_method_3_code (2 : Nat) (Option.some Jvm.ClassFile.FieldType.int)) ∈ TB := tb_of 308 rfl rfl
set_option maxRecDepth 20000 in
theorem w_309 : (Jvm.Cond.methodLink "DatumDesk$Reader" (53 : Nat) ({ cls := "DatumDesk$Reader", name := "readNumber", desc := "()I" } : Jvm.MethodName)) ∈ TB := tb_of 309 rfl rfl
set_option maxRecDepth 20000 in
theorem w_311 : (Jvm.Cond.instanceMethod ({ cls := "DatumDesk$Reader", name := "readNumber", desc := "()I" } : Jvm.MethodName)) ∈ TB := tb_of 311 rfl rfl
set_option maxRecDepth 20000 in
theorem w_312 : (Jvm.Cond.code ({ cls := "DatumDesk$Reader", name := "readNumber", desc := "()I" } : Jvm.MethodName) prog_3_method_4_code (6 : Nat) (Option.some Jvm.ClassFile.FieldType.int)) ∈ TB := tb_of 312 rfl rfl
set_option maxRecDepth 20000 in
theorem w_313 : (Jvm.Cond.methodLinkNest "DatumDesk$Reader" (72 : Nat) ({ cls := "DatumDesk$Tokens", name := "endOf", desc := "(I)I" } : Jvm.MethodName) "DatumDesk") ∈ NWs := nw_of 313 rfl rfl
set_option maxRecDepth 20000 in
theorem w_315 : (Jvm.Cond.instanceMethod ({ cls := "DatumDesk$Tokens", name := "endOf", desc := "(I)I" } : Jvm.MethodName)) ∈ TB := tb_of 315 rfl rfl
set_option maxRecDepth 20000 in
theorem w_316 : (Jvm.Cond.code ({ cls := "DatumDesk$Tokens", name := "endOf", desc := "(I)I" } : Jvm.MethodName) prog_5_method_5_code (2 : Nat) (Option.some Jvm.ClassFile.FieldType.int)) ∈ TB := tb_of 316 rfl rfl
set_option maxRecDepth 20000 in
theorem w_317 : (Jvm.Cond.methodLinkNest "DatumDesk$Reader" (75 : Nat) ({ cls := "DatumDesk$Tokens", name := "startOf", desc := "(I)I" } : Jvm.MethodName) "DatumDesk") ∈ NWs := nw_of 317 rfl rfl
set_option maxRecDepth 20000 in
theorem w_319 : (Jvm.Cond.instanceMethod ({ cls := "DatumDesk$Tokens", name := "startOf", desc := "(I)I" } : Jvm.MethodName)) ∈ TB := tb_of 319 rfl rfl
set_option maxRecDepth 20000 in
theorem w_320 : (Jvm.Cond.code ({ cls := "DatumDesk$Tokens", name := "startOf", desc := "(I)I" } : Jvm.MethodName) prog_5_method_4_code (2 : Nat) (Option.some Jvm.ClassFile.FieldType.int)) ∈ TB := tb_of 320 rfl rfl
set_option maxRecDepth 20000 in
theorem w_321 : (Jvm.Cond.methodLinkNest "DatumDesk$Reader" (78 : Nat) ({ cls := "DatumDesk$Text", name := "at", desc := "(I)I" } : Jvm.MethodName) "DatumDesk") ∈ NWs := nw_of 321 rfl rfl
set_option maxRecDepth 20000 in
theorem w_322 : (Jvm.Cond.methodLink "DatumDesk$Reader" (83 : Nat) ({ cls := "DatumDesk$Reader", name := "add", desc := "(I)I" } : Jvm.MethodName)) ∈ TB := tb_of 322 rfl rfl
set_option maxRecDepth 20000 in
theorem w_324 : (Jvm.Cond.instanceMethod ({ cls := "DatumDesk$Reader", name := "add", desc := "(I)I" } : Jvm.MethodName)) ∈ TB := tb_of 324 rfl rfl
set_option maxRecDepth 20000 in
theorem w_325 : (Jvm.Cond.code ({ cls := "DatumDesk$Reader", name := "add", desc := "(I)I" } : Jvm.MethodName) prog_3_method_10_code (3 : Nat) (Option.some Jvm.ClassFile.FieldType.int)) ∈ TB := tb_of 325 rfl rfl
set_option maxRecDepth 20000 in
theorem w_326 : (Jvm.Cond.methodLinkNest "DatumDesk$Reader" (105 : Nat) ({ cls := "DatumDesk$Nodes", name := "add", desc := "(I)I" } : Jvm.MethodName) "DatumDesk") ∈ NWs := nw_of 326 rfl rfl
set_option maxRecDepth 20000 in
theorem w_328 : (Jvm.Cond.instanceMethod ({ cls := "DatumDesk$Nodes", name := "add", desc := "(I)I" } : Jvm.MethodName)) ∈ TB := tb_of 328 rfl rfl
set_option maxRecDepth 20000 in
theorem w_329 : (Jvm.Cond.code ({ cls := "DatumDesk$Nodes", name := "add", desc := "(I)I" } : Jvm.MethodName) prog_2_method_5_code (3 : Nat) (Option.some Jvm.ClassFile.FieldType.int)) ∈ TB := tb_of 329 rfl rfl
set_option maxRecDepth 20000 in
theorem w_330 : (Jvm.Cond.methodLink "DatumDesk$Reader" (69 : Nat) ({ cls := "DatumDesk$Reader", name := "fault", desc := "()I" } : Jvm.MethodName)) ∈ TB := tb_of 330 rfl rfl
set_option maxRecDepth 20000 in
theorem w_332 : (Jvm.Cond.instanceMethod ({ cls := "DatumDesk$Reader", name := "fault", desc := "()I" } : Jvm.MethodName)) ∈ TB := tb_of 332 rfl rfl
set_option maxRecDepth 20000 in
theorem w_333 : (Jvm.Cond.code ({ cls := "DatumDesk$Reader", name := "fault", desc := "()I" } : Jvm.MethodName) prog_3_method_11_code (1 : Nat) (Option.some Jvm.ClassFile.FieldType.int)) ∈ TB := tb_of 333 rfl rfl
set_option maxRecDepth 20000 in
theorem w_334 : (Jvm.Cond.methodLinkNest "DatumDesk$Reader" (86 : Nat) ({ cls := "DatumDesk$Nodes", name := "setAmount", desc := "(II)V" } : Jvm.MethodName) "DatumDesk") ∈ NWs := nw_of 334 rfl rfl
set_option maxRecDepth 20000 in
theorem w_336 : (Jvm.Cond.instanceMethod ({ cls := "DatumDesk$Nodes", name := "setAmount", desc := "(II)V" } : Jvm.MethodName)) ∈ TB := tb_of 336 rfl rfl
set_option maxRecDepth 20000 in
theorem w_337 : (Jvm.Cond.code ({ cls := "DatumDesk$Nodes", name := "setAmount", desc := "(II)V" } : Jvm.MethodName) prog_2_method_9_code (3 : Nat) (Option.none : Option Jvm.ClassFile.FieldType)) ∈ TB := tb_of 337 rfl rfl
set_option maxRecDepth 20000 in
theorem w_338 : (Jvm.Cond.methodLink "DatumDesk$Nodes" (52 : Nat) ({ cls := "DatumDesk$Nodes", name := "has", desc := "(I)Z" } : Jvm.MethodName)) ∈ TB := tb_of 338 rfl rfl
set_option maxRecDepth 20000 in
theorem w_340 : (Jvm.Cond.instanceMethod ({ cls := "DatumDesk$Nodes", name := "has", desc := "(I)Z" } : Jvm.MethodName)) ∈ TB := tb_of 340 rfl rfl
set_option maxRecDepth 20000 in
theorem w_341 : (Jvm.Cond.code ({ cls := "DatumDesk$Nodes", name := "has", desc := "(I)Z" } : Jvm.MethodName) prog_2_method_3_code (2 : Nat) (Option.some Jvm.ClassFile.FieldType.boolean)) ∈ TB := tb_of 341 rfl rfl
set_option maxRecDepth 20000 in
theorem w_342 : (Jvm.Cond.methodLink "DatumDesk$Reader" (57 : Nat) ({ cls := "DatumDesk$Reader", name := "readName", desc := "()I" } : Jvm.MethodName)) ∈ TB := tb_of 342 rfl rfl
set_option maxRecDepth 20000 in
theorem w_344 : (Jvm.Cond.instanceMethod ({ cls := "DatumDesk$Reader", name := "readName", desc := "()I" } : Jvm.MethodName)) ∈ TB := tb_of 344 rfl rfl
set_option maxRecDepth 20000 in
theorem w_345 : (Jvm.Cond.code ({ cls := "DatumDesk$Reader", name := "readName", desc := "()I" } : Jvm.MethodName) prog_3_method_5_code (4 : Nat) (Option.some Jvm.ClassFile.FieldType.int)) ∈ TB := tb_of 345 rfl rfl
set_option maxRecDepth 20000 in
theorem w_346 : (Jvm.Cond.methodLinkNest "DatumDesk$Reader" (90 : Nat) ({ cls := "DatumDesk$Nodes", name := "addLetter", desc := "(II)V" } : Jvm.MethodName) "DatumDesk") ∈ NWs := nw_of 346 rfl rfl
set_option maxRecDepth 20000 in
theorem w_348 : (Jvm.Cond.instanceMethod ({ cls := "DatumDesk$Nodes", name := "addLetter", desc := "(II)V" } : Jvm.MethodName)) ∈ TB := tb_of 348 rfl rfl
set_option maxRecDepth 20000 in
theorem w_349 : (Jvm.Cond.code ({ cls := "DatumDesk$Nodes", name := "addLetter", desc := "(II)V" } : Jvm.MethodName) prog_2_method_7_code (3 : Nat) (Option.none : Option Jvm.ClassFile.FieldType)) ∈ TB := tb_of 349 rfl rfl
set_option maxRecDepth 20000 in
theorem w_350 : (Jvm.Cond.methodLink "DatumDesk$Reader" (60 : Nat) ({ cls := "DatumDesk$Reader", name := "readString", desc := "()I" } : Jvm.MethodName)) ∈ TB := tb_of 350 rfl rfl
set_option maxRecDepth 20000 in
theorem w_352 : (Jvm.Cond.instanceMethod ({ cls := "DatumDesk$Reader", name := "readString", desc := "()I" } : Jvm.MethodName)) ∈ TB := tb_of 352 rfl rfl
set_option maxRecDepth 20000 in
theorem w_353 : (Jvm.Cond.code ({ cls := "DatumDesk$Reader", name := "readString", desc := "()I" } : Jvm.MethodName) prog_3_method_6_code (4 : Nat) (Option.some Jvm.ClassFile.FieldType.int)) ∈ TB := tb_of 353 rfl rfl
set_option maxRecDepth 20000 in
theorem w_354 : (Jvm.Cond.methodLink "DatumDesk$Reader" (63 : Nat) ({ cls := "DatumDesk$Reader", name := "readQuoted", desc := "(I)I" } : Jvm.MethodName)) ∈ TB := tb_of 354 rfl rfl
set_option maxRecDepth 20000 in
theorem w_356 : (Jvm.Cond.instanceMethod ({ cls := "DatumDesk$Reader", name := "readQuoted", desc := "(I)I" } : Jvm.MethodName)) ∈ TB := tb_of 356 rfl rfl
set_option maxRecDepth 20000 in
theorem w_357 : (Jvm.Cond.code ({ cls := "DatumDesk$Reader", name := "readQuoted", desc := "(I)I" } : Jvm.MethodName) prog_3_method_7_code (7 : Nat) (Option.some Jvm.ClassFile.FieldType.int)) ∈ TB := tb_of 357 rfl rfl
set_option maxRecDepth 20000 in
theorem w_358 : (Jvm.Cond.methodLinkNest "DatumDesk$Reader" (93 : Nat) ({ cls := "DatumDesk$Nodes", name := "nameQuote", desc := "(I)V" } : Jvm.MethodName) "DatumDesk") ∈ NWs := nw_of 358 rfl rfl
set_option maxRecDepth 20000 in
theorem w_360 : (Jvm.Cond.instanceMethod ({ cls := "DatumDesk$Nodes", name := "nameQuote", desc := "(I)V" } : Jvm.MethodName)) ∈ TB := tb_of 360 rfl rfl
set_option maxRecDepth 20000 in
theorem w_361 : (Jvm.Cond.code ({ cls := "DatumDesk$Nodes", name := "nameQuote", desc := "(I)V" } : Jvm.MethodName) prog_2_method_8_code (2 : Nat) (Option.none : Option Jvm.ClassFile.FieldType)) ∈ TB := tb_of 361 rfl rfl
set_option maxRecDepth 20000 in
theorem w_362 : (Jvm.Cond.methodLinkNest "DatumDesk$Reader" (96 : Nat) ({ cls := "DatumDesk$Nodes", name := "setHead", desc := "(II)V" } : Jvm.MethodName) "DatumDesk") ∈ NWs := nw_of 362 rfl rfl
set_option maxRecDepth 20000 in
theorem w_364 : (Jvm.Cond.instanceMethod ({ cls := "DatumDesk$Nodes", name := "setHead", desc := "(II)V" } : Jvm.MethodName)) ∈ TB := tb_of 364 rfl rfl
set_option maxRecDepth 20000 in
theorem w_365 : (Jvm.Cond.code ({ cls := "DatumDesk$Nodes", name := "setHead", desc := "(II)V" } : Jvm.MethodName) prog_2_method_10_code (3 : Nat) (Option.none : Option Jvm.ClassFile.FieldType)) ∈ TB := tb_of 365 rfl rfl
set_option maxRecDepth 20000 in
theorem w_366 : (Jvm.Cond.methodLinkNest "DatumDesk$Reader" (99 : Nat) ({ cls := "DatumDesk$Nodes", name := "setTail", desc := "(II)V" } : Jvm.MethodName) "DatumDesk") ∈ NWs := nw_of 366 rfl rfl
set_option maxRecDepth 20000 in
theorem w_368 : (Jvm.Cond.instanceMethod ({ cls := "DatumDesk$Nodes", name := "setTail", desc := "(II)V" } : Jvm.MethodName)) ∈ TB := tb_of 368 rfl rfl
set_option maxRecDepth 20000 in
theorem w_369 : (Jvm.Cond.code ({ cls := "DatumDesk$Nodes", name := "setTail", desc := "(II)V" } : Jvm.MethodName) prog_2_method_11_code (3 : Nat) (Option.none : Option Jvm.ClassFile.FieldType)) ∈ TB := tb_of 369 rfl rfl
set_option maxRecDepth 20000 in
theorem w_370 : (Jvm.Cond.methodLink "DatumDesk$Reader" (66 : Nat) ({ cls := "DatumDesk$Reader", name := "readList", desc := "(I)I" } : Jvm.MethodName)) ∈ TB := tb_of 370 rfl rfl
set_option maxRecDepth 20000 in
theorem w_372 : (Jvm.Cond.instanceMethod ({ cls := "DatumDesk$Reader", name := "readList", desc := "(I)I" } : Jvm.MethodName)) ∈ TB := tb_of 372 rfl rfl
set_option maxRecDepth 20000 in
theorem w_373 : (Jvm.Cond.code ({ cls := "DatumDesk$Reader", name := "readList", desc := "(I)I" } : Jvm.MethodName) prog_3_method_8_code (8 : Nat) (Option.some Jvm.ClassFile.FieldType.int)) ∈ TB := tb_of 373 rfl rfl
set_option maxRecDepth 20000 in
theorem w_374 : (Jvm.Cond.methodLink "DatumDesk$Reader" (102 : Nat) ({ cls := "DatumDesk$Reader", name := "readDotted", desc := "(I)I" } : Jvm.MethodName)) ∈ TB := tb_of 374 rfl rfl
set_option maxRecDepth 20000 in
theorem w_376 : (Jvm.Cond.instanceMethod ({ cls := "DatumDesk$Reader", name := "readDotted", desc := "(I)I" } : Jvm.MethodName)) ∈ TB := tb_of 376 rfl rfl
set_option maxRecDepth 20000 in
theorem w_377 : (Jvm.Cond.code ({ cls := "DatumDesk$Reader", name := "readDotted", desc := "(I)I" } : Jvm.MethodName) prog_3_method_9_code (3 : Nat) (Option.some Jvm.ClassFile.FieldType.int)) ∈ TB := tb_of 377 rfl rfl
set_option maxRecDepth 20000 in
theorem w_378 : (Jvm.Cond.methodLinkNest "DatumDesk$Reader" (49 : Nat) ({ cls := "DatumDesk$Nodes", name := "addDatum", desc := "(I)V" } : Jvm.MethodName) "DatumDesk") ∈ NWs := nw_of 378 rfl rfl
set_option maxRecDepth 20000 in
theorem w_380 : (Jvm.Cond.instanceMethod ({ cls := "DatumDesk$Nodes", name := "addDatum", desc := "(I)V" } : Jvm.MethodName)) ∈ TB := tb_of 380 rfl rfl
set_option maxRecDepth 20000 in
theorem w_381 : (Jvm.Cond.code ({ cls := "DatumDesk$Nodes", name := "addDatum", desc := "(I)V" } : Jvm.MethodName) prog_2_method_6_code (2 : Nat) (Option.none : Option Jvm.ClassFile.FieldType)) ∈ TB := tb_of 381 rfl rfl
set_option maxRecDepth 20000 in
theorem w_390 : (Jvm.Cond.methodLinkNest "DatumDesk" (65 : Nat) ({ cls := "DatumDesk$Nodes", name := "datumNode", desc := "(I)I" } : Jvm.MethodName) "DatumDesk") ∈ NWs := nw_of 390 rfl rfl
set_option maxRecDepth 20000 in
theorem w_392 : (Jvm.Cond.instanceMethod ({ cls := "DatumDesk$Nodes", name := "datumNode", desc := "(I)I" } : Jvm.MethodName)) ∈ TB := tb_of 392 rfl rfl
set_option maxRecDepth 20000 in
theorem w_393 : (Jvm.Cond.code ({ cls := "DatumDesk$Nodes", name := "datumNode", desc := "(I)I" } : Jvm.MethodName) prog_2_method_12_code (2 : Nat) (Option.some Jvm.ClassFile.FieldType.int)) ∈ TB := tb_of 393 rfl rfl
set_option maxRecDepth 20000 in
theorem w_398 : (Jvm.Cond.methodLinkNest "DatumDesk" (69 : Nat) ({ cls := "DatumDesk$Nodes", name := "kindOf", desc := "(I)I" } : Jvm.MethodName) "DatumDesk") ∈ NWs := nw_of 398 rfl rfl
set_option maxRecDepth 20000 in
theorem w_400 : (Jvm.Cond.instanceMethod ({ cls := "DatumDesk$Nodes", name := "kindOf", desc := "(I)I" } : Jvm.MethodName)) ∈ TB := tb_of 400 rfl rfl
set_option maxRecDepth 20000 in
theorem w_401 : (Jvm.Cond.code ({ cls := "DatumDesk$Nodes", name := "kindOf", desc := "(I)I" } : Jvm.MethodName) prog_2_method_13_code (2 : Nat) (Option.some Jvm.ClassFile.FieldType.int)) ∈ TB := tb_of 401 rfl rfl
set_option maxRecDepth 20000 in
theorem w_406 : (Jvm.Cond.methodLinkNest "DatumDesk" (72 : Nat) ({ cls := "DatumDesk$Nodes", name := "amountOf", desc := "(I)I" } : Jvm.MethodName) "DatumDesk") ∈ NWs := nw_of 406 rfl rfl
set_option maxRecDepth 20000 in
theorem w_408 : (Jvm.Cond.instanceMethod ({ cls := "DatumDesk$Nodes", name := "amountOf", desc := "(I)I" } : Jvm.MethodName)) ∈ TB := tb_of 408 rfl rfl
set_option maxRecDepth 20000 in
theorem w_409 : (Jvm.Cond.code ({ cls := "DatumDesk$Nodes", name := "amountOf", desc := "(I)I" } : Jvm.MethodName) prog_2_method_14_code (2 : Nat) (Option.some Jvm.ClassFile.FieldType.int)) ∈ TB := tb_of 409 rfl rfl
set_option maxRecDepth 20000 in
theorem w_414 : (Jvm.Cond.methodLinkNest "DatumDesk" (75 : Nat) ({ cls := "DatumDesk$Nodes", name := "byteOf", desc := "(II)I" } : Jvm.MethodName) "DatumDesk") ∈ NWs := nw_of 414 rfl rfl
set_option maxRecDepth 20000 in
theorem w_416 : (Jvm.Cond.instanceMethod ({ cls := "DatumDesk$Nodes", name := "byteOf", desc := "(II)I" } : Jvm.MethodName)) ∈ TB := tb_of 416 rfl rfl
set_option maxRecDepth 20000 in
theorem w_417 : (Jvm.Cond.code ({ cls := "DatumDesk$Nodes", name := "byteOf", desc := "(II)I" } : Jvm.MethodName) prog_2_method_15_code (4 : Nat) (Option.some Jvm.ClassFile.FieldType.int)) ∈ TB := tb_of 417 rfl rfl
set_option maxRecDepth 20000 in
theorem w_418 : (Jvm.Cond.methodLink "DatumDesk$Nodes" (56 : Nat) ({ cls := "DatumDesk$Nodes", name := "isOf", desc := "(II)Z" } : Jvm.MethodName)) ∈ TB := tb_of 418 rfl rfl
set_option maxRecDepth 20000 in
theorem w_420 : (Jvm.Cond.instanceMethod ({ cls := "DatumDesk$Nodes", name := "isOf", desc := "(II)Z" } : Jvm.MethodName)) ∈ TB := tb_of 420 rfl rfl
set_option maxRecDepth 20000 in
theorem w_421 : (Jvm.Cond.code ({ cls := "DatumDesk$Nodes", name := "isOf", desc := "(II)Z" } : Jvm.MethodName) prog_2_method_4_code (3 : Nat) (Option.some Jvm.ClassFile.FieldType.boolean)) ∈ TB := tb_of 421 rfl rfl
set_option maxRecDepth 20000 in
theorem w_426 : (Jvm.Cond.methodLinkNest "DatumDesk" (79 : Nat) ({ cls := "DatumDesk$Nodes", name := "headOf", desc := "(I)I" } : Jvm.MethodName) "DatumDesk") ∈ NWs := nw_of 426 rfl rfl
set_option maxRecDepth 20000 in
theorem w_428 : (Jvm.Cond.instanceMethod ({ cls := "DatumDesk$Nodes", name := "headOf", desc := "(I)I" } : Jvm.MethodName)) ∈ TB := tb_of 428 rfl rfl
set_option maxRecDepth 20000 in
theorem w_429 : (Jvm.Cond.code ({ cls := "DatumDesk$Nodes", name := "headOf", desc := "(I)I" } : Jvm.MethodName) prog_2_method_16_code (2 : Nat) (Option.some Jvm.ClassFile.FieldType.int)) ∈ TB := tb_of 429 rfl rfl
set_option maxRecDepth 20000 in
theorem w_430 : (Jvm.Cond.methodLinkNest "DatumDesk" (82 : Nat) ({ cls := "DatumDesk$Nodes", name := "tailOf", desc := "(I)I" } : Jvm.MethodName) "DatumDesk") ∈ NWs := nw_of 430 rfl rfl
set_option maxRecDepth 20000 in
theorem w_432 : (Jvm.Cond.instanceMethod ({ cls := "DatumDesk$Nodes", name := "tailOf", desc := "(I)I" } : Jvm.MethodName)) ∈ TB := tb_of 432 rfl rfl
set_option maxRecDepth 20000 in
theorem w_433 : (Jvm.Cond.code ({ cls := "DatumDesk$Nodes", name := "tailOf", desc := "(I)I" } : Jvm.MethodName) prog_2_method_17_code (2 : Nat) (Option.some Jvm.ClassFile.FieldType.int)) ∈ TB := tb_of 433 rfl rfl
set_option maxRecDepth 20000 in
theorem w_438 : (Jvm.Cond.methodLinkNest "DatumDesk" (85 : Nat) ({ cls := "DatumDesk$Nodes", name := "has", desc := "(I)Z" } : Jvm.MethodName) "DatumDesk") ∈ NWs := nw_of 438 rfl rfl
set_option maxRecDepth 20000 in
theorem w_439 : (Jvm.Cond.methodLinkNest "DatumDesk" (89 : Nat) ({ cls := "DatumDesk$Nodes", name := "alike", desc := "(III)Z" } : Jvm.MethodName) "DatumDesk") ∈ NWs := nw_of 439 rfl rfl
set_option maxRecDepth 20000 in
theorem w_441 : (Jvm.Cond.instanceMethod ({ cls := "DatumDesk$Nodes", name := "alike", desc := "(III)Z" } : Jvm.MethodName)) ∈ TB := tb_of 441 rfl rfl
set_option maxRecDepth 20000 in
theorem w_442 : (Jvm.Cond.code ({ cls := "DatumDesk$Nodes", name := "alike", desc := "(III)Z" } : Jvm.MethodName) prog_2_method_18_code (7 : Nat) (Option.some Jvm.ClassFile.FieldType.boolean)) ∈ TB := tb_of 442 rfl rfl
set_option maxRecDepth 20000 in
theorem w_443 : (Jvm.Cond.methodLink "DatumDesk$Nodes" (60 : Nat) ({ cls := "DatumDesk$Nodes", name := "kindOf", desc := "(I)I" } : Jvm.MethodName)) ∈ TB := tb_of 443 rfl rfl
set_option maxRecDepth 20000 in
theorem w_444 : (Jvm.Cond.methodLink "DatumDesk$Nodes" (64 : Nat) ({ cls := "DatumDesk$Nodes", name := "sameContent", desc := "(II)Z" } : Jvm.MethodName)) ∈ TB := tb_of 444 rfl rfl
set_option maxRecDepth 20000 in
theorem w_446 : (Jvm.Cond.instanceMethod ({ cls := "DatumDesk$Nodes", name := "sameContent", desc := "(II)Z" } : Jvm.MethodName)) ∈ TB := tb_of 446 rfl rfl
set_option maxRecDepth 20000 in
theorem w_447 : (Jvm.Cond.code ({ cls := "DatumDesk$Nodes", name := "sameContent", desc := "(II)Z" } : Jvm.MethodName) prog_2_method_19_code (5 : Nat) (Option.some Jvm.ClassFile.FieldType.boolean)) ∈ TB := tb_of 447 rfl rfl
set_option maxRecDepth 20000 in
theorem w_448 : (Jvm.Cond.methodLink "DatumDesk$Nodes" (71 : Nat) ({ cls := "DatumDesk$Nodes", name := "amountOf", desc := "(I)I" } : Jvm.MethodName)) ∈ TB := tb_of 448 rfl rfl
set_option maxRecDepth 20000 in
theorem w_449 : (Jvm.Cond.methodLink "DatumDesk$Nodes" (74 : Nat) ({ cls := "DatumDesk$Nodes", name := "byteOf", desc := "(II)I" } : Jvm.MethodName)) ∈ TB := tb_of 449 rfl rfl
set_option maxRecDepth 20000 in
theorem w_450 : (Jvm.Cond.methodLink "DatumDesk$Nodes" (67 : Nat) ({ cls := "DatumDesk$Nodes", name := "alike", desc := "(III)Z" } : Jvm.MethodName)) ∈ TB := tb_of 450 rfl rfl
set_option maxRecDepth 20000 in
theorem w_455 : (Jvm.Cond.methodLinkNest "DatumDesk" (93 : Nat) ({ cls := "DatumDesk$Writer", name := "writeNode", desc := "(II)V" } : Jvm.MethodName) "DatumDesk") ∈ NWs := nw_of 455 rfl rfl
set_option maxRecDepth 20000 in
theorem w_457 : (Jvm.Cond.instanceMethod ({ cls := "DatumDesk$Writer", name := "writeNode", desc := "(II)V" } : Jvm.MethodName)) ∈ TB := tb_of 457 rfl rfl
set_option maxRecDepth 20000 in
theorem w_458 : (Jvm.Cond.code ({ cls := "DatumDesk$Writer", name := "writeNode", desc := "(II)V" } : Jvm.MethodName) prog_7_method_2_code (3 : Nat) (Option.none : Option Jvm.ClassFile.FieldType)) ∈ TB := tb_of 458 rfl rfl
set_option maxRecDepth 20000 in
theorem w_459 : (Jvm.Cond.methodLinkNest "DatumDesk$Writer" (19 : Nat) ({ cls := "DatumDesk$Nodes", name := "kindOf", desc := "(I)I" } : Jvm.MethodName) "DatumDesk") ∈ NWs := nw_of 459 rfl rfl
set_option maxRecDepth 20000 in
theorem w_460 : (Jvm.Cond.methodLinkNest "DatumDesk$Writer" (25 : Nat) ({ cls := "DatumDesk$Nodes", name := "amountOf", desc := "(I)I" } : Jvm.MethodName) "DatumDesk") ∈ NWs := nw_of 460 rfl rfl
set_option maxRecDepth 20000 in
theorem w_461 : (Jvm.Cond.methodLink "DatumDesk$Writer" (28 : Nat) ({ cls := "DatumDesk$Writer", name := "writeNumber", desc := "(I)V" } : Jvm.MethodName)) ∈ TB := tb_of 461 rfl rfl
set_option maxRecDepth 20000 in
theorem w_463 : (Jvm.Cond.instanceMethod ({ cls := "DatumDesk$Writer", name := "writeNumber", desc := "(I)V" } : Jvm.MethodName)) ∈ TB := tb_of 463 rfl rfl
set_option maxRecDepth 20000 in
theorem w_464 : (Jvm.Cond.code ({ cls := "DatumDesk$Writer", name := "writeNumber", desc := "(I)V" } : Jvm.MethodName) prog_7_method_3_code (4 : Nat) (Option.none : Option Jvm.ClassFile.FieldType)) ∈ TB := tb_of 464 rfl rfl
set_option maxRecDepth 20000 in
theorem w_465 : (Jvm.Cond.methodLinkNest "DatumDesk$Writer" (42 : Nat) ({ cls := "DatumDesk$Waiting", name := "append", desc := "(I)V" } : Jvm.MethodName) "DatumDesk") ∈ NWs := nw_of 465 rfl rfl
set_option maxRecDepth 20000 in
theorem w_467 : (Jvm.Cond.instanceMethod ({ cls := "DatumDesk$Waiting", name := "append", desc := "(I)V" } : Jvm.MethodName)) ∈ TB := tb_of 467 rfl rfl
set_option maxRecDepth 20000 in
theorem w_468 : (Jvm.Cond.code ({ cls := "DatumDesk$Waiting", name := "append", desc := "(I)V" } : Jvm.MethodName) prog_6_method_2_code (3 : Nat) (Option.none : Option Jvm.ClassFile.FieldType)) ∈ TB := tb_of 468 rfl rfl
set_option maxRecDepth 20000 in
theorem w_469 : (Jvm.Cond.constant "DatumDesk$Writer" (47 : Nat) (100000000 : Int32)) ∈ TB := tb_of 469 rfl rfl
set_option maxRecDepth 20000 in
theorem w_470 : (Jvm.Cond.methodLink "DatumDesk$Writer" (32 : Nat) ({ cls := "DatumDesk$Writer", name := "writeName", desc := "(I)V" } : Jvm.MethodName)) ∈ TB := tb_of 470 rfl rfl
set_option maxRecDepth 20000 in
theorem w_472 : (Jvm.Cond.instanceMethod ({ cls := "DatumDesk$Writer", name := "writeName", desc := "(I)V" } : Jvm.MethodName)) ∈ TB := tb_of 472 rfl rfl
set_option maxRecDepth 20000 in
theorem w_473 : (Jvm.Cond.code ({ cls := "DatumDesk$Writer", name := "writeName", desc := "(I)V" } : Jvm.MethodName) prog_7_method_4_code (4 : Nat) (Option.none : Option Jvm.ClassFile.FieldType)) ∈ TB := tb_of 473 rfl rfl
set_option maxRecDepth 20000 in
theorem w_474 : (Jvm.Cond.methodLinkNest "DatumDesk$Writer" (48 : Nat) ({ cls := "DatumDesk$Nodes", name := "byteOf", desc := "(II)I" } : Jvm.MethodName) "DatumDesk") ∈ NWs := nw_of 474 rfl rfl
set_option maxRecDepth 20000 in
theorem w_475 : (Jvm.Cond.methodLink "DatumDesk$Writer" (35 : Nat) ({ cls := "DatumDesk$Writer", name := "writeString", desc := "(I)V" } : Jvm.MethodName)) ∈ TB := tb_of 475 rfl rfl
set_option maxRecDepth 20000 in
theorem w_477 : (Jvm.Cond.instanceMethod ({ cls := "DatumDesk$Writer", name := "writeString", desc := "(I)V" } : Jvm.MethodName)) ∈ TB := tb_of 477 rfl rfl
set_option maxRecDepth 20000 in
theorem w_478 : (Jvm.Cond.code ({ cls := "DatumDesk$Writer", name := "writeString", desc := "(I)V" } : Jvm.MethodName) prog_7_method_5_code (5 : Nat) (Option.none : Option Jvm.ClassFile.FieldType)) ∈ TB := tb_of 478 rfl rfl
set_option maxRecDepth 20000 in
theorem w_479 : (Jvm.Cond.methodLink "DatumDesk$Writer" (38 : Nat) ({ cls := "DatumDesk$Writer", name := "writePair", desc := "(II)V" } : Jvm.MethodName)) ∈ TB := tb_of 479 rfl rfl
set_option maxRecDepth 20000 in
theorem w_481 : (Jvm.Cond.instanceMethod ({ cls := "DatumDesk$Writer", name := "writePair", desc := "(II)V" } : Jvm.MethodName)) ∈ TB := tb_of 481 rfl rfl
set_option maxRecDepth 20000 in
theorem w_482 : (Jvm.Cond.code ({ cls := "DatumDesk$Writer", name := "writePair", desc := "(II)V" } : Jvm.MethodName) prog_7_method_6_code (6 : Nat) (Option.none : Option Jvm.ClassFile.FieldType)) ∈ TB := tb_of 482 rfl rfl
set_option maxRecDepth 20000 in
theorem w_483 : (Jvm.Cond.methodLinkNest "DatumDesk$Writer" (52 : Nat) ({ cls := "DatumDesk$Nodes", name := "quotedIn", desc := "(I)I" } : Jvm.MethodName) "DatumDesk") ∈ NWs := nw_of 483 rfl rfl
set_option maxRecDepth 20000 in
theorem w_485 : (Jvm.Cond.instanceMethod ({ cls := "DatumDesk$Nodes", name := "quotedIn", desc := "(I)I" } : Jvm.MethodName)) ∈ TB := tb_of 485 rfl rfl
set_option maxRecDepth 20000 in
theorem w_486 : (Jvm.Cond.code ({ cls := "DatumDesk$Nodes", name := "quotedIn", desc := "(I)I" } : Jvm.MethodName) prog_2_method_20_code (3 : Nat) (Option.some Jvm.ClassFile.FieldType.int)) ∈ TB := tb_of 486 rfl rfl
set_option maxRecDepth 20000 in
theorem w_487 : (Jvm.Cond.methodLink "DatumDesk$Nodes" (78 : Nat) ({ cls := "DatumDesk$Nodes", name := "tailOf", desc := "(I)I" } : Jvm.MethodName)) ∈ TB := tb_of 487 rfl rfl
set_option maxRecDepth 20000 in
theorem w_488 : (Jvm.Cond.methodLink "DatumDesk$Nodes" (81 : Nat) ({ cls := "DatumDesk$Nodes", name := "headOf", desc := "(I)I" } : Jvm.MethodName)) ∈ TB := tb_of 488 rfl rfl
set_option maxRecDepth 20000 in
theorem w_489 : (Jvm.Cond.methodLink "DatumDesk$Nodes" (84 : Nat) ({ cls := "DatumDesk$Nodes", name := "isQuoteName", desc := "(I)Z" } : Jvm.MethodName)) ∈ TB := tb_of 489 rfl rfl
set_option maxRecDepth 20000 in
theorem w_491 : (Jvm.Cond.instanceMethod ({ cls := "DatumDesk$Nodes", name := "isQuoteName", desc := "(I)Z" } : Jvm.MethodName)) ∈ TB := tb_of 491 rfl rfl
set_option maxRecDepth 20000 in
theorem w_492 : (Jvm.Cond.code ({ cls := "DatumDesk$Nodes", name := "isQuoteName", desc := "(I)Z" } : Jvm.MethodName) prog_2_method_21_code (3 : Nat) (Option.some Jvm.ClassFile.FieldType.boolean)) ∈ TB := tb_of 492 rfl rfl
set_option maxRecDepth 20000 in
theorem w_493 : (Jvm.Cond.methodLink "DatumDesk$Writer" (55 : Nat) ({ cls := "DatumDesk$Writer", name := "writeNode", desc := "(II)V" } : Jvm.MethodName)) ∈ TB := tb_of 493 rfl rfl
set_option maxRecDepth 20000 in
theorem w_494 : (Jvm.Cond.methodLinkNest "DatumDesk$Writer" (58 : Nat) ({ cls := "DatumDesk$Nodes", name := "headOf", desc := "(I)I" } : Jvm.MethodName) "DatumDesk") ∈ NWs := nw_of 494 rfl rfl
set_option maxRecDepth 20000 in
theorem w_495 : (Jvm.Cond.methodLinkNest "DatumDesk$Writer" (61 : Nat) ({ cls := "DatumDesk$Nodes", name := "tailOf", desc := "(I)I" } : Jvm.MethodName) "DatumDesk") ∈ NWs := nw_of 495 rfl rfl
set_option maxRecDepth 20000 in
theorem w_500 : (Jvm.Cond.methodLink "DatumDesk" (100 : Nat) ({ cls := "java/lang/Math", name := "min", desc := "(II)I" } : Jvm.MethodName)) ∈ TB := tb_of 500 rfl rfl
set_option maxRecDepth 20000 in
theorem w_501 : (Jvm.Cond.static ({ cls := "java/lang/Math", name := "min", desc := "(II)I" } : Jvm.MethodName)) ∈ TB := tb_of 501 rfl rfl
set_option maxRecDepth 20000 in
theorem w_502 : (Jvm.Cond.code ({ cls := "java/lang/Math", name := "min", desc := "(II)I" } : Jvm.MethodName) prog_10_method_69_code (2 : Nat) (Option.some Jvm.ClassFile.FieldType.int)) ∈ TB := tb_of 502 rfl rfl
set_option maxRecDepth 20000 in
theorem w_503 : (Jvm.Cond.methodLinkNest "DatumDesk" (105 : Nat) ({ cls := "DatumDesk$Waiting", name := "take", desc := "()I" } : Jvm.MethodName) "DatumDesk") ∈ NWs := nw_of 503 rfl rfl
set_option maxRecDepth 20000 in
theorem w_505 : (Jvm.Cond.instanceMethod ({ cls := "DatumDesk$Waiting", name := "take", desc := "()I" } : Jvm.MethodName)) ∈ TB := tb_of 505 rfl rfl
set_option maxRecDepth 20000 in
theorem w_506 : (Jvm.Cond.code ({ cls := "DatumDesk$Waiting", name := "take", desc := "()I" } : Jvm.MethodName) prog_6_method_3_code (2 : Nat) (Option.some Jvm.ClassFile.FieldType.int)) ∈ TB := tb_of 506 rfl rfl
set_option maxRecDepth 20000 in
theorem w_517 : (Jvm.Cond.fieldLink "DatumDeskModel" (7 : Nat) "DatumDeskModel" "text" "[I") ∈ TB := tb_of 517 rfl rfl
set_option maxRecDepth 20000 in
theorem w_518 : (Jvm.Cond.fieldLink "DatumDeskModel" (53 : Nat) "DatumDeskModel" "size" "I") ∈ TB := tb_of 518 rfl rfl
set_option maxRecDepth 20000 in
theorem w_519 : (Jvm.Cond.fieldLink "DatumDeskModel" (56 : Nat) "DatumDeskModel" "at" "I") ∈ TB := tb_of 519 rfl rfl
set_option maxRecDepth 20000 in
theorem w_520 : (Jvm.Cond.fieldLink "DatumDeskModel" (73 : Nat) "DatumDeskModel" "place" "I") ∈ TB := tb_of 520 rfl rfl
set_option maxRecDepth 20000 in
theorem w_521 : (Jvm.Cond.fieldLink "DatumDeskModel" (13 : Nat) "DatumDeskModel" "fault" "I") ∈ TB := tb_of 521 rfl rfl
set_option maxRecDepth 20000 in
theorem w_522 : (Jvm.Cond.fieldLink "DatumDeskModel" (83 : Nat) "DatumDeskModel" "nodes" "I") ∈ TB := tb_of 522 rfl rfl
set_option maxRecDepth 20000 in
theorem w_523 : (Jvm.Cond.fieldLink "DatumDeskModel" (17 : Nat) "DatumDeskModel" "kinds" "[I") ∈ TB := tb_of 523 rfl rfl
set_option maxRecDepth 20000 in
theorem w_524 : (Jvm.Cond.fieldLink "DatumDeskModel" (20 : Nat) "DatumDeskModel" "values" "[I") ∈ TB := tb_of 524 rfl rfl
set_option maxRecDepth 20000 in
theorem w_525 : (Jvm.Cond.fieldLink "DatumDeskModel" (23 : Nat) "DatumDeskModel" "bytes" "[I") ∈ TB := tb_of 525 rfl rfl
set_option maxRecDepth 20000 in
theorem w_526 : (Jvm.Cond.fieldLink "DatumDeskModel" (26 : Nat) "DatumDeskModel" "heads" "[I") ∈ TB := tb_of 526 rfl rfl
set_option maxRecDepth 20000 in
theorem w_527 : (Jvm.Cond.fieldLink "DatumDeskModel" (29 : Nat) "DatumDeskModel" "tails" "[I") ∈ TB := tb_of 527 rfl rfl
set_option maxRecDepth 20000 in
theorem w_528 : (Jvm.Cond.fieldLink "DatumDeskModel" (100 : Nat) "DatumDeskModel" "data" "I") ∈ TB := tb_of 528 rfl rfl
set_option maxRecDepth 20000 in
theorem w_529 : (Jvm.Cond.fieldLink "DatumDeskModel" (32 : Nat) "DatumDeskModel" "datums" "[I") ∈ TB := tb_of 529 rfl rfl
set_option maxRecDepth 20000 in
theorem w_530 : (Jvm.Cond.fieldLink "DatumDeskModel" (97 : Nat) "DatumDeskModel" "open" "I") ∈ TB := tb_of 530 rfl rfl
set_option maxRecDepth 20000 in
theorem w_531 : (Jvm.Cond.fieldLink "DatumDeskModel" (35 : Nat) "DatumDeskModel" "firsts" "[I") ∈ TB := tb_of 531 rfl rfl
set_option maxRecDepth 20000 in
theorem w_532 : (Jvm.Cond.fieldLink "DatumDeskModel" (38 : Nat) "DatumDeskModel" "lasts" "[I") ∈ TB := tb_of 532 rfl rfl
set_option maxRecDepth 20000 in
theorem w_533 : (Jvm.Cond.fieldLink "DatumDeskModel" (41 : Nat) "DatumDeskModel" "states" "[I") ∈ TB := tb_of 533 rfl rfl
set_option maxRecDepth 20000 in
theorem w_534 : (Jvm.Cond.fieldLink "DatumDeskModel" (44 : Nat) "DatumDeskModel" "written" "[I") ∈ TB := tb_of 534 rfl rfl
set_option maxRecDepth 20000 in
theorem w_535 : (Jvm.Cond.fieldLink "DatumDeskModel" (137 : Nat) "DatumDeskModel" "waits" "I") ∈ TB := tb_of 535 rfl rfl
set_option maxRecDepth 20000 in
theorem w_536 : (Jvm.Cond.fieldLink "DatumDeskModel" (47 : Nat) "DatumDeskModel" "ones" "[I") ∈ TB := tb_of 536 rfl rfl
set_option maxRecDepth 20000 in
theorem w_537 : (Jvm.Cond.fieldLink "DatumDeskModel" (50 : Nat) "DatumDeskModel" "others" "[I") ∈ TB := tb_of 537 rfl rfl
set_option maxRecDepth 20000 in
theorem w_589 : (Jvm.Cond.methodLink "DatumDeskModel" (117 : Nat) ({ cls := "DatumDeskModel", name := "token", desc := "()I" } : Jvm.MethodName)) ∈ TB := tb_of 589 rfl rfl
set_option maxRecDepth 20000 in
theorem w_591 : (Jvm.Cond.instanceMethod ({ cls := "DatumDeskModel", name := "token", desc := "()I" } : Jvm.MethodName)) ∈ TB := tb_of 591 rfl rfl
set_option maxRecDepth 20000 in
theorem w_592 : (Jvm.Cond.code ({ cls := "DatumDeskModel", name := "token", desc := "()I" } : Jvm.MethodName) prog_9_method_8_code (5 : Nat) (Option.some Jvm.ClassFile.FieldType.int)) ∈ TB := tb_of 592 rfl rfl
set_option maxRecDepth 20000 in
theorem w_593 : (Jvm.Cond.methodLink "DatumDeskModel" (70 : Nat) ({ cls := "DatumDeskModel", name := "skip", desc := "()V" } : Jvm.MethodName)) ∈ TB := tb_of 593 rfl rfl
set_option maxRecDepth 20000 in
theorem w_595 : (Jvm.Cond.instanceMethod ({ cls := "DatumDeskModel", name := "skip", desc := "()V" } : Jvm.MethodName)) ∈ TB := tb_of 595 rfl rfl
set_option maxRecDepth 20000 in
theorem w_596 : (Jvm.Cond.code ({ cls := "DatumDeskModel", name := "skip", desc := "()V" } : Jvm.MethodName) prog_9_method_7_code (3 : Nat) (Option.none : Option Jvm.ClassFile.FieldType)) ∈ TB := tb_of 596 rfl rfl
set_option maxRecDepth 20000 in
theorem w_597 : (Jvm.Cond.methodLink "DatumDeskModel" (66 : Nat) ({ cls := "DatumDeskModel", name := "peek", desc := "(I)I" } : Jvm.MethodName)) ∈ TB := tb_of 597 rfl rfl
set_option maxRecDepth 20000 in
theorem w_599 : (Jvm.Cond.instanceMethod ({ cls := "DatumDeskModel", name := "peek", desc := "(I)I" } : Jvm.MethodName)) ∈ TB := tb_of 599 rfl rfl
set_option maxRecDepth 20000 in
theorem w_600 : (Jvm.Cond.code ({ cls := "DatumDeskModel", name := "peek", desc := "(I)I" } : Jvm.MethodName) prog_9_method_3_code (2 : Nat) (Option.some Jvm.ClassFile.FieldType.int)) ∈ TB := tb_of 600 rfl rfl
set_option maxRecDepth 20000 in
theorem w_601 : (Jvm.Cond.methodLink "DatumDeskModel" (76 : Nat) ({ cls := "DatumDeskModel", name := "isByte", desc := "(I)Z" } : Jvm.MethodName)) ∈ TB := tb_of 601 rfl rfl
set_option maxRecDepth 20000 in
theorem w_602 : (Jvm.Cond.static ({ cls := "DatumDeskModel", name := "isByte", desc := "(I)Z" } : Jvm.MethodName)) ∈ TB := tb_of 602 rfl rfl
set_option maxRecDepth 20000 in
theorem w_603 : (Jvm.Cond.code ({ cls := "DatumDeskModel", name := "isByte", desc := "(I)Z" } : Jvm.MethodName) prog_9_method_6_code (1 : Nat) (Option.some Jvm.ClassFile.FieldType.boolean)) ∈ TB := tb_of 603 rfl rfl
set_option maxRecDepth 20000 in
theorem w_604 : (Jvm.Cond.methodLink "DatumDeskModel" (59 : Nat) ({ cls := "DatumDeskModel", name := "isBegin", desc := "(I)Z" } : Jvm.MethodName)) ∈ TB := tb_of 604 rfl rfl
set_option maxRecDepth 20000 in
theorem w_605 : (Jvm.Cond.static ({ cls := "DatumDeskModel", name := "isBegin", desc := "(I)Z" } : Jvm.MethodName)) ∈ TB := tb_of 605 rfl rfl
set_option maxRecDepth 20000 in
theorem w_606 : (Jvm.Cond.code ({ cls := "DatumDeskModel", name := "isBegin", desc := "(I)Z" } : Jvm.MethodName) prog_9_method_5_code (1 : Nat) (Option.some Jvm.ClassFile.FieldType.boolean)) ∈ TB := tb_of 606 rfl rfl
set_option maxRecDepth 20000 in
theorem w_607 : (Jvm.Cond.methodLink "DatumDeskModel" (63 : Nat) ({ cls := "DatumDeskModel", name := "isDigit", desc := "(I)Z" } : Jvm.MethodName)) ∈ TB := tb_of 607 rfl rfl
set_option maxRecDepth 20000 in
theorem w_608 : (Jvm.Cond.static ({ cls := "DatumDeskModel", name := "isDigit", desc := "(I)Z" } : Jvm.MethodName)) ∈ TB := tb_of 608 rfl rfl
set_option maxRecDepth 20000 in
theorem w_609 : (Jvm.Cond.code ({ cls := "DatumDeskModel", name := "isDigit", desc := "(I)Z" } : Jvm.MethodName) prog_9_method_4_code (1 : Nat) (Option.some Jvm.ClassFile.FieldType.boolean)) ∈ TB := tb_of 609 rfl rfl
set_option maxRecDepth 20000 in
theorem w_610 : (Jvm.Cond.methodLink "DatumDeskModel" (79 : Nat) ({ cls := "DatumDeskModel", name := "string", desc := "()I" } : Jvm.MethodName)) ∈ TB := tb_of 610 rfl rfl
set_option maxRecDepth 20000 in
theorem w_612 : (Jvm.Cond.instanceMethod ({ cls := "DatumDeskModel", name := "string", desc := "()I" } : Jvm.MethodName)) ∈ TB := tb_of 612 rfl rfl
set_option maxRecDepth 20000 in
theorem w_613 : (Jvm.Cond.code ({ cls := "DatumDeskModel", name := "string", desc := "()I" } : Jvm.MethodName) prog_9_method_9_code (4 : Nat) (Option.some Jvm.ClassFile.FieldType.int)) ∈ TB := tb_of 613 rfl rfl
set_option maxRecDepth 20000 in
theorem w_614 : (Jvm.Cond.methodLink "DatumDeskModel" (86 : Nat) ({ cls := "DatumDeskModel", name := "fail", desc := "(I)V" } : Jvm.MethodName)) ∈ TB := tb_of 614 rfl rfl
set_option maxRecDepth 20000 in
theorem w_616 : (Jvm.Cond.instanceMethod ({ cls := "DatumDeskModel", name := "fail", desc := "(I)V" } : Jvm.MethodName)) ∈ TB := tb_of 616 rfl rfl
set_option maxRecDepth 20000 in
theorem w_617 : (Jvm.Cond.code ({ cls := "DatumDeskModel", name := "fail", desc := "(I)V" } : Jvm.MethodName) prog_9_method_11_code (2 : Nat) (Option.none : Option Jvm.ClassFile.FieldType)) ∈ TB := tb_of 617 rfl rfl
set_option maxRecDepth 20000 in
theorem w_618 : (Jvm.Cond.methodLink "DatumDeskModel" (120 : Nat) ({ cls := "DatumDeskModel", name := "opens", desc := "(Z)V" } : Jvm.MethodName)) ∈ TB := tb_of 618 rfl rfl
set_option maxRecDepth 20000 in
theorem w_620 : (Jvm.Cond.instanceMethod ({ cls := "DatumDeskModel", name := "opens", desc := "(Z)V" } : Jvm.MethodName)) ∈ TB := tb_of 620 rfl rfl
set_option maxRecDepth 20000 in
theorem w_621 : (Jvm.Cond.code ({ cls := "DatumDeskModel", name := "opens", desc := "(Z)V" } : Jvm.MethodName) prog_9_method_16_code (6 : Nat) (Option.none : Option Jvm.ClassFile.FieldType)) ∈ TB := tb_of 621 rfl rfl
set_option maxRecDepth 20000 in
theorem w_622 : (Jvm.Cond.methodLink "DatumDeskModel" (103 : Nat) ({ cls := "DatumDeskModel", name := "begin", desc := "()V" } : Jvm.MethodName)) ∈ TB := tb_of 622 rfl rfl
set_option maxRecDepth 20000 in
theorem w_624 : (Jvm.Cond.instanceMethod ({ cls := "DatumDeskModel", name := "begin", desc := "()V" } : Jvm.MethodName)) ∈ TB := tb_of 624 rfl rfl
set_option maxRecDepth 20000 in
theorem w_625 : (Jvm.Cond.code ({ cls := "DatumDeskModel", name := "begin", desc := "()V" } : Jvm.MethodName) prog_9_method_14_code (3 : Nat) (Option.none : Option Jvm.ClassFile.FieldType)) ∈ TB := tb_of 625 rfl rfl
set_option maxRecDepth 20000 in
theorem w_626 : (Jvm.Cond.methodLink "DatumDeskModel" (90 : Nat) ({ cls := "DatumDeskModel", name := "node", desc := "(I)I" } : Jvm.MethodName)) ∈ TB := tb_of 626 rfl rfl
set_option maxRecDepth 20000 in
theorem w_628 : (Jvm.Cond.instanceMethod ({ cls := "DatumDeskModel", name := "node", desc := "(I)I" } : Jvm.MethodName)) ∈ TB := tb_of 628 rfl rfl
set_option maxRecDepth 20000 in
theorem w_629 : (Jvm.Cond.code ({ cls := "DatumDeskModel", name := "node", desc := "(I)I" } : Jvm.MethodName) prog_9_method_10_code (2 : Nat) (Option.some Jvm.ClassFile.FieldType.int)) ∈ TB := tb_of 629 rfl rfl
set_option maxRecDepth 20000 in
theorem w_631 : (Jvm.Cond.methodLink "DatumDeskModel" (108 : Nat) ({ cls := "java/lang/String", name := "charAt", desc := "(I)C" } : Jvm.MethodName)) ∈ TB := tb_of 631 rfl rfl
set_option maxRecDepth 20000 in
theorem w_632 : (Jvm.Cond.instanceMethod ({ cls := "java/lang/String", name := "charAt", desc := "(I)C" } : Jvm.MethodName)) ∈ TB := tb_of 632 rfl rfl
set_option maxRecDepth 20000 in
theorem w_633 : (Jvm.Cond.selects "java/lang/String" ({ cls := "java/lang/String", name := "charAt", desc := "(I)C" } : Jvm.MethodName) ({ cls := "java/lang/String", name := "charAt", desc := "(I)C" } : Jvm.MethodName)) ∈ TB := tb_of 633 rfl rfl
set_option maxRecDepth 20000 in
theorem w_634 : (Jvm.Cond.code ({ cls := "java/lang/String", name := "charAt", desc := "(I)C" } : Jvm.MethodName) prog_11_method_56_code (2 : Nat) (Option.some Jvm.ClassFile.FieldType.char)) ∈ TB := tb_of 634 rfl rfl
set_option maxRecDepth 20000 in
theorem w_671 : (Jvm.Cond.methodLink "DatumDeskModel" (93 : Nat) ({ cls := "DatumDeskModel", name := "letter", desc := "(II)V" } : Jvm.MethodName)) ∈ TB := tb_of 671 rfl rfl
set_option maxRecDepth 20000 in
theorem w_673 : (Jvm.Cond.instanceMethod ({ cls := "DatumDeskModel", name := "letter", desc := "(II)V" } : Jvm.MethodName)) ∈ TB := tb_of 673 rfl rfl
set_option maxRecDepth 20000 in
theorem w_674 : (Jvm.Cond.code ({ cls := "DatumDeskModel", name := "letter", desc := "(II)V" } : Jvm.MethodName) prog_9_method_12_code (3 : Nat) (Option.none : Option Jvm.ClassFile.FieldType)) ∈ TB := tb_of 674 rfl rfl
set_option maxRecDepth 20000 in
theorem w_675 : (Jvm.Cond.methodLink "DatumDeskModel" (124 : Nat) ({ cls := "DatumDeskModel", name := "closes", desc := "()V" } : Jvm.MethodName)) ∈ TB := tb_of 675 rfl rfl
set_option maxRecDepth 20000 in
theorem w_677 : (Jvm.Cond.instanceMethod ({ cls := "DatumDeskModel", name := "closes", desc := "()V" } : Jvm.MethodName)) ∈ TB := tb_of 677 rfl rfl
set_option maxRecDepth 20000 in
theorem w_678 : (Jvm.Cond.code ({ cls := "DatumDeskModel", name := "closes", desc := "()V" } : Jvm.MethodName) prog_9_method_17_code (6 : Nat) (Option.none : Option Jvm.ClassFile.FieldType)) ∈ TB := tb_of 678 rfl rfl
set_option maxRecDepth 20000 in
theorem w_679 : (Jvm.Cond.methodLink "DatumDeskModel" (114 : Nat) ({ cls := "DatumDeskModel", name := "end", desc := "(I)V" } : Jvm.MethodName)) ∈ TB := tb_of 679 rfl rfl
set_option maxRecDepth 20000 in
theorem w_681 : (Jvm.Cond.instanceMethod ({ cls := "DatumDeskModel", name := "end", desc := "(I)V" } : Jvm.MethodName)) ∈ TB := tb_of 681 rfl rfl
set_option maxRecDepth 20000 in
theorem w_682 : (Jvm.Cond.code ({ cls := "DatumDeskModel", name := "end", desc := "(I)V" } : Jvm.MethodName) prog_9_method_15_code (4 : Nat) (Option.none : Option Jvm.ClassFile.FieldType)) ∈ TB := tb_of 682 rfl rfl
set_option maxRecDepth 20000 in
theorem w_683 : (Jvm.Cond.methodLink "DatumDeskModel" (127 : Nat) ({ cls := "DatumDeskModel", name := "atom", desc := "(I)I" } : Jvm.MethodName)) ∈ TB := tb_of 683 rfl rfl
set_option maxRecDepth 20000 in
theorem w_685 : (Jvm.Cond.instanceMethod ({ cls := "DatumDeskModel", name := "atom", desc := "(I)I" } : Jvm.MethodName)) ∈ TB := tb_of 685 rfl rfl
set_option maxRecDepth 20000 in
theorem w_686 : (Jvm.Cond.code ({ cls := "DatumDeskModel", name := "atom", desc := "(I)I" } : Jvm.MethodName) prog_9_method_13_code (7 : Nat) (Option.some Jvm.ClassFile.FieldType.int)) ∈ TB := tb_of 686 rfl rfl
set_option maxRecDepth 20000 in
theorem w_700 : (Jvm.Cond.methodLink "DatumDeskModel" (130 : Nat) ({ cls := "DatumDeskModel", name := "isNode", desc := "(I)Z" } : Jvm.MethodName)) ∈ TB := tb_of 700 rfl rfl
set_option maxRecDepth 20000 in
theorem w_702 : (Jvm.Cond.instanceMethod ({ cls := "DatumDeskModel", name := "isNode", desc := "(I)Z" } : Jvm.MethodName)) ∈ TB := tb_of 702 rfl rfl
set_option maxRecDepth 20000 in
theorem w_703 : (Jvm.Cond.code ({ cls := "DatumDeskModel", name := "isNode", desc := "(I)Z" } : Jvm.MethodName) prog_9_method_20_code (2 : Nat) (Option.some Jvm.ClassFile.FieldType.boolean)) ∈ TB := tb_of 703 rfl rfl
set_option maxRecDepth 20000 in
theorem w_720 : (Jvm.Cond.methodLink "DatumDeskModel" (133 : Nat) ({ cls := "DatumDeskModel", name := "same", desc := "(II)Z" } : Jvm.MethodName)) ∈ TB := tb_of 720 rfl rfl
set_option maxRecDepth 20000 in
theorem w_722 : (Jvm.Cond.instanceMethod ({ cls := "DatumDeskModel", name := "same", desc := "(II)Z" } : Jvm.MethodName)) ∈ TB := tb_of 722 rfl rfl
set_option maxRecDepth 20000 in
theorem w_723 : (Jvm.Cond.code ({ cls := "DatumDeskModel", name := "same", desc := "(II)Z" } : Jvm.MethodName) prog_9_method_26_code (6 : Nat) (Option.some Jvm.ClassFile.FieldType.boolean)) ∈ TB := tb_of 723 rfl rfl
set_option maxRecDepth 20000 in
theorem w_728 : (Jvm.Cond.methodLink "DatumDeskModel" (152 : Nat) ({ cls := "DatumDeskModel", name := "step", desc := "(II)I" } : Jvm.MethodName)) ∈ TB := tb_of 728 rfl rfl
set_option maxRecDepth 20000 in
theorem w_730 : (Jvm.Cond.instanceMethod ({ cls := "DatumDeskModel", name := "step", desc := "(II)I" } : Jvm.MethodName)) ∈ TB := tb_of 730 rfl rfl
set_option maxRecDepth 20000 in
theorem w_731 : (Jvm.Cond.code ({ cls := "DatumDeskModel", name := "step", desc := "(II)I" } : Jvm.MethodName) prog_9_method_32_code (5 : Nat) (Option.some Jvm.ClassFile.FieldType.int)) ∈ TB := tb_of 731 rfl rfl
set_option maxRecDepth 20000 in
theorem w_732 : (Jvm.Cond.methodLink "DatumDeskModel" (140 : Nat) ({ cls := "DatumDeskModel", name := "say", desc := "(I)V" } : Jvm.MethodName)) ∈ TB := tb_of 732 rfl rfl
set_option maxRecDepth 20000 in
theorem w_734 : (Jvm.Cond.instanceMethod ({ cls := "DatumDeskModel", name := "say", desc := "(I)V" } : Jvm.MethodName)) ∈ TB := tb_of 734 rfl rfl
set_option maxRecDepth 20000 in
theorem w_735 : (Jvm.Cond.code ({ cls := "DatumDeskModel", name := "say", desc := "(I)V" } : Jvm.MethodName) prog_9_method_28_code (2 : Nat) (Option.none : Option Jvm.ClassFile.FieldType)) ∈ TB := tb_of 735 rfl rfl
set_option maxRecDepth 20000 in
theorem w_736 : (Jvm.Cond.methodLink "DatumDeskModel" (143 : Nat) ({ cls := "DatumDeskModel", name := "isQuote", desc := "(I)Z" } : Jvm.MethodName)) ∈ TB := tb_of 736 rfl rfl
set_option maxRecDepth 20000 in
theorem w_738 : (Jvm.Cond.instanceMethod ({ cls := "DatumDeskModel", name := "isQuote", desc := "(I)Z" } : Jvm.MethodName)) ∈ TB := tb_of 738 rfl rfl
set_option maxRecDepth 20000 in
theorem w_739 : (Jvm.Cond.code ({ cls := "DatumDeskModel", name := "isQuote", desc := "(I)Z" } : Jvm.MethodName) prog_9_method_31_code (5 : Nat) (Option.some Jvm.ClassFile.FieldType.boolean)) ∈ TB := tb_of 739 rfl rfl
set_option maxRecDepth 20000 in
theorem w_740 : (Jvm.Cond.methodLink "DatumDeskModel" (146 : Nat) ({ cls := "DatumDeskModel", name := "number", desc := "(I)V" } : Jvm.MethodName)) ∈ TB := tb_of 740 rfl rfl
set_option maxRecDepth 20000 in
theorem w_742 : (Jvm.Cond.instanceMethod ({ cls := "DatumDeskModel", name := "number", desc := "(I)V" } : Jvm.MethodName)) ∈ TB := tb_of 742 rfl rfl
set_option maxRecDepth 20000 in
theorem w_743 : (Jvm.Cond.code ({ cls := "DatumDeskModel", name := "number", desc := "(I)V" } : Jvm.MethodName) prog_9_method_29_code (4 : Nat) (Option.none : Option Jvm.ClassFile.FieldType)) ∈ TB := tb_of 743 rfl rfl
set_option maxRecDepth 20000 in
theorem w_744 : (Jvm.Cond.methodLink "DatumDeskModel" (149 : Nat) ({ cls := "DatumDeskModel", name := "letters", desc := "(I)V" } : Jvm.MethodName)) ∈ TB := tb_of 744 rfl rfl
set_option maxRecDepth 20000 in
theorem w_746 : (Jvm.Cond.instanceMethod ({ cls := "DatumDeskModel", name := "letters", desc := "(I)V" } : Jvm.MethodName)) ∈ TB := tb_of 746 rfl rfl
set_option maxRecDepth 20000 in
theorem w_747 : (Jvm.Cond.code ({ cls := "DatumDeskModel", name := "letters", desc := "(I)V" } : Jvm.MethodName) prog_9_method_30_code (5 : Nat) (Option.none : Option Jvm.ClassFile.FieldType)) ∈ TB := tb_of 747 rfl rfl
def Y_Desk_init : aY := (⟨"DatumDesk", "<init>", "()V"⟩, prog_1_method_1_code, 1, none)
theorem hy_Desk_init : Y_Desk_init.1.cls ≠ "java/lang/invoke/MethodHandle" ∧ Y_Desk_init.1.cls ≠ "java/lang/invoke/VarHandle" ∧ (parseMethodDescriptor Y_Desk_init.1.desc).map (fun d => d.parameters.length) = some 0 := by decide +kernel
def Y_Desk_put : aY := (⟨"DatumDesk", "put", "(JI)Z"⟩, prog_1_method_2_code, 5, some .boolean)
theorem hy_Desk_put : Y_Desk_put.1.cls ≠ "java/lang/invoke/MethodHandle" ∧ Y_Desk_put.1.cls ≠ "java/lang/invoke/VarHandle" ∧ (parseMethodDescriptor Y_Desk_put.1.desc).map (fun d => d.parameters.length) = some 2 := by decide +kernel
def Y_Desk_read : aY := (⟨"DatumDesk", "read", "()I"⟩, prog_1_method_3_code, 1, some .int)
theorem hy_Desk_read : Y_Desk_read.1.cls ≠ "java/lang/invoke/MethodHandle" ∧ Y_Desk_read.1.cls ≠ "java/lang/invoke/VarHandle" ∧ (parseMethodDescriptor Y_Desk_read.1.desc).map (fun d => d.parameters.length) = some 0 := by decide +kernel
def Y_Desk_place : aY := (⟨"DatumDesk", "place", "()I"⟩, prog_1_method_4_code, 1, some .int)
theorem hy_Desk_place : Y_Desk_place.1.cls ≠ "java/lang/invoke/MethodHandle" ∧ Y_Desk_place.1.cls ≠ "java/lang/invoke/VarHandle" ∧ (parseMethodDescriptor Y_Desk_place.1.desc).map (fun d => d.parameters.length) = some 0 := by decide +kernel
def Y_Desk_datum : aY := (⟨"DatumDesk", "datum", "(I)I"⟩, prog_1_method_5_code, 2, some .int)
theorem hy_Desk_datum : Y_Desk_datum.1.cls ≠ "java/lang/invoke/MethodHandle" ∧ Y_Desk_datum.1.cls ≠ "java/lang/invoke/VarHandle" ∧ (parseMethodDescriptor Y_Desk_datum.1.desc).map (fun d => d.parameters.length) = some 1 := by decide +kernel
def Y_Desk_kind : aY := (⟨"DatumDesk", "kind", "(I)I"⟩, prog_1_method_6_code, 2, some .int)
theorem hy_Desk_kind : Y_Desk_kind.1.cls ≠ "java/lang/invoke/MethodHandle" ∧ Y_Desk_kind.1.cls ≠ "java/lang/invoke/VarHandle" ∧ (parseMethodDescriptor Y_Desk_kind.1.desc).map (fun d => d.parameters.length) = some 1 := by decide +kernel
def Y_Desk_value : aY := (⟨"DatumDesk", "value", "(I)I"⟩, prog_1_method_7_code, 2, some .int)
theorem hy_Desk_value : Y_Desk_value.1.cls ≠ "java/lang/invoke/MethodHandle" ∧ Y_Desk_value.1.cls ≠ "java/lang/invoke/VarHandle" ∧ (parseMethodDescriptor Y_Desk_value.1.desc).map (fun d => d.parameters.length) = some 1 := by decide +kernel
def Y_Desk_byteAt : aY := (⟨"DatumDesk", "byteAt", "(II)I"⟩, prog_1_method_8_code, 3, some .int)
theorem hy_Desk_byteAt : Y_Desk_byteAt.1.cls ≠ "java/lang/invoke/MethodHandle" ∧ Y_Desk_byteAt.1.cls ≠ "java/lang/invoke/VarHandle" ∧ (parseMethodDescriptor Y_Desk_byteAt.1.desc).map (fun d => d.parameters.length) = some 2 := by decide +kernel
def Y_Desk_part : aY := (⟨"DatumDesk", "part", "(II)I"⟩, prog_1_method_9_code, 3, some .int)
theorem hy_Desk_part : Y_Desk_part.1.cls ≠ "java/lang/invoke/MethodHandle" ∧ Y_Desk_part.1.cls ≠ "java/lang/invoke/VarHandle" ∧ (parseMethodDescriptor Y_Desk_part.1.desc).map (fun d => d.parameters.length) = some 2 := by decide +kernel
def Y_Desk_like : aY := (⟨"DatumDesk", "like", "(II)Z"⟩, prog_1_method_10_code, 3, some .boolean)
theorem hy_Desk_like : Y_Desk_like.1.cls ≠ "java/lang/invoke/MethodHandle" ∧ Y_Desk_like.1.cls ≠ "java/lang/invoke/VarHandle" ∧ (parseMethodDescriptor Y_Desk_like.1.desc).map (fun d => d.parameters.length) = some 2 := by decide +kernel
def Y_Desk_write : aY := (⟨"DatumDesk", "write", "(I)Z"⟩, prog_1_method_11_code, 2, some .boolean)
theorem hy_Desk_write : Y_Desk_write.1.cls ≠ "java/lang/invoke/MethodHandle" ∧ Y_Desk_write.1.cls ≠ "java/lang/invoke/VarHandle" ∧ (parseMethodDescriptor Y_Desk_write.1.desc).map (fun d => d.parameters.length) = some 1 := by decide +kernel
def Y_Desk_fetch : aY := (⟨"DatumDesk", "fetch", "()J"⟩, prog_1_method_12_code, 5, some .long)
theorem hy_Desk_fetch : Y_Desk_fetch.1.cls ≠ "java/lang/invoke/MethodHandle" ∧ Y_Desk_fetch.1.cls ≠ "java/lang/invoke/VarHandle" ∧ (parseMethodDescriptor Y_Desk_fetch.1.desc).map (fun d => d.parameters.length) = some 0 := by decide +kernel
def Y_Desk_count : aY := (⟨"DatumDesk", "count", "(I)I"⟩, prog_1_method_13_code, 2, some .int)
theorem hy_Desk_count : Y_Desk_count.1.cls ≠ "java/lang/invoke/MethodHandle" ∧ Y_Desk_count.1.cls ≠ "java/lang/invoke/VarHandle" ∧ (parseMethodDescriptor Y_Desk_count.1.desc).map (fun d => d.parameters.length) = some 1 := by decide +kernel
def Y_Model_init : aY := (⟨"DatumDeskModel", "<init>", "()V"⟩, prog_9_method_1_code, 1, none)
theorem hy_Model_init : Y_Model_init.1.cls ≠ "java/lang/invoke/MethodHandle" ∧ Y_Model_init.1.cls ≠ "java/lang/invoke/VarHandle" ∧ (parseMethodDescriptor Y_Model_init.1.desc).map (fun d => d.parameters.length) = some 0 := by decide +kernel
def Y_Model_put : aY := (⟨"DatumDeskModel", "put", "(JI)Z"⟩, prog_9_method_2_code, 5, some .boolean)
theorem hy_Model_put : Y_Model_put.1.cls ≠ "java/lang/invoke/MethodHandle" ∧ Y_Model_put.1.cls ≠ "java/lang/invoke/VarHandle" ∧ (parseMethodDescriptor Y_Model_put.1.desc).map (fun d => d.parameters.length) = some 2 := by decide +kernel
def Y_Model_peek : aY := (⟨"DatumDeskModel", "peek", "(I)I"⟩, prog_9_method_3_code, 2, some .int)
theorem hy_Model_peek : Y_Model_peek.1.cls ≠ "java/lang/invoke/MethodHandle" ∧ Y_Model_peek.1.cls ≠ "java/lang/invoke/VarHandle" ∧ (parseMethodDescriptor Y_Model_peek.1.desc).map (fun d => d.parameters.length) = some 1 := by decide +kernel
def Y_Model_isDigit : aY := (⟨"DatumDeskModel", "isDigit", "(I)Z"⟩, prog_9_method_4_code, 1, some .boolean)
theorem hy_Model_isDigit : Y_Model_isDigit.1.cls ≠ "java/lang/invoke/MethodHandle" ∧ Y_Model_isDigit.1.cls ≠ "java/lang/invoke/VarHandle" ∧ (parseMethodDescriptor Y_Model_isDigit.1.desc).map (fun d => d.parameters.length) = some 1 := by decide +kernel
def Y_Model_isBegin : aY := (⟨"DatumDeskModel", "isBegin", "(I)Z"⟩, prog_9_method_5_code, 1, some .boolean)
theorem hy_Model_isBegin : Y_Model_isBegin.1.cls ≠ "java/lang/invoke/MethodHandle" ∧ Y_Model_isBegin.1.cls ≠ "java/lang/invoke/VarHandle" ∧ (parseMethodDescriptor Y_Model_isBegin.1.desc).map (fun d => d.parameters.length) = some 1 := by decide +kernel
def Y_Model_isByte : aY := (⟨"DatumDeskModel", "isByte", "(I)Z"⟩, prog_9_method_6_code, 1, some .boolean)
theorem hy_Model_isByte : Y_Model_isByte.1.cls ≠ "java/lang/invoke/MethodHandle" ∧ Y_Model_isByte.1.cls ≠ "java/lang/invoke/VarHandle" ∧ (parseMethodDescriptor Y_Model_isByte.1.desc).map (fun d => d.parameters.length) = some 1 := by decide +kernel
def Y_Model_skip : aY := (⟨"DatumDeskModel", "skip", "()V"⟩, prog_9_method_7_code, 3, none)
theorem hy_Model_skip : Y_Model_skip.1.cls ≠ "java/lang/invoke/MethodHandle" ∧ Y_Model_skip.1.cls ≠ "java/lang/invoke/VarHandle" ∧ (parseMethodDescriptor Y_Model_skip.1.desc).map (fun d => d.parameters.length) = some 0 := by decide +kernel
def Y_Model_token : aY := (⟨"DatumDeskModel", "token", "()I"⟩, prog_9_method_8_code, 5, some .int)
theorem hy_Model_token : Y_Model_token.1.cls ≠ "java/lang/invoke/MethodHandle" ∧ Y_Model_token.1.cls ≠ "java/lang/invoke/VarHandle" ∧ (parseMethodDescriptor Y_Model_token.1.desc).map (fun d => d.parameters.length) = some 0 := by decide +kernel
def Y_Model_string : aY := (⟨"DatumDeskModel", "string", "()I"⟩, prog_9_method_9_code, 4, some .int)
theorem hy_Model_string : Y_Model_string.1.cls ≠ "java/lang/invoke/MethodHandle" ∧ Y_Model_string.1.cls ≠ "java/lang/invoke/VarHandle" ∧ (parseMethodDescriptor Y_Model_string.1.desc).map (fun d => d.parameters.length) = some 0 := by decide +kernel
def Y_Model_node : aY := (⟨"DatumDeskModel", "node", "(I)I"⟩, prog_9_method_10_code, 2, some .int)
theorem hy_Model_node : Y_Model_node.1.cls ≠ "java/lang/invoke/MethodHandle" ∧ Y_Model_node.1.cls ≠ "java/lang/invoke/VarHandle" ∧ (parseMethodDescriptor Y_Model_node.1.desc).map (fun d => d.parameters.length) = some 1 := by decide +kernel
def Y_Model_fail : aY := (⟨"DatumDeskModel", "fail", "(I)V"⟩, prog_9_method_11_code, 2, none)
theorem hy_Model_fail : Y_Model_fail.1.cls ≠ "java/lang/invoke/MethodHandle" ∧ Y_Model_fail.1.cls ≠ "java/lang/invoke/VarHandle" ∧ (parseMethodDescriptor Y_Model_fail.1.desc).map (fun d => d.parameters.length) = some 1 := by decide +kernel
def Y_Model_letter : aY := (⟨"DatumDeskModel", "letter", "(II)V"⟩, prog_9_method_12_code, 3, none)
theorem hy_Model_letter : Y_Model_letter.1.cls ≠ "java/lang/invoke/MethodHandle" ∧ Y_Model_letter.1.cls ≠ "java/lang/invoke/VarHandle" ∧ (parseMethodDescriptor Y_Model_letter.1.desc).map (fun d => d.parameters.length) = some 2 := by decide +kernel
def Y_Model_atom : aY := (⟨"DatumDeskModel", "atom", "(I)I"⟩, prog_9_method_13_code, 7, some .int)
theorem hy_Model_atom : Y_Model_atom.1.cls ≠ "java/lang/invoke/MethodHandle" ∧ Y_Model_atom.1.cls ≠ "java/lang/invoke/VarHandle" ∧ (parseMethodDescriptor Y_Model_atom.1.desc).map (fun d => d.parameters.length) = some 1 := by decide +kernel
def Y_Model_begin : aY := (⟨"DatumDeskModel", "begin", "()V"⟩, prog_9_method_14_code, 3, none)
theorem hy_Model_begin : Y_Model_begin.1.cls ≠ "java/lang/invoke/MethodHandle" ∧ Y_Model_begin.1.cls ≠ "java/lang/invoke/VarHandle" ∧ (parseMethodDescriptor Y_Model_begin.1.desc).map (fun d => d.parameters.length) = some 0 := by decide +kernel
def Y_Model_end : aY := (⟨"DatumDeskModel", "end", "(I)V"⟩, prog_9_method_15_code, 4, none)
theorem hy_Model_end : Y_Model_end.1.cls ≠ "java/lang/invoke/MethodHandle" ∧ Y_Model_end.1.cls ≠ "java/lang/invoke/VarHandle" ∧ (parseMethodDescriptor Y_Model_end.1.desc).map (fun d => d.parameters.length) = some 1 := by decide +kernel
def Y_Model_opens : aY := (⟨"DatumDeskModel", "opens", "(Z)V"⟩, prog_9_method_16_code, 6, none)
theorem hy_Model_opens : Y_Model_opens.1.cls ≠ "java/lang/invoke/MethodHandle" ∧ Y_Model_opens.1.cls ≠ "java/lang/invoke/VarHandle" ∧ (parseMethodDescriptor Y_Model_opens.1.desc).map (fun d => d.parameters.length) = some 1 := by decide +kernel
def Y_Model_closes : aY := (⟨"DatumDeskModel", "closes", "()V"⟩, prog_9_method_17_code, 6, none)
theorem hy_Model_closes : Y_Model_closes.1.cls ≠ "java/lang/invoke/MethodHandle" ∧ Y_Model_closes.1.cls ≠ "java/lang/invoke/VarHandle" ∧ (parseMethodDescriptor Y_Model_closes.1.desc).map (fun d => d.parameters.length) = some 0 := by decide +kernel
def Y_Model_read : aY := (⟨"DatumDeskModel", "read", "()I"⟩, prog_9_method_18_code, 3, some .int)
theorem hy_Model_read : Y_Model_read.1.cls ≠ "java/lang/invoke/MethodHandle" ∧ Y_Model_read.1.cls ≠ "java/lang/invoke/VarHandle" ∧ (parseMethodDescriptor Y_Model_read.1.desc).map (fun d => d.parameters.length) = some 0 := by decide +kernel
def Y_Model_place : aY := (⟨"DatumDeskModel", "place", "()I"⟩, prog_9_method_19_code, 1, some .int)
theorem hy_Model_place : Y_Model_place.1.cls ≠ "java/lang/invoke/MethodHandle" ∧ Y_Model_place.1.cls ≠ "java/lang/invoke/VarHandle" ∧ (parseMethodDescriptor Y_Model_place.1.desc).map (fun d => d.parameters.length) = some 0 := by decide +kernel
def Y_Model_isNode : aY := (⟨"DatumDeskModel", "isNode", "(I)Z"⟩, prog_9_method_20_code, 2, some .boolean)
theorem hy_Model_isNode : Y_Model_isNode.1.cls ≠ "java/lang/invoke/MethodHandle" ∧ Y_Model_isNode.1.cls ≠ "java/lang/invoke/VarHandle" ∧ (parseMethodDescriptor Y_Model_isNode.1.desc).map (fun d => d.parameters.length) = some 1 := by decide +kernel
def Y_Model_datum : aY := (⟨"DatumDeskModel", "datum", "(I)I"⟩, prog_9_method_21_code, 2, some .int)
theorem hy_Model_datum : Y_Model_datum.1.cls ≠ "java/lang/invoke/MethodHandle" ∧ Y_Model_datum.1.cls ≠ "java/lang/invoke/VarHandle" ∧ (parseMethodDescriptor Y_Model_datum.1.desc).map (fun d => d.parameters.length) = some 1 := by decide +kernel
def Y_Model_kind : aY := (⟨"DatumDeskModel", "kind", "(I)I"⟩, prog_9_method_22_code, 2, some .int)
theorem hy_Model_kind : Y_Model_kind.1.cls ≠ "java/lang/invoke/MethodHandle" ∧ Y_Model_kind.1.cls ≠ "java/lang/invoke/VarHandle" ∧ (parseMethodDescriptor Y_Model_kind.1.desc).map (fun d => d.parameters.length) = some 1 := by decide +kernel
def Y_Model_value : aY := (⟨"DatumDeskModel", "value", "(I)I"⟩, prog_9_method_23_code, 2, some .int)
theorem hy_Model_value : Y_Model_value.1.cls ≠ "java/lang/invoke/MethodHandle" ∧ Y_Model_value.1.cls ≠ "java/lang/invoke/VarHandle" ∧ (parseMethodDescriptor Y_Model_value.1.desc).map (fun d => d.parameters.length) = some 1 := by decide +kernel
def Y_Model_byteAt : aY := (⟨"DatumDeskModel", "byteAt", "(II)I"⟩, prog_9_method_24_code, 4, some .int)
theorem hy_Model_byteAt : Y_Model_byteAt.1.cls ≠ "java/lang/invoke/MethodHandle" ∧ Y_Model_byteAt.1.cls ≠ "java/lang/invoke/VarHandle" ∧ (parseMethodDescriptor Y_Model_byteAt.1.desc).map (fun d => d.parameters.length) = some 2 := by decide +kernel
def Y_Model_part : aY := (⟨"DatumDeskModel", "part", "(II)I"⟩, prog_9_method_25_code, 3, some .int)
theorem hy_Model_part : Y_Model_part.1.cls ≠ "java/lang/invoke/MethodHandle" ∧ Y_Model_part.1.cls ≠ "java/lang/invoke/VarHandle" ∧ (parseMethodDescriptor Y_Model_part.1.desc).map (fun d => d.parameters.length) = some 2 := by decide +kernel
def Y_Model_same : aY := (⟨"DatumDeskModel", "same", "(II)Z"⟩, prog_9_method_26_code, 6, some .boolean)
theorem hy_Model_same : Y_Model_same.1.cls ≠ "java/lang/invoke/MethodHandle" ∧ Y_Model_same.1.cls ≠ "java/lang/invoke/VarHandle" ∧ (parseMethodDescriptor Y_Model_same.1.desc).map (fun d => d.parameters.length) = some 2 := by decide +kernel
def Y_Model_like : aY := (⟨"DatumDeskModel", "like", "(II)Z"⟩, prog_9_method_27_code, 7, some .boolean)
theorem hy_Model_like : Y_Model_like.1.cls ≠ "java/lang/invoke/MethodHandle" ∧ Y_Model_like.1.cls ≠ "java/lang/invoke/VarHandle" ∧ (parseMethodDescriptor Y_Model_like.1.desc).map (fun d => d.parameters.length) = some 2 := by decide +kernel
def Y_Model_say : aY := (⟨"DatumDeskModel", "say", "(I)V"⟩, prog_9_method_28_code, 2, none)
theorem hy_Model_say : Y_Model_say.1.cls ≠ "java/lang/invoke/MethodHandle" ∧ Y_Model_say.1.cls ≠ "java/lang/invoke/VarHandle" ∧ (parseMethodDescriptor Y_Model_say.1.desc).map (fun d => d.parameters.length) = some 1 := by decide +kernel
def Y_Model_number : aY := (⟨"DatumDeskModel", "number", "(I)V"⟩, prog_9_method_29_code, 4, none)
theorem hy_Model_number : Y_Model_number.1.cls ≠ "java/lang/invoke/MethodHandle" ∧ Y_Model_number.1.cls ≠ "java/lang/invoke/VarHandle" ∧ (parseMethodDescriptor Y_Model_number.1.desc).map (fun d => d.parameters.length) = some 1 := by decide +kernel
def Y_Model_letters : aY := (⟨"DatumDeskModel", "letters", "(I)V"⟩, prog_9_method_30_code, 5, none)
theorem hy_Model_letters : Y_Model_letters.1.cls ≠ "java/lang/invoke/MethodHandle" ∧ Y_Model_letters.1.cls ≠ "java/lang/invoke/VarHandle" ∧ (parseMethodDescriptor Y_Model_letters.1.desc).map (fun d => d.parameters.length) = some 1 := by decide +kernel
def Y_Model_isQuote : aY := (⟨"DatumDeskModel", "isQuote", "(I)Z"⟩, prog_9_method_31_code, 5, some .boolean)
theorem hy_Model_isQuote : Y_Model_isQuote.1.cls ≠ "java/lang/invoke/MethodHandle" ∧ Y_Model_isQuote.1.cls ≠ "java/lang/invoke/VarHandle" ∧ (parseMethodDescriptor Y_Model_isQuote.1.desc).map (fun d => d.parameters.length) = some 1 := by decide +kernel
def Y_Model_step : aY := (⟨"DatumDeskModel", "step", "(II)I"⟩, prog_9_method_32_code, 5, some .int)
theorem hy_Model_step : Y_Model_step.1.cls ≠ "java/lang/invoke/MethodHandle" ∧ Y_Model_step.1.cls ≠ "java/lang/invoke/VarHandle" ∧ (parseMethodDescriptor Y_Model_step.1.desc).map (fun d => d.parameters.length) = some 2 := by decide +kernel
def Y_Model_write : aY := (⟨"DatumDeskModel", "write", "(I)Z"⟩, prog_9_method_33_code, 3, some .boolean)
theorem hy_Model_write : Y_Model_write.1.cls ≠ "java/lang/invoke/MethodHandle" ∧ Y_Model_write.1.cls ≠ "java/lang/invoke/VarHandle" ∧ (parseMethodDescriptor Y_Model_write.1.desc).map (fun d => d.parameters.length) = some 1 := by decide +kernel
def Y_Model_fetch : aY := (⟨"DatumDeskModel", "fetch", "()J"⟩, prog_9_method_34_code, 5, some .long)
theorem hy_Model_fetch : Y_Model_fetch.1.cls ≠ "java/lang/invoke/MethodHandle" ∧ Y_Model_fetch.1.cls ≠ "java/lang/invoke/VarHandle" ∧ (parseMethodDescriptor Y_Model_fetch.1.desc).map (fun d => d.parameters.length) = some 0 := by decide +kernel
def Y_Model_count : aY := (⟨"DatumDeskModel", "count", "(I)I"⟩, prog_9_method_35_code, 2, some .int)
theorem hy_Model_count : Y_Model_count.1.cls ≠ "java/lang/invoke/MethodHandle" ∧ Y_Model_count.1.cls ≠ "java/lang/invoke/VarHandle" ∧ (parseMethodDescriptor Y_Model_count.1.desc).map (fun d => d.parameters.length) = some 1 := by decide +kernel
def Y_Nodes_init : aY := (⟨"DatumDesk$Nodes", "<init>", "()V"⟩, prog_2_method_1_code, 1, none)
theorem hy_Nodes_init : Y_Nodes_init.1.cls ≠ "java/lang/invoke/MethodHandle" ∧ Y_Nodes_init.1.cls ≠ "java/lang/invoke/VarHandle" ∧ (parseMethodDescriptor Y_Nodes_init.1.desc).map (fun d => d.parameters.length) = some 0 := by decide +kernel
def Y_Nodes_clear : aY := (⟨"DatumDesk$Nodes", "clear", "()V"⟩, prog_2_method_2_code, 1, none)
theorem hy_Nodes_clear : Y_Nodes_clear.1.cls ≠ "java/lang/invoke/MethodHandle" ∧ Y_Nodes_clear.1.cls ≠ "java/lang/invoke/VarHandle" ∧ (parseMethodDescriptor Y_Nodes_clear.1.desc).map (fun d => d.parameters.length) = some 0 := by decide +kernel
def Y_Nodes_has : aY := (⟨"DatumDesk$Nodes", "has", "(I)Z"⟩, prog_2_method_3_code, 2, some .boolean)
theorem hy_Nodes_has : Y_Nodes_has.1.cls ≠ "java/lang/invoke/MethodHandle" ∧ Y_Nodes_has.1.cls ≠ "java/lang/invoke/VarHandle" ∧ (parseMethodDescriptor Y_Nodes_has.1.desc).map (fun d => d.parameters.length) = some 1 := by decide +kernel
def Y_Nodes_isOf : aY := (⟨"DatumDesk$Nodes", "isOf", "(II)Z"⟩, prog_2_method_4_code, 3, some .boolean)
theorem hy_Nodes_isOf : Y_Nodes_isOf.1.cls ≠ "java/lang/invoke/MethodHandle" ∧ Y_Nodes_isOf.1.cls ≠ "java/lang/invoke/VarHandle" ∧ (parseMethodDescriptor Y_Nodes_isOf.1.desc).map (fun d => d.parameters.length) = some 2 := by decide +kernel
def Y_Nodes_add : aY := (⟨"DatumDesk$Nodes", "add", "(I)I"⟩, prog_2_method_5_code, 3, some .int)
theorem hy_Nodes_add : Y_Nodes_add.1.cls ≠ "java/lang/invoke/MethodHandle" ∧ Y_Nodes_add.1.cls ≠ "java/lang/invoke/VarHandle" ∧ (parseMethodDescriptor Y_Nodes_add.1.desc).map (fun d => d.parameters.length) = some 1 := by decide +kernel
def Y_Nodes_addDatum : aY := (⟨"DatumDesk$Nodes", "addDatum", "(I)V"⟩, prog_2_method_6_code, 2, none)
theorem hy_Nodes_addDatum : Y_Nodes_addDatum.1.cls ≠ "java/lang/invoke/MethodHandle" ∧ Y_Nodes_addDatum.1.cls ≠ "java/lang/invoke/VarHandle" ∧ (parseMethodDescriptor Y_Nodes_addDatum.1.desc).map (fun d => d.parameters.length) = some 1 := by decide +kernel
def Y_Nodes_addLetter : aY := (⟨"DatumDesk$Nodes", "addLetter", "(II)V"⟩, prog_2_method_7_code, 3, none)
theorem hy_Nodes_addLetter : Y_Nodes_addLetter.1.cls ≠ "java/lang/invoke/MethodHandle" ∧ Y_Nodes_addLetter.1.cls ≠ "java/lang/invoke/VarHandle" ∧ (parseMethodDescriptor Y_Nodes_addLetter.1.desc).map (fun d => d.parameters.length) = some 2 := by decide +kernel
def Y_Nodes_nameQuote : aY := (⟨"DatumDesk$Nodes", "nameQuote", "(I)V"⟩, prog_2_method_8_code, 2, none)
theorem hy_Nodes_nameQuote : Y_Nodes_nameQuote.1.cls ≠ "java/lang/invoke/MethodHandle" ∧ Y_Nodes_nameQuote.1.cls ≠ "java/lang/invoke/VarHandle" ∧ (parseMethodDescriptor Y_Nodes_nameQuote.1.desc).map (fun d => d.parameters.length) = some 1 := by decide +kernel
def Y_Nodes_setAmount : aY := (⟨"DatumDesk$Nodes", "setAmount", "(II)V"⟩, prog_2_method_9_code, 3, none)
theorem hy_Nodes_setAmount : Y_Nodes_setAmount.1.cls ≠ "java/lang/invoke/MethodHandle" ∧ Y_Nodes_setAmount.1.cls ≠ "java/lang/invoke/VarHandle" ∧ (parseMethodDescriptor Y_Nodes_setAmount.1.desc).map (fun d => d.parameters.length) = some 2 := by decide +kernel
def Y_Nodes_setHead : aY := (⟨"DatumDesk$Nodes", "setHead", "(II)V"⟩, prog_2_method_10_code, 3, none)
theorem hy_Nodes_setHead : Y_Nodes_setHead.1.cls ≠ "java/lang/invoke/MethodHandle" ∧ Y_Nodes_setHead.1.cls ≠ "java/lang/invoke/VarHandle" ∧ (parseMethodDescriptor Y_Nodes_setHead.1.desc).map (fun d => d.parameters.length) = some 2 := by decide +kernel
def Y_Nodes_setTail : aY := (⟨"DatumDesk$Nodes", "setTail", "(II)V"⟩, prog_2_method_11_code, 3, none)
theorem hy_Nodes_setTail : Y_Nodes_setTail.1.cls ≠ "java/lang/invoke/MethodHandle" ∧ Y_Nodes_setTail.1.cls ≠ "java/lang/invoke/VarHandle" ∧ (parseMethodDescriptor Y_Nodes_setTail.1.desc).map (fun d => d.parameters.length) = some 2 := by decide +kernel
def Y_Nodes_datumNode : aY := (⟨"DatumDesk$Nodes", "datumNode", "(I)I"⟩, prog_2_method_12_code, 2, some .int)
theorem hy_Nodes_datumNode : Y_Nodes_datumNode.1.cls ≠ "java/lang/invoke/MethodHandle" ∧ Y_Nodes_datumNode.1.cls ≠ "java/lang/invoke/VarHandle" ∧ (parseMethodDescriptor Y_Nodes_datumNode.1.desc).map (fun d => d.parameters.length) = some 1 := by decide +kernel
def Y_Nodes_kindOf : aY := (⟨"DatumDesk$Nodes", "kindOf", "(I)I"⟩, prog_2_method_13_code, 2, some .int)
theorem hy_Nodes_kindOf : Y_Nodes_kindOf.1.cls ≠ "java/lang/invoke/MethodHandle" ∧ Y_Nodes_kindOf.1.cls ≠ "java/lang/invoke/VarHandle" ∧ (parseMethodDescriptor Y_Nodes_kindOf.1.desc).map (fun d => d.parameters.length) = some 1 := by decide +kernel
def Y_Nodes_amountOf : aY := (⟨"DatumDesk$Nodes", "amountOf", "(I)I"⟩, prog_2_method_14_code, 2, some .int)
theorem hy_Nodes_amountOf : Y_Nodes_amountOf.1.cls ≠ "java/lang/invoke/MethodHandle" ∧ Y_Nodes_amountOf.1.cls ≠ "java/lang/invoke/VarHandle" ∧ (parseMethodDescriptor Y_Nodes_amountOf.1.desc).map (fun d => d.parameters.length) = some 1 := by decide +kernel
def Y_Nodes_byteOf : aY := (⟨"DatumDesk$Nodes", "byteOf", "(II)I"⟩, prog_2_method_15_code, 4, some .int)
theorem hy_Nodes_byteOf : Y_Nodes_byteOf.1.cls ≠ "java/lang/invoke/MethodHandle" ∧ Y_Nodes_byteOf.1.cls ≠ "java/lang/invoke/VarHandle" ∧ (parseMethodDescriptor Y_Nodes_byteOf.1.desc).map (fun d => d.parameters.length) = some 2 := by decide +kernel
def Y_Nodes_headOf : aY := (⟨"DatumDesk$Nodes", "headOf", "(I)I"⟩, prog_2_method_16_code, 2, some .int)
theorem hy_Nodes_headOf : Y_Nodes_headOf.1.cls ≠ "java/lang/invoke/MethodHandle" ∧ Y_Nodes_headOf.1.cls ≠ "java/lang/invoke/VarHandle" ∧ (parseMethodDescriptor Y_Nodes_headOf.1.desc).map (fun d => d.parameters.length) = some 1 := by decide +kernel
def Y_Nodes_tailOf : aY := (⟨"DatumDesk$Nodes", "tailOf", "(I)I"⟩, prog_2_method_17_code, 2, some .int)
theorem hy_Nodes_tailOf : Y_Nodes_tailOf.1.cls ≠ "java/lang/invoke/MethodHandle" ∧ Y_Nodes_tailOf.1.cls ≠ "java/lang/invoke/VarHandle" ∧ (parseMethodDescriptor Y_Nodes_tailOf.1.desc).map (fun d => d.parameters.length) = some 1 := by decide +kernel
def Y_Nodes_alike : aY := (⟨"DatumDesk$Nodes", "alike", "(III)Z"⟩, prog_2_method_18_code, 7, some .boolean)
theorem hy_Nodes_alike : Y_Nodes_alike.1.cls ≠ "java/lang/invoke/MethodHandle" ∧ Y_Nodes_alike.1.cls ≠ "java/lang/invoke/VarHandle" ∧ (parseMethodDescriptor Y_Nodes_alike.1.desc).map (fun d => d.parameters.length) = some 3 := by decide +kernel
def Y_Nodes_sameContent : aY := (⟨"DatumDesk$Nodes", "sameContent", "(II)Z"⟩, prog_2_method_19_code, 5, some .boolean)
theorem hy_Nodes_sameContent : Y_Nodes_sameContent.1.cls ≠ "java/lang/invoke/MethodHandle" ∧ Y_Nodes_sameContent.1.cls ≠ "java/lang/invoke/VarHandle" ∧ (parseMethodDescriptor Y_Nodes_sameContent.1.desc).map (fun d => d.parameters.length) = some 2 := by decide +kernel
def Y_Nodes_quotedIn : aY := (⟨"DatumDesk$Nodes", "quotedIn", "(I)I"⟩, prog_2_method_20_code, 3, some .int)
theorem hy_Nodes_quotedIn : Y_Nodes_quotedIn.1.cls ≠ "java/lang/invoke/MethodHandle" ∧ Y_Nodes_quotedIn.1.cls ≠ "java/lang/invoke/VarHandle" ∧ (parseMethodDescriptor Y_Nodes_quotedIn.1.desc).map (fun d => d.parameters.length) = some 1 := by decide +kernel
def Y_Nodes_isQuoteName : aY := (⟨"DatumDesk$Nodes", "isQuoteName", "(I)Z"⟩, prog_2_method_21_code, 3, some .boolean)
theorem hy_Nodes_isQuoteName : Y_Nodes_isQuoteName.1.cls ≠ "java/lang/invoke/MethodHandle" ∧ Y_Nodes_isQuoteName.1.cls ≠ "java/lang/invoke/VarHandle" ∧ (parseMethodDescriptor Y_Nodes_isQuoteName.1.desc).map (fun d => d.parameters.length) = some 1 := by decide +kernel
def Y_Reader_init : aY := (⟨"DatumDesk$Reader", "<init>", "(LDatumDesk$Text;LDatumDesk$Nodes;)V"⟩, prog_3_method_1_code, 3, none)
theorem hy_Reader_init : Y_Reader_init.1.cls ≠ "java/lang/invoke/MethodHandle" ∧ Y_Reader_init.1.cls ≠ "java/lang/invoke/VarHandle" ∧ (parseMethodDescriptor Y_Reader_init.1.desc).map (fun d => d.parameters.length) = some 2 := by decide +kernel
def Y_Reader_readText : aY := (⟨"DatumDesk$Reader", "readText", "()V"⟩, prog_3_method_2_code, 3, none)
theorem hy_Reader_readText : Y_Reader_readText.1.cls ≠ "java/lang/invoke/MethodHandle" ∧ Y_Reader_readText.1.cls ≠ "java/lang/invoke/VarHandle" ∧ (parseMethodDescriptor Y_Reader_readText.1.desc).map (fun d => d.parameters.length) = some 0 := by decide +kernel
def Y_Reader_readDatum : aY := (⟨"DatumDesk$Reader", "readDatum", "(I)I"⟩, prog_3_method_3_code, 2, some .int)
theorem hy_Reader_readDatum : Y_Reader_readDatum.1.cls ≠ "java/lang/invoke/MethodHandle" ∧ Y_Reader_readDatum.1.cls ≠ "java/lang/invoke/VarHandle" ∧ (parseMethodDescriptor Y_Reader_readDatum.1.desc).map (fun d => d.parameters.length) = some 1 := by decide +kernel
def Y_Reader_readNumber : aY := (⟨"DatumDesk$Reader", "readNumber", "()I"⟩, prog_3_method_4_code, 6, some .int)
theorem hy_Reader_readNumber : Y_Reader_readNumber.1.cls ≠ "java/lang/invoke/MethodHandle" ∧ Y_Reader_readNumber.1.cls ≠ "java/lang/invoke/VarHandle" ∧ (parseMethodDescriptor Y_Reader_readNumber.1.desc).map (fun d => d.parameters.length) = some 0 := by decide +kernel
def Y_Reader_readName : aY := (⟨"DatumDesk$Reader", "readName", "()I"⟩, prog_3_method_5_code, 4, some .int)
theorem hy_Reader_readName : Y_Reader_readName.1.cls ≠ "java/lang/invoke/MethodHandle" ∧ Y_Reader_readName.1.cls ≠ "java/lang/invoke/VarHandle" ∧ (parseMethodDescriptor Y_Reader_readName.1.desc).map (fun d => d.parameters.length) = some 0 := by decide +kernel
def Y_Reader_readString : aY := (⟨"DatumDesk$Reader", "readString", "()I"⟩, prog_3_method_6_code, 4, some .int)
theorem hy_Reader_readString : Y_Reader_readString.1.cls ≠ "java/lang/invoke/MethodHandle" ∧ Y_Reader_readString.1.cls ≠ "java/lang/invoke/VarHandle" ∧ (parseMethodDescriptor Y_Reader_readString.1.desc).map (fun d => d.parameters.length) = some 0 := by decide +kernel
def Y_Reader_readQuoted : aY := (⟨"DatumDesk$Reader", "readQuoted", "(I)I"⟩, prog_3_method_7_code, 7, some .int)
theorem hy_Reader_readQuoted : Y_Reader_readQuoted.1.cls ≠ "java/lang/invoke/MethodHandle" ∧ Y_Reader_readQuoted.1.cls ≠ "java/lang/invoke/VarHandle" ∧ (parseMethodDescriptor Y_Reader_readQuoted.1.desc).map (fun d => d.parameters.length) = some 1 := by decide +kernel
def Y_Reader_readList : aY := (⟨"DatumDesk$Reader", "readList", "(I)I"⟩, prog_3_method_8_code, 8, some .int)
theorem hy_Reader_readList : Y_Reader_readList.1.cls ≠ "java/lang/invoke/MethodHandle" ∧ Y_Reader_readList.1.cls ≠ "java/lang/invoke/VarHandle" ∧ (parseMethodDescriptor Y_Reader_readList.1.desc).map (fun d => d.parameters.length) = some 1 := by decide +kernel
def Y_Reader_readDotted : aY := (⟨"DatumDesk$Reader", "readDotted", "(I)I"⟩, prog_3_method_9_code, 3, some .int)
theorem hy_Reader_readDotted : Y_Reader_readDotted.1.cls ≠ "java/lang/invoke/MethodHandle" ∧ Y_Reader_readDotted.1.cls ≠ "java/lang/invoke/VarHandle" ∧ (parseMethodDescriptor Y_Reader_readDotted.1.desc).map (fun d => d.parameters.length) = some 1 := by decide +kernel
def Y_Reader_add : aY := (⟨"DatumDesk$Reader", "add", "(I)I"⟩, prog_3_method_10_code, 3, some .int)
theorem hy_Reader_add : Y_Reader_add.1.cls ≠ "java/lang/invoke/MethodHandle" ∧ Y_Reader_add.1.cls ≠ "java/lang/invoke/VarHandle" ∧ (parseMethodDescriptor Y_Reader_add.1.desc).map (fun d => d.parameters.length) = some 1 := by decide +kernel
def Y_Reader_fault : aY := (⟨"DatumDesk$Reader", "fault", "()I"⟩, prog_3_method_11_code, 1, some .int)
theorem hy_Reader_fault : Y_Reader_fault.1.cls ≠ "java/lang/invoke/MethodHandle" ∧ Y_Reader_fault.1.cls ≠ "java/lang/invoke/VarHandle" ∧ (parseMethodDescriptor Y_Reader_fault.1.desc).map (fun d => d.parameters.length) = some 0 := by decide +kernel
def Y_Text_init : aY := (⟨"DatumDesk$Text", "<init>", "()V"⟩, prog_4_method_1_code, 1, none)
theorem hy_Text_init : Y_Text_init.1.cls ≠ "java/lang/invoke/MethodHandle" ∧ Y_Text_init.1.cls ≠ "java/lang/invoke/VarHandle" ∧ (parseMethodDescriptor Y_Text_init.1.desc).map (fun d => d.parameters.length) = some 0 := by decide +kernel
def Y_Text_append : aY := (⟨"DatumDesk$Text", "append", "(I)V"⟩, prog_4_method_2_code, 2, none)
theorem hy_Text_append : Y_Text_append.1.cls ≠ "java/lang/invoke/MethodHandle" ∧ Y_Text_append.1.cls ≠ "java/lang/invoke/VarHandle" ∧ (parseMethodDescriptor Y_Text_append.1.desc).map (fun d => d.parameters.length) = some 1 := by decide +kernel
def Y_Text_at : aY := (⟨"DatumDesk$Text", "at", "(I)I"⟩, prog_4_method_3_code, 2, some .int)
theorem hy_Text_at : Y_Text_at.1.cls ≠ "java/lang/invoke/MethodHandle" ∧ Y_Text_at.1.cls ≠ "java/lang/invoke/VarHandle" ∧ (parseMethodDescriptor Y_Text_at.1.desc).map (fun d => d.parameters.length) = some 1 := by decide +kernel
def Y_Text_skipBlanks : aY := (⟨"DatumDesk$Text", "skipBlanks", "(I)I"⟩, prog_4_method_4_code, 5, some .int)
theorem hy_Text_skipBlanks : Y_Text_skipBlanks.1.cls ≠ "java/lang/invoke/MethodHandle" ∧ Y_Text_skipBlanks.1.cls ≠ "java/lang/invoke/VarHandle" ∧ (parseMethodDescriptor Y_Text_skipBlanks.1.desc).map (fun d => d.parameters.length) = some 1 := by decide +kernel
def Y_Text_sortAt : aY := (⟨"DatumDesk$Text", "sortAt", "(I)I"⟩, prog_4_method_5_code, 3, some .int)
theorem hy_Text_sortAt : Y_Text_sortAt.1.cls ≠ "java/lang/invoke/MethodHandle" ∧ Y_Text_sortAt.1.cls ≠ "java/lang/invoke/VarHandle" ∧ (parseMethodDescriptor Y_Text_sortAt.1.desc).map (fun d => d.parameters.length) = some 1 := by decide +kernel
def Y_Text_tokenEnd : aY := (⟨"DatumDesk$Text", "tokenEnd", "(II)I"⟩, prog_4_method_6_code, 3, some .int)
theorem hy_Text_tokenEnd : Y_Text_tokenEnd.1.cls ≠ "java/lang/invoke/MethodHandle" ∧ Y_Text_tokenEnd.1.cls ≠ "java/lang/invoke/VarHandle" ∧ (parseMethodDescriptor Y_Text_tokenEnd.1.desc).map (fun d => d.parameters.length) = some 2 := by decide +kernel
def Y_Text_numberEnd : aY := (⟨"DatumDesk$Text", "numberEnd", "(I)I"⟩, prog_4_method_7_code, 5, some .int)
theorem hy_Text_numberEnd : Y_Text_numberEnd.1.cls ≠ "java/lang/invoke/MethodHandle" ∧ Y_Text_numberEnd.1.cls ≠ "java/lang/invoke/VarHandle" ∧ (parseMethodDescriptor Y_Text_numberEnd.1.desc).map (fun d => d.parameters.length) = some 1 := by decide +kernel
def Y_Text_nameEnd : aY := (⟨"DatumDesk$Text", "nameEnd", "(I)I"⟩, prog_4_method_8_code, 3, some .int)
theorem hy_Text_nameEnd : Y_Text_nameEnd.1.cls ≠ "java/lang/invoke/MethodHandle" ∧ Y_Text_nameEnd.1.cls ≠ "java/lang/invoke/VarHandle" ∧ (parseMethodDescriptor Y_Text_nameEnd.1.desc).map (fun d => d.parameters.length) = some 1 := by decide +kernel
def Y_Text_wordEnd : aY := (⟨"DatumDesk$Text", "wordEnd", "(I)I"⟩, prog_4_method_9_code, 3, some .int)
theorem hy_Text_wordEnd : Y_Text_wordEnd.1.cls ≠ "java/lang/invoke/MethodHandle" ∧ Y_Text_wordEnd.1.cls ≠ "java/lang/invoke/VarHandle" ∧ (parseMethodDescriptor Y_Text_wordEnd.1.desc).map (fun d => d.parameters.length) = some 1 := by decide +kernel
def Y_Text_stringEnd : aY := (⟨"DatumDesk$Text", "stringEnd", "(I)I"⟩, prog_4_method_10_code, 5, some .int)
theorem hy_Text_stringEnd : Y_Text_stringEnd.1.cls ≠ "java/lang/invoke/MethodHandle" ∧ Y_Text_stringEnd.1.cls ≠ "java/lang/invoke/VarHandle" ∧ (parseMethodDescriptor Y_Text_stringEnd.1.desc).map (fun d => d.parameters.length) = some 1 := by decide +kernel
def Y_Text_isDigit : aY := (⟨"DatumDesk$Text", "isDigit", "(I)Z"⟩, prog_4_method_11_code, 1, some .boolean)
theorem hy_Text_isDigit : Y_Text_isDigit.1.cls ≠ "java/lang/invoke/MethodHandle" ∧ Y_Text_isDigit.1.cls ≠ "java/lang/invoke/VarHandle" ∧ (parseMethodDescriptor Y_Text_isDigit.1.desc).map (fun d => d.parameters.length) = some 1 := by decide +kernel
def Y_Text_isWordByte : aY := (⟨"DatumDesk$Text", "isWordByte", "(I)Z"⟩, prog_4_method_12_code, 1, some .boolean)
theorem hy_Text_isWordByte : Y_Text_isWordByte.1.cls ≠ "java/lang/invoke/MethodHandle" ∧ Y_Text_isWordByte.1.cls ≠ "java/lang/invoke/VarHandle" ∧ (parseMethodDescriptor Y_Text_isWordByte.1.desc).map (fun d => d.parameters.length) = some 1 := by decide +kernel
def Y_Tokens_init : aY := (⟨"DatumDesk$Tokens", "<init>", "()V"⟩, prog_5_method_1_code, 1, none)
theorem hy_Tokens_init : Y_Tokens_init.1.cls ≠ "java/lang/invoke/MethodHandle" ∧ Y_Tokens_init.1.cls ≠ "java/lang/invoke/VarHandle" ∧ (parseMethodDescriptor Y_Tokens_init.1.desc).map (fun d => d.parameters.length) = some 0 := by decide +kernel
def Y_Tokens_scan : aY := (⟨"DatumDesk$Tokens", "scan", "(LDatumDesk$Text;)V"⟩, prog_5_method_2_code, 7, none)
theorem hy_Tokens_scan : Y_Tokens_scan.1.cls ≠ "java/lang/invoke/MethodHandle" ∧ Y_Tokens_scan.1.cls ≠ "java/lang/invoke/VarHandle" ∧ (parseMethodDescriptor Y_Tokens_scan.1.desc).map (fun d => d.parameters.length) = some 1 := by decide +kernel
def Y_Tokens_sortOf : aY := (⟨"DatumDesk$Tokens", "sortOf", "(I)I"⟩, prog_5_method_3_code, 2, some .int)
theorem hy_Tokens_sortOf : Y_Tokens_sortOf.1.cls ≠ "java/lang/invoke/MethodHandle" ∧ Y_Tokens_sortOf.1.cls ≠ "java/lang/invoke/VarHandle" ∧ (parseMethodDescriptor Y_Tokens_sortOf.1.desc).map (fun d => d.parameters.length) = some 1 := by decide +kernel
def Y_Tokens_startOf : aY := (⟨"DatumDesk$Tokens", "startOf", "(I)I"⟩, prog_5_method_4_code, 2, some .int)
theorem hy_Tokens_startOf : Y_Tokens_startOf.1.cls ≠ "java/lang/invoke/MethodHandle" ∧ Y_Tokens_startOf.1.cls ≠ "java/lang/invoke/VarHandle" ∧ (parseMethodDescriptor Y_Tokens_startOf.1.desc).map (fun d => d.parameters.length) = some 1 := by decide +kernel
def Y_Tokens_endOf : aY := (⟨"DatumDesk$Tokens", "endOf", "(I)I"⟩, prog_5_method_5_code, 2, some .int)
theorem hy_Tokens_endOf : Y_Tokens_endOf.1.cls ≠ "java/lang/invoke/MethodHandle" ∧ Y_Tokens_endOf.1.cls ≠ "java/lang/invoke/VarHandle" ∧ (parseMethodDescriptor Y_Tokens_endOf.1.desc).map (fun d => d.parameters.length) = some 1 := by decide +kernel
def Y_Waiting_init : aY := (⟨"DatumDesk$Waiting", "<init>", "()V"⟩, prog_6_method_1_code, 1, none)
theorem hy_Waiting_init : Y_Waiting_init.1.cls ≠ "java/lang/invoke/MethodHandle" ∧ Y_Waiting_init.1.cls ≠ "java/lang/invoke/VarHandle" ∧ (parseMethodDescriptor Y_Waiting_init.1.desc).map (fun d => d.parameters.length) = some 0 := by decide +kernel
def Y_Waiting_append : aY := (⟨"DatumDesk$Waiting", "append", "(I)V"⟩, prog_6_method_2_code, 3, none)
theorem hy_Waiting_append : Y_Waiting_append.1.cls ≠ "java/lang/invoke/MethodHandle" ∧ Y_Waiting_append.1.cls ≠ "java/lang/invoke/VarHandle" ∧ (parseMethodDescriptor Y_Waiting_append.1.desc).map (fun d => d.parameters.length) = some 1 := by decide +kernel
def Y_Waiting_take : aY := (⟨"DatumDesk$Waiting", "take", "()I"⟩, prog_6_method_3_code, 2, some .int)
theorem hy_Waiting_take : Y_Waiting_take.1.cls ≠ "java/lang/invoke/MethodHandle" ∧ Y_Waiting_take.1.cls ≠ "java/lang/invoke/VarHandle" ∧ (parseMethodDescriptor Y_Waiting_take.1.desc).map (fun d => d.parameters.length) = some 0 := by decide +kernel
def Y_Writer_init : aY := (⟨"DatumDesk$Writer", "<init>", "(LDatumDesk$Nodes;LDatumDesk$Waiting;)V"⟩, prog_7_method_1_code, 3, none)
theorem hy_Writer_init : Y_Writer_init.1.cls ≠ "java/lang/invoke/MethodHandle" ∧ Y_Writer_init.1.cls ≠ "java/lang/invoke/VarHandle" ∧ (parseMethodDescriptor Y_Writer_init.1.desc).map (fun d => d.parameters.length) = some 2 := by decide +kernel
def Y_Writer_writeNode : aY := (⟨"DatumDesk$Writer", "writeNode", "(II)V"⟩, prog_7_method_2_code, 3, none)
theorem hy_Writer_writeNode : Y_Writer_writeNode.1.cls ≠ "java/lang/invoke/MethodHandle" ∧ Y_Writer_writeNode.1.cls ≠ "java/lang/invoke/VarHandle" ∧ (parseMethodDescriptor Y_Writer_writeNode.1.desc).map (fun d => d.parameters.length) = some 2 := by decide +kernel
def Y_Writer_writeNumber : aY := (⟨"DatumDesk$Writer", "writeNumber", "(I)V"⟩, prog_7_method_3_code, 4, none)
theorem hy_Writer_writeNumber : Y_Writer_writeNumber.1.cls ≠ "java/lang/invoke/MethodHandle" ∧ Y_Writer_writeNumber.1.cls ≠ "java/lang/invoke/VarHandle" ∧ (parseMethodDescriptor Y_Writer_writeNumber.1.desc).map (fun d => d.parameters.length) = some 1 := by decide +kernel
def Y_Writer_writeName : aY := (⟨"DatumDesk$Writer", "writeName", "(I)V"⟩, prog_7_method_4_code, 4, none)
theorem hy_Writer_writeName : Y_Writer_writeName.1.cls ≠ "java/lang/invoke/MethodHandle" ∧ Y_Writer_writeName.1.cls ≠ "java/lang/invoke/VarHandle" ∧ (parseMethodDescriptor Y_Writer_writeName.1.desc).map (fun d => d.parameters.length) = some 1 := by decide +kernel
def Y_Writer_writeString : aY := (⟨"DatumDesk$Writer", "writeString", "(I)V"⟩, prog_7_method_5_code, 5, none)
theorem hy_Writer_writeString : Y_Writer_writeString.1.cls ≠ "java/lang/invoke/MethodHandle" ∧ Y_Writer_writeString.1.cls ≠ "java/lang/invoke/VarHandle" ∧ (parseMethodDescriptor Y_Writer_writeString.1.desc).map (fun d => d.parameters.length) = some 1 := by decide +kernel
def Y_Writer_writePair : aY := (⟨"DatumDesk$Writer", "writePair", "(II)V"⟩, prog_7_method_6_code, 6, none)
theorem hy_Writer_writePair : Y_Writer_writePair.1.cls ≠ "java/lang/invoke/MethodHandle" ∧ Y_Writer_writePair.1.cls ≠ "java/lang/invoke/VarHandle" ∧ (parseMethodDescriptor Y_Writer_writePair.1.desc).map (fun d => d.parameters.length) = some 2 := by decide +kernel
end
section
theorem kd_0 : am_kd 0 6 = true := rfl
theorem fd_0_0 : am_fd 0 6 0 = some (some (.ref 1)) := rfl
theorem fd_0_1 : am_fd 0 6 1 = some (some (.ref 3)) := rfl
theorem fd_0_2 : am_fd 0 6 2 = some (some (.ref 11)) := rfl
theorem fd_0_3 : am_fd 0 6 3 = some (some (.ref 16)) := rfl
theorem fd_0_4 : am_fd 0 6 4 = some (some (.ref 18)) := rfl
theorem kd_1 : am_kd 1 2 = true := rfl
theorem fd_1_0 : am_fd 1 2 0 = some (some (.ref 2)) := rfl
theorem fd_1_1 : am_fd 1 2 1 = some none := rfl
theorem ln_2 : am_ln 2 = some 400 := rfl
theorem kd_3 : am_kd 3 0 = true := rfl
theorem fd_3_0 : am_fd 3 0 0 = some (some (.ref 4)) := rfl
theorem fd_3_1 : am_fd 3 0 1 = some (some (.ref 5)) := rfl
theorem fd_3_2 : am_fd 3 0 2 = some (some (.ref 6)) := rfl
theorem fd_3_3 : am_fd 3 0 3 = some (some (.ref 7)) := rfl
theorem fd_3_4 : am_fd 3 0 4 = some (some (.ref 8)) := rfl
theorem fd_3_5 : am_fd 3 0 5 = some none := rfl
theorem fd_3_6 : am_fd 3 0 6 = some (some (.ref 9)) := rfl
theorem fd_3_7 : am_fd 3 0 7 = some none := rfl
theorem fd_3_8 : am_fd 3 0 8 = some (some (.ref 10)) := rfl
theorem fd_3_9 : am_fd 3 0 9 = some none := rfl
theorem ln_4 : am_ln 4 = some 200 := rfl
theorem ln_5 : am_ln 5 = some 200 := rfl
theorem ln_6 : am_ln 6 = some 200 := rfl
theorem ln_7 : am_ln 7 = some 200 := rfl
theorem ln_8 : am_ln 8 = some 200 := rfl
theorem ln_9 : am_ln 9 = some 200 := rfl
theorem ln_10 : am_ln 10 = some 405 := rfl
theorem kd_11 : am_kd 11 1 = true := rfl
theorem fd_11_0 : am_fd 11 1 0 = some (some (.ref 1)) := rfl
theorem fd_11_1 : am_fd 11 1 1 = some (some (.ref 3)) := rfl
theorem fd_11_2 : am_fd 11 1 2 = some (some (.ref 12)) := rfl
theorem fd_11_3 : am_fd 11 1 3 = some none := rfl
theorem fd_11_4 : am_fd 11 1 4 = some none := rfl
theorem kd_12 : am_kd 12 3 = true := rfl
theorem fd_12_0 : am_fd 12 3 0 = some (some (.ref 13)) := rfl
theorem fd_12_1 : am_fd 12 3 1 = some (some (.ref 14)) := rfl
theorem fd_12_2 : am_fd 12 3 2 = some (some (.ref 15)) := rfl
theorem fd_12_3 : am_fd 12 3 3 = some none := rfl
theorem ln_13 : am_ln 13 = some 401 := rfl
theorem ln_14 : am_ln 14 = some 401 := rfl
theorem ln_15 : am_ln 15 = some 401 := rfl
theorem kd_16 : am_kd 16 4 = true := rfl
theorem fd_16_0 : am_fd 16 4 0 = some (some (.ref 17)) := rfl
theorem fd_16_1 : am_fd 16 4 1 = some none := rfl
theorem fd_16_2 : am_fd 16 4 2 = some none := rfl
theorem ln_17 : am_ln 17 = some 500 := rfl
theorem kd_18 : am_kd 18 5 = true := rfl
theorem fd_18_0 : am_fd 18 5 0 = some (some (.ref 3)) := rfl
theorem fd_18_1 : am_fd 18 5 1 = some (some (.ref 16)) := rfl
theorem kd_19 : am_kd 19 7 = true := rfl
theorem fd_19_0 : am_fd 19 7 0 = some (some (.ref 20)) := rfl
theorem fd_19_1 : am_fd 19 7 1 = some none := rfl
theorem fd_19_2 : am_fd 19 7 2 = some none := rfl
theorem fd_19_3 : am_fd 19 7 3 = some none := rfl
theorem fd_19_4 : am_fd 19 7 4 = some none := rfl
theorem fd_19_5 : am_fd 19 7 5 = some none := rfl
theorem fd_19_6 : am_fd 19 7 6 = some (some (.ref 21)) := rfl
theorem fd_19_7 : am_fd 19 7 7 = some (some (.ref 22)) := rfl
theorem fd_19_8 : am_fd 19 7 8 = some (some (.ref 23)) := rfl
theorem fd_19_9 : am_fd 19 7 9 = some (some (.ref 24)) := rfl
theorem fd_19_10 : am_fd 19 7 10 = some (some (.ref 25)) := rfl
theorem fd_19_11 : am_fd 19 7 11 = some none := rfl
theorem fd_19_12 : am_fd 19 7 12 = some (some (.ref 26)) := rfl
theorem fd_19_13 : am_fd 19 7 13 = some none := rfl
theorem fd_19_14 : am_fd 19 7 14 = some (some (.ref 27)) := rfl
theorem fd_19_15 : am_fd 19 7 15 = some (some (.ref 28)) := rfl
theorem fd_19_16 : am_fd 19 7 16 = some (some (.ref 29)) := rfl
theorem fd_19_17 : am_fd 19 7 17 = some (some (.ref 30)) := rfl
theorem fd_19_18 : am_fd 19 7 18 = some none := rfl
theorem fd_19_19 : am_fd 19 7 19 = some (some (.ref 31)) := rfl
theorem fd_19_20 : am_fd 19 7 20 = some (some (.ref 32)) := rfl
theorem ln_20 : am_ln 20 = some 400 := rfl
theorem ln_21 : am_ln 21 = some 200 := rfl
theorem ln_22 : am_ln 22 = some 200 := rfl
theorem ln_23 : am_ln 23 = some 4000 := rfl
theorem ln_24 : am_ln 24 = some 200 := rfl
theorem ln_25 : am_ln 25 = some 200 := rfl
theorem ln_26 : am_ln 26 = some 200 := rfl
theorem ln_27 : am_ln 27 = some 15 := rfl
theorem ln_28 : am_ln 28 = some 15 := rfl
theorem ln_29 : am_ln 29 = some 15 := rfl
theorem ln_30 : am_ln 30 = some 500 := rfl
theorem ln_31 : am_ln 31 = some 420 := rfl
theorem ln_32 : am_ln 32 = some 420 := rfl
end
section
/-! printed by wip/gen/strings.py: the text "quote" and its charAt -/
def Y_Pre_check : aY := (⟨"jdk/internal/util/Preconditions", "checkIndex", "(IILjava/util/function/BiFunction;)I"⟩, prog_15_method_11_code, 3, some .int)
theorem hy_Pre_check : Y_Pre_check.1.cls ≠ "java/lang/invoke/MethodHandle" ∧ Y_Pre_check.1.cls ≠ "java/lang/invoke/VarHandle" ∧ (parseMethodDescriptor Y_Pre_check.1.desc).map (fun d => d.parameters.length) = some 3 := by decide +kernel
def Y_Str_check : aY := (⟨"java/lang/String", "checkIndex", "(II)V"⟩, prog_11_method_155_code, 2, none)
theorem hy_Str_check : Y_Str_check.1.cls ≠ "java/lang/invoke/MethodHandle" ∧ Y_Str_check.1.cls ≠ "java/lang/invoke/VarHandle" ∧ (parseMethodDescriptor Y_Str_check.1.desc).map (fun d => d.parameters.length) = some 2 := by decide +kernel
def Y_Lat_charAt : aY := (⟨"java/lang/StringLatin1", "charAt", "([BI)C"⟩, prog_12_method_2_code, 2, some .char)
theorem hy_Lat_charAt : Y_Lat_charAt.1.cls ≠ "java/lang/invoke/MethodHandle" ∧ Y_Lat_charAt.1.cls ≠ "java/lang/invoke/VarHandle" ∧ (parseMethodDescriptor Y_Lat_charAt.1.desc).map (fun d => d.parameters.length) = some 2 := by decide +kernel
def Y_Str_isL : aY := (⟨"java/lang/String", "isLatin1", "()Z"⟩, prog_11_method_154_code, 1, some .boolean)
theorem hy_Str_isL : Y_Str_isL.1.cls ≠ "java/lang/invoke/MethodHandle" ∧ Y_Str_isL.1.cls ≠ "java/lang/invoke/VarHandle" ∧ (parseMethodDescriptor Y_Str_isL.1.desc).map (fun d => d.parameters.length) = some 0 := by decide +kernel
def Y_Str_charAt : aY := (⟨"java/lang/String", "charAt", "(I)C"⟩, prog_11_method_56_code, 2, some .char)
theorem hy_Str_charAt : Y_Str_charAt.1.cls ≠ "java/lang/invoke/MethodHandle" ∧ Y_Str_charAt.1.cls ≠ "java/lang/invoke/VarHandle" ∧ (parseMethodDescriptor Y_Str_charAt.1.desc).map (fun d => d.parameters.length) = some 1 := by decide +kernel
def ai_callx1 (sp : aS) (nx : Nat) : aI := fun j _ _ L S M => match S with
  | .ref b :: S => b = 1002 ∧ am_few S ∧ sp [.ref b] M (fun r M1 => j nx L (am_push r S) M1)
  | _ => False
def ai_callx2 (sp : aS) (nx : Nat) : aI := fun j _ _ L S M => match S with
  | x :: .ref b :: S => b = 1002 ∧ am_few S ∧ sp [.ref b, x] M (fun r M1 => j nx L (am_push r S) M1)
  | _ => False
def ai_calls3 (sp : aS) (nx : Nat) : aI := fun j _ _ L S M => match S with
  | z :: y :: x :: S => am_few S ∧ sp [x, y, z] M (fun r M1 => j nx L (am_push r S) M1)
  | _ => False
def ai_xgetf (v : Value) (nx : Nat) : aI := fun j _ _ L S M => match S with
  | .ref b :: S => b = 1002 ∧ j nx L (v :: S) M
  | _ => False
def ai_xblen (nx : Nat) : aI := fun j _ _ L S M => match S with
  | .ref b :: S => b = 1003 ∧ j nx L (.int 5 :: S) M
  | _ => False
def ai_xbald (nx : Nat) : aI := fun j _ _ L S M => match S with
  | .int i :: .ref b :: S => b = 1003 ∧ vp_in i 5 ∧ j nx L (.int (QF i.toNatClampNeg) :: S) M
  | _ => False
def ai_i2c (nx : Nat) : aI := fun j _ _ L S M => match S with
  | .int x :: S => j nx L (.int ((x.toUInt32 % 65536).toInt32) :: S) M
  | _ => False
def ai_cret : aI := fun _ K _ _ S M => match S with
  | [.int x] => narrow .char (.int x) = .int x ∧ K (some (.int x)) M
  | _ => False
def ai_getq (nx : Nat) : aI := fun j _ _ L S M => j nx L (.null :: S) M ∧ j nx L (.ref 1004 :: S) M
section AMX
variable {G : aG} {Y : aY} {p : Program} {e : Env} {R : Room} {s : State} {m : MethodId} {args : Array Value} {below : List Frame} {meth : Method} {c : Code} {Q : State → Prop} {kc ks : Nat} {K : aR} {pc nx : Nat}
theorem as_ldcs (C : am_C G Y p s m args meth c) (hY : Y.1.cls = "DatumDeskModel") (hd : decode Y.2.1 pc = .ok (.ldc 106, 2)) (hn : nx = pc + 2) : am_S (am_J G Y p e R s m args below meth c Q kc ks) K pc (ai_gets (.ref 1002) nx) := by
  obtain ⟨hG, hx, hb, hml, hr, hown, hts, hlk, hT, hE, hB⟩ := C
  subst hn
  rw [hY] at hown
  intro j hj L S M h H locs ls hP hS hl
  exact va_ldcS hx hb hown hT.2.2 hd (hj _ _ _ _ h H locs ls hP hS hl)
theorem as_getsC (C : am_C G Y p s m args meth c) {ix : Nat} (hlink : Cond.fieldLink Y.1.cls ix "java/lang/String" "COMPACT_STRINGS" "Z" ∈ TB) (hd : decode Y.2.1 pc = .ok (.getstatic ix, 3)) (hn : nx = pc + 3) : am_S (am_J G Y p e R s m args below meth c Q kc ks) K pc (ai_gets (.int 1) nx) := by
  obtain ⟨hG, hx, hb, hml, hr, hown, hts, hlk, hT, hE, hB⟩ := C
  subst hn
  intro j hj L S M h H locs ls hP hS hl
  exact va_gets hx hb (hE.2.2.2.2.2.2.1.narrow (am_AB hG hB)) hS hown (hts _ hlink) (fun _ h9 => h9) hd (hj _ _ _ _ h H locs ls hP hS hl)
theorem as_getq (C : am_C G Y p s m args meth c) {ix : Nat} (hlink : Cond.fieldLink Y.1.cls ix "jdk/internal/util/Preconditions" "SIOOBE_FORMATTER" "Ljava/util/function/BiFunction;" ∈ TB) (hd : decode Y.2.1 pc = .ok (.getstatic ix, 3)) (hn : nx = pc + 3) : am_S (am_J G Y p e R s m args below meth c Q kc ks) K pc (ai_getq nx) := by
  obtain ⟨hG, hx, hb, hml, hr, hown, hts, hlk, hT, hE, hB⟩ := C
  subst hn
  intro j hj L S M h H locs ls hP hS hl
  rcases hE.2.2.2.2.2.2.2 with q | q
  · exact va_gets hx hb (q.narrow (am_AB hG hB)) hS hown (hts _ hlink) (fun _ h9 => h9) hd (hj _ _ _ _ h.1 H locs ls hP hS hl)
  · exact va_gets hx hb (q.narrow (am_AB hG hB)) hS hown (hts _ hlink) (fun _ h9 => h9) hd (hj _ _ _ _ h.2 H locs ls hP hS hl)
theorem as_xcoder (C : am_C G Y p s m args meth c) {ix : Nat} (hlink : Cond.fieldLink Y.1.cls ix "java/lang/String" "coder" "B" ∈ TB) (hd : decode Y.2.1 pc = .ok (.getfield ix, 3)) (hn : nx = pc + 3) : am_S (am_J G Y p e R s m args below meth c Q kc ks) K pc (ai_xgetf (.int 0) nx) := by
  obtain ⟨hG, hx, hb, hml, hr, hown, hts, hlk, hT, hE, hB⟩ := C
  subst hn
  intro j hj L S M h H locs ls hP hS hl
  unfold ai_xgetf at h
  split at h
  · obtain ⟨rfl, h⟩ := h
    obtain ⟨cf, k, fi, f, cell, h1, h2, h3, h4, h5, h6⟩ := (hE.2.2.2.1.narrow (am_AB hG hB)).kept hS.2.1
    exact W.getf hx hb hown (hts _ hlink) h1 h2 h3 h4 (v := .int 0) h5 rfl rfl hd (hj _ _ _ _ h H locs ls hP hS hl)
  · cases h
theorem as_xvalue (C : am_C G Y p s m args meth c) {ix : Nat} (hlink : Cond.fieldLink Y.1.cls ix "java/lang/String" "value" "[B" ∈ TB) (hd : decode Y.2.1 pc = .ok (.getfield ix, 3)) (hn : nx = pc + 3) : am_S (am_J G Y p e R s m args below meth c Q kc ks) K pc (ai_xgetf (.ref 1003) nx) := by
  obtain ⟨hG, hx, hb, hml, hr, hown, hts, hlk, hT, hE, hB⟩ := C
  subst hn
  intro j hj L S M h H locs ls hP hS hl
  unfold ai_xgetf at h
  split at h
  · obtain ⟨rfl, h⟩ := h
    obtain ⟨cf, k, fi, f, cell, h1, h2, h3, h4, h5, h6⟩ := (hE.2.2.2.2.1.narrow (am_AB hG hB)).kept hS.2.1
    exact W.getf hx hb hown (hts _ hlink) h1 h2 h3 h4 (v := .ref (g_a G 1003)) h5 rfl rfl hd (hj _ _ _ _ h H locs ls hP hS hl)
  · cases h
theorem as_xblen (C : am_C G Y p s m args meth c) (hd : decode Y.2.1 pc = .ok (.arraylength, 1)) (hn : nx = pc + 1) : am_S (am_J G Y p e R s m args below meth c Q kc ks) K pc (ai_xblen nx) := by
  obtain ⟨hG, hx, hb, hml, hr, hown, hts, hlk, hT, hE, hB⟩ := C
  subst hn
  intro j hj L S M h H locs ls hP hS hl
  unfold ai_xblen at h
  split at h
  · obtain ⟨rfl, h⟩ := h
    exact va_tlen hx hb (hE.2.2.2.2.2.1.narrow (am_AB hG hB)) hS rfl hd (hj _ _ _ _ h H locs ls hP hS hl)
  · cases h
theorem as_xbald (C : am_C G Y p s m args meth c) (hd : decode Y.2.1 pc = .ok (.baload, 1)) (hn : nx = pc + 1) : am_S (am_J G Y p e R s m args below meth c Q kc ks) K pc (ai_xbald nx) := by
  obtain ⟨hG, hx, hb, hml, hr, hown, hts, hlk, hT, hE, hB⟩ := C
  subst hn
  intro j hj L S M h H locs ls hP hS hl
  unfold ai_xbald at h
  split at h
  · obtain ⟨rfl, h1, h⟩ := h
    exact va_tb hx hb (hE.2.2.2.2.2.1.narrow (am_AB hG hB)) hS h1 rfl hd (hj _ _ _ _ h H locs ls hP hS hl)
  · cases h
theorem as_i2c (C : am_C G Y p s m args meth c) (hd : decode Y.2.1 pc = .ok (.i2c, 1)) (hn : nx = pc + 1) : am_S (am_J G Y p e R s m args below meth c Q kc ks) K pc (ai_i2c nx) := by
  obtain ⟨hG, hx, hb, hml, hr, hown, hts, hlk, hT, hE, hB⟩ := C
  subst hn
  intro j hj L S M h H locs ls hP hS hl
  unfold ai_i2c at h
  split at h
  · exact lv_i2c hx hb hd rfl (hj _ _ _ _ h H locs ls hP hS hl)
  · cases h
theorem am_vx (C : am_C G Y p s m args meth c) {Z : aY} {d ix n : Nat} {As S st0 : List Value} {M : aM} {K1 : aR} (hM : am_Met G Z d (.ref 1002 :: As) M K1)
    (hcode : Cond.code Z.1 Z.2.1 Z.2.2.1 Z.2.2.2 ∈ TB) (hini : Cond.initialized Z.1.cls ∈ TB) (hinst : Cond.instanceMethod Z.1 ∈ TB) (hsel : Cond.selects "java/lang/String" Z.1 Z.1 ∈ TB) (hlink : Cond.methodLink Y.1.cls ix Z.1 ∈ TB)
    (hy : Z.1.cls ≠ "java/lang/invoke/MethodHandle" ∧ Z.1.cls ≠ "java/lang/invoke/VarHandle" ∧ (parseMethodDescriptor Z.1.desc).map (fun d => d.parameters.length) = some n) (hR : am_rm R d Z.2.2.1 kc ks) (hn : As.length = n) (hst : st0 = As.reverse ++ .ref 1002 :: S) (hf : am_few S) (hd : decode Y.2.1 pc = .ok (.invokevirtual ix, 3))
    {H : Heap} {locs : List Loc} {ls : Array Slot} {L : aL} (hP : va_P (g_D G) CL (am_W G M) H) (hS : va_S (am_A G s.heap.size) s.heap H locs) (hl : am_lv ls Y.2.2.1 (g_a G) L)
    (kk : ∀ r M1, K1 r M1 → am_J G Y p e R s m args below meth c Q kc ks (pc + 3) L (am_push r S) M1) : W p (g_l G) e R s m args below meth c H locs kc ks Q (F0 m pc ls (st0.map (am_v (g_a G)))) := by
  have C0 := C
  obtain ⟨hG, hx, hb, hml, hr, hown, hts, hlk, hT, hE, hB⟩ := C
  have hrc : ∃ cell : Cell, H[g_a G 1002]? = some cell ∧ cell.vm.isStatics = false ∧ s.vm.findClass "java/lang/String" = some cell.cls := by
    obtain ⟨cell, h1, h2, h3, -⟩ := (hE.2.2.1.narrow (am_AB hG hB)).kept hS.2.1
    exact ⟨cell, h1, h2, h3⟩
  refine am_call (va_runV (As := As.map (am_v (g_a G))) (rest := S.map (am_v (g_a G))) (b := g_a G 1002) (C := "java/lang/String") ⟨hx, hb, hml, hown, hts⟩ (hM H.size) ⟨callB_of n hts (am_good Z hcode) rfl rfl rfl (hts _ hini) (hts _ hlink) hy ⟨hR.1, hR.2.1⟩, hts _ hinst, hts _ hsel⟩ ⟨fun a U g mk q => ⟨q.1, q.2.calling⟩, hrc, fun U hU hW => ⟨rfl, am_pre C0 hP hS hU hW⟩⟩ rfl (by simpa using hn) hl.1 (by rw [hst]; simp [am_v]) (lv_room (am_few_sum (g_a G) hf)) hd ⟨hR.2.2.1, hR.2.2.2⟩) hS (fun r M1 H1 locs1 h1 h2 h3 => ?_)
  rw [am_push_eq]
  exact kk r M1 h1 H1 locs1 ls h2 h3 hl
theorem as_callx1 (C : am_C G Y p s m args meth c) {Z : aY} {d ix : Nat} {sp : aS} (hsp : am_Sp G Z d sp) (hcode : Cond.code Z.1 Z.2.1 Z.2.2.1 Z.2.2.2 ∈ TB) (hini : Cond.initialized Z.1.cls ∈ TB) (hinst : Cond.instanceMethod Z.1 ∈ TB) (hsel : Cond.selects "java/lang/String" Z.1 Z.1 ∈ TB) (hlink : Cond.methodLink Y.1.cls ix Z.1 ∈ TB) (hy : Z.1.cls ≠ "java/lang/invoke/MethodHandle" ∧ Z.1.cls ≠ "java/lang/invoke/VarHandle" ∧ (parseMethodDescriptor Z.1.desc).map (fun d => d.parameters.length) = some 0) (hR : am_rm R d Z.2.2.1 kc ks) (hd : decode Y.2.1 pc = .ok (.invokevirtual ix, 3)) (hn : nx = pc + 3) : am_S (am_J G Y p e R s m args below meth c Q kc ks) K pc (ai_callx1 sp nx) := by
  subst hn
  intro j hj L S M h H locs ls hP hS hl
  unfold ai_callx1 at h
  split at h
  · obtain ⟨rfl, h2, h3⟩ := h
    exact am_vx C (As := []) (hsp _ _ _ h3) hcode hini hinst hsel hlink hy hR rfl rfl h2 hd hP hS hl (fun r M1 q => hj _ _ _ _ q)
  · cases h
theorem as_callx2 (C : am_C G Y p s m args meth c) {Z : aY} {d ix : Nat} {sp : aS} (hsp : am_Sp G Z d sp) (hcode : Cond.code Z.1 Z.2.1 Z.2.2.1 Z.2.2.2 ∈ TB) (hini : Cond.initialized Z.1.cls ∈ TB) (hinst : Cond.instanceMethod Z.1 ∈ TB) (hsel : Cond.selects "java/lang/String" Z.1 Z.1 ∈ TB) (hlink : Cond.methodLink Y.1.cls ix Z.1 ∈ TB) (hy : Z.1.cls ≠ "java/lang/invoke/MethodHandle" ∧ Z.1.cls ≠ "java/lang/invoke/VarHandle" ∧ (parseMethodDescriptor Z.1.desc).map (fun d => d.parameters.length) = some 1) (hR : am_rm R d Z.2.2.1 kc ks) (hd : decode Y.2.1 pc = .ok (.invokevirtual ix, 3)) (hn : nx = pc + 3) : am_S (am_J G Y p e R s m args below meth c Q kc ks) K pc (ai_callx2 sp nx) := by
  subst hn
  intro j hj L S M h H locs ls hP hS hl
  unfold ai_callx2 at h
  split at h
  · obtain ⟨rfl, h2, h3⟩ := h
    exact am_vx C (As := [_]) (hsp _ _ _ h3) hcode hini hinst hsel hlink hy hR rfl rfl h2 hd hP hS hl (fun r M1 q => hj _ _ _ _ q)
  · cases h
theorem as_calls3 (C : am_C G Y p s m args meth c) {Z : aY} {d ix : Nat} {sp : aS} (hsp : am_Sp G Z d sp) (hcode : Cond.code Z.1 Z.2.1 Z.2.2.1 Z.2.2.2 ∈ TB) (hini : Cond.initialized Z.1.cls ∈ TB) (hstat : Cond.static Z.1 ∈ TB) (hlink : Cond.methodLink Y.1.cls ix Z.1 ∈ TB) (hy : Z.1.cls ≠ "java/lang/invoke/MethodHandle" ∧ Z.1.cls ≠ "java/lang/invoke/VarHandle" ∧ (parseMethodDescriptor Z.1.desc).map (fun d => d.parameters.length) = some 3) (hR : am_rm R d Z.2.2.1 kc ks) (hd : decode Y.2.1 pc = .ok (.invokestatic ix, 3)) (hn : nx = pc + 3) : am_S (am_J G Y p e R s m args below meth c Q kc ks) K pc (ai_calls3 sp nx) := by
  subst hn
  intro j hj L S M h H locs ls hP hS hl
  unfold ai_calls3 at h
  split at h
  · obtain ⟨h2, h3⟩ := h
    exact am_so C (As := [_, _, _]) (hsp _ _ _ h3) hcode hini hstat hlink hy hR rfl rfl h2 hd hP hS hl (fun r M1 q => hj _ _ _ _ q)
  · cases h
end AMX
theorem as_cret {G : aG} {Y : aY} {p : Program} {e : Env} {R : Room} {s : State} {m : MethodId} {args : Array Value} {below : List Frame} {meth : Method} {c : Code} {K : aR} {pc : Nat} (C : am_C G Y p s m args meth c) (hy : Y.2.2.2 = some .char) (hd : decode Y.2.1 pc = .ok (.ireturn, 1)) : am_S (am_J G Y p e R s m args below meth c (am_Z G K s args below) 0 0) K pc ai_cret := by
  obtain ⟨hG, hx, hb, hml, hr, hown, hts, hlk, hT, hE, hB⟩ := C
  intro j hj L S M h H locs ls hP hS hl
  unfold ai_cret at h
  split at h
  · next x => exact W.zret (hlocks := hlk) hx hb (hr.trans hy) h.1 (fun t ht _ => ⟨⟨some (.int x), M, rfl, h.2, by rw [ht]; exact hP⟩, hS.F ht⟩) hS.2.2 hd
  · cases h
def c_Pre_check : List (Nat × aI) := [
  (0, ai_iload 0 1),
  (1, ai_iflt 9 4),
  (4, ai_iload 0 5),
  (5, ai_iload 1 6),
  (6, ai_cmplt 16 9),
  (16, ai_iload 0 17),
  (17, ai_iret)]
set_option maxRecDepth 100000 in
set_option maxHeartbeats 4000000 in
theorem tb_Pre_check {G : aG} {d : Nat} : am_tab G Y_Pre_check d (c_Pre_check) := by
  intro K p e s m args below meth c C
  exact ⟨as_iload_n C (pc := 0) (q := 0) (by decide +kernel) rfl rfl,
    as_iflt C (pc := 1) (off := 8) (by decide +kernel) (by decide) rfl,
    as_iload_n C (pc := 4) (q := 0) (by decide +kernel) rfl rfl,
    as_iload_n C (pc := 5) (q := 1) (by decide +kernel) rfl rfl,
    as_cmplt C (pc := 6) (off := 10) (by decide +kernel) (by decide) rfl,
    as_iload_n C (pc := 16) (q := 0) (by decide +kernel) rfl rfl,
    as_iret C (pc := 17) rfl (by decide +kernel), trivial⟩
abbrev k_Pre_check : List Nat := []
theorem r_Pre_check_0 {J : aJ} {K : aR} {n : Nat} {L : aL} {S : List Value} {M : aM} : am_run (c_Pre_check) k_Pre_check J K (n + 1) 0 L S M = ai_iload 0 1 (am_run (c_Pre_check) k_Pre_check J K n) K 0 L S M := by rfl
theorem r_Pre_check_1 {J : aJ} {K : aR} {n : Nat} {L : aL} {S : List Value} {M : aM} : am_run (c_Pre_check) k_Pre_check J K (n + 1) 1 L S M = ai_iflt 9 4 (am_run (c_Pre_check) k_Pre_check J K n) K 1 L S M := by rfl
theorem r_Pre_check_4 {J : aJ} {K : aR} {n : Nat} {L : aL} {S : List Value} {M : aM} : am_run (c_Pre_check) k_Pre_check J K (n + 1) 4 L S M = ai_iload 0 5 (am_run (c_Pre_check) k_Pre_check J K n) K 4 L S M := by rfl
theorem r_Pre_check_5 {J : aJ} {K : aR} {n : Nat} {L : aL} {S : List Value} {M : aM} : am_run (c_Pre_check) k_Pre_check J K (n + 1) 5 L S M = ai_iload 1 6 (am_run (c_Pre_check) k_Pre_check J K n) K 5 L S M := by rfl
theorem r_Pre_check_6 {J : aJ} {K : aR} {n : Nat} {L : aL} {S : List Value} {M : aM} : am_run (c_Pre_check) k_Pre_check J K (n + 1) 6 L S M = ai_cmplt 16 9 (am_run (c_Pre_check) k_Pre_check J K n) K 6 L S M := by rfl
theorem r_Pre_check_16 {J : aJ} {K : aR} {n : Nat} {L : aL} {S : List Value} {M : aM} : am_run (c_Pre_check) k_Pre_check J K (n + 1) 16 L S M = ai_iload 0 17 (am_run (c_Pre_check) k_Pre_check J K n) K 16 L S M := by rfl
theorem r_Pre_check_17 {J : aJ} {K : aR} {n : Nat} {L : aL} {S : List Value} {M : aM} : am_run (c_Pre_check) k_Pre_check J K (n + 1) 17 L S M = ai_iret (am_run (c_Pre_check) k_Pre_check J K n) K 17 L S M := by rfl
def c_Str_check (s_Pre_check : aS) : List (Nat × aI) := [
  (0, ai_iload 0 1),
  (1, ai_iload 1 2),
  (2, ai_getq 5),
  (5, ai_calls3 s_Pre_check 8),
  (8, ai_pop 9),
  (9, ai_vret)]
set_option maxRecDepth 100000 in
set_option maxHeartbeats 4000000 in
theorem tb_Str_check {G : aG} {d : Nat} {s_Pre_check : aS} {d_Pre_check : Nat} (h_Pre_check : am_Sp G Y_Pre_check d_Pre_check s_Pre_check) (l_Pre_check : d_Pre_check < d) : am_tab G Y_Str_check d (c_Str_check s_Pre_check) := by
  intro K p e s m args below meth c C
  exact ⟨as_iload_n C (pc := 0) (q := 0) (by decide +kernel) rfl rfl,
    as_iload_n C (pc := 1) (q := 1) (by decide +kernel) rfl rfl,
    as_getq C (pc := 2) (ix := 1053) (tb_of 647 rfl rfl) (by decide +kernel) rfl,
    as_calls3 C (pc := 5) h_Pre_check (tb_of 651 rfl rfl) (tb_of 81 rfl rfl) (tb_of 650 rfl rfl) (tb_of 649 rfl rfl) hy_Pre_check (am_rm_of l_Pre_check (by decide)) (by decide +kernel) rfl,
    as_pop C (pc := 8) (by decide +kernel) rfl,
    as_vret C (pc := 9) rfl (by decide +kernel), trivial⟩
abbrev k_Str_check : List Nat := []
theorem r_Str_check_0 {s_Pre_check : aS} {J : aJ} {K : aR} {n : Nat} {L : aL} {S : List Value} {M : aM} : am_run (c_Str_check s_Pre_check) k_Str_check J K (n + 1) 0 L S M = ai_iload 0 1 (am_run (c_Str_check s_Pre_check) k_Str_check J K n) K 0 L S M := by rfl
theorem r_Str_check_1 {s_Pre_check : aS} {J : aJ} {K : aR} {n : Nat} {L : aL} {S : List Value} {M : aM} : am_run (c_Str_check s_Pre_check) k_Str_check J K (n + 1) 1 L S M = ai_iload 1 2 (am_run (c_Str_check s_Pre_check) k_Str_check J K n) K 1 L S M := by rfl
theorem r_Str_check_2 {s_Pre_check : aS} {J : aJ} {K : aR} {n : Nat} {L : aL} {S : List Value} {M : aM} : am_run (c_Str_check s_Pre_check) k_Str_check J K (n + 1) 2 L S M = ai_getq 5 (am_run (c_Str_check s_Pre_check) k_Str_check J K n) K 2 L S M := by rfl
theorem r_Str_check_5 {s_Pre_check : aS} {J : aJ} {K : aR} {n : Nat} {L : aL} {S : List Value} {M : aM} : am_run (c_Str_check s_Pre_check) k_Str_check J K (n + 1) 5 L S M = ai_calls3 s_Pre_check 8 (am_run (c_Str_check s_Pre_check) k_Str_check J K n) K 5 L S M := by rfl
theorem r_Str_check_8 {s_Pre_check : aS} {J : aJ} {K : aR} {n : Nat} {L : aL} {S : List Value} {M : aM} : am_run (c_Str_check s_Pre_check) k_Str_check J K (n + 1) 8 L S M = ai_pop 9 (am_run (c_Str_check s_Pre_check) k_Str_check J K n) K 8 L S M := by rfl
theorem r_Str_check_9 {s_Pre_check : aS} {J : aJ} {K : aR} {n : Nat} {L : aL} {S : List Value} {M : aM} : am_run (c_Str_check s_Pre_check) k_Str_check J K (n + 1) 9 L S M = ai_vret (am_run (c_Str_check s_Pre_check) k_Str_check J K n) K 9 L S M := by rfl
def c_Lat_charAt (s_Str_check : aS) : List (Nat × aI) := [
  (0, ai_iload 1 1),
  (1, ai_aload 0 2),
  (2, ai_xblen 3),
  (3, ai_calls2 s_Str_check 6),
  (6, ai_aload 0 7),
  (7, ai_iload 1 8),
  (8, ai_xbald 9),
  (9, ai_const 255 12),
  (12, ai_iand 13),
  (13, ai_i2c 14),
  (14, ai_cret)]
set_option maxRecDepth 100000 in
set_option maxHeartbeats 4000000 in
theorem tb_Lat_charAt {G : aG} {d : Nat} {s_Str_check : aS} {d_Str_check : Nat} (h_Str_check : am_Sp G Y_Str_check d_Str_check s_Str_check) (l_Str_check : d_Str_check < d) : am_tab G Y_Lat_charAt d (c_Lat_charAt s_Str_check) := by
  intro K p e s m args below meth c C
  exact ⟨as_iload_n C (pc := 0) (q := 1) (by decide +kernel) rfl rfl,
    as_aload_n C (pc := 1) (q := 0) (by decide +kernel) rfl rfl,
    as_xblen C (pc := 2) (by decide +kernel) rfl,
    as_calls2 C (pc := 3) h_Str_check (tb_of 646 rfl rfl) (tb_of 79 rfl rfl) (tb_of 645 rfl rfl) (tb_of 644 rfl rfl) hy_Str_check (am_rm_of l_Str_check (by decide)) (by decide +kernel) rfl,
    as_aload_n C (pc := 6) (q := 0) (by decide +kernel) rfl rfl,
    as_iload_n C (pc := 7) (q := 1) (by decide +kernel) rfl rfl,
    as_xbald C (pc := 8) (by decide +kernel) rfl,
    as_sipush C (pc := 9) (n := 255) (by decide +kernel) (by decide +kernel) rfl,
    as_iand C (pc := 12) (by decide +kernel) rfl,
    as_i2c C (pc := 13) (by decide +kernel) rfl,
    as_cret C (pc := 14) rfl (by decide +kernel), trivial⟩
abbrev k_Lat_charAt : List Nat := []
theorem r_Lat_charAt_0 {s_Str_check : aS} {J : aJ} {K : aR} {n : Nat} {L : aL} {S : List Value} {M : aM} : am_run (c_Lat_charAt s_Str_check) k_Lat_charAt J K (n + 1) 0 L S M = ai_iload 1 1 (am_run (c_Lat_charAt s_Str_check) k_Lat_charAt J K n) K 0 L S M := by rfl
theorem r_Lat_charAt_1 {s_Str_check : aS} {J : aJ} {K : aR} {n : Nat} {L : aL} {S : List Value} {M : aM} : am_run (c_Lat_charAt s_Str_check) k_Lat_charAt J K (n + 1) 1 L S M = ai_aload 0 2 (am_run (c_Lat_charAt s_Str_check) k_Lat_charAt J K n) K 1 L S M := by rfl
theorem r_Lat_charAt_2 {s_Str_check : aS} {J : aJ} {K : aR} {n : Nat} {L : aL} {S : List Value} {M : aM} : am_run (c_Lat_charAt s_Str_check) k_Lat_charAt J K (n + 1) 2 L S M = ai_xblen 3 (am_run (c_Lat_charAt s_Str_check) k_Lat_charAt J K n) K 2 L S M := by rfl
theorem r_Lat_charAt_3 {s_Str_check : aS} {J : aJ} {K : aR} {n : Nat} {L : aL} {S : List Value} {M : aM} : am_run (c_Lat_charAt s_Str_check) k_Lat_charAt J K (n + 1) 3 L S M = ai_calls2 s_Str_check 6 (am_run (c_Lat_charAt s_Str_check) k_Lat_charAt J K n) K 3 L S M := by rfl
theorem r_Lat_charAt_6 {s_Str_check : aS} {J : aJ} {K : aR} {n : Nat} {L : aL} {S : List Value} {M : aM} : am_run (c_Lat_charAt s_Str_check) k_Lat_charAt J K (n + 1) 6 L S M = ai_aload 0 7 (am_run (c_Lat_charAt s_Str_check) k_Lat_charAt J K n) K 6 L S M := by rfl
theorem r_Lat_charAt_7 {s_Str_check : aS} {J : aJ} {K : aR} {n : Nat} {L : aL} {S : List Value} {M : aM} : am_run (c_Lat_charAt s_Str_check) k_Lat_charAt J K (n + 1) 7 L S M = ai_iload 1 8 (am_run (c_Lat_charAt s_Str_check) k_Lat_charAt J K n) K 7 L S M := by rfl
theorem r_Lat_charAt_8 {s_Str_check : aS} {J : aJ} {K : aR} {n : Nat} {L : aL} {S : List Value} {M : aM} : am_run (c_Lat_charAt s_Str_check) k_Lat_charAt J K (n + 1) 8 L S M = ai_xbald 9 (am_run (c_Lat_charAt s_Str_check) k_Lat_charAt J K n) K 8 L S M := by rfl
theorem r_Lat_charAt_9 {s_Str_check : aS} {J : aJ} {K : aR} {n : Nat} {L : aL} {S : List Value} {M : aM} : am_run (c_Lat_charAt s_Str_check) k_Lat_charAt J K (n + 1) 9 L S M = ai_const 255 12 (am_run (c_Lat_charAt s_Str_check) k_Lat_charAt J K n) K 9 L S M := by rfl
theorem r_Lat_charAt_12 {s_Str_check : aS} {J : aJ} {K : aR} {n : Nat} {L : aL} {S : List Value} {M : aM} : am_run (c_Lat_charAt s_Str_check) k_Lat_charAt J K (n + 1) 12 L S M = ai_iand 13 (am_run (c_Lat_charAt s_Str_check) k_Lat_charAt J K n) K 12 L S M := by rfl
theorem r_Lat_charAt_13 {s_Str_check : aS} {J : aJ} {K : aR} {n : Nat} {L : aL} {S : List Value} {M : aM} : am_run (c_Lat_charAt s_Str_check) k_Lat_charAt J K (n + 1) 13 L S M = ai_i2c 14 (am_run (c_Lat_charAt s_Str_check) k_Lat_charAt J K n) K 13 L S M := by rfl
theorem r_Lat_charAt_14 {s_Str_check : aS} {J : aJ} {K : aR} {n : Nat} {L : aL} {S : List Value} {M : aM} : am_run (c_Lat_charAt s_Str_check) k_Lat_charAt J K (n + 1) 14 L S M = ai_cret (am_run (c_Lat_charAt s_Str_check) k_Lat_charAt J K n) K 14 L S M := by rfl
def c_Str_isL : List (Nat × aI) := [
  (0, ai_gets (.int 1) 3),
  (3, ai_ifeq 17 6),
  (6, ai_aload 0 7),
  (7, ai_xgetf (.int 0) 10),
  (10, ai_ifne 17 13),
  (13, ai_const 1 14),
  (14, ai_goto 18),
  (17, ai_const 0 18),
  (18, ai_zret)]
set_option maxRecDepth 100000 in
set_option maxHeartbeats 4000000 in
theorem tb_Str_isL {G : aG} {d : Nat} : am_tab G Y_Str_isL d (c_Str_isL) := by
  intro K p e s m args below meth c C
  exact ⟨as_getsC C (pc := 0) (ix := 38) (tb_of 639 rfl rfl) (by decide +kernel) rfl,
    as_ifeq C (pc := 3) (off := 14) (by decide +kernel) (by decide) rfl,
    as_aload_n C (pc := 6) (q := 0) (by decide +kernel) rfl rfl,
    as_xcoder C (pc := 7) (ix := 15) (tb_of 757 rfl rfl) (by decide +kernel) rfl,
    as_ifne C (pc := 10) (off := 7) (by decide +kernel) (by decide) rfl,
    as_iconst C (pc := 13) (n := 1) (by decide +kernel) (by decide +kernel) rfl,
    as_goto C (pc := 14) (off := 4) (by decide +kernel) (by decide),
    as_iconst C (pc := 17) (n := 0) (by decide +kernel) (by decide +kernel) rfl,
    as_zret C (pc := 18) rfl (by decide +kernel), trivial⟩
abbrev k_Str_isL : List Nat := []
theorem r_Str_isL_0 {J : aJ} {K : aR} {n : Nat} {L : aL} {S : List Value} {M : aM} : am_run (c_Str_isL) k_Str_isL J K (n + 1) 0 L S M = ai_gets (.int 1) 3 (am_run (c_Str_isL) k_Str_isL J K n) K 0 L S M := by rfl
theorem r_Str_isL_3 {J : aJ} {K : aR} {n : Nat} {L : aL} {S : List Value} {M : aM} : am_run (c_Str_isL) k_Str_isL J K (n + 1) 3 L S M = ai_ifeq 17 6 (am_run (c_Str_isL) k_Str_isL J K n) K 3 L S M := by rfl
theorem r_Str_isL_6 {J : aJ} {K : aR} {n : Nat} {L : aL} {S : List Value} {M : aM} : am_run (c_Str_isL) k_Str_isL J K (n + 1) 6 L S M = ai_aload 0 7 (am_run (c_Str_isL) k_Str_isL J K n) K 6 L S M := by rfl
theorem r_Str_isL_7 {J : aJ} {K : aR} {n : Nat} {L : aL} {S : List Value} {M : aM} : am_run (c_Str_isL) k_Str_isL J K (n + 1) 7 L S M = ai_xgetf (.int 0) 10 (am_run (c_Str_isL) k_Str_isL J K n) K 7 L S M := by rfl
theorem r_Str_isL_10 {J : aJ} {K : aR} {n : Nat} {L : aL} {S : List Value} {M : aM} : am_run (c_Str_isL) k_Str_isL J K (n + 1) 10 L S M = ai_ifne 17 13 (am_run (c_Str_isL) k_Str_isL J K n) K 10 L S M := by rfl
theorem r_Str_isL_13 {J : aJ} {K : aR} {n : Nat} {L : aL} {S : List Value} {M : aM} : am_run (c_Str_isL) k_Str_isL J K (n + 1) 13 L S M = ai_const 1 14 (am_run (c_Str_isL) k_Str_isL J K n) K 13 L S M := by rfl
theorem r_Str_isL_14 {J : aJ} {K : aR} {n : Nat} {L : aL} {S : List Value} {M : aM} : am_run (c_Str_isL) k_Str_isL J K (n + 1) 14 L S M = ai_goto 18 (am_run (c_Str_isL) k_Str_isL J K n) K 14 L S M := by rfl
theorem r_Str_isL_17 {J : aJ} {K : aR} {n : Nat} {L : aL} {S : List Value} {M : aM} : am_run (c_Str_isL) k_Str_isL J K (n + 1) 17 L S M = ai_const 0 18 (am_run (c_Str_isL) k_Str_isL J K n) K 17 L S M := by rfl
theorem r_Str_isL_18 {J : aJ} {K : aR} {n : Nat} {L : aL} {S : List Value} {M : aM} : am_run (c_Str_isL) k_Str_isL J K (n + 1) 18 L S M = ai_zret (am_run (c_Str_isL) k_Str_isL J K n) K 18 L S M := by rfl
def c_Str_charAt (s_Str_isL : aS) (s_Lat_charAt : aS) : List (Nat × aI) := [
  (0, ai_aload 0 1),
  (1, ai_callx1 s_Str_isL 4),
  (4, ai_ifeq 16 7),
  (7, ai_aload 0 8),
  (8, ai_xgetf (.ref 1003) 11),
  (11, ai_iload 1 12),
  (12, ai_calls2 s_Lat_charAt 15),
  (15, ai_cret)]
set_option maxRecDepth 100000 in
set_option maxHeartbeats 4000000 in
theorem tb_Str_charAt {G : aG} {d : Nat} {s_Str_isL : aS} {d_Str_isL : Nat} (h_Str_isL : am_Sp G Y_Str_isL d_Str_isL s_Str_isL) (l_Str_isL : d_Str_isL < d) {s_Lat_charAt : aS} {d_Lat_charAt : Nat} (h_Lat_charAt : am_Sp G Y_Lat_charAt d_Lat_charAt s_Lat_charAt) (l_Lat_charAt : d_Lat_charAt < d) : am_tab G Y_Str_charAt d (c_Str_charAt s_Str_isL s_Lat_charAt) := by
  intro K p e s m args below meth c C
  exact ⟨as_aload_n C (pc := 0) (q := 0) (by decide +kernel) rfl rfl,
    as_callx1 C (pc := 1) h_Str_isL (tb_of 638 rfl rfl) (tb_of 79 rfl rfl) (tb_of 636 rfl rfl) (tb_of 637 rfl rfl) (tb_of 635 rfl rfl) hy_Str_isL (am_rm_of l_Str_isL (by decide)) (by decide +kernel) rfl,
    as_ifeq C (pc := 4) (off := 12) (by decide +kernel) (by decide) rfl,
    as_aload_n C (pc := 7) (q := 0) (by decide +kernel) rfl rfl,
    as_xvalue C (pc := 8) (ix := 9) (tb_of 758 rfl rfl) (by decide +kernel) rfl,
    as_iload_n C (pc := 11) (q := 1) (by decide +kernel) rfl rfl,
    as_calls2 C (pc := 12) h_Lat_charAt (tb_of 643 rfl rfl) (tb_of 80 rfl rfl) (tb_of 642 rfl rfl) (tb_of 641 rfl rfl) hy_Lat_charAt (am_rm_of l_Lat_charAt (by decide)) (by decide +kernel) rfl,
    as_cret C (pc := 15) rfl (by decide +kernel), trivial⟩
abbrev k_Str_charAt : List Nat := []
theorem r_Str_charAt_0 {s_Str_isL : aS} {s_Lat_charAt : aS} {J : aJ} {K : aR} {n : Nat} {L : aL} {S : List Value} {M : aM} : am_run (c_Str_charAt s_Str_isL s_Lat_charAt) k_Str_charAt J K (n + 1) 0 L S M = ai_aload 0 1 (am_run (c_Str_charAt s_Str_isL s_Lat_charAt) k_Str_charAt J K n) K 0 L S M := by rfl
theorem r_Str_charAt_1 {s_Str_isL : aS} {s_Lat_charAt : aS} {J : aJ} {K : aR} {n : Nat} {L : aL} {S : List Value} {M : aM} : am_run (c_Str_charAt s_Str_isL s_Lat_charAt) k_Str_charAt J K (n + 1) 1 L S M = ai_callx1 s_Str_isL 4 (am_run (c_Str_charAt s_Str_isL s_Lat_charAt) k_Str_charAt J K n) K 1 L S M := by rfl
theorem r_Str_charAt_4 {s_Str_isL : aS} {s_Lat_charAt : aS} {J : aJ} {K : aR} {n : Nat} {L : aL} {S : List Value} {M : aM} : am_run (c_Str_charAt s_Str_isL s_Lat_charAt) k_Str_charAt J K (n + 1) 4 L S M = ai_ifeq 16 7 (am_run (c_Str_charAt s_Str_isL s_Lat_charAt) k_Str_charAt J K n) K 4 L S M := by rfl
theorem r_Str_charAt_7 {s_Str_isL : aS} {s_Lat_charAt : aS} {J : aJ} {K : aR} {n : Nat} {L : aL} {S : List Value} {M : aM} : am_run (c_Str_charAt s_Str_isL s_Lat_charAt) k_Str_charAt J K (n + 1) 7 L S M = ai_aload 0 8 (am_run (c_Str_charAt s_Str_isL s_Lat_charAt) k_Str_charAt J K n) K 7 L S M := by rfl
theorem r_Str_charAt_8 {s_Str_isL : aS} {s_Lat_charAt : aS} {J : aJ} {K : aR} {n : Nat} {L : aL} {S : List Value} {M : aM} : am_run (c_Str_charAt s_Str_isL s_Lat_charAt) k_Str_charAt J K (n + 1) 8 L S M = ai_xgetf (.ref 1003) 11 (am_run (c_Str_charAt s_Str_isL s_Lat_charAt) k_Str_charAt J K n) K 8 L S M := by rfl
theorem r_Str_charAt_11 {s_Str_isL : aS} {s_Lat_charAt : aS} {J : aJ} {K : aR} {n : Nat} {L : aL} {S : List Value} {M : aM} : am_run (c_Str_charAt s_Str_isL s_Lat_charAt) k_Str_charAt J K (n + 1) 11 L S M = ai_iload 1 12 (am_run (c_Str_charAt s_Str_isL s_Lat_charAt) k_Str_charAt J K n) K 11 L S M := by rfl
theorem r_Str_charAt_12 {s_Str_isL : aS} {s_Lat_charAt : aS} {J : aJ} {K : aR} {n : Nat} {L : aL} {S : List Value} {M : aM} : am_run (c_Str_charAt s_Str_isL s_Lat_charAt) k_Str_charAt J K (n + 1) 12 L S M = ai_calls2 s_Lat_charAt 15 (am_run (c_Str_charAt s_Str_isL s_Lat_charAt) k_Str_charAt J K n) K 12 L S M := by rfl
theorem r_Str_charAt_15 {s_Str_isL : aS} {s_Lat_charAt : aS} {J : aJ} {K : aR} {n : Nat} {L : aL} {S : List Value} {M : aM} : am_run (c_Str_charAt s_Str_isL s_Lat_charAt) k_Str_charAt J K (n + 1) 15 L S M = ai_cret (am_run (c_Str_charAt s_Str_isL s_Lat_charAt) k_Str_charAt J K n) K 15 L S M := by rfl
end
section
/-! "quote".charAt -/
theorem qf_c (k : Nat) : (((QF k &&& 255).toUInt32 % 65536).toInt32) = QF k := by
  unfold QF
  split <;> decide
theorem qf_n (k : Nat) : narrow .char (.int (QF k)) = .int (QF k) := by
  unfold QF
  split <;> rfl
theorem vp_in5 {i : Int32} (h : vp_in i 5) : ¬ i < 0 ∧ i < 5 := by
  have h1 : ¬ i < 0 := fun q => h (Or.inl q)
  refine ⟨h1, ?_⟩
  obtain ⟨j, hj, rfl⟩ := nI_of h1
  have h2 : ¬ 5 ≤ (nI j).toNatClampNeg := fun q => h (Or.inr q)
  rw [nI_clamp hj] at h2
  exact nI_lt (b := 5) (by omega) (by decide)
def sp_Pre_check : aS := fun as M K => match as with
  | [.int i, .int n, v] => am_c1 v = true ∧ ¬ i < 0 ∧ i < n ∧ K (some (.int i)) M
  | _ => False
set_option maxRecDepth 100000 in
set_option maxHeartbeats 4000000 in
theorem ok_Pre_check {G : aG} (hG : am_ok G) : am_Sp G Y_Pre_check 0 sp_Pre_check := by
  intro as M K h
  unfold sp_Pre_check at h
  split at h
  · next i n v =>
    obtain ⟨h0, h1, h2, h⟩ := h
    refine am_entry hG (by decide +kernel) (by cases v <;> first | (cases h0; done) | exact Nat.le_of_ble_eq_true rfl) ?_
    refine am_go (cuts := k_Pre_check) tb_Pre_check 400 _ _ _ _ ?_
    have e : am_l0 Y_Pre_check.2.2.1 [Value.int i, .int n, v] = some (.int i) :: some (.int n) :: am_l0 1 [v] := rfl
    rw [e]
    simp only [r_Pre_check_0, r_Pre_check_1, r_Pre_check_4, r_Pre_check_5, r_Pre_check_6, r_Pre_check_16, r_Pre_check_17, ai_iload, ai_iflt, ai_cmplt, ai_iret, List.getElem?_cons_zero, List.getElem?_cons_succ, List.set_cons_zero, List.set_cons_succ, true_and, and_true, ↓reduceIte, Int32.reduceLT, Int32.reduceLE, li_10, or_true, true_or, h1, h2]
    exact h
  · cases h
def sp_Str_check : aS := fun as M K => match as with
  | [.int i, .int n] => ¬ i < 0 ∧ i < n ∧ K none M
  | _ => False
set_option maxRecDepth 100000 in
set_option maxHeartbeats 4000000 in
theorem ok_Str_check {G : aG} (hG : am_ok G) : am_Sp G Y_Str_check 1 sp_Str_check := by
  intro as M K h
  unfold sp_Str_check at h
  split at h
  · next i n =>
    obtain ⟨h1, h2, h⟩ := h
    refine am_entry hG (by decide +kernel) (Nat.le_of_ble_eq_true rfl) ?_
    refine am_go (cuts := k_Str_check) (tb_Str_check (ok_Pre_check hG) (by decide)) 400 _ _ _ _ ?_
    change am_run _ _ _ _ _ _ [some (.int i), some (.int n)] [] _
    simp only [r_Str_check_0, r_Str_check_1, r_Str_check_2, r_Str_check_5, r_Str_check_8, r_Str_check_9, ai_iload, ai_getq, ai_calls3, am_push, am_few, ai_pop, am_c1, ai_vret, kd_0, fd_0_0, fd_0_1, fd_0_2, fd_0_3, fd_0_4, kd_1, fd_1_0, fd_1_1, ln_2, kd_3, fd_3_0, fd_3_1, fd_3_2, fd_3_3, fd_3_4, fd_3_5, fd_3_6, fd_3_7, fd_3_8, fd_3_9, ln_4, ln_5, ln_6, ln_7, ln_8, ln_9, ln_10, kd_11, fd_11_0, fd_11_1, fd_11_2, fd_11_3, fd_11_4, kd_12, fd_12_0, fd_12_1, fd_12_2, fd_12_3, ln_13, ln_14, ln_15, kd_16, fd_16_0, fd_16_1, fd_16_2, ln_17, kd_18, fd_18_0, fd_18_1, kd_19, fd_19_0, fd_19_1, fd_19_2, fd_19_3, fd_19_4, fd_19_5, fd_19_6, fd_19_7, fd_19_8, fd_19_9, fd_19_10, fd_19_11, fd_19_12, fd_19_13, fd_19_14, fd_19_15, fd_19_16, fd_19_17, fd_19_18, fd_19_19, fd_19_20, ln_20, ln_21, ln_22, ln_23, ln_24, ln_25, ln_26, ln_27, ln_28, ln_29, ln_30, ln_31, ln_32, List.getElem?_cons_zero, List.getElem?_cons_succ, List.set_cons_zero, List.set_cons_succ, true_and, and_true, ↓reduceIte, Int32.reduceLT, Int32.reduceLE, li_10, or_true, true_or, ↓sp_Pre_check, h1, h2, not_false_eq_true, am_c1]
    exact ⟨h, h⟩
  · cases h
def sp_Lat_charAt : aS := fun as M K => match as with
  | [.ref b, .int i] => b = 1003 ∧ vp_in i 5 ∧ K (some (.int (QF i.toNatClampNeg))) M
  | _ => False
set_option maxRecDepth 100000 in
set_option maxHeartbeats 4000000 in
theorem ok_Lat_charAt {G : aG} (hG : am_ok G) : am_Sp G Y_Lat_charAt 2 sp_Lat_charAt := by
  intro as M K h
  unfold sp_Lat_charAt at h
  split at h
  · next b i =>
    obtain ⟨rfl, h1, h⟩ := h
    have h2 := (vp_in5 h1).1
    have h3 := (vp_in5 h1).2
    refine am_entry hG (by decide +kernel) (Nat.le_of_ble_eq_true rfl) ?_
    refine am_go (cuts := k_Lat_charAt) (tb_Lat_charAt (ok_Str_check hG) (by decide)) 400 _ _ _ _ ?_
    change am_run _ _ _ _ _ _ [some (.ref 1003), some (.int i)] [] _
    simp only [r_Lat_charAt_0, r_Lat_charAt_1, r_Lat_charAt_2, r_Lat_charAt_3, r_Lat_charAt_6, r_Lat_charAt_7, r_Lat_charAt_8, r_Lat_charAt_9, r_Lat_charAt_12, r_Lat_charAt_13, r_Lat_charAt_14, ai_iload, ai_aload, ai_xblen, ai_calls2, am_push, am_few, ai_xbald, ai_const, ai_iand, ai_bin, ai_i2c, ai_cret, kd_0, fd_0_0, fd_0_1, fd_0_2, fd_0_3, fd_0_4, kd_1, fd_1_0, fd_1_1, ln_2, kd_3, fd_3_0, fd_3_1, fd_3_2, fd_3_3, fd_3_4, fd_3_5, fd_3_6, fd_3_7, fd_3_8, fd_3_9, ln_4, ln_5, ln_6, ln_7, ln_8, ln_9, ln_10, kd_11, fd_11_0, fd_11_1, fd_11_2, fd_11_3, fd_11_4, kd_12, fd_12_0, fd_12_1, fd_12_2, fd_12_3, ln_13, ln_14, ln_15, kd_16, fd_16_0, fd_16_1, fd_16_2, ln_17, kd_18, fd_18_0, fd_18_1, kd_19, fd_19_0, fd_19_1, fd_19_2, fd_19_3, fd_19_4, fd_19_5, fd_19_6, fd_19_7, fd_19_8, fd_19_9, fd_19_10, fd_19_11, fd_19_12, fd_19_13, fd_19_14, fd_19_15, fd_19_16, fd_19_17, fd_19_18, fd_19_19, fd_19_20, ln_20, ln_21, ln_22, ln_23, ln_24, ln_25, ln_26, ln_27, ln_28, ln_29, ln_30, ln_31, ln_32, List.getElem?_cons_zero, List.getElem?_cons_succ, List.set_cons_zero, List.set_cons_succ, true_and, and_true, ↓reduceIte, Int32.reduceLT, Int32.reduceLE, li_10, or_true, true_or, ↓sp_Str_check, h1, h2, h3, not_false_eq_true, qf_c, qf_n]
    exact h
  · cases h
def sp_Str_isL : aS := fun as M K => match as with
  | [.ref b] => b = 1002 ∧ K (some (.int 1)) M
  | _ => False
set_option maxRecDepth 100000 in
set_option maxHeartbeats 4000000 in
theorem ok_Str_isL {G : aG} (hG : am_ok G) : am_Sp G Y_Str_isL 0 sp_Str_isL := by
  intro as M K h
  unfold sp_Str_isL at h
  split at h
  · next b =>
    obtain ⟨rfl, h⟩ := h
    refine am_entry hG (by decide +kernel) (Nat.le_of_ble_eq_true rfl) ?_
    refine am_go (cuts := k_Str_isL) tb_Str_isL 400 _ _ _ _ ?_
    change am_run _ _ _ _ _ _ [some (.ref 1002)] [] _
    simp only [r_Str_isL_0, r_Str_isL_3, r_Str_isL_6, r_Str_isL_7, r_Str_isL_10, r_Str_isL_13, r_Str_isL_14, r_Str_isL_17, r_Str_isL_18, ai_gets, ai_ifeq, ai_aload, ai_xgetf, ai_ifne, ai_const, ai_goto, ai_zret, List.getElem?_cons_zero, List.getElem?_cons_succ, List.set_cons_zero, List.set_cons_succ, true_and, and_true, ↓reduceIte, Int32.reduceLT, Int32.reduceLE, li_10, or_true, true_or]
    exact h
  · cases h
def sp_Str_charAt : aS := fun as M K => match as with
  | [.ref b, .int i] => b = 1002 ∧ vp_in i 5 ∧ K (some (.int (QF i.toNatClampNeg))) M
  | _ => False
set_option maxRecDepth 100000 in
set_option maxHeartbeats 4000000 in
theorem ok_Str_charAt {G : aG} (hG : am_ok G) : am_Sp G Y_Str_charAt 3 sp_Str_charAt := by
  intro as M K h
  unfold sp_Str_charAt at h
  split at h
  · next b i =>
    obtain ⟨rfl, h1, h⟩ := h
    refine am_entry hG (by decide +kernel) (Nat.le_of_ble_eq_true rfl) ?_
    refine am_go (cuts := k_Str_charAt) (tb_Str_charAt (ok_Str_isL hG) (by decide) (ok_Lat_charAt hG) (by decide)) 400 _ _ _ _ ?_
    change am_run _ _ _ _ _ _ [some (.ref 1002), some (.int i)] [] _
    simp only [r_Str_charAt_0, r_Str_charAt_1, r_Str_charAt_4, r_Str_charAt_7, r_Str_charAt_8, r_Str_charAt_11, r_Str_charAt_12, r_Str_charAt_15, ai_aload, ai_callx1, am_push, am_few, ai_ifeq, ai_xgetf, ai_iload, ai_calls2, ai_cret, kd_0, fd_0_0, fd_0_1, fd_0_2, fd_0_3, fd_0_4, kd_1, fd_1_0, fd_1_1, ln_2, kd_3, fd_3_0, fd_3_1, fd_3_2, fd_3_3, fd_3_4, fd_3_5, fd_3_6, fd_3_7, fd_3_8, fd_3_9, ln_4, ln_5, ln_6, ln_7, ln_8, ln_9, ln_10, kd_11, fd_11_0, fd_11_1, fd_11_2, fd_11_3, fd_11_4, kd_12, fd_12_0, fd_12_1, fd_12_2, fd_12_3, ln_13, ln_14, ln_15, kd_16, fd_16_0, fd_16_1, fd_16_2, ln_17, kd_18, fd_18_0, fd_18_1, kd_19, fd_19_0, fd_19_1, fd_19_2, fd_19_3, fd_19_4, fd_19_5, fd_19_6, fd_19_7, fd_19_8, fd_19_9, fd_19_10, fd_19_11, fd_19_12, fd_19_13, fd_19_14, fd_19_15, fd_19_16, fd_19_17, fd_19_18, fd_19_19, fd_19_20, ln_20, ln_21, ln_22, ln_23, ln_24, ln_25, ln_26, ln_27, ln_28, ln_29, ln_30, ln_31, ln_32, List.getElem?_cons_zero, List.getElem?_cons_succ, List.set_cons_zero, List.set_cons_succ, true_and, and_true, ↓reduceIte, Int32.reduceLT, Int32.reduceLE, li_10, or_true, true_or, ↓sp_Str_isL, ↓sp_Lat_charAt, h1, qf_n]
    exact h
  · cases h
end
