section
-- ===== PART A: goes FIRST, ahead of the names: the tables' words, and 'selects' of the private methods out of them =====
/-- a private method of a class that the tables say can be made, by its rows of tables_1 -/
def lw_okq (q : MethodName × Nat) : Prop := (q.1.cls ≠ "java/lang/invoke/MethodHandle" ∧ q.1.cls ≠ "java/lang/invoke/VarHandle") ∧ Cond.instantiable q.1.cls q.2 ∈ tables_1 ∧ Cond.privateMethod q.1 ∈ tables_1 ∧ Cond.instanceMethod q.1 ∈ tables_1
theorem lw_p0 : lw_okq (⟨"DatumDesk$Text", "append", "(I)V"⟩, 2) := ⟨⟨by decide +kernel, by decide +kernel⟩, List.mem_of_getElem? (i := 24) (by decide +kernel), List.mem_of_getElem? (i := 175) (by decide +kernel), List.mem_of_getElem? (i := 176) (by decide +kernel)⟩
theorem lw_p1 : lw_okq (⟨"DatumDesk$Reader", "readText", "()V"⟩, 5) := ⟨⟨by decide +kernel, by decide +kernel⟩, List.mem_of_getElem? (i := 83) (by decide +kernel), List.mem_of_getElem? (i := 183) (by decide +kernel), List.mem_of_getElem? (i := 184) (by decide +kernel)⟩
theorem lw_p2 : lw_okq (⟨"DatumDesk$Nodes", "clear", "()V"⟩, 10) := ⟨⟨by decide +kernel, by decide +kernel⟩, List.mem_of_getElem? (i := 39) (by decide +kernel), List.mem_of_getElem? (i := 187) (by decide +kernel), List.mem_of_getElem? (i := 188) (by decide +kernel)⟩
theorem lw_p3 : lw_okq (⟨"DatumDesk$Tokens", "scan", "(LDatumDesk$Text;)V"⟩, 4) := ⟨⟨by decide +kernel, by decide +kernel⟩, List.mem_of_getElem? (i := 89) (by decide +kernel), List.mem_of_getElem? (i := 191) (by decide +kernel), List.mem_of_getElem? (i := 192) (by decide +kernel)⟩
theorem lw_p4 : lw_okq (⟨"DatumDesk$Text", "skipBlanks", "(I)I"⟩, 2) := ⟨⟨by decide +kernel, by decide +kernel⟩, List.mem_of_getElem? (i := 24) (by decide +kernel), List.mem_of_getElem? (i := 195) (by decide +kernel), List.mem_of_getElem? (i := 196) (by decide +kernel)⟩
theorem lw_p5 : lw_okq (⟨"DatumDesk$Text", "at", "(I)I"⟩, 2) := ⟨⟨by decide +kernel, by decide +kernel⟩, List.mem_of_getElem? (i := 24) (by decide +kernel), List.mem_of_getElem? (i := 199) (by decide +kernel), List.mem_of_getElem? (i := 200) (by decide +kernel)⟩
theorem lw_p6 : lw_okq (⟨"DatumDesk$Text", "sortAt", "(I)I"⟩, 2) := ⟨⟨by decide +kernel, by decide +kernel⟩, List.mem_of_getElem? (i := 24) (by decide +kernel), List.mem_of_getElem? (i := 203) (by decide +kernel), List.mem_of_getElem? (i := 204) (by decide +kernel)⟩
theorem lw_p7 : lw_okq (⟨"DatumDesk$Text", "tokenEnd", "(II)I"⟩, 2) := ⟨⟨by decide +kernel, by decide +kernel⟩, List.mem_of_getElem? (i := 24) (by decide +kernel), List.mem_of_getElem? (i := 213) (by decide +kernel), List.mem_of_getElem? (i := 214) (by decide +kernel)⟩
theorem lw_p8 : lw_okq (⟨"DatumDesk$Text", "numberEnd", "(I)I"⟩, 2) := ⟨⟨by decide +kernel, by decide +kernel⟩, List.mem_of_getElem? (i := 24) (by decide +kernel), List.mem_of_getElem? (i := 217) (by decide +kernel), List.mem_of_getElem? (i := 218) (by decide +kernel)⟩
theorem lw_p9 : lw_okq (⟨"DatumDesk$Text", "wordEnd", "(I)I"⟩, 2) := ⟨⟨by decide +kernel, by decide +kernel⟩, List.mem_of_getElem? (i := 24) (by decide +kernel), List.mem_of_getElem? (i := 221) (by decide +kernel), List.mem_of_getElem? (i := 222) (by decide +kernel)⟩
theorem lw_p10 : lw_okq (⟨"DatumDesk$Text", "nameEnd", "(I)I"⟩, 2) := ⟨⟨by decide +kernel, by decide +kernel⟩, List.mem_of_getElem? (i := 24) (by decide +kernel), List.mem_of_getElem? (i := 225) (by decide +kernel), List.mem_of_getElem? (i := 226) (by decide +kernel)⟩
theorem lw_p11 : lw_okq (⟨"DatumDesk$Text", "stringEnd", "(I)I"⟩, 2) := ⟨⟨by decide +kernel, by decide +kernel⟩, List.mem_of_getElem? (i := 24) (by decide +kernel), List.mem_of_getElem? (i := 229) (by decide +kernel), List.mem_of_getElem? (i := 230) (by decide +kernel)⟩
theorem lw_p12 : lw_okq (⟨"DatumDesk$Tokens", "sortOf", "(I)I"⟩, 4) := ⟨⟨by decide +kernel, by decide +kernel⟩, List.mem_of_getElem? (i := 89) (by decide +kernel), List.mem_of_getElem? (i := 233) (by decide +kernel), List.mem_of_getElem? (i := 234) (by decide +kernel)⟩
theorem lw_p13 : lw_okq (⟨"DatumDesk$Reader", "readDatum", "(I)I"⟩, 5) := ⟨⟨by decide +kernel, by decide +kernel⟩, List.mem_of_getElem? (i := 83) (by decide +kernel), List.mem_of_getElem? (i := 237) (by decide +kernel), List.mem_of_getElem? (i := 238) (by decide +kernel)⟩
theorem lw_p14 : lw_okq (⟨"DatumDesk$Reader", "readNumber", "()I"⟩, 5) := ⟨⟨by decide +kernel, by decide +kernel⟩, List.mem_of_getElem? (i := 83) (by decide +kernel), List.mem_of_getElem? (i := 241) (by decide +kernel), List.mem_of_getElem? (i := 242) (by decide +kernel)⟩
theorem lw_p15 : lw_okq (⟨"DatumDesk$Tokens", "endOf", "(I)I"⟩, 4) := ⟨⟨by decide +kernel, by decide +kernel⟩, List.mem_of_getElem? (i := 89) (by decide +kernel), List.mem_of_getElem? (i := 245) (by decide +kernel), List.mem_of_getElem? (i := 246) (by decide +kernel)⟩
def lw_privs_1 : List (MethodName × Nat) := [(⟨"DatumDesk$Text", "append", "(I)V"⟩, 2), (⟨"DatumDesk$Reader", "readText", "()V"⟩, 5), (⟨"DatumDesk$Nodes", "clear", "()V"⟩, 10), (⟨"DatumDesk$Tokens", "scan", "(LDatumDesk$Text;)V"⟩, 4), (⟨"DatumDesk$Text", "skipBlanks", "(I)I"⟩, 2), (⟨"DatumDesk$Text", "at", "(I)I"⟩, 2), (⟨"DatumDesk$Text", "sortAt", "(I)I"⟩, 2), (⟨"DatumDesk$Text", "tokenEnd", "(II)I"⟩, 2), (⟨"DatumDesk$Text", "numberEnd", "(I)I"⟩, 2), (⟨"DatumDesk$Text", "wordEnd", "(I)I"⟩, 2), (⟨"DatumDesk$Text", "nameEnd", "(I)I"⟩, 2), (⟨"DatumDesk$Text", "stringEnd", "(I)I"⟩, 2), (⟨"DatumDesk$Tokens", "sortOf", "(I)I"⟩, 4), (⟨"DatumDesk$Reader", "readDatum", "(I)I"⟩, 5), (⟨"DatumDesk$Reader", "readNumber", "()I"⟩, 5), (⟨"DatumDesk$Tokens", "endOf", "(I)I"⟩, 4)]
theorem lw_r1 : ∀ q ∈ lw_privs_1, lw_okq q := List.forall_mem_cons.mpr ⟨lw_p0, List.forall_mem_cons.mpr ⟨lw_p1, List.forall_mem_cons.mpr ⟨lw_p2, List.forall_mem_cons.mpr ⟨lw_p3, List.forall_mem_cons.mpr ⟨lw_p4, List.forall_mem_cons.mpr ⟨lw_p5, List.forall_mem_cons.mpr ⟨lw_p6, List.forall_mem_cons.mpr ⟨lw_p7, List.forall_mem_cons.mpr ⟨lw_p8, List.forall_mem_cons.mpr ⟨lw_p9, List.forall_mem_cons.mpr ⟨lw_p10, List.forall_mem_cons.mpr ⟨lw_p11, List.forall_mem_cons.mpr ⟨lw_p12, List.forall_mem_cons.mpr ⟨lw_p13, List.forall_mem_cons.mpr ⟨lw_p14, List.forall_mem_cons.mpr ⟨lw_p15, fun _ h => absurd h List.not_mem_nil⟩⟩⟩⟩⟩⟩⟩⟩⟩⟩⟩⟩⟩⟩⟩⟩
theorem lw_p16 : lw_okq (⟨"DatumDesk$Tokens", "startOf", "(I)I"⟩, 4) := ⟨⟨by decide +kernel, by decide +kernel⟩, List.mem_of_getElem? (i := 89) (by decide +kernel), List.mem_of_getElem? (i := 249) (by decide +kernel), List.mem_of_getElem? (i := 250) (by decide +kernel)⟩
theorem lw_p17 : lw_okq (⟨"DatumDesk$Reader", "add", "(I)I"⟩, 5) := ⟨⟨by decide +kernel, by decide +kernel⟩, List.mem_of_getElem? (i := 83) (by decide +kernel), List.mem_of_getElem? (i := 254) (by decide +kernel), List.mem_of_getElem? (i := 255) (by decide +kernel)⟩
theorem lw_p18 : lw_okq (⟨"DatumDesk$Nodes", "add", "(I)I"⟩, 10) := ⟨⟨by decide +kernel, by decide +kernel⟩, List.mem_of_getElem? (i := 39) (by decide +kernel), List.mem_of_getElem? (i := 258) (by decide +kernel), List.mem_of_getElem? (i := 259) (by decide +kernel)⟩
theorem lw_p19 : lw_okq (⟨"DatumDesk$Reader", "fault", "()I"⟩, 5) := ⟨⟨by decide +kernel, by decide +kernel⟩, List.mem_of_getElem? (i := 83) (by decide +kernel), List.mem_of_getElem? (i := 262) (by decide +kernel), List.mem_of_getElem? (i := 263) (by decide +kernel)⟩
theorem lw_p20 : lw_okq (⟨"DatumDesk$Nodes", "setAmount", "(II)V"⟩, 10) := ⟨⟨by decide +kernel, by decide +kernel⟩, List.mem_of_getElem? (i := 39) (by decide +kernel), List.mem_of_getElem? (i := 266) (by decide +kernel), List.mem_of_getElem? (i := 267) (by decide +kernel)⟩
theorem lw_p21 : lw_okq (⟨"DatumDesk$Nodes", "has", "(I)Z"⟩, 10) := ⟨⟨by decide +kernel, by decide +kernel⟩, List.mem_of_getElem? (i := 39) (by decide +kernel), List.mem_of_getElem? (i := 270) (by decide +kernel), List.mem_of_getElem? (i := 271) (by decide +kernel)⟩
theorem lw_p22 : lw_okq (⟨"DatumDesk$Reader", "readName", "()I"⟩, 5) := ⟨⟨by decide +kernel, by decide +kernel⟩, List.mem_of_getElem? (i := 83) (by decide +kernel), List.mem_of_getElem? (i := 274) (by decide +kernel), List.mem_of_getElem? (i := 275) (by decide +kernel)⟩
theorem lw_p23 : lw_okq (⟨"DatumDesk$Nodes", "addLetter", "(II)V"⟩, 10) := ⟨⟨by decide +kernel, by decide +kernel⟩, List.mem_of_getElem? (i := 39) (by decide +kernel), List.mem_of_getElem? (i := 278) (by decide +kernel), List.mem_of_getElem? (i := 279) (by decide +kernel)⟩
theorem lw_p24 : lw_okq (⟨"DatumDesk$Reader", "readString", "()I"⟩, 5) := ⟨⟨by decide +kernel, by decide +kernel⟩, List.mem_of_getElem? (i := 83) (by decide +kernel), List.mem_of_getElem? (i := 282) (by decide +kernel), List.mem_of_getElem? (i := 283) (by decide +kernel)⟩
theorem lw_p25 : lw_okq (⟨"DatumDesk$Reader", "readQuoted", "(I)I"⟩, 5) := ⟨⟨by decide +kernel, by decide +kernel⟩, List.mem_of_getElem? (i := 83) (by decide +kernel), List.mem_of_getElem? (i := 286) (by decide +kernel), List.mem_of_getElem? (i := 287) (by decide +kernel)⟩
theorem lw_p26 : lw_okq (⟨"DatumDesk$Nodes", "nameQuote", "(I)V"⟩, 10) := ⟨⟨by decide +kernel, by decide +kernel⟩, List.mem_of_getElem? (i := 39) (by decide +kernel), List.mem_of_getElem? (i := 290) (by decide +kernel), List.mem_of_getElem? (i := 291) (by decide +kernel)⟩
theorem lw_p27 : lw_okq (⟨"DatumDesk$Nodes", "setHead", "(II)V"⟩, 10) := ⟨⟨by decide +kernel, by decide +kernel⟩, List.mem_of_getElem? (i := 39) (by decide +kernel), List.mem_of_getElem? (i := 294) (by decide +kernel), List.mem_of_getElem? (i := 295) (by decide +kernel)⟩
theorem lw_p28 : lw_okq (⟨"DatumDesk$Nodes", "setTail", "(II)V"⟩, 10) := ⟨⟨by decide +kernel, by decide +kernel⟩, List.mem_of_getElem? (i := 39) (by decide +kernel), List.mem_of_getElem? (i := 298) (by decide +kernel), List.mem_of_getElem? (i := 299) (by decide +kernel)⟩
theorem lw_p29 : lw_okq (⟨"DatumDesk$Reader", "readList", "(I)I"⟩, 5) := ⟨⟨by decide +kernel, by decide +kernel⟩, List.mem_of_getElem? (i := 83) (by decide +kernel), List.mem_of_getElem? (i := 302) (by decide +kernel), List.mem_of_getElem? (i := 303) (by decide +kernel)⟩
theorem lw_p30 : lw_okq (⟨"DatumDesk$Reader", "readDotted", "(I)I"⟩, 5) := ⟨⟨by decide +kernel, by decide +kernel⟩, List.mem_of_getElem? (i := 83) (by decide +kernel), List.mem_of_getElem? (i := 306) (by decide +kernel), List.mem_of_getElem? (i := 307) (by decide +kernel)⟩
theorem lw_p31 : lw_okq (⟨"DatumDesk$Nodes", "addDatum", "(I)V"⟩, 10) := ⟨⟨by decide +kernel, by decide +kernel⟩, List.mem_of_getElem? (i := 39) (by decide +kernel), List.mem_of_getElem? (i := 310) (by decide +kernel), List.mem_of_getElem? (i := 311) (by decide +kernel)⟩
def lw_privs_2 : List (MethodName × Nat) := [(⟨"DatumDesk$Tokens", "startOf", "(I)I"⟩, 4), (⟨"DatumDesk$Reader", "add", "(I)I"⟩, 5), (⟨"DatumDesk$Nodes", "add", "(I)I"⟩, 10), (⟨"DatumDesk$Reader", "fault", "()I"⟩, 5), (⟨"DatumDesk$Nodes", "setAmount", "(II)V"⟩, 10), (⟨"DatumDesk$Nodes", "has", "(I)Z"⟩, 10), (⟨"DatumDesk$Reader", "readName", "()I"⟩, 5), (⟨"DatumDesk$Nodes", "addLetter", "(II)V"⟩, 10), (⟨"DatumDesk$Reader", "readString", "()I"⟩, 5), (⟨"DatumDesk$Reader", "readQuoted", "(I)I"⟩, 5), (⟨"DatumDesk$Nodes", "nameQuote", "(I)V"⟩, 10), (⟨"DatumDesk$Nodes", "setHead", "(II)V"⟩, 10), (⟨"DatumDesk$Nodes", "setTail", "(II)V"⟩, 10), (⟨"DatumDesk$Reader", "readList", "(I)I"⟩, 5), (⟨"DatumDesk$Reader", "readDotted", "(I)I"⟩, 5), (⟨"DatumDesk$Nodes", "addDatum", "(I)V"⟩, 10)]
theorem lw_r2 : ∀ q ∈ lw_privs_2, lw_okq q := List.forall_mem_cons.mpr ⟨lw_p16, List.forall_mem_cons.mpr ⟨lw_p17, List.forall_mem_cons.mpr ⟨lw_p18, List.forall_mem_cons.mpr ⟨lw_p19, List.forall_mem_cons.mpr ⟨lw_p20, List.forall_mem_cons.mpr ⟨lw_p21, List.forall_mem_cons.mpr ⟨lw_p22, List.forall_mem_cons.mpr ⟨lw_p23, List.forall_mem_cons.mpr ⟨lw_p24, List.forall_mem_cons.mpr ⟨lw_p25, List.forall_mem_cons.mpr ⟨lw_p26, List.forall_mem_cons.mpr ⟨lw_p27, List.forall_mem_cons.mpr ⟨lw_p28, List.forall_mem_cons.mpr ⟨lw_p29, List.forall_mem_cons.mpr ⟨lw_p30, List.forall_mem_cons.mpr ⟨lw_p31, fun _ h => absurd h List.not_mem_nil⟩⟩⟩⟩⟩⟩⟩⟩⟩⟩⟩⟩⟩⟩⟩⟩
theorem lw_p32 : lw_okq (⟨"DatumDesk$Nodes", "datumNode", "(I)I"⟩, 10) := ⟨⟨by decide +kernel, by decide +kernel⟩, List.mem_of_getElem? (i := 39) (by decide +kernel), List.mem_of_getElem? (i := 322) (by decide +kernel), List.mem_of_getElem? (i := 323) (by decide +kernel)⟩
theorem lw_p33 : lw_okq (⟨"DatumDesk$Nodes", "kindOf", "(I)I"⟩, 10) := ⟨⟨by decide +kernel, by decide +kernel⟩, List.mem_of_getElem? (i := 39) (by decide +kernel), List.mem_of_getElem? (i := 330) (by decide +kernel), List.mem_of_getElem? (i := 331) (by decide +kernel)⟩
theorem lw_p34 : lw_okq (⟨"DatumDesk$Nodes", "amountOf", "(I)I"⟩, 10) := ⟨⟨by decide +kernel, by decide +kernel⟩, List.mem_of_getElem? (i := 39) (by decide +kernel), List.mem_of_getElem? (i := 338) (by decide +kernel), List.mem_of_getElem? (i := 339) (by decide +kernel)⟩
theorem lw_p35 : lw_okq (⟨"DatumDesk$Nodes", "byteOf", "(II)I"⟩, 10) := ⟨⟨by decide +kernel, by decide +kernel⟩, List.mem_of_getElem? (i := 39) (by decide +kernel), List.mem_of_getElem? (i := 346) (by decide +kernel), List.mem_of_getElem? (i := 347) (by decide +kernel)⟩
theorem lw_p36 : lw_okq (⟨"DatumDesk$Nodes", "isOf", "(II)Z"⟩, 10) := ⟨⟨by decide +kernel, by decide +kernel⟩, List.mem_of_getElem? (i := 39) (by decide +kernel), List.mem_of_getElem? (i := 350) (by decide +kernel), List.mem_of_getElem? (i := 351) (by decide +kernel)⟩
theorem lw_p37 : lw_okq (⟨"DatumDesk$Nodes", "headOf", "(I)I"⟩, 10) := ⟨⟨by decide +kernel, by decide +kernel⟩, List.mem_of_getElem? (i := 39) (by decide +kernel), List.mem_of_getElem? (i := 358) (by decide +kernel), List.mem_of_getElem? (i := 359) (by decide +kernel)⟩
theorem lw_p38 : lw_okq (⟨"DatumDesk$Nodes", "tailOf", "(I)I"⟩, 10) := ⟨⟨by decide +kernel, by decide +kernel⟩, List.mem_of_getElem? (i := 39) (by decide +kernel), List.mem_of_getElem? (i := 362) (by decide +kernel), List.mem_of_getElem? (i := 363) (by decide +kernel)⟩
theorem lw_p39 : lw_okq (⟨"DatumDesk$Nodes", "alike", "(III)Z"⟩, 10) := ⟨⟨by decide +kernel, by decide +kernel⟩, List.mem_of_getElem? (i := 39) (by decide +kernel), List.mem_of_getElem? (i := 371) (by decide +kernel), List.mem_of_getElem? (i := 372) (by decide +kernel)⟩
theorem lw_p40 : lw_okq (⟨"DatumDesk$Nodes", "sameContent", "(II)Z"⟩, 10) := ⟨⟨by decide +kernel, by decide +kernel⟩, List.mem_of_getElem? (i := 39) (by decide +kernel), List.mem_of_getElem? (i := 376) (by decide +kernel), List.mem_of_getElem? (i := 377) (by decide +kernel)⟩
theorem lw_p41 : lw_okq (⟨"DatumDesk$Writer", "writeNode", "(II)V"⟩, 2) := ⟨⟨by decide +kernel, by decide +kernel⟩, List.mem_of_getElem? (i := 142) (by decide +kernel), List.mem_of_getElem? (i := 387) (by decide +kernel), List.mem_of_getElem? (i := 388) (by decide +kernel)⟩
theorem lw_p42 : lw_okq (⟨"DatumDesk$Writer", "writeNumber", "(I)V"⟩, 2) := ⟨⟨by decide +kernel, by decide +kernel⟩, List.mem_of_getElem? (i := 142) (by decide +kernel), List.mem_of_getElem? (i := 393) (by decide +kernel), List.mem_of_getElem? (i := 394) (by decide +kernel)⟩
theorem lw_p43 : lw_okq (⟨"DatumDesk$Waiting", "append", "(I)V"⟩, 3) := ⟨⟨by decide +kernel, by decide +kernel⟩, List.mem_of_getElem? (i := 125) (by decide +kernel), List.mem_of_getElem? (i := 397) (by decide +kernel), List.mem_of_getElem? (i := 398) (by decide +kernel)⟩
theorem lw_p44 : lw_okq (⟨"DatumDesk$Writer", "writeName", "(I)V"⟩, 2) := ⟨⟨by decide +kernel, by decide +kernel⟩, List.mem_of_getElem? (i := 142) (by decide +kernel), List.mem_of_getElem? (i := 402) (by decide +kernel), List.mem_of_getElem? (i := 403) (by decide +kernel)⟩
theorem lw_p45 : lw_okq (⟨"DatumDesk$Writer", "writeString", "(I)V"⟩, 2) := ⟨⟨by decide +kernel, by decide +kernel⟩, List.mem_of_getElem? (i := 142) (by decide +kernel), List.mem_of_getElem? (i := 407) (by decide +kernel), List.mem_of_getElem? (i := 408) (by decide +kernel)⟩
theorem lw_p46 : lw_okq (⟨"DatumDesk$Writer", "writePair", "(II)V"⟩, 2) := ⟨⟨by decide +kernel, by decide +kernel⟩, List.mem_of_getElem? (i := 142) (by decide +kernel), List.mem_of_getElem? (i := 411) (by decide +kernel), List.mem_of_getElem? (i := 412) (by decide +kernel)⟩
theorem lw_p47 : lw_okq (⟨"DatumDesk$Nodes", "quotedIn", "(I)I"⟩, 10) := ⟨⟨by decide +kernel, by decide +kernel⟩, List.mem_of_getElem? (i := 39) (by decide +kernel), List.mem_of_getElem? (i := 415) (by decide +kernel), List.mem_of_getElem? (i := 416) (by decide +kernel)⟩
def lw_privs_3 : List (MethodName × Nat) := [(⟨"DatumDesk$Nodes", "datumNode", "(I)I"⟩, 10), (⟨"DatumDesk$Nodes", "kindOf", "(I)I"⟩, 10), (⟨"DatumDesk$Nodes", "amountOf", "(I)I"⟩, 10), (⟨"DatumDesk$Nodes", "byteOf", "(II)I"⟩, 10), (⟨"DatumDesk$Nodes", "isOf", "(II)Z"⟩, 10), (⟨"DatumDesk$Nodes", "headOf", "(I)I"⟩, 10), (⟨"DatumDesk$Nodes", "tailOf", "(I)I"⟩, 10), (⟨"DatumDesk$Nodes", "alike", "(III)Z"⟩, 10), (⟨"DatumDesk$Nodes", "sameContent", "(II)Z"⟩, 10), (⟨"DatumDesk$Writer", "writeNode", "(II)V"⟩, 2), (⟨"DatumDesk$Writer", "writeNumber", "(I)V"⟩, 2), (⟨"DatumDesk$Waiting", "append", "(I)V"⟩, 3), (⟨"DatumDesk$Writer", "writeName", "(I)V"⟩, 2), (⟨"DatumDesk$Writer", "writeString", "(I)V"⟩, 2), (⟨"DatumDesk$Writer", "writePair", "(II)V"⟩, 2), (⟨"DatumDesk$Nodes", "quotedIn", "(I)I"⟩, 10)]
theorem lw_r3 : ∀ q ∈ lw_privs_3, lw_okq q := List.forall_mem_cons.mpr ⟨lw_p32, List.forall_mem_cons.mpr ⟨lw_p33, List.forall_mem_cons.mpr ⟨lw_p34, List.forall_mem_cons.mpr ⟨lw_p35, List.forall_mem_cons.mpr ⟨lw_p36, List.forall_mem_cons.mpr ⟨lw_p37, List.forall_mem_cons.mpr ⟨lw_p38, List.forall_mem_cons.mpr ⟨lw_p39, List.forall_mem_cons.mpr ⟨lw_p40, List.forall_mem_cons.mpr ⟨lw_p41, List.forall_mem_cons.mpr ⟨lw_p42, List.forall_mem_cons.mpr ⟨lw_p43, List.forall_mem_cons.mpr ⟨lw_p44, List.forall_mem_cons.mpr ⟨lw_p45, List.forall_mem_cons.mpr ⟨lw_p46, List.forall_mem_cons.mpr ⟨lw_p47, fun _ h => absurd h List.not_mem_nil⟩⟩⟩⟩⟩⟩⟩⟩⟩⟩⟩⟩⟩⟩⟩⟩
theorem lw_p48 : lw_okq (⟨"DatumDesk$Nodes", "isQuoteName", "(I)Z"⟩, 10) := ⟨⟨by decide +kernel, by decide +kernel⟩, List.mem_of_getElem? (i := 39) (by decide +kernel), List.mem_of_getElem? (i := 421) (by decide +kernel), List.mem_of_getElem? (i := 422) (by decide +kernel)⟩
theorem lw_p49 : lw_okq (⟨"DatumDesk$Waiting", "take", "()I"⟩, 3) := ⟨⟨by decide +kernel, by decide +kernel⟩, List.mem_of_getElem? (i := 125) (by decide +kernel), List.mem_of_getElem? (i := 435) (by decide +kernel), List.mem_of_getElem? (i := 436) (by decide +kernel)⟩
theorem lw_p50 : lw_okq (⟨"DatumDeskModel", "token", "()I"⟩, 21) := ⟨⟨by decide +kernel, by decide +kernel⟩, List.mem_of_getElem? (i := 443) (by decide +kernel), List.mem_of_getElem? (i := 521) (by decide +kernel), List.mem_of_getElem? (i := 522) (by decide +kernel)⟩
theorem lw_p51 : lw_okq (⟨"DatumDeskModel", "skip", "()V"⟩, 21) := ⟨⟨by decide +kernel, by decide +kernel⟩, List.mem_of_getElem? (i := 443) (by decide +kernel), List.mem_of_getElem? (i := 525) (by decide +kernel), List.mem_of_getElem? (i := 526) (by decide +kernel)⟩
theorem lw_p52 : lw_okq (⟨"DatumDeskModel", "peek", "(I)I"⟩, 21) := ⟨⟨by decide +kernel, by decide +kernel⟩, List.mem_of_getElem? (i := 443) (by decide +kernel), List.mem_of_getElem? (i := 529) (by decide +kernel), List.mem_of_getElem? (i := 530) (by decide +kernel)⟩
theorem lw_p53 : lw_okq (⟨"DatumDeskModel", "string", "()I"⟩, 21) := ⟨⟨by decide +kernel, by decide +kernel⟩, List.mem_of_getElem? (i := 443) (by decide +kernel), List.mem_of_getElem? (i := 542) (by decide +kernel), List.mem_of_getElem? (i := 543) (by decide +kernel)⟩
theorem lw_p54 : lw_okq (⟨"DatumDeskModel", "fail", "(I)V"⟩, 21) := ⟨⟨by decide +kernel, by decide +kernel⟩, List.mem_of_getElem? (i := 443) (by decide +kernel), List.mem_of_getElem? (i := 546) (by decide +kernel), List.mem_of_getElem? (i := 547) (by decide +kernel)⟩
theorem lw_p55 : lw_okq (⟨"DatumDeskModel", "opens", "(Z)V"⟩, 21) := ⟨⟨by decide +kernel, by decide +kernel⟩, List.mem_of_getElem? (i := 443) (by decide +kernel), List.mem_of_getElem? (i := 550) (by decide +kernel), List.mem_of_getElem? (i := 551) (by decide +kernel)⟩
theorem lw_p56 : lw_okq (⟨"DatumDeskModel", "begin", "()V"⟩, 21) := ⟨⟨by decide +kernel, by decide +kernel⟩, List.mem_of_getElem? (i := 443) (by decide +kernel), List.mem_of_getElem? (i := 554) (by decide +kernel), List.mem_of_getElem? (i := 555) (by decide +kernel)⟩
theorem lw_p57 : lw_okq (⟨"DatumDeskModel", "node", "(I)I"⟩, 21) := ⟨⟨by decide +kernel, by decide +kernel⟩, List.mem_of_getElem? (i := 443) (by decide +kernel), List.mem_of_getElem? (i := 558) (by decide +kernel), List.mem_of_getElem? (i := 559) (by decide +kernel)⟩
theorem lw_p58 : lw_okq (⟨"DatumDeskModel", "letter", "(II)V"⟩, 21) := ⟨⟨by decide +kernel, by decide +kernel⟩, List.mem_of_getElem? (i := 443) (by decide +kernel), List.mem_of_getElem? (i := 603) (by decide +kernel), List.mem_of_getElem? (i := 604) (by decide +kernel)⟩
theorem lw_p59 : lw_okq (⟨"DatumDeskModel", "closes", "()V"⟩, 21) := ⟨⟨by decide +kernel, by decide +kernel⟩, List.mem_of_getElem? (i := 443) (by decide +kernel), List.mem_of_getElem? (i := 607) (by decide +kernel), List.mem_of_getElem? (i := 608) (by decide +kernel)⟩
theorem lw_p60 : lw_okq (⟨"DatumDeskModel", "end", "(I)V"⟩, 21) := ⟨⟨by decide +kernel, by decide +kernel⟩, List.mem_of_getElem? (i := 443) (by decide +kernel), List.mem_of_getElem? (i := 611) (by decide +kernel), List.mem_of_getElem? (i := 612) (by decide +kernel)⟩
theorem lw_p61 : lw_okq (⟨"DatumDeskModel", "atom", "(I)I"⟩, 21) := ⟨⟨by decide +kernel, by decide +kernel⟩, List.mem_of_getElem? (i := 443) (by decide +kernel), List.mem_of_getElem? (i := 615) (by decide +kernel), List.mem_of_getElem? (i := 616) (by decide +kernel)⟩
theorem lw_p62 : lw_okq (⟨"DatumDeskModel", "isNode", "(I)Z"⟩, 21) := ⟨⟨by decide +kernel, by decide +kernel⟩, List.mem_of_getElem? (i := 443) (by decide +kernel), List.mem_of_getElem? (i := 632) (by decide +kernel), List.mem_of_getElem? (i := 633) (by decide +kernel)⟩
theorem lw_p63 : lw_okq (⟨"DatumDeskModel", "same", "(II)Z"⟩, 21) := ⟨⟨by decide +kernel, by decide +kernel⟩, List.mem_of_getElem? (i := 443) (by decide +kernel), List.mem_of_getElem? (i := 652) (by decide +kernel), List.mem_of_getElem? (i := 653) (by decide +kernel)⟩
def lw_privs_4 : List (MethodName × Nat) := [(⟨"DatumDesk$Nodes", "isQuoteName", "(I)Z"⟩, 10), (⟨"DatumDesk$Waiting", "take", "()I"⟩, 3), (⟨"DatumDeskModel", "token", "()I"⟩, 21), (⟨"DatumDeskModel", "skip", "()V"⟩, 21), (⟨"DatumDeskModel", "peek", "(I)I"⟩, 21), (⟨"DatumDeskModel", "string", "()I"⟩, 21), (⟨"DatumDeskModel", "fail", "(I)V"⟩, 21), (⟨"DatumDeskModel", "opens", "(Z)V"⟩, 21), (⟨"DatumDeskModel", "begin", "()V"⟩, 21), (⟨"DatumDeskModel", "node", "(I)I"⟩, 21), (⟨"DatumDeskModel", "letter", "(II)V"⟩, 21), (⟨"DatumDeskModel", "closes", "()V"⟩, 21), (⟨"DatumDeskModel", "end", "(I)V"⟩, 21), (⟨"DatumDeskModel", "atom", "(I)I"⟩, 21), (⟨"DatumDeskModel", "isNode", "(I)Z"⟩, 21), (⟨"DatumDeskModel", "same", "(II)Z"⟩, 21)]
theorem lw_r4 : ∀ q ∈ lw_privs_4, lw_okq q := List.forall_mem_cons.mpr ⟨lw_p48, List.forall_mem_cons.mpr ⟨lw_p49, List.forall_mem_cons.mpr ⟨lw_p50, List.forall_mem_cons.mpr ⟨lw_p51, List.forall_mem_cons.mpr ⟨lw_p52, List.forall_mem_cons.mpr ⟨lw_p53, List.forall_mem_cons.mpr ⟨lw_p54, List.forall_mem_cons.mpr ⟨lw_p55, List.forall_mem_cons.mpr ⟨lw_p56, List.forall_mem_cons.mpr ⟨lw_p57, List.forall_mem_cons.mpr ⟨lw_p58, List.forall_mem_cons.mpr ⟨lw_p59, List.forall_mem_cons.mpr ⟨lw_p60, List.forall_mem_cons.mpr ⟨lw_p61, List.forall_mem_cons.mpr ⟨lw_p62, List.forall_mem_cons.mpr ⟨lw_p63, fun _ h => absurd h List.not_mem_nil⟩⟩⟩⟩⟩⟩⟩⟩⟩⟩⟩⟩⟩⟩⟩⟩
theorem lw_p64 : lw_okq (⟨"DatumDeskModel", "step", "(II)I"⟩, 21) := ⟨⟨by decide +kernel, by decide +kernel⟩, List.mem_of_getElem? (i := 443) (by decide +kernel), List.mem_of_getElem? (i := 660) (by decide +kernel), List.mem_of_getElem? (i := 661) (by decide +kernel)⟩
theorem lw_p65 : lw_okq (⟨"DatumDeskModel", "say", "(I)V"⟩, 21) := ⟨⟨by decide +kernel, by decide +kernel⟩, List.mem_of_getElem? (i := 443) (by decide +kernel), List.mem_of_getElem? (i := 664) (by decide +kernel), List.mem_of_getElem? (i := 665) (by decide +kernel)⟩
theorem lw_p66 : lw_okq (⟨"DatumDeskModel", "isQuote", "(I)Z"⟩, 21) := ⟨⟨by decide +kernel, by decide +kernel⟩, List.mem_of_getElem? (i := 443) (by decide +kernel), List.mem_of_getElem? (i := 668) (by decide +kernel), List.mem_of_getElem? (i := 669) (by decide +kernel)⟩
theorem lw_p67 : lw_okq (⟨"DatumDeskModel", "number", "(I)V"⟩, 21) := ⟨⟨by decide +kernel, by decide +kernel⟩, List.mem_of_getElem? (i := 443) (by decide +kernel), List.mem_of_getElem? (i := 672) (by decide +kernel), List.mem_of_getElem? (i := 673) (by decide +kernel)⟩
theorem lw_p68 : lw_okq (⟨"DatumDeskModel", "letters", "(I)V"⟩, 21) := ⟨⟨by decide +kernel, by decide +kernel⟩, List.mem_of_getElem? (i := 443) (by decide +kernel), List.mem_of_getElem? (i := 676) (by decide +kernel), List.mem_of_getElem? (i := 677) (by decide +kernel)⟩
def lw_privs_5 : List (MethodName × Nat) := [(⟨"DatumDeskModel", "step", "(II)I"⟩, 21), (⟨"DatumDeskModel", "say", "(I)V"⟩, 21), (⟨"DatumDeskModel", "isQuote", "(I)Z"⟩, 21), (⟨"DatumDeskModel", "number", "(I)V"⟩, 21), (⟨"DatumDeskModel", "letters", "(I)V"⟩, 21)]
theorem lw_r5 : ∀ q ∈ lw_privs_5, lw_okq q := List.forall_mem_cons.mpr ⟨lw_p64, List.forall_mem_cons.mpr ⟨lw_p65, List.forall_mem_cons.mpr ⟨lw_p66, List.forall_mem_cons.mpr ⟨lw_p67, List.forall_mem_cons.mpr ⟨lw_p68, fun _ h => absurd h List.not_mem_nil⟩⟩⟩⟩⟩
def lw_privs : List (MethodName × Nat) := lw_privs_1 ++ (lw_privs_2 ++ (lw_privs_3 ++ (lw_privs_4 ++ (lw_privs_5))))
def lw_tbl : List Cond := k2_sels lw_privs ++ tables_1
theorem lw_privs_ok : ∀ q ∈ lw_privs, lw_okq q := by
  show ∀ q ∈ lw_privs_1 ++ (lw_privs_2 ++ (lw_privs_3 ++ (lw_privs_4 ++ (lw_privs_5)))), lw_okq q
  exact List.forall_mem_append.mpr ⟨lw_r1, List.forall_mem_append.mpr ⟨lw_r2, List.forall_mem_append.mpr ⟨lw_r3, List.forall_mem_append.mpr ⟨lw_r4, lw_r5⟩⟩⟩⟩
end
section
/-! printed by wip/gen/gen.py out of the claim: names, fields, the world, the words -/
abbrev aK : Type := Nat ⊕ (Nat × List (Option Value))
def T_Nodes : u_T := fun k => match k with
  | 0 => ("DatumDesk$Nodes", "kinds", "[I", true)
  | 1 => ("DatumDesk$Nodes", "amounts", "[I", true)
  | 2 => ("DatumDesk$Nodes", "starts", "[I", true)
  | 3 => ("DatumDesk$Nodes", "heads", "[I", true)
  | 4 => ("DatumDesk$Nodes", "tails", "[I", true)
  | 5 => ("DatumDesk$Nodes", "count", "I", false)
  | 6 => ("DatumDesk$Nodes", "data", "[I", true)
  | 7 => ("DatumDesk$Nodes", "dataCount", "I", false)
  | 8 => ("DatumDesk$Nodes", "letters", "[I", true)
  | _ => ("DatumDesk$Nodes", "letterCount", "I", false)
def t_Nodes : Nat → FieldType := fun k => match k with
  | 0 => .array .int
  | 1 => .array .int
  | 2 => .array .int
  | 3 => .array .int
  | 4 => .array .int
  | 5 => .int
  | 6 => .array .int
  | 7 => .int
  | 8 => .array .int
  | _ => .int
theorem nm_Nodes : ∀ a, a < 10 → ∀ b, b < 10 → a ≠ b → (T_Nodes a).2.1 ≠ (T_Nodes b).2.1 := by decide +kernel
theorem tok_Nodes : ∀ k, k < 10 → parseFieldDescriptor (T_Nodes k).2.2.1 = some (t_Nodes k) := by decide +kernel
def T_Reader : u_T := fun k => match k with
  | 0 => ("DatumDesk$Reader", "text", "LDatumDesk$Text;", true)
  | 1 => ("DatumDesk$Reader", "nodes", "LDatumDesk$Nodes;", true)
  | 2 => ("DatumDesk$Reader", "tokens", "LDatumDesk$Tokens;", true)
  | 3 => ("DatumDesk$Reader", "cursor", "I", false)
  | _ => ("DatumDesk$Reader", "faultPlace", "I", false)
def t_Reader : Nat → FieldType := fun k => match k with
  | 0 => .object "DatumDesk$Text"
  | 1 => .object "DatumDesk$Nodes"
  | 2 => .object "DatumDesk$Tokens"
  | 3 => .int
  | _ => .int
theorem nm_Reader : ∀ a, a < 5 → ∀ b, b < 5 → a ≠ b → (T_Reader a).2.1 ≠ (T_Reader b).2.1 := by decide +kernel
theorem tok_Reader : ∀ k, k < 5 → parseFieldDescriptor (T_Reader k).2.2.1 = some (t_Reader k) := by decide +kernel
def T_Text : u_T := fun k => match k with
  | 0 => ("DatumDesk$Text", "bytes", "[I", true)
  | _ => ("DatumDesk$Text", "length", "I", false)
def t_Text : Nat → FieldType := fun k => match k with
  | 0 => .array .int
  | _ => .int
theorem nm_Text : ∀ a, a < 2 → ∀ b, b < 2 → a ≠ b → (T_Text a).2.1 ≠ (T_Text b).2.1 := by decide +kernel
theorem tok_Text : ∀ k, k < 2 → parseFieldDescriptor (T_Text k).2.2.1 = some (t_Text k) := by decide +kernel
def T_Tokens : u_T := fun k => match k with
  | 0 => ("DatumDesk$Tokens", "sorts", "[I", true)
  | 1 => ("DatumDesk$Tokens", "starts", "[I", true)
  | 2 => ("DatumDesk$Tokens", "ends", "[I", true)
  | _ => ("DatumDesk$Tokens", "count", "I", false)
def t_Tokens : Nat → FieldType := fun k => match k with
  | 0 => .array .int
  | 1 => .array .int
  | 2 => .array .int
  | _ => .int
theorem nm_Tokens : ∀ a, a < 4 → ∀ b, b < 4 → a ≠ b → (T_Tokens a).2.1 ≠ (T_Tokens b).2.1 := by decide +kernel
theorem tok_Tokens : ∀ k, k < 4 → parseFieldDescriptor (T_Tokens k).2.2.1 = some (t_Tokens k) := by decide +kernel
def T_Waiting : u_T := fun k => match k with
  | 0 => ("DatumDesk$Waiting", "bytes", "[I", true)
  | 1 => ("DatumDesk$Waiting", "first", "I", false)
  | _ => ("DatumDesk$Waiting", "count", "I", false)
def t_Waiting : Nat → FieldType := fun k => match k with
  | 0 => .array .int
  | 1 => .int
  | _ => .int
theorem nm_Waiting : ∀ a, a < 3 → ∀ b, b < 3 → a ≠ b → (T_Waiting a).2.1 ≠ (T_Waiting b).2.1 := by decide +kernel
theorem tok_Waiting : ∀ k, k < 3 → parseFieldDescriptor (T_Waiting k).2.2.1 = some (t_Waiting k) := by decide +kernel
def T_Writer : u_T := fun k => match k with
  | 0 => ("DatumDesk$Writer", "nodes", "LDatumDesk$Nodes;", true)
  | _ => ("DatumDesk$Writer", "waiting", "LDatumDesk$Waiting;", true)
def t_Writer : Nat → FieldType := fun k => match k with
  | 0 => .object "DatumDesk$Nodes"
  | _ => .object "DatumDesk$Waiting"
theorem nm_Writer : ∀ a, a < 2 → ∀ b, b < 2 → a ≠ b → (T_Writer a).2.1 ≠ (T_Writer b).2.1 := by decide +kernel
theorem tok_Writer : ∀ k, k < 2 → parseFieldDescriptor (T_Writer k).2.2.1 = some (t_Writer k) := by decide +kernel
def T_Desk : u_T := fun k => match k with
  | 0 => ("DatumDesk", "text", "LDatumDesk$Text;", true)
  | 1 => ("DatumDesk", "nodes", "LDatumDesk$Nodes;", true)
  | 2 => ("DatumDesk", "reader", "LDatumDesk$Reader;", true)
  | 3 => ("DatumDesk", "waiting", "LDatumDesk$Waiting;", true)
  | _ => ("DatumDesk", "writer", "LDatumDesk$Writer;", true)
def t_Desk : Nat → FieldType := fun k => match k with
  | 0 => .object "DatumDesk$Text"
  | 1 => .object "DatumDesk$Nodes"
  | 2 => .object "DatumDesk$Reader"
  | 3 => .object "DatumDesk$Waiting"
  | _ => .object "DatumDesk$Writer"
theorem nm_Desk : ∀ a, a < 5 → ∀ b, b < 5 → a ≠ b → (T_Desk a).2.1 ≠ (T_Desk b).2.1 := by decide +kernel
theorem tok_Desk : ∀ k, k < 5 → parseFieldDescriptor (T_Desk k).2.2.1 = some (t_Desk k) := by decide +kernel
def T_Model : u_T := fun k => match k with
  | 0 => ("DatumDeskModel", "text", "[I", true)
  | 1 => ("DatumDeskModel", "size", "I", false)
  | 2 => ("DatumDeskModel", "at", "I", false)
  | 3 => ("DatumDeskModel", "place", "I", false)
  | 4 => ("DatumDeskModel", "fault", "I", false)
  | 5 => ("DatumDeskModel", "nodes", "I", false)
  | 6 => ("DatumDeskModel", "kinds", "[I", true)
  | 7 => ("DatumDeskModel", "values", "[I", true)
  | 8 => ("DatumDeskModel", "bytes", "[I", true)
  | 9 => ("DatumDeskModel", "heads", "[I", true)
  | 10 => ("DatumDeskModel", "tails", "[I", true)
  | 11 => ("DatumDeskModel", "data", "I", false)
  | 12 => ("DatumDeskModel", "datums", "[I", true)
  | 13 => ("DatumDeskModel", "open", "I", false)
  | 14 => ("DatumDeskModel", "firsts", "[I", true)
  | 15 => ("DatumDeskModel", "lasts", "[I", true)
  | 16 => ("DatumDeskModel", "states", "[I", true)
  | 17 => ("DatumDeskModel", "written", "[I", true)
  | 18 => ("DatumDeskModel", "waits", "I", false)
  | 19 => ("DatumDeskModel", "ones", "[I", true)
  | _ => ("DatumDeskModel", "others", "[I", true)
def t_Model : Nat → FieldType := fun k => match k with
  | 0 => .array .int
  | 1 => .int
  | 2 => .int
  | 3 => .int
  | 4 => .int
  | 5 => .int
  | 6 => .array .int
  | 7 => .array .int
  | 8 => .array .int
  | 9 => .array .int
  | 10 => .array .int
  | 11 => .int
  | 12 => .array .int
  | 13 => .int
  | 14 => .array .int
  | 15 => .array .int
  | 16 => .array .int
  | 17 => .array .int
  | 18 => .int
  | 19 => .array .int
  | _ => .array .int
theorem nm_Model : ∀ a, a < 21 → ∀ b, b < 21 → a ≠ b → (T_Model a).2.1 ≠ (T_Model b).2.1 := by decide +kernel
theorem tok_Model : ∀ k, k < 21 → parseFieldDescriptor (T_Model k).2.2.1 = some (t_Model k) := by decide +kernel
abbrev CL : List vw_C := [("DatumDesk$Nodes", T_Nodes, 10), ("DatumDesk$Reader", T_Reader, 5), ("DatumDesk$Text", T_Text, 2), ("DatumDesk$Tokens", T_Tokens, 4), ("DatumDesk$Waiting", T_Waiting, 3), ("DatumDesk$Writer", T_Writer, 2), ("DatumDesk", T_Desk, 5), ("DatumDeskModel", T_Model, 21)]
def SH : List aK := [.inr (6, [some (.ref 1), some (.ref 3), some (.ref 11), some (.ref 16), some (.ref 18)]), .inr (2, [some (.ref 2), none]), .inl 400, .inr (0, [some (.ref 4), some (.ref 5), some (.ref 6), some (.ref 7), some (.ref 8), none, some (.ref 9), none, some (.ref 10), none]), .inl 200, .inl 200, .inl 200, .inl 200, .inl 200, .inl 200, .inl 405, .inr (1, [some (.ref 1), some (.ref 3), some (.ref 12), none, none]), .inr (3, [some (.ref 13), some (.ref 14), some (.ref 15), none]), .inl 401, .inl 401, .inl 401, .inr (4, [some (.ref 17), none, none]), .inl 500, .inr (5, [some (.ref 3), some (.ref 16)]), .inr (7, [some (.ref 20), none, none, none, none, none, some (.ref 21), some (.ref 22), some (.ref 23), some (.ref 24), some (.ref 25), none, some (.ref 26), none, some (.ref 27), some (.ref 28), some (.ref 29), some (.ref 30), none, some (.ref 31), some (.ref 32)]), .inl 400, .inl 200, .inl 200, .inl 4000, .inl 200, .inl 200, .inl 200, .inl 15, .inl 15, .inl 15, .inl 500, .inl 420, .inl 420]
def QF : Nat → Int32 := fun k => match k with
  | 0 => 113
  | 1 => 117
  | 2 => 111
  | 3 => 116
  | _ => 101
def XS : List (String × String × String × Value) := [("DatumDesk", "QUOTE", "[I", .ref 1000)]
def nw_is (w : Cond) : Bool := match w with
  | .fieldLinkNest _ _ _ _ _ _ => true
  | .methodLinkNest _ _ _ _ => true
  | _ => false
def TB : List Cond := lw_tbl.filter goodWord
def NWs : List Cond := lw_tbl.filter nw_is
theorem tb_of (i : Nat) {w : Cond} (h : lw_tbl[i]? = some w) (hg : goodWord w = true) : w ∈ TB := List.mem_filter.mpr ⟨List.mem_of_getElem? h, hg⟩
theorem nw_of (i : Nat) {w : Cond} (h : lw_tbl[i]? = some w) (hg : nw_is w = true) : w ∈ NWs := List.mem_filter.mpr ⟨List.mem_of_getElem? h, hg⟩
theorem TB_good : ∀ w ∈ TB, (w.onTables && w.keeps) = true ∨ ∃ ty, w = .arrayClass ty := fun w h => good_of_word (List.mem_filter.mp h).2
set_option maxRecDepth 20000 in
theorem in_Nodes : ∀ w ∈ u_ws "DatumDesk$Nodes" T_Nodes 10, w ∈ TB := by
  intro w hw
  have h : w ∈ [(Cond.laysFinal "DatumDesk$Nodes" "DatumDesk$Nodes" "kinds" "[I"), (Cond.laysFinal "DatumDesk$Nodes" "DatumDesk$Nodes" "amounts" "[I"), (Cond.laysFinal "DatumDesk$Nodes" "DatumDesk$Nodes" "starts" "[I"), (Cond.laysFinal "DatumDesk$Nodes" "DatumDesk$Nodes" "heads" "[I"), (Cond.laysFinal "DatumDesk$Nodes" "DatumDesk$Nodes" "tails" "[I"), (Cond.lays "DatumDesk$Nodes" "DatumDesk$Nodes" "count" "I"), (Cond.laysFinal "DatumDesk$Nodes" "DatumDesk$Nodes" "data" "[I"), (Cond.lays "DatumDesk$Nodes" "DatumDesk$Nodes" "dataCount" "I"), (Cond.laysFinal "DatumDesk$Nodes" "DatumDesk$Nodes" "letters" "[I"), (Cond.lays "DatumDesk$Nodes" "DatumDesk$Nodes" "letterCount" "I")] := hw
  simp only [List.mem_cons, List.not_mem_nil, or_false] at h
  rcases h with rfl | rfl | rfl | rfl | rfl | rfl | rfl | rfl | rfl | rfl
  · exact tb_of 130 rfl rfl
  · exact tb_of 132 rfl rfl
  · exact tb_of 134 rfl rfl
  · exact tb_of 136 rfl rfl
  · exact tb_of 138 rfl rfl
  · exact tb_of 140 rfl rfl
  · exact tb_of 142 rfl rfl
  · exact tb_of 144 rfl rfl
  · exact tb_of 146 rfl rfl
  · exact tb_of 148 rfl rfl
set_option maxRecDepth 20000 in
theorem in_Reader : ∀ w ∈ u_ws "DatumDesk$Reader" T_Reader 5, w ∈ TB := by
  intro w hw
  have h : w ∈ [(Cond.laysFinal "DatumDesk$Reader" "DatumDesk$Reader" "text" "LDatumDesk$Text;"), (Cond.laysFinal "DatumDesk$Reader" "DatumDesk$Reader" "nodes" "LDatumDesk$Nodes;"), (Cond.laysFinal "DatumDesk$Reader" "DatumDesk$Reader" "tokens" "LDatumDesk$Tokens;"), (Cond.lays "DatumDesk$Reader" "DatumDesk$Reader" "cursor" "I"), (Cond.lays "DatumDesk$Reader" "DatumDesk$Reader" "faultPlace" "I")] := hw
  simp only [List.mem_cons, List.not_mem_nil, or_false] at h
  rcases h with rfl | rfl | rfl | rfl | rfl
  · exact tb_of 182 rfl rfl
  · exact tb_of 184 rfl rfl
  · exact tb_of 186 rfl rfl
  · exact tb_of 188 rfl rfl
  · exact tb_of 190 rfl rfl
set_option maxRecDepth 20000 in
theorem in_Text : ∀ w ∈ u_ws "DatumDesk$Text" T_Text 2, w ∈ TB := by
  intro w hw
  have h : w ∈ [(Cond.laysFinal "DatumDesk$Text" "DatumDesk$Text" "bytes" "[I"), (Cond.lays "DatumDesk$Text" "DatumDesk$Text" "length" "I")] := hw
  simp only [List.mem_cons, List.not_mem_nil, or_false] at h
  rcases h with rfl | rfl
  · exact tb_of 101 rfl rfl
  · exact tb_of 103 rfl rfl
set_option maxRecDepth 20000 in
theorem in_Tokens : ∀ w ∈ u_ws "DatumDesk$Tokens" T_Tokens 4, w ∈ TB := by
  intro w hw
  have h : w ∈ [(Cond.laysFinal "DatumDesk$Tokens" "DatumDesk$Tokens" "sorts" "[I"), (Cond.laysFinal "DatumDesk$Tokens" "DatumDesk$Tokens" "starts" "[I"), (Cond.laysFinal "DatumDesk$Tokens" "DatumDesk$Tokens" "ends" "[I"), (Cond.lays "DatumDesk$Tokens" "DatumDesk$Tokens" "count" "I")] := hw
  simp only [List.mem_cons, List.not_mem_nil, or_false] at h
  rcases h with rfl | rfl | rfl | rfl
  · exact tb_of 167 rfl rfl
  · exact tb_of 169 rfl rfl
  · exact tb_of 171 rfl rfl
  · exact tb_of 173 rfl rfl
set_option maxRecDepth 20000 in
theorem in_Waiting : ∀ w ∈ u_ws "DatumDesk$Waiting" T_Waiting 3, w ∈ TB := by
  intro w hw
  have h : w ∈ [(Cond.laysFinal "DatumDesk$Waiting" "DatumDesk$Waiting" "bytes" "[I"), (Cond.lays "DatumDesk$Waiting" "DatumDesk$Waiting" "first" "I"), (Cond.lays "DatumDesk$Waiting" "DatumDesk$Waiting" "count" "I")] := hw
  simp only [List.mem_cons, List.not_mem_nil, or_false] at h
  rcases h with rfl | rfl | rfl
  · exact tb_of 203 rfl rfl
  · exact tb_of 205 rfl rfl
  · exact tb_of 207 rfl rfl
set_option maxRecDepth 20000 in
theorem in_Writer : ∀ w ∈ u_ws "DatumDesk$Writer" T_Writer 2, w ∈ TB := by
  intro w hw
  have h : w ∈ [(Cond.laysFinal "DatumDesk$Writer" "DatumDesk$Writer" "nodes" "LDatumDesk$Nodes;"), (Cond.laysFinal "DatumDesk$Writer" "DatumDesk$Writer" "waiting" "LDatumDesk$Waiting;")] := hw
  simp only [List.mem_cons, List.not_mem_nil, or_false] at h
  rcases h with rfl | rfl
  · exact tb_of 218 rfl rfl
  · exact tb_of 220 rfl rfl
set_option maxRecDepth 20000 in
theorem in_Desk : ∀ w ∈ u_ws "DatumDesk" T_Desk 5, w ∈ TB := by
  intro w hw
  have h : w ∈ [(Cond.laysFinal "DatumDesk" "DatumDesk" "text" "LDatumDesk$Text;"), (Cond.laysFinal "DatumDesk" "DatumDesk" "nodes" "LDatumDesk$Nodes;"), (Cond.laysFinal "DatumDesk" "DatumDesk" "reader" "LDatumDesk$Reader;"), (Cond.laysFinal "DatumDesk" "DatumDesk" "waiting" "LDatumDesk$Waiting;"), (Cond.laysFinal "DatumDesk" "DatumDesk" "writer" "LDatumDesk$Writer;")] := hw
  simp only [List.mem_cons, List.not_mem_nil, or_false] at h
  rcases h with rfl | rfl | rfl | rfl | rfl
  · exact tb_of 228 rfl rfl
  · exact tb_of 230 rfl rfl
  · exact tb_of 232 rfl rfl
  · exact tb_of 234 rfl rfl
  · exact tb_of 236 rfl rfl
set_option maxRecDepth 20000 in
theorem in_Model : ∀ w ∈ u_ws "DatumDeskModel" T_Model 21, w ∈ TB := by
  intro w hw
  have h : w ∈ [(Cond.laysFinal "DatumDeskModel" "DatumDeskModel" "text" "[I"), (Cond.lays "DatumDeskModel" "DatumDeskModel" "size" "I"), (Cond.lays "DatumDeskModel" "DatumDeskModel" "at" "I"), (Cond.lays "DatumDeskModel" "DatumDeskModel" "place" "I"), (Cond.lays "DatumDeskModel" "DatumDeskModel" "fault" "I"), (Cond.lays "DatumDeskModel" "DatumDeskModel" "nodes" "I"), (Cond.laysFinal "DatumDeskModel" "DatumDeskModel" "kinds" "[I"), (Cond.laysFinal "DatumDeskModel" "DatumDeskModel" "values" "[I"), (Cond.laysFinal "DatumDeskModel" "DatumDeskModel" "bytes" "[I"), (Cond.laysFinal "DatumDeskModel" "DatumDeskModel" "heads" "[I"), (Cond.laysFinal "DatumDeskModel" "DatumDeskModel" "tails" "[I"), (Cond.lays "DatumDeskModel" "DatumDeskModel" "data" "I"), (Cond.laysFinal "DatumDeskModel" "DatumDeskModel" "datums" "[I"), (Cond.lays "DatumDeskModel" "DatumDeskModel" "open" "I"), (Cond.laysFinal "DatumDeskModel" "DatumDeskModel" "firsts" "[I"), (Cond.laysFinal "DatumDeskModel" "DatumDeskModel" "lasts" "[I"), (Cond.laysFinal "DatumDeskModel" "DatumDeskModel" "states" "[I"), (Cond.laysFinal "DatumDeskModel" "DatumDeskModel" "written" "[I"), (Cond.lays "DatumDeskModel" "DatumDeskModel" "waits" "I"), (Cond.laysFinal "DatumDeskModel" "DatumDeskModel" "ones" "[I"), (Cond.laysFinal "DatumDeskModel" "DatumDeskModel" "others" "[I")] := hw
  simp only [List.mem_cons, List.not_mem_nil, or_false] at h
  rcases h with rfl | rfl | rfl | rfl | rfl | rfl | rfl | rfl | rfl | rfl | rfl | rfl | rfl | rfl | rfl | rfl | rfl | rfl | rfl | rfl | rfl
  · exact tb_of 538 rfl rfl
  · exact tb_of 540 rfl rfl
  · exact tb_of 542 rfl rfl
  · exact tb_of 544 rfl rfl
  · exact tb_of 546 rfl rfl
  · exact tb_of 548 rfl rfl
  · exact tb_of 550 rfl rfl
  · exact tb_of 552 rfl rfl
  · exact tb_of 554 rfl rfl
  · exact tb_of 556 rfl rfl
  · exact tb_of 558 rfl rfl
  · exact tb_of 560 rfl rfl
  · exact tb_of 562 rfl rfl
  · exact tb_of 564 rfl rfl
  · exact tb_of 566 rfl rfl
  · exact tb_of 568 rfl rfl
  · exact tb_of 570 rfl rfl
  · exact tb_of 572 rfl rfl
  · exact tb_of 574 rfl rfl
  · exact tb_of 576 rfl rfl
  · exact tb_of 578 rfl rfl
end
section
/-! THE PICTURE OF THE MACHINE. Every cell that the system uses has a number (its place in SH); M i j is the int in slot j of cell i; a reference is the number of its cell. An instruction is a function of what comes behind it: 'aI'. -/
abbrev aM : Type := Nat → Nat → Int32
abbrev aL : Type := List (Option Value)
abbrev aJ : Type := Nat → aL → List Value → aM → Prop
abbrev aR : Type := Option Value → aM → Prop
abbrev aI : Type := aJ → aR → Nat → aL → List Value → aM → Prop
abbrev aG : Type := Launch × va_G × ClassId × (Nat → Nat) × (Nat → Prop) × Nat × (Nat → Int32)
abbrev aY : Type := MethodName × ByteArray × Nat × Option FieldType
abbrev aS : Type := List Value → aM → aR → Prop
def g_l (G : aG) : Launch := G.1
def g_D (G : aG) : va_G := G.2.1
def g_c (G : aG) : ClassId := G.2.2.1
def g_a (G : aG) : Nat → Nat := G.2.2.2.1
def g_B (G : aG) : Nat → Prop := G.2.2.2.2.1
def g_n (G : aG) : Nat := G.2.2.2.2.2.1
def g_x (G : aG) : Nat → Int32 := G.2.2.2.2.2.2
def am_v (ad : Nat → Nat) (v : Value) : Value := match v with
  | .ref k => .ref (ad k)
  | w => w
def am_fs (ad : Nat → Nat) (f : Nat → Int32) : Nat → List (Option Value) → List Value
  | _, [] => []
  | k, none :: r => .int (f k) :: am_fs ad f (k + 1) r
  | k, some v :: r => am_v ad v :: am_fs ad f (k + 1) r
def am_cell (cI : ClassId) (ad : Nat → Nat) (f : Nat → Int32) (k : aK) : va_E := match k with
  | .inl n => .inl (cI, n, .inl f)
  | .inr q => .inr (q.1, am_fs ad f 0 q.2)
def am_ws (cI : ClassId) (ad : Nat → Nat) (M : aM) : Nat → List aK → va_W
  | _, [] => []
  | i, k :: r => (ad i, am_cell cI ad (M i) k) :: am_ws cI ad M (i + 1) r
def am_W (G : aG) (M : aM) : va_W := am_ws (g_c G) (g_a G) M 0 SH
def am_up (M : aM) (i j : Nat) (x : Int32) : aM := fun a => if a = i then upd (M i) j x else M a
def am_A (G : aG) (sz : Nat) : Nat → Prop := fun q => (∃ i, i < SH.length ∧ q = g_a G i) ∨ sz ≤ q
theorem am_ws_get (cI : ClassId) (ad : Nat → Nat) (M : aM) : ∀ (sh : List aK) (i0 i : Nat), (am_ws cI ad M i0 sh)[i]? = (sh[i]?).map (fun k => (ad (i0 + i), am_cell cI ad (M (i0 + i)) k))
  | [], _, _ => by simp [am_ws]
  | k :: r, i0, 0 => by simp [am_ws]
  | k :: r, i0, i + 1 => by
    simp only [am_ws, List.getElem?_cons_succ]
    rw [am_ws_get cI ad M r (i0 + 1) i, show i0 + 1 + i = i0 + (i + 1) by omega]
theorem am_W_get {G : aG} {M : aM} {i : Nat} {k : aK} (h : SH[i]? = some k) : (am_W G M)[i]? = some (g_a G i, am_cell (g_c G) (g_a G) (M i) k) := by
  unfold am_W
  rw [am_ws_get, h]
  simp
theorem am_W_of {G : aG} {M : aM} {i : Nat} {q : Nat × va_E} (h : (am_W G M)[i]? = some q) : i < SH.length ∧ q.1 = g_a G i := by
  unfold am_W at h
  rw [am_ws_get] at h
  cases hk : SH[i]? with
  | none => rw [hk] at h; simp at h
  | some k =>
    rw [hk] at h
    simp at h
    exact ⟨(List.getElem?_eq_some_iff.mp hk).1, by rw [← h]⟩
theorem am_W_len {G : aG} {M : aM} : (am_W G M).length = SH.length := by
  apply Nat.le_antisymm
  · apply Nat.le_of_not_lt
    intro h
    have h1 := (am_W_of (G := G) (M := M) (i := SH.length) (List.getElem?_eq_getElem h)).1
    omega
  · apply Nat.le_of_not_lt
    intro h
    have h1 := am_W_get (G := G) (M := M) (List.getElem?_eq_getElem h)
    rw [List.getElem?_eq_none (Nat.le_refl _)] at h1
    cases h1
theorem am_up_self (M : aM) (i j : Nat) (x : Int32) : am_up M i j x i = upd (M i) j x := by simp [am_up]
theorem am_up_ne {M : aM} {i j a : Nat} {x : Int32} (h : a ≠ i) : am_up M i j x a = M a := by simp [am_up, h]
theorem am_W_up {G : aG} {M : aM} {i j : Nat} {x : Int32} {k : aK} (h : SH[i]? = some k) : am_W G (am_up M i j x) = (am_W G M).set i (g_a G i, am_cell (g_c G) (g_a G) (upd (M i) j x) k) := by
  apply List.ext_getElem?
  intro n
  by_cases hn : n = i
  · subst hn
    rw [am_W_get h, am_up_self, List.getElem?_set_self (by rw [am_W_len]; exact (List.getElem?_eq_some_iff.mp h).1)]
  · rw [List.getElem?_set_ne (fun q => hn q.symm)]
    unfold am_W
    rw [am_ws_get, am_ws_get]
    simp only [Nat.zero_add]
    rw [am_up_ne hn]
theorem am_fs_get (ad : Nat → Nat) (f : Nat → Int32) : ∀ (fs : List (Option Value)) (k0 k : Nat), (am_fs ad f k0 fs)[k]? = (fs[k]?).map (fun o => match o with | none => .int (f (k0 + k)) | some v => am_v ad v)
  | [], _, _ => by simp [am_fs]
  | none :: r, k0, 0 => by simp [am_fs]
  | some v :: r, k0, 0 => by simp [am_fs]
  | none :: r, k0, k + 1 => by
    simp only [am_fs, List.getElem?_cons_succ]
    rw [am_fs_get ad f r (k0 + 1) k, show k0 + 1 + k = k0 + (k + 1) by omega]
  | some v :: r, k0, k + 1 => by
    simp only [am_fs, List.getElem?_cons_succ]
    rw [am_fs_get ad f r (k0 + 1) k, show k0 + 1 + k = k0 + (k + 1) by omega]
theorem am_fs_len (ad : Nat → Nat) (f : Nat → Int32) : ∀ (fs : List (Option Value)) (k0 : Nat), (am_fs ad f k0 fs).length = fs.length
  | [], _ => rfl
  | none :: r, k0 => by simp [am_fs, am_fs_len ad f r]
  | some v :: r, k0 => by simp [am_fs, am_fs_len ad f r]
theorem am_fs_upd (ad : Nat → Nat) (f : Nat → Int32) (fs : List (Option Value)) {k : Nat} {x : Int32} (h : fs[k]? = some none) : am_fs ad (upd f k x) 0 fs = (am_fs ad f 0 fs).set k (.int x) := by
  apply List.ext_getElem?
  intro n
  by_cases hn : n = k
  · subst hn
    rw [am_fs_get, h, List.getElem?_set_self (by rw [am_fs_len]; exact (List.getElem?_eq_some_iff.mp h).1)]
    simp [upd]
  · rw [List.getElem?_set_ne (fun q => hn q.symm), am_fs_get, am_fs_get]
    cases fs[n]? with
    | none => rfl
    | some o =>
      cases o with
      | none => simp [upd, hn]
      | some v => rfl
/-- the numbers are apart, and lie in the zone -/
def am_ok (G : aG) : Prop := (∀ i j, i < SH.length → j < SH.length → g_a G i = g_a G j → i = j) ∧ ∀ i, i < SH.length → g_B G (g_a G i)
theorem am_D {G : aG} (h : am_ok G) (M : aM) (sz : Nat) : va_D (am_A G sz) (am_W G M) := by
  refine ⟨fun i j x y hi hj hxy => ?_, fun k q hk => ?_⟩
  · obtain ⟨a1, a2⟩ := am_W_of hi
    obtain ⟨b1, b2⟩ := am_W_of hj
    exact h.1 i j a1 b1 (by rw [← a2, ← b2]; exact hxy)
  · obtain ⟨a1, a2⟩ := am_W_of hk
    exact Or.inl ⟨k, a1, a2⟩
/-- what stays as it is outside the world: arrays and static fields -/
def am_XA (G : aG) : List (Nat × Nat × (Nat → Int32)) := [(1000, 5, QF), (1001, g_n G, g_x G)]
def am_E (G : aG) (B : Nat → Prop) (U : State) (H : Heap) : Prop := (∀ q ∈ am_XA G, va_T .int (g_a G q.1) q.2.1 (fun j => .int (q.2.2 j)) B U H) ∧ ∀ q ∈ XS, va_Z q.1 q.2.1 q.2.2.1 (am_v (g_a G) q.2.2.2) B U H
theorem am_E.narrow {G : aG} {A B : Nat → Prop} {U : State} {H : Heap} (h : am_E G A U H) (hAB : ∀ q, B q → A q) : am_E G B U H := ⟨fun q hq => (h.1 q hq).narrow hAB, fun q hq => (h.2 q hq).narrow hAB⟩
theorem am_E.moved {G : aG} {A : Nat → Prop} {u U : State} {H : Heap} (hvm : u.vm.Alike U.vm) (h : am_E G A u H) : am_E G A U H := ⟨fun q hq => (h.1 q hq).moved hvm, fun q hq => (h.2 q hq).moved hvm⟩
theorem am_E.kept {G : aG} {A : Nat → Prop} {U : State} {H H1 : Heap} (h : am_E G A U H) (hq : ∀ a : Nat, a < H.size → ¬ A a → H1[a]? = H[a]?) : am_E G A U H1 := ⟨fun q h1 => (h.1 q h1).kept hq, fun q h1 => (h.2 q h1).kept hq⟩
/-- the tables, and the links of nest mates -/
def am_T (G : aG) (U : State) : Prop := va_K (g_D G) CL [(g_c G, .int)] U ∧ ∀ w ∈ NWs, nw_is w = true ∧ va_Nw w U
theorem am_nw {w : Cond} {s U : State} (hn : nw_is w = true) (hW : s.WarmedH U.vm) (h : va_Nw w s) : va_Nw w U := by
  cases w <;> first | (cases hn; done) | exact va_Nw.warmF hW h | exact va_Nw.warmM hW h
theorem am_T.warm {G : aG} {s U : State} (hW : s.WarmedH U.vm) (h : am_T G s) : am_T G U := ⟨h.1.moved hW.alike, fun w hw => ⟨(h.2 w hw).1, am_nw (h.2 w hw).1 hW (h.2 w hw).2⟩⟩
def am_wd (Y : aY) : List Cond := .code Y.1 Y.2.1 Y.2.2.1 Y.2.2.2 :: TB
def am_room (d : Nat) : Room := { frames := d, cells := 0, slots := 0, locals := 40 * d }
/-- a method's start -/
def am_P (G : aG) (M : aM) (sz : Nat) (U : State) : Prop := U.heap.size = sz ∧ va_P (g_D G) CL (am_W G M) U.heap ∧ am_T G U ∧ am_E G (g_B G) U U.heap ∧ ∀ q, sz ≤ q → g_B G q
/-- a method's end -/
def am_Q (G : aG) (K : aR) (A : Nat → Prop) : Array Value → State → Outcome → State → Prop := fun _ st oc t => (∃ (r : Option Value) (M : aM), oc = .returned (r.map (am_v (g_a G))) ∧ K r M ∧ va_P (g_D G) CL (am_W G M) t.heap) ∧ va_F A st t
def am_Met (G : aG) (Y : aY) (d : Nat) (As : List Value) (M : aM) (K : aR) : Prop := ∀ sz, Met (g_l G) Y.1 (am_wd Y) (am_room d) (va_Pc (As.map (am_v (g_a G))) (am_P G M sz)) (am_Q G K (am_A G sz)) 0 0 (am_A G sz)
/-- the locals -/
def am_lv (ls : Array Slot) (nL : Nat) (ad : Nat → Nat) (L : aL) : Prop := ls.size = nL ∧ lv_wf ls ∧ ∀ (k : Nat) (v : Value), L[k]? = some (some v) → ls[k]? = some (.val (am_v ad v))
theorem am_lv.look {ls : Array Slot} {nL : Nat} {ad : Nat → Nat} {L : aL} (h : am_lv ls nL ad L) {k : Nat} {v : Value} (hk : L[k]? = some (some v)) : ls[k]? = some (.val (am_v ad v)) := h.2.2 k v hk
def am_ll (ad : Nat → Nat) : Nat → aL → List (Nat × Value)
  | _, [] => []
  | i, none :: r => am_ll ad (i + 1) r
  | i, some v :: r => (i, am_v ad v) :: am_ll ad (i + 1) r
theorem am_ll_mem (ad : Nat → Nat) : ∀ (L : aL) (i : Nat) (q : Nat × Value), q ∈ am_ll ad i L ↔ ∃ (k : Nat) (v : Value), q = (i + k, am_v ad v) ∧ L[k]? = some (some v)
  | [], i, q => by simp [am_ll]
  | none :: r, i, q => by
    simp only [am_ll, am_ll_mem ad r (i + 1) q]
    constructor
    · rintro ⟨k, v, h1, h2⟩
      exact ⟨k + 1, v, by rw [h1, show i + 1 + k = i + (k + 1) by omega], by simpa using h2⟩
    · rintro ⟨k, v, h1, h2⟩
      cases k with
      | zero => simp at h2
      | succ k => exact ⟨k, v, by rw [h1, show i + 1 + k = i + (k + 1) by omega], by simpa using h2⟩
  | some w :: r, i, q => by
    simp only [am_ll, List.mem_cons, am_ll_mem ad r (i + 1) q]
    constructor
    · rintro (h | ⟨k, v, h1, h2⟩)
      · exact ⟨0, w, by rw [h]; rfl, by simp⟩
      · exact ⟨k + 1, v, by rw [h1, show i + 1 + k = i + (k + 1) by omega], by simpa using h2⟩
    · rintro ⟨k, v, h1, h2⟩
      cases k with
      | zero =>
        simp at h2
        left
        rw [h1, h2]; rfl
      | succ k => exact Or.inr ⟨k, v, by rw [h1, show i + 1 + k = i + (k + 1) by omega], by simpa using h2⟩
theorem am_lv.has {ls : Array Slot} {nL : Nat} {ad : Nat → Nat} {L : aL} (h : am_lv ls nL ad L) : lv_has ls nL (am_ll ad 0 L) := by
  refine ⟨h.1, h.2.1, fun q hq => ?_⟩
  obtain ⟨k, v, h1, h2⟩ := (am_ll_mem ad L 0 q).mp hq
  rw [h1]
  simp only [Nat.zero_add]
  exact h.2.2 k v h2
theorem am_v_cat (ad : Nat → Nat) (v : Value) : (am_v ad v).category = v.category := by cases v <;> rfl
/-- no long is cut by a store at i -/
def am_c1 (v : Value) : Bool := match v with
  | .long _ => false
  | .double _ => false
  | _ => true
def am_cut (L : aL) (i : Nat) : Bool := match i with
  | 0 => true
  | k + 1 => match L[k]? with
    | some (some v) => am_c1 v
    | _ => true
theorem am_cut_0 (L : aL) : am_cut L 0 = true := rfl
theorem am_cut_s (L : aL) (k : Nat) : am_cut L (k + 1) = match L[k]? with
    | some (some v) => am_c1 v
    | _ => true := rfl
theorem am_cut_of {L : aL} {i k : Nat} {v : Value} (h : am_cut L i = true) (hk : L[k]? = some (some v)) (hi : k + 1 = i) : ¬ v.category = 2 := by
  subst hi
  simp only [am_cut, hk] at h
  cases v <;> first | (cases h; done) | (intro q; cases q)
theorem am_lv.set1 {ls ls' : Array Slot} {nL i : Nat} {ad : Nat → Nat} {L : aL} {v : Value} (h : am_lv ls nL ad L) (hc : am_cut L i = true)
    (h' : lv_has ls' nL ((i, am_v ad v) :: (am_ll ad 0 L).filter (fun q => !(q.1 == i) && !(q.1 + 1 == i && q.2.category == 2)))) : am_lv ls' nL ad (L.set i (some v)) := by
  refine ⟨h'.1, h'.2.1, fun k w hk => ?_⟩
  by_cases hki : k = i
  · subst hki
    have hl : k < L.length := by
      have := (List.getElem?_eq_some_iff.mp hk).1
      simpa using this
    rw [List.getElem?_set_self hl] at hk
    have : v = w := by simpa using hk
    subst this
    exact h'.2.2 _ List.mem_cons_self
  · rw [List.getElem?_set_ne (fun q => hki q.symm)] at hk
    refine h'.2.2 (k, am_v ad w) (List.mem_cons_of_mem _ (List.mem_filter.mpr ⟨(am_ll_mem ad L 0 _).mpr ⟨k, w, by simp, hk⟩, ?_⟩))
    have h2 : k + 1 = i → ¬ w.category = 2 := fun e => am_cut_of hc hk e
    simp only [am_v_cat, Bool.and_eq_true, Bool.not_eq_true', beq_eq_false_iff_ne, Bool.and_eq_false_iff]
    refine ⟨hki, ?_⟩
    by_cases e : k + 1 = i
    · exact Or.inr (h2 e)
    · exact Or.inl e
theorem am_lv.set2 {ls ls' : Array Slot} {nL i : Nat} {ad : Nat → Nat} {L : aL} {v : Value} (h : am_lv ls nL ad L) (hc : am_cut L i = true)
    (h' : lv_has ls' nL ((i, am_v ad v) :: (am_ll ad 0 L).filter (fun q => !(q.1 == i) && (!(q.1 == i + 1) && !(q.1 + 1 == i && q.2.category == 2))))) : am_lv ls' nL ad ((L.set i (some v)).set (i + 1) none) := by
  refine ⟨h'.1, h'.2.1, fun k w hk => ?_⟩
  by_cases hk1 : k = i + 1
  · subst hk1
    have hl : i + 1 < (L.set i (some v)).length := by
      have := (List.getElem?_eq_some_iff.mp hk).1
      simpa using this
    rw [List.getElem?_set_self hl] at hk
    simp at hk
  rw [List.getElem?_set_ne (fun q => hk1 q.symm)] at hk
  by_cases hki : k = i
  · subst hki
    have hl : k < L.length := by
      have := (List.getElem?_eq_some_iff.mp hk).1
      simpa using this
    rw [List.getElem?_set_self hl] at hk
    have : v = w := by simpa using hk
    subst this
    exact h'.2.2 _ List.mem_cons_self
  · rw [List.getElem?_set_ne (fun q => hki q.symm)] at hk
    refine h'.2.2 (k, am_v ad w) (List.mem_cons_of_mem _ (List.mem_filter.mpr ⟨(am_ll_mem ad L 0 _).mpr ⟨k, w, by simp, hk⟩, ?_⟩))
    have h2 : k + 1 = i → ¬ w.category = 2 := fun e => am_cut_of hc hk e
    simp only [am_v_cat, Bool.and_eq_true, Bool.not_eq_true', beq_eq_false_iff_ne, Bool.and_eq_false_iff]
    refine ⟨hki, hk1, ?_⟩
    by_cases e : k + 1 = i
    · exact Or.inr (h2 e)
    · exact Or.inl e
end
section
/-! the instructions; nx is where the next one stands -/
def ai_const (v : Int32) (nx : Nat) : aI := fun j _ _ L S M => j nx L (.int v :: S) M
def ai_lconst (v : Int64) (nx : Nat) : aI := fun j _ _ L S M => j nx L (.long v :: S) M
def ai_iload (k nx : Nat) : aI := fun j _ _ L S M => match L[k]? with
  | some (some (.int x)) => j nx L (.int x :: S) M
  | _ => False
def ai_aload (k nx : Nat) : aI := fun j _ _ L S M => match L[k]? with
  | some (some (.ref x)) => j nx L (.ref x :: S) M
  | _ => False
def ai_lload (k nx : Nat) : aI := fun j _ _ L S M => match L[k]? with
  | some (some (.long x)) => j nx L (.long x :: S) M
  | _ => False
def ai_istore (k nx : Nat) : aI := fun j _ _ L S M => match S with
  | .int x :: S => am_cut L k = true ∧ j nx (L.set k (some (.int x))) S M
  | _ => False
def ai_astore (k nx : Nat) : aI := fun j _ _ L S M => match S with
  | .ref x :: S => am_cut L k = true ∧ j nx (L.set k (some (.ref x))) S M
  | _ => False
def ai_lstore (k nx : Nat) : aI := fun j _ _ L S M => match S with
  | .long x :: S => am_cut L k = true ∧ j nx ((L.set k (some (.long x))).set (k + 1) none) S M
  | _ => False
def ai_iinc (k : Nat) (v : Int32) (nx : Nat) : aI := fun j _ _ L S M => match L[k]? with
  | some (some (.int x)) => am_cut L k = true ∧ j nx (L.set k (some (.int (x + v)))) S M
  | _ => False
def ai_bin (f : Int32 → Int32 → Int32) (nx : Nat) : aI := fun j _ _ L S M => match S with
  | .int y :: .int x :: S => j nx L (.int (f x y) :: S) M
  | _ => False
def ai_iadd (nx : Nat) : aI := ai_bin (fun x y => x + y) nx
def ai_isub (nx : Nat) : aI := ai_bin (fun x y => x - y) nx
def ai_imul (nx : Nat) : aI := ai_bin (fun x y => x * y) nx
def ai_iand (nx : Nat) : aI := ai_bin (fun x y => x &&& y) nx
def ai_ior (nx : Nat) : aI := ai_bin (fun x y => x ||| y) nx
def ai_idiv (nx : Nat) : aI := fun j _ _ L S M => match S with
  | .int y :: .int x :: S => ¬ y = 0 ∧ j nx L (.int (x / y) :: S) M
  | _ => False
def ai_irem (nx : Nat) : aI := fun j _ _ L S M => match S with
  | .int y :: .int x :: S => ¬ y = 0 ∧ j nx L (.int (x - x / y * y) :: S) M
  | _ => False
def ai_ineg (nx : Nat) : aI := fun j _ _ L S M => match S with
  | .int x :: S => j nx L (.int (-x) :: S) M
  | _ => False
def ai_lbin (f : Int64 → Int64 → Int64) (nx : Nat) : aI := fun j _ _ L S M => match S with
  | .long y :: .long x :: S => j nx L (.long (f x y) :: S) M
  | _ => False
def ai_lor (nx : Nat) : aI := ai_lbin (fun x y => x ||| y) nx
def ai_land (nx : Nat) : aI := ai_lbin (fun x y => x &&& y) nx
def ai_ladd (nx : Nat) : aI := ai_lbin (fun x y => x + y) nx
def ai_lushr (nx : Nat) : aI := fun j _ _ L S M => match S with
  | .int y :: .long x :: S => j nx L (.long ((x.toUInt64 >>> (y.toInt64.toUInt64 &&& Int64.toUInt64 63)).toInt64) :: S) M
  | _ => False
def ai_lshl (nx : Nat) : aI := fun j _ _ L S M => match S with
  | .int y :: .long x :: S => j nx L (.long (x <<< (y.toInt64 &&& 63)) :: S) M
  | _ => False
def ai_lshr (nx : Nat) : aI := fun j _ _ L S M => match S with
  | .int y :: .long x :: S => j nx L (.long (x >>> (y.toInt64 &&& 63)) :: S) M
  | _ => False
def ai_ishl (nx : Nat) : aI := ai_bin (fun x y => x <<< (y &&& 31)) nx
def ai_ishr (nx : Nat) : aI := ai_bin (fun x y => x >>> (y &&& 31)) nx
def ai_i2l (nx : Nat) : aI := fun j _ _ L S M => match S with
  | .int x :: S => j nx L (.long x.toInt64 :: S) M
  | _ => False
def ai_l2i (nx : Nat) : aI := fun j _ _ L S M => match S with
  | .long x :: S => j nx L (.int x.toInt32 :: S) M
  | _ => False
def ai_dup (nx : Nat) : aI := fun j _ _ L S M => match S with
  | v :: S => am_c1 v = true ∧ j nx L (v :: v :: S) M
  | _ => False
def ai_dup2 (nx : Nat) : aI := fun j _ _ L S M => match S with
  | v :: w :: S => am_c1 v = true ∧ am_c1 w = true ∧ j nx L (v :: w :: v :: w :: S) M
  | _ => False
def ai_dup_x1 (nx : Nat) : aI := fun j _ _ L S M => match S with
  | v :: w :: S => am_c1 v = true ∧ am_c1 w = true ∧ j nx L (v :: w :: v :: S) M
  | _ => False
def ai_dup_x2 (nx : Nat) : aI := fun j _ _ L S M => match S with
  | v :: w :: u :: S => am_c1 v = true ∧ am_c1 w = true ∧ am_c1 u = true ∧ j nx L (v :: w :: u :: v :: S) M
  | _ => False
def ai_pop (nx : Nat) : aI := fun j _ _ L S M => match S with
  | v :: S => am_c1 v = true ∧ j nx L S M
  | _ => False
def ai_ifeq (tg nx : Nat) : aI := fun j _ _ L S M => match S with
  | .int x :: S => if x = 0 then j tg L S M else j nx L S M
  | _ => False
def ai_ifne (tg nx : Nat) : aI := fun j _ _ L S M => match S with
  | .int x :: S => if x = 0 then j nx L S M else j tg L S M
  | _ => False
def ai_iflt (tg nx : Nat) : aI := fun j _ _ L S M => match S with
  | .int x :: S => if x < 0 then j tg L S M else j nx L S M
  | _ => False
def ai_ifge (tg nx : Nat) : aI := fun j _ _ L S M => match S with
  | .int x :: S => if 0 ≤ x then j tg L S M else j nx L S M
  | _ => False
def ai_ifgt (tg nx : Nat) : aI := fun j _ _ L S M => match S with
  | .int x :: S => if 0 < x then j tg L S M else j nx L S M
  | _ => False
def ai_ifle (tg nx : Nat) : aI := fun j _ _ L S M => match S with
  | .int x :: S => if x ≤ 0 then j tg L S M else j nx L S M
  | _ => False
def ai_cmpeq (tg nx : Nat) : aI := fun j _ _ L S M => match S with
  | .int y :: .int x :: S => if x = y then j tg L S M else j nx L S M
  | _ => False
def ai_cmpne (tg nx : Nat) : aI := fun j _ _ L S M => match S with
  | .int y :: .int x :: S => if x = y then j nx L S M else j tg L S M
  | _ => False
def ai_cmplt (tg nx : Nat) : aI := fun j _ _ L S M => match S with
  | .int y :: .int x :: S => if x < y then j tg L S M else j nx L S M
  | _ => False
def ai_cmpge (tg nx : Nat) : aI := fun j _ _ L S M => match S with
  | .int y :: .int x :: S => if x < y then j nx L S M else j tg L S M
  | _ => False
def ai_cmpgt (tg nx : Nat) : aI := fun j _ _ L S M => match S with
  | .int y :: .int x :: S => if y < x then j tg L S M else j nx L S M
  | _ => False
def ai_cmple (tg nx : Nat) : aI := fun j _ _ L S M => match S with
  | .int y :: .int x :: S => if y < x then j nx L S M else j tg L S M
  | _ => False
def ai_lcmp (nx : Nat) : aI := fun j _ _ L S M => match S with
  | .long y :: .long x :: S => j nx L (.int (lg_cmp x y) :: S) M
  | _ => False
def ai_goto (tg : Nat) : aI := fun j _ _ L S M => j tg L S M
def am_sw (x : Int32) (d : Nat) (f : Nat → Prop) : List (Int32 × Nat) → Prop
  | [] => f d
  | q :: r => if x = q.1 then f q.2 else am_sw x d f r
def am_tg (x : Int32) (d : Nat) : List (Int32 × Nat) → Nat
  | [] => d
  | q :: r => if x = q.1 then q.2 else am_tg x d r
def ai_switch (cs : List (Int32 × Nat)) (d : Nat) : aI := fun j _ _ L S M => match S with
  | .int x :: S => am_sw x d (fun t => j t L S M) cs
  | _ => False
def am_fd (a ci k : Nat) : Option (Option Value) := match SH[a]? with
  | some (.inr q) => if q.1 = ci then q.2[k]? else none
  | _ => none
def am_ln (a : Nat) : Option Nat := match SH[a]? with
  | some (.inl n) => some n
  | _ => none
def am_kd (a ci : Nat) : Bool := match SH[a]? with
  | some (.inr q) => q.1 == ci
  | _ => false
def ai_getf (ci k nx : Nat) : aI := fun j _ _ L S M => match S with
  | .ref a :: S => match am_fd a ci k with
    | some none => j nx L (.int (M a k) :: S) M
    | some (some v) => j nx L (v :: S) M
    | none => False
  | _ => False
def ai_putf (ci k nx : Nat) : aI := fun j _ _ L S M => match S with
  | .int x :: .ref a :: S => am_fd a ci k = some none ∧ j nx L S (am_up M a k x)
  | _ => False
def ai_iald (nx : Nat) : aI := fun j _ _ L S M => match S with
  | .int i :: .ref a :: S => match am_ln a with
    | some n => vp_in i n ∧ j nx L (.int (M a i.toNatClampNeg) :: S) M
    | none => False
  | _ => False
def ai_iast (nx : Nat) : aI := fun j _ _ L S M => match S with
  | .int x :: .int i :: .ref a :: S => match am_ln a with
    | some n => vp_in i n ∧ j nx L S (am_up M a i.toNatClampNeg x)
    | none => False
  | _ => False
def ai_alen (nx : Nat) : aI := fun j _ _ L S M => match S with
  | .ref a :: S => match am_ln a with
    | some n => j nx L (.int (Int32.ofNat n) :: S) M
    | none => False
  | _ => False
/-- an array outside the world -/
def ai_xald (a n : Nat) (f : Nat → Int32) (nx : Nat) : aI := fun j _ _ L S M => match S with
  | .int i :: .ref b :: S => b = a ∧ vp_in i n ∧ j nx L (.int (f i.toNatClampNeg) :: S) M
  | _ => False
def ai_xlen (a n : Nat) (nx : Nat) : aI := fun j _ _ L S M => match S with
  | .ref b :: S => b = a ∧ j nx L (.int (Int32.ofNat n) :: S) M
  | _ => False
def ai_gets (v : Value) (nx : Nat) : aI := fun j _ _ L S M => j nx L (v :: S) M
def am_few (S : List Value) : Prop := match S with
  | [] => True
  | [_] => True
  | [_, _] => True
  | [_, _, _] => True
  | [_, _, _, _] => True
  | _ => False
def am_push (r : Option Value) (S : List Value) : List Value := match r with
  | none => S
  | some v => v :: S
/-- calls of an object of kind ci, with 0 to 3 values behind it; of a static method -/
def ai_callv1 (ci : Nat) (sp : aS) (nx : Nat) : aI := fun j _ _ L S M => match S with
  | .ref a :: S => am_kd a ci = true ∧ am_few S ∧ sp [.ref a] M (fun r M1 => j nx L (am_push r S) M1)
  | _ => False
def ai_callv2 (ci : Nat) (sp : aS) (nx : Nat) : aI := fun j _ _ L S M => match S with
  | x :: .ref a :: S => am_kd a ci = true ∧ am_few S ∧ sp [.ref a, x] M (fun r M1 => j nx L (am_push r S) M1)
  | _ => False
def ai_callv3 (ci : Nat) (sp : aS) (nx : Nat) : aI := fun j _ _ L S M => match S with
  | y :: x :: .ref a :: S => am_kd a ci = true ∧ am_few S ∧ sp [.ref a, x, y] M (fun r M1 => j nx L (am_push r S) M1)
  | _ => False
def ai_callv4 (ci : Nat) (sp : aS) (nx : Nat) : aI := fun j _ _ L S M => match S with
  | z :: y :: x :: .ref a :: S => am_kd a ci = true ∧ am_few S ∧ sp [.ref a, x, y, z] M (fun r M1 => j nx L (am_push r S) M1)
  | _ => False
def ai_calls1 (sp : aS) (nx : Nat) : aI := fun j _ _ L S M => match S with
  | x :: S => am_few S ∧ sp [x] M (fun r M1 => j nx L (am_push r S) M1)
  | _ => False
def ai_calls2 (sp : aS) (nx : Nat) : aI := fun j _ _ L S M => match S with
  | y :: x :: S => am_few S ∧ sp [x, y] M (fun r M1 => j nx L (am_push r S) M1)
  | _ => False
def ai_min (nx : Nat) : aI := fun j _ _ L S M => match S with
  | .int y :: .int x :: S => am_few S ∧ j nx L (.int (if y < x then y else x) :: S) M
  | _ => False
def ai_iret : aI := fun _ K _ _ S M => match S with
  | [.int x] => K (some (.int x)) M
  | _ => False
def ai_zret : aI := fun _ K _ _ S M => match S with
  | [.int x] => (x = 0 ∨ x = 1) ∧ K (some (.int x)) M
  | _ => False
def ai_lret : aI := fun _ K _ _ S M => match S with
  | [.long x] => K (some (.long x)) M
  | _ => False
def ai_vret : aI := fun _ K _ _ S M => match S with
  | [] => K none M
  | _ => False
def ai_bad : aI := fun _ _ _ _ _ _ => False
end
section
/-! what an instruction of the picture says of the machine -/
def am_C (G : aG) (Y : aY) (p : Program) (s : State) (m : MethodId) (args : Array Value) (meth : Method) (c : Code) : Prop :=
  am_ok G ∧ p.tables.exec = Jvm.exec ∧ c.code = Y.2.1 ∧ c.maxLocals = Y.2.2.1 ∧ meth.sig.returnType = Y.2.2.2 ∧ s.vm.findClass Y.1.cls = some m.cls ∧ (∀ w ∈ TB, w.before args s = true) ∧ meth.locks = false ∧ am_T G s ∧ am_E G (g_B G) s s.heap ∧ ∀ q, s.heap.size ≤ q → g_B G q
def am_J (G : aG) (Y : aY) (p : Program) (e : Env) (R : Room) (s : State) (m : MethodId) (args : Array Value) (below : List Frame) (meth : Method) (c : Code) (Q : State → Prop) (kc ks : Nat) : aJ := fun pc L S M =>
  ∀ (H : Heap) (locs : List Loc) (ls : Array Slot), va_P (g_D G) CL (am_W G M) H → va_S (am_A G s.heap.size) s.heap H locs → am_lv ls Y.2.2.1 (g_a G) L → W p (g_l G) e R s m args below meth c H locs kc ks Q (F0 m pc ls (S.map (am_v (g_a G))))
/-- an instruction at pc is sound for a judgement J and an end K -/
def am_S (J : aJ) (K : aR) (pc : Nat) (i : aI) : Prop := ∀ j : aJ, (∀ pc L S M, j pc L S M → J pc L S M) → ∀ L S M, i j K pc L S M → J pc L S M
section AMS
variable {G : aG} {Y : aY} {p : Program} {e : Env} {R : Room} {s : State} {m : MethodId} {args : Array Value} {below : List Frame} {meth : Method} {c : Code} {Q : State → Prop} {kc ks : Nat} {K : aR} {pc nx tg : Nat}
theorem as_iconst (C : am_C G Y p s m args meth c) {n : Int} {v : Int32} (hd : decode Y.2.1 pc = .ok (.iconst n, 1)) (hv : Int32.ofInt n = v) (hn : nx = pc + 1) : am_S (am_J G Y p e R s m args below meth c Q kc ks) K pc (ai_const v nx) := by
  obtain ⟨hG, hx, hb, hml, hr, hown, hts, hlk, hT, hE, hB⟩ := C
  subst hn
  intro j hj L S M h H locs ls hP hS hl
  exact lv_iconst hx hb hd hv (hj _ _ _ _ h H locs ls hP hS hl)
theorem as_bipush (C : am_C G Y p s m args meth c) {n : Int} {v : Int32} (hd : decode Y.2.1 pc = .ok (.bipush n, 2)) (hv : (Int8.ofInt n).toInt32 = v) (hn : nx = pc + 2) : am_S (am_J G Y p e R s m args below meth c Q kc ks) K pc (ai_const v nx) := by
  obtain ⟨hG, hx, hb, hml, hr, hown, hts, hlk, hT, hE, hB⟩ := C
  subst hn
  intro j hj L S M h H locs ls hP hS hl
  exact lv_bipush hx hb hd hv (hj _ _ _ _ h H locs ls hP hS hl)
theorem as_sipush (C : am_C G Y p s m args meth c) {n : Int} {v : Int32} (hd : decode Y.2.1 pc = .ok (.sipush n, 3)) (hv : (Int16.ofInt n).toInt32 = v) (hn : nx = pc + 3) : am_S (am_J G Y p e R s m args below meth c Q kc ks) K pc (ai_const v nx) := by
  obtain ⟨hG, hx, hb, hml, hr, hown, hts, hlk, hT, hE, hB⟩ := C
  subst hn
  intro j hj L S M h H locs ls hP hS hl
  exact lv_sipush hx hb hd hv (hj _ _ _ _ h H locs ls hP hS hl)
theorem as_ldc (C : am_C G Y p s m args meth c) {ix : Nat} {v : Int32} (hc : Cond.constant Y.1.cls ix v ∈ TB) (hd : decode Y.2.1 pc = .ok (.ldc ix, 2)) (hn : nx = pc + 2) : am_S (am_J G Y p e R s m args below meth c Q kc ks) K pc (ai_const v nx) := by
  obtain ⟨hG, hx, hb, hml, hr, hown, hts, hlk, hT, hE, hB⟩ := C
  subst hn
  intro j hj L S M h H locs ls hP hS hl
  exact lv_ldc hx hb hown (hts _ hc) hd (hj _ _ _ _ h H locs ls hP hS hl)
theorem as_ldc2 (C : am_C G Y p s m args meth c) {ix : Nat} {v : Int64} (hc : Cond.constantLong Y.1.cls ix v ∈ TB) (hd : decode Y.2.1 pc = .ok (.ldc2_w ix, 3)) (hn : nx = pc + 3) : am_S (am_J G Y p e R s m args below meth c Q kc ks) K pc (ai_lconst v nx) := by
  obtain ⟨hG, hx, hb, hml, hr, hown, hts, hlk, hT, hE, hB⟩ := C
  subst hn
  intro j hj L S M h H locs ls hP hS hl
  exact lv_ldc2 hx hb hown (hts _ hc) hd (hj _ _ _ _ h H locs ls hP hS hl)
theorem as_lconst (C : am_C G Y p s m args meth c) {n : Fin 2} {v : Int64} (hd : decode Y.2.1 pc = .ok (.lconst n, 1)) (hv : Int64.ofNat (n : Nat) = v) (hn : nx = pc + 1) : am_S (am_J G Y p e R s m args below meth c Q kc ks) K pc (ai_lconst v nx) := by
  obtain ⟨hG, hx, hb, hml, hr, hown, hts, hlk, hT, hE, hB⟩ := C
  subst hn
  intro j hj L S M h H locs ls hP hS hl
  exact lv_lconst hx hb hd hv (hj _ _ _ _ h H locs ls hP hS hl)
theorem am_ldI {L : aL} {k : Nat} {f : Int32 → Prop} (h : match L[k]? with
  | some (some (.int x)) => f x
  | _ => False) : ∃ x, L[k]? = some (some (.int x)) ∧ f x := by
  split at h
  · next x hx => exact ⟨x, hx, h⟩
  · cases h
theorem am_ldA {L : aL} {k : Nat} {f : Nat → Prop} (h : match L[k]? with
  | some (some (.ref x)) => f x
  | _ => False) : ∃ x, L[k]? = some (some (.ref x)) ∧ f x := by
  split at h
  · next x hx => exact ⟨x, hx, h⟩
  · cases h
theorem am_ldL {L : aL} {k : Nat} {f : Int64 → Prop} (h : match L[k]? with
  | some (some (.long x)) => f x
  | _ => False) : ∃ x, L[k]? = some (some (.long x)) ∧ f x := by
  split at h
  · next x hx => exact ⟨x, hx, h⟩
  · cases h
theorem as_iload_n (C : am_C G Y p s m args meth c) {q : Fin 4} {k : Nat} (hd : decode Y.2.1 pc = .ok (.iload_n q, 1)) (hk : (q : Nat) = k) (hn : nx = pc + 1) : am_S (am_J G Y p e R s m args below meth c Q kc ks) K pc (ai_iload k nx) := by
  obtain ⟨hG, hx, hb, hml, hr, hown, hts, hlk, hT, hE, hB⟩ := C
  subst hn
  intro j hj L S M h H locs ls hP hS hl
  obtain ⟨x, h1, h2⟩ := am_ldI h
  exact lv_iload_n hx hb hd hk (hl.look h1) (hj _ _ _ _ h2 H locs ls hP hS hl)
theorem as_iload (C : am_C G Y p s m args meth c) {k : Nat} (hd : decode Y.2.1 pc = .ok (.iload k, 2)) (hn : nx = pc + 2) : am_S (am_J G Y p e R s m args below meth c Q kc ks) K pc (ai_iload k nx) := by
  obtain ⟨hG, hx, hb, hml, hr, hown, hts, hlk, hT, hE, hB⟩ := C
  subst hn
  intro j hj L S M h H locs ls hP hS hl
  obtain ⟨x, h1, h2⟩ := am_ldI h
  exact lv_iload hx hb hd (hl.look h1) (hj _ _ _ _ h2 H locs ls hP hS hl)
theorem as_aload_n (C : am_C G Y p s m args meth c) {q : Fin 4} {k : Nat} (hd : decode Y.2.1 pc = .ok (.aload_n q, 1)) (hk : (q : Nat) = k) (hn : nx = pc + 1) : am_S (am_J G Y p e R s m args below meth c Q kc ks) K pc (ai_aload k nx) := by
  obtain ⟨hG, hx, hb, hml, hr, hown, hts, hlk, hT, hE, hB⟩ := C
  subst hn
  intro j hj L S M h H locs ls hP hS hl
  obtain ⟨x, h1, h2⟩ := am_ldA h
  exact lv_aload_n hx hb hd hk (hl.look h1) (hj _ _ _ _ h2 H locs ls hP hS hl)
theorem as_aload (C : am_C G Y p s m args meth c) {k : Nat} (hd : decode Y.2.1 pc = .ok (.aload k, 2)) (hn : nx = pc + 2) : am_S (am_J G Y p e R s m args below meth c Q kc ks) K pc (ai_aload k nx) := by
  obtain ⟨hG, hx, hb, hml, hr, hown, hts, hlk, hT, hE, hB⟩ := C
  subst hn
  intro j hj L S M h H locs ls hP hS hl
  obtain ⟨x, h1, h2⟩ := am_ldA h
  exact lv_aload hx hb hd (hl.look h1) (hj _ _ _ _ h2 H locs ls hP hS hl)
theorem as_lload_n (C : am_C G Y p s m args meth c) {q : Fin 4} {k : Nat} (hd : decode Y.2.1 pc = .ok (.lload_n q, 1)) (hk : (q : Nat) = k) (hn : nx = pc + 1) : am_S (am_J G Y p e R s m args below meth c Q kc ks) K pc (ai_lload k nx) := by
  obtain ⟨hG, hx, hb, hml, hr, hown, hts, hlk, hT, hE, hB⟩ := C
  subst hn
  intro j hj L S M h H locs ls hP hS hl
  obtain ⟨x, h1, h2⟩ := am_ldL h
  exact lv_lload_n hx hb hd hk (hl.look h1) (hj _ _ _ _ h2 H locs ls hP hS hl)
theorem as_lload (C : am_C G Y p s m args meth c) {k : Nat} (hd : decode Y.2.1 pc = .ok (.lload k, 2)) (hn : nx = pc + 2) : am_S (am_J G Y p e R s m args below meth c Q kc ks) K pc (ai_lload k nx) := by
  obtain ⟨hG, hx, hb, hml, hr, hown, hts, hlk, hT, hE, hB⟩ := C
  subst hn
  intro j hj L S M h H locs ls hP hS hl
  obtain ⟨x, h1, h2⟩ := am_ldL h
  exact lv_lload hx hb hd (hl.look h1) (hj _ _ _ _ h2 H locs ls hP hS hl)
theorem as_istore_n (C : am_C G Y p s m args meth c) {q : Fin 4} {k : Nat} (hd : decode Y.2.1 pc = .ok (.istore_n q, 1)) (hk : (q : Nat) = k) (hm : k < Y.2.2.1) (hn : nx = pc + 1) : am_S (am_J G Y p e R s m args below meth c Q kc ks) K pc (ai_istore k nx) := by
  obtain ⟨hG, hx, hb, hml, hr, hown, hts, hlk, hT, hE, hB⟩ := C
  subst hn
  intro j hj L S M h H locs ls hP hS hl
  unfold ai_istore at h
  split at h
  · next x S' =>
    exact lv_istore_n hx hb hd hk hl.has hm rfl (fun ls' h' => hj _ _ _ _ h.2 H locs ls' hP hS (hl.set1 (v := .int x) h.1 h'))
  · cases h
theorem as_istore (C : am_C G Y p s m args meth c) {k : Nat} (hd : decode Y.2.1 pc = .ok (.istore k, 2)) (hm : k < Y.2.2.1) (hn : nx = pc + 2) : am_S (am_J G Y p e R s m args below meth c Q kc ks) K pc (ai_istore k nx) := by
  obtain ⟨hG, hx, hb, hml, hr, hown, hts, hlk, hT, hE, hB⟩ := C
  subst hn
  intro j hj L S M h H locs ls hP hS hl
  unfold ai_istore at h
  split at h
  · next x S' =>
    exact lv_istore hx hb hd hl.has hm rfl (fun ls' h' => hj _ _ _ _ h.2 H locs ls' hP hS (hl.set1 (v := .int x) h.1 h'))
  · cases h
theorem as_astore_n (C : am_C G Y p s m args meth c) {q : Fin 4} {k : Nat} (hd : decode Y.2.1 pc = .ok (.astore_n q, 1)) (hk : (q : Nat) = k) (hm : k < Y.2.2.1) (hn : nx = pc + 1) : am_S (am_J G Y p e R s m args below meth c Q kc ks) K pc (ai_astore k nx) := by
  obtain ⟨hG, hx, hb, hml, hr, hown, hts, hlk, hT, hE, hB⟩ := C
  subst hn
  intro j hj L S M h H locs ls hP hS hl
  unfold ai_astore at h
  split at h
  · next x S' =>
    exact lv_astore_n hx hb hd hk hl.has hm rfl (fun ls' h' => hj _ _ _ _ h.2 H locs ls' hP hS (hl.set1 (v := .ref x) h.1 h'))
  · cases h
theorem as_astore (C : am_C G Y p s m args meth c) {k : Nat} (hd : decode Y.2.1 pc = .ok (.astore k, 2)) (hm : k < Y.2.2.1) (hn : nx = pc + 2) : am_S (am_J G Y p e R s m args below meth c Q kc ks) K pc (ai_astore k nx) := by
  obtain ⟨hG, hx, hb, hml, hr, hown, hts, hlk, hT, hE, hB⟩ := C
  subst hn
  intro j hj L S M h H locs ls hP hS hl
  unfold ai_astore at h
  split at h
  · next x S' =>
    exact lv_astore hx hb hd hl.has hm rfl (fun ls' h' => hj _ _ _ _ h.2 H locs ls' hP hS (hl.set1 (v := .ref x) h.1 h'))
  · cases h
theorem as_lstore_n (C : am_C G Y p s m args meth c) {q : Fin 4} {k : Nat} (hd : decode Y.2.1 pc = .ok (.lstore_n q, 1)) (hk : (q : Nat) = k) (hm : k + 1 < Y.2.2.1) (hn : nx = pc + 1) : am_S (am_J G Y p e R s m args below meth c Q kc ks) K pc (ai_lstore k nx) := by
  obtain ⟨hG, hx, hb, hml, hr, hown, hts, hlk, hT, hE, hB⟩ := C
  subst hn
  intro j hj L S M h H locs ls hP hS hl
  unfold ai_lstore at h
  split at h
  · next x S' =>
    exact lv_lstore_n hx hb hd hk hl.has hm rfl (fun ls' h' => hj _ _ _ _ h.2 H locs ls' hP hS (hl.set2 (v := .long x) h.1 h'))
  · cases h
theorem as_lstore (C : am_C G Y p s m args meth c) {k : Nat} (hd : decode Y.2.1 pc = .ok (.lstore k, 2)) (hm : k + 1 < Y.2.2.1) (hn : nx = pc + 2) : am_S (am_J G Y p e R s m args below meth c Q kc ks) K pc (ai_lstore k nx) := by
  obtain ⟨hG, hx, hb, hml, hr, hown, hts, hlk, hT, hE, hB⟩ := C
  subst hn
  intro j hj L S M h H locs ls hP hS hl
  unfold ai_lstore at h
  split at h
  · next x S' =>
    exact lv_lstore hx hb hd hl.has hm rfl (fun ls' h' => hj _ _ _ _ h.2 H locs ls' hP hS (hl.set2 (v := .long x) h.1 h'))
  · cases h
theorem as_iinc (C : am_C G Y p s m args meth c) {k : Nat} {n : Int} {v : Int32} (hd : decode Y.2.1 pc = .ok (.iinc k n, 3)) (hv : Int32.ofInt n = v) (hm : k < Y.2.2.1) (hn : nx = pc + 3) : am_S (am_J G Y p e R s m args below meth c Q kc ks) K pc (ai_iinc k v nx) := by
  obtain ⟨hG, hx, hb, hml, hr, hown, hts, hlk, hT, hE, hB⟩ := C
  subst hn
  subst hv
  intro j hj L S M h H locs ls hP hS hl
  obtain ⟨x, h1, h2⟩ := am_ldI (f := fun x => am_cut L k = true ∧ j (pc + 3) (L.set k (some (.int (x + Int32.ofInt n)))) S M) h
  have hmem : (k, Value.int x) ∈ am_ll (g_a G) 0 L := (am_ll_mem (g_a G) L 0 _).mpr ⟨k, .int x, by simp [am_v], h1⟩
  obtain ⟨i, hi⟩ := List.getElem?_of_mem hmem
  exact lv_iinc hx hb hd hl.has hi rfl hm rfl (fun ls' h' => hj _ _ _ _ h2.2 H locs ls' hP hS (hl.set1 (v := .int (x + Int32.ofInt n)) h2.1 h'))
theorem as_iadd (C : am_C G Y p s m args meth c) (hd : decode Y.2.1 pc = .ok (.iadd, 1)) (hn : nx = pc + 1) : am_S (am_J G Y p e R s m args below meth c Q kc ks) K pc (ai_iadd nx) := by
  obtain ⟨hG, hx, hb, hml, hr, hown, hts, hlk, hT, hE, hB⟩ := C
  subst hn
  intro j hj L S M h H locs ls hP hS hl
  unfold ai_iadd at h
  unfold ai_bin at h
  split at h
  · exact lv_iadd hx hb hd (hj _ _ _ _ h H locs ls hP hS hl)
  · cases h
theorem as_isub (C : am_C G Y p s m args meth c) (hd : decode Y.2.1 pc = .ok (.isub, 1)) (hn : nx = pc + 1) : am_S (am_J G Y p e R s m args below meth c Q kc ks) K pc (ai_isub nx) := by
  obtain ⟨hG, hx, hb, hml, hr, hown, hts, hlk, hT, hE, hB⟩ := C
  subst hn
  intro j hj L S M h H locs ls hP hS hl
  unfold ai_isub at h
  unfold ai_bin at h
  split at h
  · exact lv_isub hx hb hd (hj _ _ _ _ h H locs ls hP hS hl)
  · cases h
theorem as_imul (C : am_C G Y p s m args meth c) (hd : decode Y.2.1 pc = .ok (.imul, 1)) (hn : nx = pc + 1) : am_S (am_J G Y p e R s m args below meth c Q kc ks) K pc (ai_imul nx) := by
  obtain ⟨hG, hx, hb, hml, hr, hown, hts, hlk, hT, hE, hB⟩ := C
  subst hn
  intro j hj L S M h H locs ls hP hS hl
  unfold ai_imul at h
  unfold ai_bin at h
  split at h
  · exact lv_imul hx hb hd (hj _ _ _ _ h H locs ls hP hS hl)
  · cases h
theorem as_iand (C : am_C G Y p s m args meth c) (hd : decode Y.2.1 pc = .ok (.iand, 1)) (hn : nx = pc + 1) : am_S (am_J G Y p e R s m args below meth c Q kc ks) K pc (ai_iand nx) := by
  obtain ⟨hG, hx, hb, hml, hr, hown, hts, hlk, hT, hE, hB⟩ := C
  subst hn
  intro j hj L S M h H locs ls hP hS hl
  unfold ai_iand at h
  unfold ai_bin at h
  split at h
  · exact lv_iand hx hb hd (hj _ _ _ _ h H locs ls hP hS hl)
  · cases h
theorem as_ior (C : am_C G Y p s m args meth c) (hd : decode Y.2.1 pc = .ok (.ior, 1)) (hn : nx = pc + 1) : am_S (am_J G Y p e R s m args below meth c Q kc ks) K pc (ai_ior nx) := by
  obtain ⟨hG, hx, hb, hml, hr, hown, hts, hlk, hT, hE, hB⟩ := C
  subst hn
  intro j hj L S M h H locs ls hP hS hl
  unfold ai_ior at h
  unfold ai_bin at h
  split at h
  · exact lv_ior hx hb hd (hj _ _ _ _ h H locs ls hP hS hl)
  · cases h
theorem as_ishl (C : am_C G Y p s m args meth c) (hd : decode Y.2.1 pc = .ok (.ishl, 1)) (hn : nx = pc + 1) : am_S (am_J G Y p e R s m args below meth c Q kc ks) K pc (ai_ishl nx) := by
  obtain ⟨hG, hx, hb, hml, hr, hown, hts, hlk, hT, hE, hB⟩ := C
  subst hn
  intro j hj L S M h H locs ls hP hS hl
  unfold ai_ishl at h
  unfold ai_bin at h
  split at h
  · exact lv_ishl hx hb hd (hj _ _ _ _ h H locs ls hP hS hl)
  · cases h
theorem as_ishr (C : am_C G Y p s m args meth c) (hd : decode Y.2.1 pc = .ok (.ishr, 1)) (hn : nx = pc + 1) : am_S (am_J G Y p e R s m args below meth c Q kc ks) K pc (ai_ishr nx) := by
  obtain ⟨hG, hx, hb, hml, hr, hown, hts, hlk, hT, hE, hB⟩ := C
  subst hn
  intro j hj L S M h H locs ls hP hS hl
  unfold ai_ishr at h
  unfold ai_bin at h
  split at h
  · exact lv_ishr hx hb hd (hj _ _ _ _ h H locs ls hP hS hl)
  · cases h
theorem as_idiv (C : am_C G Y p s m args meth c) (hd : decode Y.2.1 pc = .ok (.idiv, 1)) (hn : nx = pc + 1) : am_S (am_J G Y p e R s m args below meth c Q kc ks) K pc (ai_idiv nx) := by
  obtain ⟨hG, hx, hb, hml, hr, hown, hts, hlk, hT, hE, hB⟩ := C
  subst hn
  intro j hj L S M h H locs ls hP hS hl
  unfold ai_idiv at h
  split at h
  · exact lv_idiv hx hb hd h.1 (hj _ _ _ _ h.2 H locs ls hP hS hl)
  · cases h
theorem as_irem (C : am_C G Y p s m args meth c) (hd : decode Y.2.1 pc = .ok (.irem, 1)) (hn : nx = pc + 1) : am_S (am_J G Y p e R s m args below meth c Q kc ks) K pc (ai_irem nx) := by
  obtain ⟨hG, hx, hb, hml, hr, hown, hts, hlk, hT, hE, hB⟩ := C
  subst hn
  intro j hj L S M h H locs ls hP hS hl
  unfold ai_irem at h
  split at h
  · exact lv_irem hx hb hd h.1 (hj _ _ _ _ h.2 H locs ls hP hS hl)
  · cases h
theorem as_ineg (C : am_C G Y p s m args meth c) (hd : decode Y.2.1 pc = .ok (.ineg, 1)) (hn : nx = pc + 1) : am_S (am_J G Y p e R s m args below meth c Q kc ks) K pc (ai_ineg nx) := by
  obtain ⟨hG, hx, hb, hml, hr, hown, hts, hlk, hT, hE, hB⟩ := C
  subst hn
  intro j hj L S M h H locs ls hP hS hl
  unfold ai_ineg at h
  split at h
  · exact lv_ineg hx hb hd (hj _ _ _ _ h H locs ls hP hS hl)
  · cases h
theorem as_lor (C : am_C G Y p s m args meth c) (hd : decode Y.2.1 pc = .ok (.lor, 1)) (hn : nx = pc + 1) : am_S (am_J G Y p e R s m args below meth c Q kc ks) K pc (ai_lor nx) := by
  obtain ⟨hG, hx, hb, hml, hr, hown, hts, hlk, hT, hE, hB⟩ := C
  subst hn
  intro j hj L S M h H locs ls hP hS hl
  unfold ai_lor at h
  unfold ai_lbin at h
  split at h
  · exact lv_lor hx hb hd (hj _ _ _ _ h H locs ls hP hS hl)
  · cases h
theorem as_land (C : am_C G Y p s m args meth c) (hd : decode Y.2.1 pc = .ok (.land, 1)) (hn : nx = pc + 1) : am_S (am_J G Y p e R s m args below meth c Q kc ks) K pc (ai_land nx) := by
  obtain ⟨hG, hx, hb, hml, hr, hown, hts, hlk, hT, hE, hB⟩ := C
  subst hn
  intro j hj L S M h H locs ls hP hS hl
  unfold ai_land at h
  unfold ai_lbin at h
  split at h
  · exact lv_land hx hb hd (hj _ _ _ _ h H locs ls hP hS hl)
  · cases h
theorem as_ladd (C : am_C G Y p s m args meth c) (hd : decode Y.2.1 pc = .ok (.ladd, 1)) (hn : nx = pc + 1) : am_S (am_J G Y p e R s m args below meth c Q kc ks) K pc (ai_ladd nx) := by
  obtain ⟨hG, hx, hb, hml, hr, hown, hts, hlk, hT, hE, hB⟩ := C
  subst hn
  intro j hj L S M h H locs ls hP hS hl
  unfold ai_ladd at h
  unfold ai_lbin at h
  split at h
  · exact lv_ladd hx hb hd (hj _ _ _ _ h H locs ls hP hS hl)
  · cases h
theorem as_lushr (C : am_C G Y p s m args meth c) (hd : decode Y.2.1 pc = .ok (.lushr, 1)) (hn : nx = pc + 1) : am_S (am_J G Y p e R s m args below meth c Q kc ks) K pc (ai_lushr nx) := by
  obtain ⟨hG, hx, hb, hml, hr, hown, hts, hlk, hT, hE, hB⟩ := C
  subst hn
  intro j hj L S M h H locs ls hP hS hl
  unfold ai_lushr at h
  split at h
  · exact lv_lushr hx hb hd rfl (hj _ _ _ _ h H locs ls hP hS hl)
  · cases h
theorem as_lshl (C : am_C G Y p s m args meth c) (hd : decode Y.2.1 pc = .ok (.lshl, 1)) (hn : nx = pc + 1) : am_S (am_J G Y p e R s m args below meth c Q kc ks) K pc (ai_lshl nx) := by
  obtain ⟨hG, hx, hb, hml, hr, hown, hts, hlk, hT, hE, hB⟩ := C
  subst hn
  intro j hj L S M h H locs ls hP hS hl
  unfold ai_lshl at h
  split at h
  · exact lv_lshl hx hb hd rfl (hj _ _ _ _ h H locs ls hP hS hl)
  · cases h
theorem as_lshr (C : am_C G Y p s m args meth c) (hd : decode Y.2.1 pc = .ok (.lshr, 1)) (hn : nx = pc + 1) : am_S (am_J G Y p e R s m args below meth c Q kc ks) K pc (ai_lshr nx) := by
  obtain ⟨hG, hx, hb, hml, hr, hown, hts, hlk, hT, hE, hB⟩ := C
  subst hn
  intro j hj L S M h H locs ls hP hS hl
  unfold ai_lshr at h
  split at h
  · exact lv_lshr hx hb hd rfl (hj _ _ _ _ h H locs ls hP hS hl)
  · cases h
theorem as_i2l (C : am_C G Y p s m args meth c) (hd : decode Y.2.1 pc = .ok (.i2l, 1)) (hn : nx = pc + 1) : am_S (am_J G Y p e R s m args below meth c Q kc ks) K pc (ai_i2l nx) := by
  obtain ⟨hG, hx, hb, hml, hr, hown, hts, hlk, hT, hE, hB⟩ := C
  subst hn
  intro j hj L S M h H locs ls hP hS hl
  unfold ai_i2l at h
  split at h
  · exact lv_i2l hx hb hd rfl (hj _ _ _ _ h H locs ls hP hS hl)
  · cases h
theorem as_l2i (C : am_C G Y p s m args meth c) (hd : decode Y.2.1 pc = .ok (.l2i, 1)) (hn : nx = pc + 1) : am_S (am_J G Y p e R s m args below meth c Q kc ks) K pc (ai_l2i nx) := by
  obtain ⟨hG, hx, hb, hml, hr, hown, hts, hlk, hT, hE, hB⟩ := C
  subst hn
  intro j hj L S M h H locs ls hP hS hl
  unfold ai_l2i at h
  split at h
  · exact lv_l2i hx hb hd rfl (hj _ _ _ _ h H locs ls hP hS hl)
  · cases h
theorem as_lcmp (C : am_C G Y p s m args meth c) (hd : decode Y.2.1 pc = .ok (.lcmp, 1)) (hn : nx = pc + 1) : am_S (am_J G Y p e R s m args below meth c Q kc ks) K pc (ai_lcmp nx) := by
  obtain ⟨hG, hx, hb, hml, hr, hown, hts, hlk, hT, hE, hB⟩ := C
  subst hn
  intro j hj L S M h H locs ls hP hS hl
  unfold ai_lcmp at h
  split at h
  · exact W.lcmp hx hb hd (hj _ _ _ _ h H locs ls hP hS hl)
  · cases h
theorem am_c1_cat {v : Value} (ad : Nat → Nat) (h : am_c1 v = true) : (am_v ad v).category = 1 := by cases v <;> first | (cases h; done) | rfl
theorem as_dup (C : am_C G Y p s m args meth c) (hd : decode Y.2.1 pc = .ok (.dup, 1)) (hn : nx = pc + 1) : am_S (am_J G Y p e R s m args below meth c Q kc ks) K pc (ai_dup nx) := by
  obtain ⟨hG, hx, hb, hml, hr, hown, hts, hlk, hT, hE, hB⟩ := C
  subst hn
  intro j hj L S M h H locs ls hP hS hl
  unfold ai_dup at h
  split at h
  · exact lv_dup hx hb hd (am_c1_cat _ h.1) (hj _ _ _ _ h.2 H locs ls hP hS hl)
  · cases h
theorem as_pop (C : am_C G Y p s m args meth c) (hd : decode Y.2.1 pc = .ok (.pop, 1)) (hn : nx = pc + 1) : am_S (am_J G Y p e R s m args below meth c Q kc ks) K pc (ai_pop nx) := by
  obtain ⟨hG, hx, hb, hml, hr, hown, hts, hlk, hT, hE, hB⟩ := C
  subst hn
  intro j hj L S M h H locs ls hP hS hl
  unfold ai_pop at h
  split at h
  · exact lv_pop hx hb hd (am_c1_cat _ h.1) (hj _ _ _ _ h.2 H locs ls hP hS hl)
  · cases h
theorem as_dup2 (C : am_C G Y p s m args meth c) (hd : decode Y.2.1 pc = .ok (.dup2, 1)) (hn : nx = pc + 1) : am_S (am_J G Y p e R s m args below meth c Q kc ks) K pc (ai_dup2 nx) := by
  obtain ⟨hG, hx, hb, hml, hr, hown, hts, hlk, hT, hE, hB⟩ := C
  subst hn
  intro j hj L S M h H locs ls hP hS hl
  unfold ai_dup2 at h
  split at h
  · exact lv_dup2_11 hx hb hd (am_c1_cat _ h.1) (am_c1_cat _ h.2.1) (hj _ _ _ _ h.2.2 H locs ls hP hS hl)
  · cases h
theorem as_dup_x1 (C : am_C G Y p s m args meth c) (hd : decode Y.2.1 pc = .ok (.dup_x1, 1)) (hn : nx = pc + 1) : am_S (am_J G Y p e R s m args below meth c Q kc ks) K pc (ai_dup_x1 nx) := by
  obtain ⟨hG, hx, hb, hml, hr, hown, hts, hlk, hT, hE, hB⟩ := C
  subst hn
  intro j hj L S M h H locs ls hP hS hl
  unfold ai_dup_x1 at h
  split at h
  · exact lv_dup_x1 hx hb hd (am_c1_cat _ h.1) (am_c1_cat _ h.2.1) (hj _ _ _ _ h.2.2 H locs ls hP hS hl)
  · cases h
theorem as_dup_x2 (C : am_C G Y p s m args meth c) (hd : decode Y.2.1 pc = .ok (.dup_x2, 1)) (hn : nx = pc + 1) : am_S (am_J G Y p e R s m args below meth c Q kc ks) K pc (ai_dup_x2 nx) := by
  obtain ⟨hG, hx, hb, hml, hr, hown, hts, hlk, hT, hE, hB⟩ := C
  subst hn
  intro j hj L S M h H locs ls hP hS hl
  unfold ai_dup_x2 at h
  split at h
  · exact lv_dup_x2 hx hb hd (am_c1_cat _ h.1) (am_c1_cat _ h.2.1) (am_c1_cat _ h.2.2.1) (hj _ _ _ _ h.2.2.2 H locs ls hP hS hl)
  · cases h
theorem as_ifeq (C : am_C G Y p s m args meth c) {off : Int} (hd : decode Y.2.1 pc = .ok (.ifCond .eq off, 3)) (ht : (pc : Int) + off = (tg : Int)) (hn : nx = pc + 3) : am_S (am_J G Y p e R s m args below meth c Q kc ks) K pc (ai_ifeq tg nx) := by
  obtain ⟨hG, hx, hb, hml, hr, hown, hts, hlk, hT, hE, hB⟩ := C
  subst hn
  intro j hj L S M h H locs ls hP hS hl
  unfold ai_ifeq at h
  split at h
  · exact lv_if_eq hx hb hd ht (fun q => hj _ _ _ _ (by rw [if_pos q] at h; exact h) H locs ls hP hS hl) (fun q => hj _ _ _ _ (by rw [if_neg q] at h; exact h) H locs ls hP hS hl)
  · cases h
theorem as_ifne (C : am_C G Y p s m args meth c) {off : Int} (hd : decode Y.2.1 pc = .ok (.ifCond .ne off, 3)) (ht : (pc : Int) + off = (tg : Int)) (hn : nx = pc + 3) : am_S (am_J G Y p e R s m args below meth c Q kc ks) K pc (ai_ifne tg nx) := by
  obtain ⟨hG, hx, hb, hml, hr, hown, hts, hlk, hT, hE, hB⟩ := C
  subst hn
  intro j hj L S M h H locs ls hP hS hl
  unfold ai_ifne at h
  split at h
  · exact lv_if_ne hx hb hd ht (fun q => hj _ _ _ _ (by rw [if_neg q] at h; exact h) H locs ls hP hS hl) (fun q => hj _ _ _ _ (by rw [if_pos q] at h; exact h) H locs ls hP hS hl)
  · cases h
theorem as_iflt (C : am_C G Y p s m args meth c) {off : Int} (hd : decode Y.2.1 pc = .ok (.ifCond .lt off, 3)) (ht : (pc : Int) + off = (tg : Int)) (hn : nx = pc + 3) : am_S (am_J G Y p e R s m args below meth c Q kc ks) K pc (ai_iflt tg nx) := by
  obtain ⟨hG, hx, hb, hml, hr, hown, hts, hlk, hT, hE, hB⟩ := C
  subst hn
  intro j hj L S M h H locs ls hP hS hl
  unfold ai_iflt at h
  split at h
  · exact lv_if_lt hx hb hd ht (fun q => hj _ _ _ _ (by rw [if_pos q] at h; exact h) H locs ls hP hS hl) (fun q => hj _ _ _ _ (by rw [if_neg q] at h; exact h) H locs ls hP hS hl)
  · cases h
theorem as_ifge (C : am_C G Y p s m args meth c) {off : Int} (hd : decode Y.2.1 pc = .ok (.ifCond .ge off, 3)) (ht : (pc : Int) + off = (tg : Int)) (hn : nx = pc + 3) : am_S (am_J G Y p e R s m args below meth c Q kc ks) K pc (ai_ifge tg nx) := by
  obtain ⟨hG, hx, hb, hml, hr, hown, hts, hlk, hT, hE, hB⟩ := C
  subst hn
  intro j hj L S M h H locs ls hP hS hl
  unfold ai_ifge at h
  split at h
  · exact lv_if_ge hx hb hd ht (fun q => hj _ _ _ _ (by rw [if_pos q] at h; exact h) H locs ls hP hS hl) (fun q => hj _ _ _ _ (by rw [if_neg q] at h; exact h) H locs ls hP hS hl)
  · cases h
theorem as_ifgt (C : am_C G Y p s m args meth c) {off : Int} (hd : decode Y.2.1 pc = .ok (.ifCond .gt off, 3)) (ht : (pc : Int) + off = (tg : Int)) (hn : nx = pc + 3) : am_S (am_J G Y p e R s m args below meth c Q kc ks) K pc (ai_ifgt tg nx) := by
  obtain ⟨hG, hx, hb, hml, hr, hown, hts, hlk, hT, hE, hB⟩ := C
  subst hn
  intro j hj L S M h H locs ls hP hS hl
  unfold ai_ifgt at h
  split at h
  · exact lv_if_gt hx hb hd ht (fun q => hj _ _ _ _ (by rw [if_pos q] at h; exact h) H locs ls hP hS hl) (fun q => hj _ _ _ _ (by rw [if_neg q] at h; exact h) H locs ls hP hS hl)
  · cases h
theorem as_ifle (C : am_C G Y p s m args meth c) {off : Int} (hd : decode Y.2.1 pc = .ok (.ifCond .le off, 3)) (ht : (pc : Int) + off = (tg : Int)) (hn : nx = pc + 3) : am_S (am_J G Y p e R s m args below meth c Q kc ks) K pc (ai_ifle tg nx) := by
  obtain ⟨hG, hx, hb, hml, hr, hown, hts, hlk, hT, hE, hB⟩ := C
  subst hn
  intro j hj L S M h H locs ls hP hS hl
  unfold ai_ifle at h
  split at h
  · exact lv_if_le hx hb hd ht (fun q => hj _ _ _ _ (by rw [if_pos q] at h; exact h) H locs ls hP hS hl) (fun q => hj _ _ _ _ (by rw [if_neg q] at h; exact h) H locs ls hP hS hl)
  · cases h
theorem as_cmpeq (C : am_C G Y p s m args meth c) {off : Int} (hd : decode Y.2.1 pc = .ok (.if_icmp .eq off, 3)) (ht : (pc : Int) + off = (tg : Int)) (hn : nx = pc + 3) : am_S (am_J G Y p e R s m args below meth c Q kc ks) K pc (ai_cmpeq tg nx) := by
  obtain ⟨hG, hx, hb, hml, hr, hown, hts, hlk, hT, hE, hB⟩ := C
  subst hn
  intro j hj L S M h H locs ls hP hS hl
  unfold ai_cmpeq at h
  split at h
  · exact lv_icmp_eq hx hb hd ht (fun q => hj _ _ _ _ (by rw [if_pos q] at h; exact h) H locs ls hP hS hl) (fun q => hj _ _ _ _ (by rw [if_neg q] at h; exact h) H locs ls hP hS hl)
  · cases h
theorem as_cmpne (C : am_C G Y p s m args meth c) {off : Int} (hd : decode Y.2.1 pc = .ok (.if_icmp .ne off, 3)) (ht : (pc : Int) + off = (tg : Int)) (hn : nx = pc + 3) : am_S (am_J G Y p e R s m args below meth c Q kc ks) K pc (ai_cmpne tg nx) := by
  obtain ⟨hG, hx, hb, hml, hr, hown, hts, hlk, hT, hE, hB⟩ := C
  subst hn
  intro j hj L S M h H locs ls hP hS hl
  unfold ai_cmpne at h
  split at h
  · exact lv_icmp_ne hx hb hd ht (fun q => hj _ _ _ _ (by rw [if_neg q] at h; exact h) H locs ls hP hS hl) (fun q => hj _ _ _ _ (by rw [if_pos q] at h; exact h) H locs ls hP hS hl)
  · cases h
theorem as_cmplt (C : am_C G Y p s m args meth c) {off : Int} (hd : decode Y.2.1 pc = .ok (.if_icmp .lt off, 3)) (ht : (pc : Int) + off = (tg : Int)) (hn : nx = pc + 3) : am_S (am_J G Y p e R s m args below meth c Q kc ks) K pc (ai_cmplt tg nx) := by
  obtain ⟨hG, hx, hb, hml, hr, hown, hts, hlk, hT, hE, hB⟩ := C
  subst hn
  intro j hj L S M h H locs ls hP hS hl
  unfold ai_cmplt at h
  split at h
  · exact lv_icmp_lt hx hb hd ht (fun q => hj _ _ _ _ (by rw [if_pos q] at h; exact h) H locs ls hP hS hl) (fun q => hj _ _ _ _ (by rw [if_neg q] at h; exact h) H locs ls hP hS hl)
  · cases h
theorem as_cmpge (C : am_C G Y p s m args meth c) {off : Int} (hd : decode Y.2.1 pc = .ok (.if_icmp .ge off, 3)) (ht : (pc : Int) + off = (tg : Int)) (hn : nx = pc + 3) : am_S (am_J G Y p e R s m args below meth c Q kc ks) K pc (ai_cmpge tg nx) := by
  obtain ⟨hG, hx, hb, hml, hr, hown, hts, hlk, hT, hE, hB⟩ := C
  subst hn
  intro j hj L S M h H locs ls hP hS hl
  unfold ai_cmpge at h
  split at h
  · exact lv_icmp_ge hx hb hd ht (fun q => hj _ _ _ _ (by rw [if_neg (Int32.not_lt.mpr q)] at h; exact h) H locs ls hP hS hl) (fun q => hj _ _ _ _ (by rw [if_pos (Int32.not_le.mp q)] at h; exact h) H locs ls hP hS hl)
  · cases h
theorem as_cmpgt (C : am_C G Y p s m args meth c) {off : Int} (hd : decode Y.2.1 pc = .ok (.if_icmp .gt off, 3)) (ht : (pc : Int) + off = (tg : Int)) (hn : nx = pc + 3) : am_S (am_J G Y p e R s m args below meth c Q kc ks) K pc (ai_cmpgt tg nx) := by
  obtain ⟨hG, hx, hb, hml, hr, hown, hts, hlk, hT, hE, hB⟩ := C
  subst hn
  intro j hj L S M h H locs ls hP hS hl
  unfold ai_cmpgt at h
  split at h
  · exact lv_icmp_gt hx hb hd ht (fun q => hj _ _ _ _ (by rw [if_pos q] at h; exact h) H locs ls hP hS hl) (fun q => hj _ _ _ _ (by rw [if_neg q] at h; exact h) H locs ls hP hS hl)
  · cases h
theorem as_cmple (C : am_C G Y p s m args meth c) {off : Int} (hd : decode Y.2.1 pc = .ok (.if_icmp .le off, 3)) (ht : (pc : Int) + off = (tg : Int)) (hn : nx = pc + 3) : am_S (am_J G Y p e R s m args below meth c Q kc ks) K pc (ai_cmple tg nx) := by
  obtain ⟨hG, hx, hb, hml, hr, hown, hts, hlk, hT, hE, hB⟩ := C
  subst hn
  intro j hj L S M h H locs ls hP hS hl
  unfold ai_cmple at h
  split at h
  · exact lv_icmp_le hx hb hd ht (fun q => hj _ _ _ _ (by rw [if_neg (Int32.not_lt.mpr q)] at h; exact h) H locs ls hP hS hl) (fun q => hj _ _ _ _ (by rw [if_pos (Int32.not_le.mp q)] at h; exact h) H locs ls hP hS hl)
  · cases h
theorem as_goto (C : am_C G Y p s m args meth c) {off : Int} (hd : decode Y.2.1 pc = .ok (.goto off, 3)) (ht : (pc : Int) + off = (tg : Int)) : am_S (am_J G Y p e R s m args below meth c Q kc ks) K pc (ai_goto tg) := by
  obtain ⟨hG, hx, hb, hml, hr, hown, hts, hlk, hT, hE, hB⟩ := C
  intro j hj L S M h H locs ls hP hS hl
  exact lv_goto hx hb hd ht (hj _ _ _ _ h H locs ls hP hS hl)
theorem am_sw_tg (x : Int32) (d : Nat) (f : Nat → Prop) : ∀ cs, am_sw x d f cs → f (am_tg x d cs)
  | [], h => h
  | q :: r, h => by
    simp only [am_sw] at h
    simp only [am_tg]
    split at h
    · next e => rw [if_pos e]; exact h
    · next e => rw [if_neg e]; exact am_sw_tg x d f r h
/-- a table of keys as the code has it -/
def am_lk (pc : Nat) : List (Int × Int) → List (Int32 × Nat) → Bool
  | [], [] => true
  | a :: r, b :: t => b.1.toInt == a.1 && (pc : Int) + a.2 == (b.2 : Int) && am_lk pc r t
  | _, _ => false
theorem am_lk_of {dflt : Int} {d : Nat} (x : Int32) (hd : (pc : Int) + dflt = (d : Int)) : ∀ (ps : List (Int × Int)) (cs : List (Int32 × Nat)), am_lk pc ps cs = true → (pc : Int) + Op.lookupswitch.offset ps dflt x.toInt = ((am_tg x d cs : Nat) : Int)
  | [], [], _ => by simpa [Op.lookupswitch.offset, am_tg] using hd
  | [], _ :: _, h => by cases h
  | _ :: _, [], h => by cases h
  | a :: r, b :: t, h => by
    simp only [am_lk, Bool.and_eq_true, beq_iff_eq] at h
    obtain ⟨⟨h1, h2⟩, h3⟩ := h
    obtain ⟨a1, a2⟩ := a
    simp only [am_tg]
    rw [Op.lookupswitch.offset_cons]
    by_cases hx : x = b.1
    · rw [if_pos hx, if_pos (by rw [hx]; exact h1.symm)]
      exact h2
    · rw [if_neg hx, if_neg (fun q => hx (Int32.toInt_inj.mp (by rw [h1]; exact q.symm)))]
      exact am_lk_of x hd r t h3
theorem as_lookup (C : am_C G Y p s m args meth c) {dflt : Int} {ps : Array (Int × Int)} {len d : Nat} {cs : List (Int32 × Nat)} (hd : decode Y.2.1 pc = .ok (.lookupswitch dflt ps, len)) (hp : (ps.toList.zip (ps.toList.drop 1)).all (fun (a, next) => a.1 < next.1) = true) (hk : am_lk pc ps.toList cs = true) (ht : (pc : Int) + dflt = (d : Int)) : am_S (am_J G Y p e R s m args below meth c Q kc ks) K pc (ai_switch cs d) := by
  obtain ⟨hG, hx, hb, hml, hr, hown, hts, hlk, hT, hE, hB⟩ := C
  intro j hj L S M h H locs ls hP hS hl
  unfold ai_switch at h
  split at h
  · next x S' =>
    exact lv_lookup hx hb hd hp rfl (am_lk_of x ht _ _ hk) (hj _ _ _ _ (am_sw_tg x d (fun t => j t L S' M) cs h) H locs ls hP hS hl)
  · cases h
/-- a table of neighbours as the code has it -/
def am_tk (pc : Nat) : Int → List Int → List (Int32 × Nat) → Bool
  | _, [], [] => true
  | lo, a :: r, b :: t => b.1.toInt == lo && (pc : Int) + a == (b.2 : Int) && am_tk pc (lo + 1) r t
  | _, _, _ => false
theorem am_tk_out {d : Nat} (x : Int32) : ∀ (lo : Int) (os : List Int) (cs : List (Int32 × Nat)), am_tk pc lo os cs = true → (x.toInt < lo ∨ lo + os.length ≤ x.toInt) → am_tg x d cs = d
  | _, [], [], _, _ => rfl
  | _, [], _ :: _, h, _ => by cases h
  | _, _ :: _, [], h, _ => by cases h
  | lo, a :: r, b :: t, h, ho => by
    simp only [am_tk, Bool.and_eq_true, beq_iff_eq] at h
    obtain ⟨⟨h1, h2⟩, h3⟩ := h
    simp only [List.length_cons] at ho
    simp only [am_tg]
    rw [if_neg (fun q => by rw [q, h1] at ho; omega)]
    exact am_tk_out x (lo + 1) r t h3 (by omega)
theorem am_tk_in {d : Nat} (x : Int32) : ∀ (lo : Int) (os : List Int) (cs : List (Int32 × Nat)), am_tk pc lo os cs = true → ¬ x.toInt < lo → x.toInt < lo + os.length → ∃ off, os[(x.toInt - lo).toNat]? = some off ∧ (pc : Int) + off = ((am_tg x d cs : Nat) : Int)
  | lo, [], _, _, h1, h2 => by simp at h2; omega
  | _, _ :: _, [], h, _, _ => by cases h
  | lo, a :: r, b :: t, h, ho, h9 => by
    simp only [am_tk, Bool.and_eq_true, beq_iff_eq] at h
    obtain ⟨⟨h1, h2⟩, h3⟩ := h
    simp only [List.length_cons] at h9
    simp only [am_tg]
    by_cases hx : x = b.1
    · refine ⟨a, ?_, by rw [if_pos hx]; exact h2⟩
      rw [hx, h1]
      simp
    · have hne : ¬ x.toInt = lo := fun q => hx (Int32.toInt_inj.mp (by rw [h1]; exact q))
      obtain ⟨off, g1, g2⟩ := am_tk_in (d := d) x (lo + 1) r t h3 (by omega) (by omega)
      refine ⟨off, ?_, by rw [if_neg hx]; exact g2⟩
      rw [show (x.toInt - lo).toNat = (x.toInt - (lo + 1)).toNat + 1 by omega, List.getElem?_cons_succ]
      exact g1
theorem as_table (C : am_C G Y p s m args meth c) {dflt lo hi : Int} {offs : Array Int} {len d : Nat} {cs : List (Int32 × Nat)} (hd : decode Y.2.1 pc = .ok (.tableswitch dflt lo hi offs, len)) (hk : am_tk pc lo offs.toList cs = true) (hh : hi + 1 = lo + offs.toList.length) (ht : (pc : Int) + dflt = (d : Int)) : am_S (am_J G Y p e R s m args below meth c Q kc ks) K pc (ai_switch cs d) := by
  obtain ⟨hG, hx, hb, hml, hr, hown, hts, hlk, hT, hE, hB⟩ := C
  intro j hj L S M h H locs ls hP hS hl
  unfold ai_switch at h
  split at h
  · next x S' =>
    have hq := am_sw_tg x d (fun t => j t L S' M) cs h
    by_cases ho : x.toInt < lo ∨ hi < x.toInt
    · rw [am_tk_out (d := d) x lo _ cs hk (by omega)] at hq
      exact lv_tableOut hx hb hd ho ht (hj _ _ _ _ hq H locs ls hP hS hl)
    · obtain ⟨off, g1, g2⟩ := am_tk_in (d := d) x lo _ cs hk (by omega) (by omega)
      exact lv_tableIn hx hb hd (by omega) (by omega) (by rw [← Array.getElem?_toList]; exact g1) g2 (hj _ _ _ _ hq H locs ls hP hS hl)
  · cases h
theorem am_fd_of {a ci k : Nat} {o : Option Value} (h : am_fd a ci k = some o) : ∃ fs, SH[a]? = some (.inr (ci, fs)) ∧ fs[k]? = some o := by
  unfold am_fd at h
  split at h
  · next q hq =>
    split at h
    · next e => exact ⟨q.2, by rw [hq, ← e], h⟩
    · cases h
  · cases h
theorem am_ln_of {a n : Nat} (h : am_ln a = some n) : SH[a]? = some (.inl n) := by
  unfold am_ln at h
  split at h
  · next q hq => cases h; exact hq
  · cases h
theorem am_kd_of {a ci : Nat} (h : am_kd a ci = true) : ∃ fs, SH[a]? = some (.inr (ci, fs)) := by
  unfold am_kd at h
  split at h
  · next q hq => exact ⟨q.2, by rw [hq, ← (beq_iff_eq.mp h)]⟩
  · cases h
def am_fv (o : Option Value) (x : Int32) : Value := match o with
  | none => .int x
  | some v => v
theorem am_getf_of {ci k nx : Nat} {j : aJ} {L : aL} {S : List Value} {M : aM} (h : ai_getf ci k nx j K pc L S M) : ∃ a S1 o, S = .ref a :: S1 ∧ am_fd a ci k = some o ∧ j nx L ((am_fv o (M a k)) :: S1) M := by
  unfold ai_getf at h
  split at h
  · next a S1 =>
    split at h
    · next e => exact ⟨a, S1, none, rfl, e, h⟩
    · next v e => exact ⟨a, S1, some v, rfl, e, h⟩
    · cases h
  · cases h
theorem as_getf (C : am_C G Y p s m args meth c) {ci k ix N : Nat} {Cn : String} {T : u_T} (hcl : CL[ci]? = some (Cn, T, N)) (hin : ∀ w ∈ u_ws Cn T N, w ∈ TB) (hk : k < N) (hdc : (T k).1 = Cn) (hlink : Cond.fieldLink Y.1.cls ix Cn (T k).2.1 (T k).2.2.1 ∈ TB) (hd : decode Y.2.1 pc = .ok (.getfield ix, 3)) (hn : nx = pc + 3) : am_S (am_J G Y p e R s m args below meth c Q kc ks) K pc (ai_getf ci k nx) := by
  obtain ⟨hG, hx, hb, hml, hr, hown, hts, hlk, hT, hE, hB⟩ := C
  subst hn
  intro j hj L S M h H locs ls hP hS hl
  obtain ⟨a, S1, o, rfl, ho, h⟩ := am_getf_of h
  obtain ⟨fs, h1, h2⟩ := am_fd_of ho
  refine va_get (v := am_v (g_a G) (am_fv o (M a k))) hx hb hts hin hown hT.1 hP a (am_W_get h1) hcl k hk (hts _ hlink) (fun _ h9 => by rw [← hdc]; exact h9) ?_ hd (hj _ _ _ _ h H locs ls hP hS hl)
  rw [am_fs_get, h2]
  cases o with
  | none => simp [am_v, am_fv]
  | some v => rfl
theorem as_getfN (C : am_C G Y p s m args meth c) {ci k ix N : Nat} {Cn host : String} {T : u_T} (hcl : CL[ci]? = some (Cn, T, N)) (hin : ∀ w ∈ u_ws Cn T N, w ∈ TB) (hk : k < N) (hdc : (T k).1 = Cn) (hlink : Cond.fieldLinkNest Y.1.cls ix Cn (T k).2.1 (T k).2.2.1 host ∈ NWs) (hd : decode Y.2.1 pc = .ok (.getfield ix, 3)) (hn : nx = pc + 3) : am_S (am_J G Y p e R s m args below meth c Q kc ks) K pc (ai_getf ci k nx) := by
  obtain ⟨hG, hx, hb, hml, hr, hown, hts, hlk, hT, hE, hB⟩ := C
  subst hn
  intro j hj L S M h H locs ls hP hS hl
  obtain ⟨a, S1, o, rfl, ho, h⟩ := am_getf_of h
  obtain ⟨fs, h1, h2⟩ := am_fd_of ho
  refine va_getN (v := am_v (g_a G) (am_fv o (M a k))) hx hb hts hin hown hT.1 hP a (am_W_get h1) hcl k hk (va_Nw.use rfl (hT.2 _ hlink).2) (fun _ h9 => by rw [← hdc]; exact h9) ?_ hd (hj _ _ _ _ h H locs ls hP hS hl)
  rw [am_fs_get, h2]
  cases o with
  | none => simp [am_v, am_fv]
  | some v => rfl
theorem am_putf_of {ci k nx : Nat} {j : aJ} {L : aL} {S : List Value} {M : aM} (h : ai_putf ci k nx j K pc L S M) : ∃ x a S1, S = .int x :: .ref a :: S1 ∧ am_fd a ci k = some none ∧ j nx L S1 (am_up M a k x) := by
  unfold ai_putf at h
  split at h
  · next x a S1 => exact ⟨x, a, S1, rfl, h.1, h.2⟩
  · cases h
theorem as_putf (C : am_C G Y p s m args meth c) {ci k ix N : Nat} {Cn : String} {T : u_T} (ty0 : Nat → FieldType) (hcl : CL[ci]? = some (Cn, T, N)) (hin : ∀ w ∈ u_ws Cn T N, w ∈ TB) (hty : ∀ k, k < N → parseFieldDescriptor (T k).2.2.1 = some (ty0 k)) (hnm : ∀ a, a < N → ∀ b, b < N → a ≠ b → (T a).2.1 ≠ (T b).2.1) (hk : k < N) (hdc : (T k).1 = Cn) (hfi : (T k).2.2.2 = false) (hI : parseFieldDescriptor (T k).2.2.1 = some .int) (hlink : Cond.fieldLink Y.1.cls ix Cn (T k).2.1 (T k).2.2.1 ∈ TB) (hd : decode Y.2.1 pc = .ok (.putfield ix, 3)) (hn : nx = pc + 3) : am_S (am_J G Y p e R s m args below meth c Q kc ks) K pc (ai_putf ci k nx) := by
  obtain ⟨hG, hx, hb, hml, hr, hown, hts, hlk, hT, hE, hB⟩ := C
  subst hn
  intro j hj L S M h H locs ls hP hS hl
  obtain ⟨x, a, S1, rfl, ho, h⟩ := am_putf_of h
  obtain ⟨fs, h1, h2⟩ := am_fd_of ho
  refine va_put (v := .int x) hx hb hts hin ty0 hty hnm hown hT.1 hP (am_D hG M _) hS a (am_W_get h1) hcl k hk (hts _ hlink) (fun _ h9 => by rw [← hdc]; exact h9) hfi hI rfl rfl (by rw [am_fs_len]; exact (List.getElem?_eq_some_iff.mp h2).1) hd (fun H1 locs1 hP1 _ hS1 => ?_)
  refine hj _ _ _ _ h H1 locs1 ls ?_ hS1 hl
  rw [am_W_up h1]
  show va_P (g_D G) CL ((am_W G M).set a (g_a G a, .inr (ci, am_fs (g_a G) (upd (M a) k x) 0 fs))) H1
  rw [am_fs_upd _ _ _ h2]
  exact hP1
theorem as_putfN (C : am_C G Y p s m args meth c) {ci k ix N : Nat} {Cn host : String} {T : u_T} (ty0 : Nat → FieldType) (hcl : CL[ci]? = some (Cn, T, N)) (hin : ∀ w ∈ u_ws Cn T N, w ∈ TB) (hty : ∀ k, k < N → parseFieldDescriptor (T k).2.2.1 = some (ty0 k)) (hnm : ∀ a, a < N → ∀ b, b < N → a ≠ b → (T a).2.1 ≠ (T b).2.1) (hk : k < N) (hdc : (T k).1 = Cn) (hfi : (T k).2.2.2 = false) (hI : parseFieldDescriptor (T k).2.2.1 = some .int) (hlink : Cond.fieldLinkNest Y.1.cls ix Cn (T k).2.1 (T k).2.2.1 host ∈ NWs) (hd : decode Y.2.1 pc = .ok (.putfield ix, 3)) (hn : nx = pc + 3) : am_S (am_J G Y p e R s m args below meth c Q kc ks) K pc (ai_putf ci k nx) := by
  obtain ⟨hG, hx, hb, hml, hr, hown, hts, hlk, hT, hE, hB⟩ := C
  subst hn
  intro j hj L S M h H locs ls hP hS hl
  obtain ⟨x, a, S1, rfl, ho, h⟩ := am_putf_of h
  obtain ⟨fs, h1, h2⟩ := am_fd_of ho
  refine va_putN (v := .int x) hx hb hts hin ty0 hty hnm hown hT.1 hP (am_D hG M _) hS a (am_W_get h1) hcl k hk (va_Nw.use rfl (hT.2 _ hlink).2) (fun _ h9 => by rw [← hdc]; exact h9) hfi hI rfl rfl (by rw [am_fs_len]; exact (List.getElem?_eq_some_iff.mp h2).1) hd (fun H1 locs1 hP1 _ hS1 => ?_)
  refine hj _ _ _ _ h H1 locs1 ls ?_ hS1 hl
  rw [am_W_up h1]
  show va_P (g_D G) CL ((am_W G M).set a (g_a G a, .inr (ci, am_fs (g_a G) (upd (M a) k x) 0 fs))) H1
  rw [am_fs_upd _ _ _ h2]
  exact hP1
theorem as_iald (C : am_C G Y p s m args meth c) (hd : decode Y.2.1 pc = .ok (.iaload, 1)) (hn : nx = pc + 1) : am_S (am_J G Y p e R s m args below meth c Q kc ks) K pc (ai_iald nx) := by
  obtain ⟨hG, hx, hb, hml, hr, hown, hts, hlk, hT, hE, hB⟩ := C
  subst hn
  intro j hj L S M h H locs ls hP hS hl
  unfold ai_iald at h
  split at h
  · next i a S1 =>
    split at h
    · next n e => exact va_iald hx hb hT.1 hP a 0 (am_W_get (am_ln_of e)) rfl h.1 hd (hj _ _ _ _ h.2 H locs ls hP hS hl)
    · cases h
  · cases h
theorem as_iast (C : am_C G Y p s m args meth c) (hd : decode Y.2.1 pc = .ok (.iastore, 1)) (hn : nx = pc + 1) : am_S (am_J G Y p e R s m args below meth c Q kc ks) K pc (ai_iast nx) := by
  obtain ⟨hG, hx, hb, hml, hr, hown, hts, hlk, hT, hE, hB⟩ := C
  subst hn
  intro j hj L S M h H locs ls hP hS hl
  unfold ai_iast at h
  split at h
  · next x i a S1 =>
    split at h
    · next n e =>
      refine va_iast hx hb hT.1 hP (am_D hG M _) hS a 0 (am_W_get (am_ln_of e)) rfl h.1 hd (fun H1 locs1 hP1 _ hS1 => ?_)
      refine hj _ _ _ _ h.2 H1 locs1 ls ?_ hS1 hl
      rw [am_W_up (am_ln_of e)]
      exact hP1
    · cases h
  · cases h
theorem as_alen (C : am_C G Y p s m args meth c) (hd : decode Y.2.1 pc = .ok (.arraylength, 1)) (hn : nx = pc + 1) : am_S (am_J G Y p e R s m args below meth c Q kc ks) K pc (ai_alen nx) := by
  obtain ⟨hG, hx, hb, hml, hr, hown, hts, hlk, hT, hE, hB⟩ := C
  subst hn
  intro j hj L S M h H locs ls hP hS hl
  unfold ai_alen at h
  split at h
  · next a S1 =>
    split at h
    · next n e => exact va_alen hx hb hT.1 hP a 0 (am_W_get (am_ln_of e)) rfl rfl hd (hj _ _ _ _ h H locs ls hP hS hl)
    · cases h
  · cases h
theorem am_AB (hG : am_ok G) (hB : ∀ q, s.heap.size ≤ q → g_B G q) : ∀ q, am_A G s.heap.size q → g_B G q := by
  intro q h
  rcases h with ⟨i, h1, h2⟩ | h
  · rw [h2]; exact hG.2 i h1
  · exact hB q h
theorem as_xald (C : am_C G Y p s m args meth c) {a n : Nat} {f : Nat → Int32} (hm : (a, n, f) ∈ am_XA G) (hd : decode Y.2.1 pc = .ok (.iaload, 1)) (hn : nx = pc + 1) : am_S (am_J G Y p e R s m args below meth c Q kc ks) K pc (ai_xald a n f nx) := by
  obtain ⟨hG, hx, hb, hml, hr, hown, hts, hlk, hT, hE, hB⟩ := C
  subst hn
  intro j hj L S M h H locs ls hP hS hl
  unfold ai_xald at h
  split at h
  · next i b S1 =>
    obtain ⟨rfl, h1, h2⟩ := h
    exact va_ti hx hb ((hE.1 _ hm).narrow (am_AB hG hB)) hS h1 rfl hd (hj _ _ _ _ h2 H locs ls hP hS hl)
  · cases h
theorem as_xlen (C : am_C G Y p s m args meth c) {a n : Nat} {f : Nat → Int32} (hm : (a, n, f) ∈ am_XA G) (hd : decode Y.2.1 pc = .ok (.arraylength, 1)) (hn : nx = pc + 1) : am_S (am_J G Y p e R s m args below meth c Q kc ks) K pc (ai_xlen a n nx) := by
  obtain ⟨hG, hx, hb, hml, hr, hown, hts, hlk, hT, hE, hB⟩ := C
  subst hn
  intro j hj L S M h H locs ls hP hS hl
  unfold ai_xlen at h
  split at h
  · next b S1 =>
    obtain ⟨rfl, h2⟩ := h
    exact va_tlen hx hb ((hE.1 _ hm).narrow (am_AB hG hB)) hS rfl hd (hj _ _ _ _ h2 H locs ls hP hS hl)
  · cases h
theorem as_gets (C : am_C G Y p s m args meth c) {ix : Nat} {Cn f d : String} {v : Value} (hm : (Cn, f, d, v) ∈ XS) (hlink : Cond.fieldLink Y.1.cls ix Cn f d ∈ TB) (hd : decode Y.2.1 pc = .ok (.getstatic ix, 3)) (hn : nx = pc + 3) : am_S (am_J G Y p e R s m args below meth c Q kc ks) K pc (ai_gets v nx) := by
  obtain ⟨hG, hx, hb, hml, hr, hown, hts, hlk, hT, hE, hB⟩ := C
  subst hn
  intro j hj L S M h H locs ls hP hS hl
  exact va_gets hx hb ((hE.2 _ hm).narrow (am_AB hG hB)) hS hown (hts _ hlink) (fun _ h9 => h9) hd (hj _ _ _ _ h H locs ls hP hS hl)
theorem as_getsN (C : am_C G Y p s m args meth c) {ix : Nat} {Cn f d host : String} {v : Value} (hm : (Cn, f, d, v) ∈ XS) (hlink : Cond.fieldLinkNest Y.1.cls ix Cn f d host ∈ NWs) (hd : decode Y.2.1 pc = .ok (.getstatic ix, 3)) (hn : nx = pc + 3) : am_S (am_J G Y p e R s m args below meth c Q kc ks) K pc (ai_gets v nx) := by
  obtain ⟨hG, hx, hb, hml, hr, hown, hts, hlk, hT, hE, hB⟩ := C
  subst hn
  intro j hj L S M h H locs ls hP hS hl
  exact va_getsN hx hb ((hE.2 _ hm).narrow (am_AB hG hB)) hS hown (va_Nw.use rfl (hT.2 _ hlink).2) (fun _ h9 => h9) hd (hj _ _ _ _ h H locs ls hP hS hl)
end AMS
end
section
theorem am_few_sum {S : List Value} (ad : Nat → Nat) (h : am_few S) : ((S.map (am_v ad)).map fun v => v.category).sum ≤ 8 := by
  have hc : ∀ v : Value, (am_v ad v).category ≤ 2 := fun v => by rcases lv_cat (am_v ad v) with q | q <;> omega
  unfold am_few at h
  split at h
  · simp
  · next a => have := hc a; simp; omega
  · next a b => have := hc a; have := hc b; simp; omega
  · next a b d => have := hc a; have := hc b; have := hc d; simp; omega
  · next a b d f => have := hc a; have := hc b; have := hc d; have := hc f; simp; omega
  · cases h
theorem am_P.calling {G : aG} {M : aM} {sz : Nat} {U : State} {g : JFrame} {mk : MethodId} {a : Array Value} (h : am_P G M sz U) : am_P G M sz (U.calling g mk a) := by
  obtain ⟨h1, h2, h3, h4, h5⟩ := h
  refine ⟨h1, h2, ⟨va_K.moved (u := U) (U := U.calling g mk a) (Vm.Alike.refl U.vm) h3.1, fun w hw => ⟨(h3.2 w hw).1, ?_⟩⟩, am_E.moved (u := U) (U := U.calling g mk a) (Vm.Alike.refl U.vm) h4, h5⟩
  have hn := (h3.2 w hw).1
  exact va_Nw.same (u := U) (by cases w <;> first | (cases hn; done) | rfl) rfl (h3.2 w hw).2
section AMC
variable {G : aG} {Y : aY} {p : Program} {e : Env} {R : Room} {s : State} {m : MethodId} {args : Array Value} {below : List Frame} {meth : Method} {c : Code} {Q : State → Prop} {kc ks : Nat} {K : aR} {pc nx : Nat}
theorem am_pre (C : am_C G Y p s m args meth c) {M : aM} {H : Heap} {locs : List Loc} (hP : va_P (g_D G) CL (am_W G M) H) (hS : va_S (am_A G s.heap.size) s.heap H locs) {U : State} (hU : U.heap = H) (hW : s.WarmedH U.vm) : am_P G M H.size U := by
  obtain ⟨hG, hx, hb, hml, hr, hown, hts, hlk, hT, hE, hB⟩ := C
  refine ⟨by rw [hU], by rw [hU]; exact hP, hT.warm hW, ?_, fun q hq => hB q (Nat.le_trans hS.1 hq)⟩
  rw [hU]
  exact (hE.kept (fun a h1 h2 => hS.2.1 a h1 (fun z => h2 (am_AB hG hB a z)))).moved hW.alike
theorem am_call {K1 : aR} {H : Heap} {locs : List Loc} {ls : Array Slot} {st0 rest : List Value} {a : Array Value} (hr : va_Run p (g_l G) e R s m args below meth c H locs kc ks 0 0 (F0 m pc ls st0) rest (am_Q G K1 (am_A G H.size) a) (am_A G H.size)) (hS : va_S (am_A G s.heap.size) s.heap H locs)
    (kk : ∀ (r : Option Value) (M1 : aM) (H1 : Heap) (locs1 : List Loc), K1 r M1 → va_P (g_D G) CL (am_W G M1) H1 → va_S (am_A G s.heap.size) s.heap H1 locs1 → W p (g_l G) e R s m args below meth c H1 locs1 kc ks Q (F0 m (pc + 3) ls ((r.map (am_v (g_a G))).toList ++ rest))) : W p (g_l G) e R s m args below meth c H locs kc ks Q (F0 m pc ls st0) := by
  have hA : ∀ q, am_A G H.size q → am_A G s.heap.size q := fun q h => by
    rcases h with h | h
    · exact Or.inl h
    · exact Or.inr (Nat.le_trans hS.1 h)
  intro T hT X
  obtain ⟨v, st₀, t, T', L, h0, X', hL, e1, e2, ⟨⟨r, M1, hv, hp, hb⟩, hz, hk⟩, st⟩ := hr T hT X
  cases hv
  rw [h0] at hz hk
  obtain ⟨t2, a1, b1⟩ := kk r M1 T'.heap (locs ++ L) hp (by rw [e1]; exact hb)
    ⟨Nat.le_trans hS.1 (by rw [e1]; exact hz), fun q h1 h2 => by rw [e1, hk q (Nat.lt_of_lt_of_le h1 hS.1) (fun z => h2 (hA q z))]; exact hS.2.1 q h1 h2, fun q hq => by
      rcases List.mem_append.mp hq with h | h
      · exact hS.2.2 q h
      · exact hA _ (hL q h)⟩ T' rfl X'
  exact ⟨t2, st t2 a1, b1⟩
theorem am_push_eq (ad : Nat → Nat) (r : Option Value) (S : List Value) : (r.map (am_v ad)).toList ++ S.map (am_v ad) = (am_push r S).map (am_v ad) := by cases r <;> rfl
def am_Sp (G : aG) (Y : aY) (d : Nat) (sp : aS) : Prop := ∀ (As : List Value) (M : aM) (K : aR), sp As M K → am_Met G Y d As M K
theorem am_good (Z : aY) (hc : Cond.code Z.1 Z.2.1 Z.2.2.1 Z.2.2.2 ∈ TB) : GoodIn TB (am_wd Z) := by
  intro w hw
  rcases List.mem_cons.mp hw with rfl | hw
  · exact ⟨hc, TB_good _ hc⟩
  · exact ⟨hw, TB_good _ hw⟩
/-- the room of a call -/
def am_rm (R : Room) (d n kc ks : Nat) : Prop := d + 1 ≤ R.frames ∧ 8 + (n + 11) + 40 * d ≤ R.locals ∧ kc ≤ R.cells ∧ ks ≤ R.slots
theorem am_vn (C : am_C G Y p s m args meth c) {Z : aY} {d ci ix n a : Nat} {Cn host : String} {T : u_T} {N : Nat} {As S st0 : List Value} {M : aM} {K1 : aR} (hM : am_Met G Z d (.ref a :: As) M K1) (hkd : am_kd a ci = true) (hcl : CL[ci]? = some (Cn, T, N))
    (hcode : Cond.code Z.1 Z.2.1 Z.2.2.1 Z.2.2.2 ∈ TB) (hini : Cond.initialized Z.1.cls ∈ TB) (hinst : Cond.instanceMethod Z.1 ∈ TB) (hsel : Cond.selects Cn Z.1 Z.1 ∈ TB) (hlink : Cond.methodLinkNest Y.1.cls ix Z.1 host ∈ NWs)
    (hy : Z.1.cls ≠ "java/lang/invoke/MethodHandle" ∧ Z.1.cls ≠ "java/lang/invoke/VarHandle" ∧ (parseMethodDescriptor Z.1.desc).map (fun d => d.parameters.length) = some n) (hR : am_rm R d Z.2.2.1 kc ks) (hn : As.length = n) (hst : st0 = As.reverse ++ .ref a :: S) (hf : am_few S) (hd : decode Y.2.1 pc = .ok (.invokevirtual ix, 3))
    {H : Heap} {locs : List Loc} {ls : Array Slot} {L : aL} (hP : va_P (g_D G) CL (am_W G M) H) (hS : va_S (am_A G s.heap.size) s.heap H locs) (hl : am_lv ls Y.2.2.1 (g_a G) L)
    (kk : ∀ r M1, K1 r M1 → am_J G Y p e R s m args below meth c Q kc ks (pc + 3) L (am_push r S) M1) : W p (g_l G) e R s m args below meth c H locs kc ks Q (F0 m pc ls (st0.map (am_v (g_a G)))) := by
  have C0 := C
  obtain ⟨hG, hx, hb, hml, hr, hown, hts, hlk, hT, hE, hB⟩ := C
  obtain ⟨fs, hfs⟩ := am_kd_of hkd
  refine am_call (va_runVN (As := As.map (am_v (g_a G))) (rest := S.map (am_v (g_a G))) (b := g_a G a) (C := Cn) ⟨hx, hb, hml, hown, hts⟩ (hM H.size) ⟨va_cnB n hts (am_good Z hcode) rfl rfl rfl (hT.2 _ hlink).2 (hts _ hini) hy ⟨hR.1, hR.2.1⟩, hts _ hinst, hts _ hsel⟩ ⟨fun a U g mk q => ⟨q.1, q.2.calling⟩, va_recv hT.1 hP hcl (am_W_get hfs), fun U hU hW => ⟨rfl, am_pre C0 hP hS hU hW⟩⟩ rfl (by simpa using hn) hl.1 (by rw [hst]; simp [am_v]) (lv_room (am_few_sum (g_a G) hf)) hd ⟨hR.2.2.1, hR.2.2.2⟩) hS (fun r M1 H1 locs1 h1 h2 h3 => ?_)
  rw [am_push_eq]
  exact kk r M1 h1 H1 locs1 ls h2 h3 hl
theorem am_vo (C : am_C G Y p s m args meth c) {Z : aY} {d ci ix n a : Nat} {Cn : String} {T : u_T} {N : Nat} {As S st0 : List Value} {M : aM} {K1 : aR} (hM : am_Met G Z d (.ref a :: As) M K1) (hkd : am_kd a ci = true) (hcl : CL[ci]? = some (Cn, T, N))
    (hcode : Cond.code Z.1 Z.2.1 Z.2.2.1 Z.2.2.2 ∈ TB) (hini : Cond.initialized Z.1.cls ∈ TB) (hinst : Cond.instanceMethod Z.1 ∈ TB) (hsel : Cond.selects Cn Z.1 Z.1 ∈ TB) (hlink : Cond.methodLink Y.1.cls ix Z.1 ∈ TB)
    (hy : Z.1.cls ≠ "java/lang/invoke/MethodHandle" ∧ Z.1.cls ≠ "java/lang/invoke/VarHandle" ∧ (parseMethodDescriptor Z.1.desc).map (fun d => d.parameters.length) = some n) (hR : am_rm R d Z.2.2.1 kc ks) (hn : As.length = n) (hst : st0 = As.reverse ++ .ref a :: S) (hf : am_few S) (hd : decode Y.2.1 pc = .ok (.invokevirtual ix, 3))
    {H : Heap} {locs : List Loc} {ls : Array Slot} {L : aL} (hP : va_P (g_D G) CL (am_W G M) H) (hS : va_S (am_A G s.heap.size) s.heap H locs) (hl : am_lv ls Y.2.2.1 (g_a G) L)
    (kk : ∀ r M1, K1 r M1 → am_J G Y p e R s m args below meth c Q kc ks (pc + 3) L (am_push r S) M1) : W p (g_l G) e R s m args below meth c H locs kc ks Q (F0 m pc ls (st0.map (am_v (g_a G)))) := by
  have C0 := C
  obtain ⟨hG, hx, hb, hml, hr, hown, hts, hlk, hT, hE, hB⟩ := C
  obtain ⟨fs, hfs⟩ := am_kd_of hkd
  refine am_call (va_runV (As := As.map (am_v (g_a G))) (rest := S.map (am_v (g_a G))) (b := g_a G a) (C := Cn) ⟨hx, hb, hml, hown, hts⟩ (hM H.size) ⟨callB_of n hts (am_good Z hcode) rfl rfl rfl (hts _ hini) (hts _ hlink) hy ⟨hR.1, hR.2.1⟩, hts _ hinst, hts _ hsel⟩ ⟨fun a U g mk q => ⟨q.1, q.2.calling⟩, va_recv hT.1 hP hcl (am_W_get hfs), fun U hU hW => ⟨rfl, am_pre C0 hP hS hU hW⟩⟩ rfl (by simpa using hn) hl.1 (by rw [hst]; simp [am_v]) (lv_room (am_few_sum (g_a G) hf)) hd ⟨hR.2.2.1, hR.2.2.2⟩) hS (fun r M1 H1 locs1 h1 h2 h3 => ?_)
  rw [am_push_eq]
  exact kk r M1 h1 H1 locs1 ls h2 h3 hl
theorem am_so (C : am_C G Y p s m args meth c) {Z : aY} {d ix n : Nat} {As S st0 : List Value} {M : aM} {K1 : aR} (hM : am_Met G Z d As M K1)
    (hcode : Cond.code Z.1 Z.2.1 Z.2.2.1 Z.2.2.2 ∈ TB) (hini : Cond.initialized Z.1.cls ∈ TB) (hstat : Cond.static Z.1 ∈ TB) (hlink : Cond.methodLink Y.1.cls ix Z.1 ∈ TB)
    (hy : Z.1.cls ≠ "java/lang/invoke/MethodHandle" ∧ Z.1.cls ≠ "java/lang/invoke/VarHandle" ∧ (parseMethodDescriptor Z.1.desc).map (fun d => d.parameters.length) = some n) (hR : am_rm R d Z.2.2.1 kc ks) (hn : As.length = n) (hst : st0 = As.reverse ++ S) (hf : am_few S) (hd : decode Y.2.1 pc = .ok (.invokestatic ix, 3))
    {H : Heap} {locs : List Loc} {ls : Array Slot} {L : aL} (hP : va_P (g_D G) CL (am_W G M) H) (hS : va_S (am_A G s.heap.size) s.heap H locs) (hl : am_lv ls Y.2.2.1 (g_a G) L)
    (kk : ∀ r M1, K1 r M1 → am_J G Y p e R s m args below meth c Q kc ks (pc + 3) L (am_push r S) M1) : W p (g_l G) e R s m args below meth c H locs kc ks Q (F0 m pc ls (st0.map (am_v (g_a G)))) := by
  have C0 := C
  obtain ⟨hG, hx, hb, hml, hr, hown, hts, hlk, hT, hE, hB⟩ := C
  refine am_call (va_runS (As := As.map (am_v (g_a G))) (rest := S.map (am_v (g_a G))) ⟨hx, hb, hml, hown, hts⟩ (hM H.size) ⟨callB_of n hts (am_good Z hcode) rfl rfl rfl (hts _ hini) (hts _ hlink) hy ⟨hR.1, hR.2.1⟩, hts _ hstat⟩ ⟨fun a U g mk q => ⟨q.1, q.2.calling⟩, fun U hU hW => ⟨rfl, am_pre C0 hP hS hU hW⟩⟩ rfl (by simpa using hn) hl.1 (by rw [hst]; simp) (lv_room (am_few_sum (g_a G) hf)) hd ⟨hR.2.2.1, hR.2.2.2⟩) hS (fun r M1 H1 locs1 h1 h2 h3 => ?_)
  rw [am_push_eq]
  exact kk r M1 h1 H1 locs1 ls h2 h3 hl
theorem as_callv1N (C : am_C G Y p s m args meth c) {Z : aY} {d ci ix : Nat} {Cn host : String} {T : u_T} {N : Nat} {sp : aS} (hsp : am_Sp G Z d sp) (hcl : CL[ci]? = some (Cn, T, N)) (hcode : Cond.code Z.1 Z.2.1 Z.2.2.1 Z.2.2.2 ∈ TB) (hini : Cond.initialized Z.1.cls ∈ TB) (hinst : Cond.instanceMethod Z.1 ∈ TB) (hsel : Cond.selects Cn Z.1 Z.1 ∈ TB) (hlink : Cond.methodLinkNest Y.1.cls ix Z.1 host ∈ NWs) (hy : Z.1.cls ≠ "java/lang/invoke/MethodHandle" ∧ Z.1.cls ≠ "java/lang/invoke/VarHandle" ∧ (parseMethodDescriptor Z.1.desc).map (fun d => d.parameters.length) = some 0) (hR : am_rm R d Z.2.2.1 kc ks) (hd : decode Y.2.1 pc = .ok (.invokevirtual ix, 3)) (hn : nx = pc + 3) : am_S (am_J G Y p e R s m args below meth c Q kc ks) K pc (ai_callv1 ci sp nx) := by
  subst hn
  intro j hj L S M h H locs ls hP hS hl
  unfold ai_callv1 at h
  split at h
  · obtain ⟨h1, h2, h3⟩ := h
    exact am_vn C (As := []) (hsp _ _ _ h3) h1 hcl hcode hini hinst hsel hlink hy hR rfl rfl h2 hd hP hS hl (fun r M1 q => hj _ _ _ _ q)
  · cases h
theorem as_callv1 (C : am_C G Y p s m args meth c) {Z : aY} {d ci ix : Nat} {Cn : String} {T : u_T} {N : Nat} {sp : aS} (hsp : am_Sp G Z d sp) (hcl : CL[ci]? = some (Cn, T, N)) (hcode : Cond.code Z.1 Z.2.1 Z.2.2.1 Z.2.2.2 ∈ TB) (hini : Cond.initialized Z.1.cls ∈ TB) (hinst : Cond.instanceMethod Z.1 ∈ TB) (hsel : Cond.selects Cn Z.1 Z.1 ∈ TB) (hlink : Cond.methodLink Y.1.cls ix Z.1 ∈ TB) (hy : Z.1.cls ≠ "java/lang/invoke/MethodHandle" ∧ Z.1.cls ≠ "java/lang/invoke/VarHandle" ∧ (parseMethodDescriptor Z.1.desc).map (fun d => d.parameters.length) = some 0) (hR : am_rm R d Z.2.2.1 kc ks) (hd : decode Y.2.1 pc = .ok (.invokevirtual ix, 3)) (hn : nx = pc + 3) : am_S (am_J G Y p e R s m args below meth c Q kc ks) K pc (ai_callv1 ci sp nx) := by
  subst hn
  intro j hj L S M h H locs ls hP hS hl
  unfold ai_callv1 at h
  split at h
  · obtain ⟨h1, h2, h3⟩ := h
    exact am_vo C (As := []) (hsp _ _ _ h3) h1 hcl hcode hini hinst hsel hlink hy hR rfl rfl h2 hd hP hS hl (fun r M1 q => hj _ _ _ _ q)
  · cases h
theorem as_callv2N (C : am_C G Y p s m args meth c) {Z : aY} {d ci ix : Nat} {Cn host : String} {T : u_T} {N : Nat} {sp : aS} (hsp : am_Sp G Z d sp) (hcl : CL[ci]? = some (Cn, T, N)) (hcode : Cond.code Z.1 Z.2.1 Z.2.2.1 Z.2.2.2 ∈ TB) (hini : Cond.initialized Z.1.cls ∈ TB) (hinst : Cond.instanceMethod Z.1 ∈ TB) (hsel : Cond.selects Cn Z.1 Z.1 ∈ TB) (hlink : Cond.methodLinkNest Y.1.cls ix Z.1 host ∈ NWs) (hy : Z.1.cls ≠ "java/lang/invoke/MethodHandle" ∧ Z.1.cls ≠ "java/lang/invoke/VarHandle" ∧ (parseMethodDescriptor Z.1.desc).map (fun d => d.parameters.length) = some 1) (hR : am_rm R d Z.2.2.1 kc ks) (hd : decode Y.2.1 pc = .ok (.invokevirtual ix, 3)) (hn : nx = pc + 3) : am_S (am_J G Y p e R s m args below meth c Q kc ks) K pc (ai_callv2 ci sp nx) := by
  subst hn
  intro j hj L S M h H locs ls hP hS hl
  unfold ai_callv2 at h
  split at h
  · obtain ⟨h1, h2, h3⟩ := h
    exact am_vn C (As := [_]) (hsp _ _ _ h3) h1 hcl hcode hini hinst hsel hlink hy hR rfl rfl h2 hd hP hS hl (fun r M1 q => hj _ _ _ _ q)
  · cases h
theorem as_callv2 (C : am_C G Y p s m args meth c) {Z : aY} {d ci ix : Nat} {Cn : String} {T : u_T} {N : Nat} {sp : aS} (hsp : am_Sp G Z d sp) (hcl : CL[ci]? = some (Cn, T, N)) (hcode : Cond.code Z.1 Z.2.1 Z.2.2.1 Z.2.2.2 ∈ TB) (hini : Cond.initialized Z.1.cls ∈ TB) (hinst : Cond.instanceMethod Z.1 ∈ TB) (hsel : Cond.selects Cn Z.1 Z.1 ∈ TB) (hlink : Cond.methodLink Y.1.cls ix Z.1 ∈ TB) (hy : Z.1.cls ≠ "java/lang/invoke/MethodHandle" ∧ Z.1.cls ≠ "java/lang/invoke/VarHandle" ∧ (parseMethodDescriptor Z.1.desc).map (fun d => d.parameters.length) = some 1) (hR : am_rm R d Z.2.2.1 kc ks) (hd : decode Y.2.1 pc = .ok (.invokevirtual ix, 3)) (hn : nx = pc + 3) : am_S (am_J G Y p e R s m args below meth c Q kc ks) K pc (ai_callv2 ci sp nx) := by
  subst hn
  intro j hj L S M h H locs ls hP hS hl
  unfold ai_callv2 at h
  split at h
  · obtain ⟨h1, h2, h3⟩ := h
    exact am_vo C (As := [_]) (hsp _ _ _ h3) h1 hcl hcode hini hinst hsel hlink hy hR rfl rfl h2 hd hP hS hl (fun r M1 q => hj _ _ _ _ q)
  · cases h
theorem as_callv3N (C : am_C G Y p s m args meth c) {Z : aY} {d ci ix : Nat} {Cn host : String} {T : u_T} {N : Nat} {sp : aS} (hsp : am_Sp G Z d sp) (hcl : CL[ci]? = some (Cn, T, N)) (hcode : Cond.code Z.1 Z.2.1 Z.2.2.1 Z.2.2.2 ∈ TB) (hini : Cond.initialized Z.1.cls ∈ TB) (hinst : Cond.instanceMethod Z.1 ∈ TB) (hsel : Cond.selects Cn Z.1 Z.1 ∈ TB) (hlink : Cond.methodLinkNest Y.1.cls ix Z.1 host ∈ NWs) (hy : Z.1.cls ≠ "java/lang/invoke/MethodHandle" ∧ Z.1.cls ≠ "java/lang/invoke/VarHandle" ∧ (parseMethodDescriptor Z.1.desc).map (fun d => d.parameters.length) = some 2) (hR : am_rm R d Z.2.2.1 kc ks) (hd : decode Y.2.1 pc = .ok (.invokevirtual ix, 3)) (hn : nx = pc + 3) : am_S (am_J G Y p e R s m args below meth c Q kc ks) K pc (ai_callv3 ci sp nx) := by
  subst hn
  intro j hj L S M h H locs ls hP hS hl
  unfold ai_callv3 at h
  split at h
  · obtain ⟨h1, h2, h3⟩ := h
    exact am_vn C (As := [_, _]) (hsp _ _ _ h3) h1 hcl hcode hini hinst hsel hlink hy hR rfl rfl h2 hd hP hS hl (fun r M1 q => hj _ _ _ _ q)
  · cases h
theorem as_callv3 (C : am_C G Y p s m args meth c) {Z : aY} {d ci ix : Nat} {Cn : String} {T : u_T} {N : Nat} {sp : aS} (hsp : am_Sp G Z d sp) (hcl : CL[ci]? = some (Cn, T, N)) (hcode : Cond.code Z.1 Z.2.1 Z.2.2.1 Z.2.2.2 ∈ TB) (hini : Cond.initialized Z.1.cls ∈ TB) (hinst : Cond.instanceMethod Z.1 ∈ TB) (hsel : Cond.selects Cn Z.1 Z.1 ∈ TB) (hlink : Cond.methodLink Y.1.cls ix Z.1 ∈ TB) (hy : Z.1.cls ≠ "java/lang/invoke/MethodHandle" ∧ Z.1.cls ≠ "java/lang/invoke/VarHandle" ∧ (parseMethodDescriptor Z.1.desc).map (fun d => d.parameters.length) = some 2) (hR : am_rm R d Z.2.2.1 kc ks) (hd : decode Y.2.1 pc = .ok (.invokevirtual ix, 3)) (hn : nx = pc + 3) : am_S (am_J G Y p e R s m args below meth c Q kc ks) K pc (ai_callv3 ci sp nx) := by
  subst hn
  intro j hj L S M h H locs ls hP hS hl
  unfold ai_callv3 at h
  split at h
  · obtain ⟨h1, h2, h3⟩ := h
    exact am_vo C (As := [_, _]) (hsp _ _ _ h3) h1 hcl hcode hini hinst hsel hlink hy hR rfl rfl h2 hd hP hS hl (fun r M1 q => hj _ _ _ _ q)
  · cases h
theorem as_callv4N (C : am_C G Y p s m args meth c) {Z : aY} {d ci ix : Nat} {Cn host : String} {T : u_T} {N : Nat} {sp : aS} (hsp : am_Sp G Z d sp) (hcl : CL[ci]? = some (Cn, T, N)) (hcode : Cond.code Z.1 Z.2.1 Z.2.2.1 Z.2.2.2 ∈ TB) (hini : Cond.initialized Z.1.cls ∈ TB) (hinst : Cond.instanceMethod Z.1 ∈ TB) (hsel : Cond.selects Cn Z.1 Z.1 ∈ TB) (hlink : Cond.methodLinkNest Y.1.cls ix Z.1 host ∈ NWs) (hy : Z.1.cls ≠ "java/lang/invoke/MethodHandle" ∧ Z.1.cls ≠ "java/lang/invoke/VarHandle" ∧ (parseMethodDescriptor Z.1.desc).map (fun d => d.parameters.length) = some 3) (hR : am_rm R d Z.2.2.1 kc ks) (hd : decode Y.2.1 pc = .ok (.invokevirtual ix, 3)) (hn : nx = pc + 3) : am_S (am_J G Y p e R s m args below meth c Q kc ks) K pc (ai_callv4 ci sp nx) := by
  subst hn
  intro j hj L S M h H locs ls hP hS hl
  unfold ai_callv4 at h
  split at h
  · obtain ⟨h1, h2, h3⟩ := h
    exact am_vn C (As := [_, _, _]) (hsp _ _ _ h3) h1 hcl hcode hini hinst hsel hlink hy hR rfl rfl h2 hd hP hS hl (fun r M1 q => hj _ _ _ _ q)
  · cases h
theorem as_callv4 (C : am_C G Y p s m args meth c) {Z : aY} {d ci ix : Nat} {Cn : String} {T : u_T} {N : Nat} {sp : aS} (hsp : am_Sp G Z d sp) (hcl : CL[ci]? = some (Cn, T, N)) (hcode : Cond.code Z.1 Z.2.1 Z.2.2.1 Z.2.2.2 ∈ TB) (hini : Cond.initialized Z.1.cls ∈ TB) (hinst : Cond.instanceMethod Z.1 ∈ TB) (hsel : Cond.selects Cn Z.1 Z.1 ∈ TB) (hlink : Cond.methodLink Y.1.cls ix Z.1 ∈ TB) (hy : Z.1.cls ≠ "java/lang/invoke/MethodHandle" ∧ Z.1.cls ≠ "java/lang/invoke/VarHandle" ∧ (parseMethodDescriptor Z.1.desc).map (fun d => d.parameters.length) = some 3) (hR : am_rm R d Z.2.2.1 kc ks) (hd : decode Y.2.1 pc = .ok (.invokevirtual ix, 3)) (hn : nx = pc + 3) : am_S (am_J G Y p e R s m args below meth c Q kc ks) K pc (ai_callv4 ci sp nx) := by
  subst hn
  intro j hj L S M h H locs ls hP hS hl
  unfold ai_callv4 at h
  split at h
  · obtain ⟨h1, h2, h3⟩ := h
    exact am_vo C (As := [_, _, _]) (hsp _ _ _ h3) h1 hcl hcode hini hinst hsel hlink hy hR rfl rfl h2 hd hP hS hl (fun r M1 q => hj _ _ _ _ q)
  · cases h
theorem as_calls1 (C : am_C G Y p s m args meth c) {Z : aY} {d ix : Nat} {sp : aS} (hsp : am_Sp G Z d sp) (hcode : Cond.code Z.1 Z.2.1 Z.2.2.1 Z.2.2.2 ∈ TB) (hini : Cond.initialized Z.1.cls ∈ TB) (hstat : Cond.static Z.1 ∈ TB) (hlink : Cond.methodLink Y.1.cls ix Z.1 ∈ TB) (hy : Z.1.cls ≠ "java/lang/invoke/MethodHandle" ∧ Z.1.cls ≠ "java/lang/invoke/VarHandle" ∧ (parseMethodDescriptor Z.1.desc).map (fun d => d.parameters.length) = some 1) (hR : am_rm R d Z.2.2.1 kc ks) (hd : decode Y.2.1 pc = .ok (.invokestatic ix, 3)) (hn : nx = pc + 3) : am_S (am_J G Y p e R s m args below meth c Q kc ks) K pc (ai_calls1 sp nx) := by
  subst hn
  intro j hj L S M h H locs ls hP hS hl
  unfold ai_calls1 at h
  split at h
  · obtain ⟨h2, h3⟩ := h
    exact am_so C (As := [_]) (hsp _ _ _ h3) hcode hini hstat hlink hy hR rfl rfl h2 hd hP hS hl (fun r M1 q => hj _ _ _ _ q)
  · cases h
theorem as_calls2 (C : am_C G Y p s m args meth c) {Z : aY} {d ix : Nat} {sp : aS} (hsp : am_Sp G Z d sp) (hcode : Cond.code Z.1 Z.2.1 Z.2.2.1 Z.2.2.2 ∈ TB) (hini : Cond.initialized Z.1.cls ∈ TB) (hstat : Cond.static Z.1 ∈ TB) (hlink : Cond.methodLink Y.1.cls ix Z.1 ∈ TB) (hy : Z.1.cls ≠ "java/lang/invoke/MethodHandle" ∧ Z.1.cls ≠ "java/lang/invoke/VarHandle" ∧ (parseMethodDescriptor Z.1.desc).map (fun d => d.parameters.length) = some 2) (hR : am_rm R d Z.2.2.1 kc ks) (hd : decode Y.2.1 pc = .ok (.invokestatic ix, 3)) (hn : nx = pc + 3) : am_S (am_J G Y p e R s m args below meth c Q kc ks) K pc (ai_calls2 sp nx) := by
  subst hn
  intro j hj L S M h H locs ls hP hS hl
  unfold ai_calls2 at h
  split at h
  · obtain ⟨h2, h3⟩ := h
    exact am_so C (As := [_, _]) (hsp _ _ _ h3) hcode hini hstat hlink hy hR rfl rfl h2 hd hP hS hl (fun r M1 q => hj _ _ _ _ q)
  · cases h
theorem as_min (C : am_C G Y p s m args meth c) {ix : Nat} (hlink : Cond.methodLink Y.1.cls ix Lib.Math.min.name ∈ TB) (hstat : Cond.static Lib.Math.min.name ∈ TB) (hini : Cond.initialized "java/lang/Math" ∈ TB) (hcode : Cond.code Lib.Math.min.name Lib.Math.min.code 2 (some .int) ∈ TB) (hR : 1 ≤ R.frames ∧ 21 ≤ R.locals ∧ kc ≤ R.cells ∧ ks ≤ R.slots) (hd : decode Y.2.1 pc = .ok (.invokestatic ix, 3)) (hn : nx = pc + 3) : am_S (am_J G Y p e R s m args below meth c Q kc ks) K pc (ai_min nx) := by
  obtain ⟨hG, hx, hb, hml, hr, hown, hts, hlk, hT, hE, hB⟩ := C
  subst hn
  intro j hj L S M h H locs ls hP hS hl
  unfold ai_min at h
  split at h
  · have hf := am_few_sum (g_a G) h.1
    exact va_mmin hx hb (by rw [hml]; exact hl.1.symm) hown (hts _ hlink) (hts _ hstat) (hts _ hini) (hts _ hcode) hR.1 (by omega) hR.2.2.1 hR.2.2.2 hd (hj _ _ _ _ h.2 H locs ls hP hS hl)
  · cases h
end AMC
/-! the ends of a method -/
section AMR
variable {G : aG} {Y : aY} {p : Program} {e : Env} {R : Room} {s : State} {m : MethodId} {args : Array Value} {below : List Frame} {meth : Method} {c : Code} {K : aR} {pc : Nat}
def am_Z (G : aG) (K : aR) (s : State) (args : Array Value) (below : List Frame) : State → Prop := MQ below (am_Q G K (am_A G s.heap.size)) args s 0 0 (am_A G s.heap.size)
theorem as_iret (C : am_C G Y p s m args meth c) (hy : Y.2.2.2 = some .int) (hd : decode Y.2.1 pc = .ok (.ireturn, 1)) : am_S (am_J G Y p e R s m args below meth c (am_Z G K s args below) 0 0) K pc ai_iret := by
  obtain ⟨hG, hx, hb, hml, hr, hown, hts, hlk, hT, hE, hB⟩ := C
  intro j hj L S M h H locs ls hP hS hl
  unfold ai_iret at h
  split at h
  · next x => exact W.iret (hlocks := hlk) hx hb (hr.trans hy) (fun t ht _ => ⟨⟨some (.int x), M, rfl, h, by rw [ht]; exact hP⟩, hS.F ht⟩) hS.2.2 hd
  · cases h
theorem as_zret (C : am_C G Y p s m args meth c) (hy : Y.2.2.2 = some .boolean) (hd : decode Y.2.1 pc = .ok (.ireturn, 1)) : am_S (am_J G Y p e R s m args below meth c (am_Z G K s args below) 0 0) K pc ai_zret := by
  obtain ⟨hG, hx, hb, hml, hr, hown, hts, hlk, hT, hE, hB⟩ := C
  intro j hj L S M h H locs ls hP hS hl
  unfold ai_zret at h
  split at h
  · next x =>
    refine W.zret (hlocks := hlk) hx hb (hr.trans hy) ?_ (fun t ht _ => ⟨⟨some (.int x), M, rfl, h.2, by rw [ht]; exact hP⟩, hS.F ht⟩) hS.2.2 hd
    rcases h.1 with q | q <;> rw [q] <;> rfl
  · cases h
theorem as_lret (C : am_C G Y p s m args meth c) (hy : Y.2.2.2 = some .long) (hd : decode Y.2.1 pc = .ok (.lreturn, 1)) : am_S (am_J G Y p e R s m args below meth c (am_Z G K s args below) 0 0) K pc ai_lret := by
  obtain ⟨hG, hx, hb, hml, hr, hown, hts, hlk, hT, hE, hB⟩ := C
  intro j hj L S M h H locs ls hP hS hl
  unfold ai_lret at h
  split at h
  · next x => exact W.lret (hlocks := hlk) hx hb (hr.trans hy) (fun t ht _ => ⟨⟨some (.long x), M, rfl, h, by rw [ht]; exact hP⟩, hS.F ht⟩) hS.2.2 hd
  · cases h
theorem as_vret (C : am_C G Y p s m args meth c) (hy : Y.2.2.2 = none) (hd : decode Y.2.1 pc = .ok (.return_, 1)) : am_S (am_J G Y p e R s m args below meth c (am_Z G K s args below) 0 0) K pc ai_vret := by
  obtain ⟨hG, hx, hb, hml, hr, hown, hts, hlk, hT, hE, hB⟩ := C
  intro j hj L S M h H locs ls hP hS hl
  unfold ai_vret at h
  split at h
  · exact W.vret (hlocks := hlk) hx hb (hr.trans hy) (fun t ht _ => ⟨⟨none, M, rfl, h, by rw [ht]; exact hP⟩, hS.F ht⟩) hS.2.2 hd
  · cases h
end AMR
/-! a method as a whole -/
def am_at : List (Nat × aI) → Nat → aI
  | [], _ => ai_bad
  | q :: r, pc => if pc = q.1 then q.2 else am_at r pc
def am_all (P : Nat → aI → Prop) : List (Nat × aI) → Prop
  | [] => True
  | q :: r => P q.1 q.2 ∧ am_all P r
theorem am_all_at {P : Nat → aI → Prop} (hb : ∀ pc, P pc ai_bad) : ∀ (code : List (Nat × aI)) (pc : Nat), am_all P code → P pc (am_at code pc)
  | [], pc, _ => hb pc
  | q :: r, pc, h => by
    simp only [am_at]
    split
    · next e => rw [e]; exact h.1
    · exact am_all_at hb r pc h.2
def am_X (G : aG) (Y : aY) (d : Nat) (K : aR) : aJ := fun pc L S M => ∀ (p : Program) (e : Env) (s : State) (m : MethodId) (args : Array Value) (below : List Frame) (meth : Method) (c : Code), am_C G Y p s m args meth c → am_J G Y p e (am_room d) s m args below meth c (am_Z G K s args below) 0 0 pc L S M
def am_tab (G : aG) (Y : aY) (d : Nat) (code : List (Nat × aI)) : Prop := ∀ (K : aR) (p : Program) (e : Env) (s : State) (m : MethodId) (args : Array Value) (below : List Frame) (meth : Method) (c : Code), am_C G Y p s m args meth c → am_all (fun pc i => am_S (am_J G Y p e (am_room d) s m args below meth c (am_Z G K s args below) 0 0) K pc i) code
def am_run (code : List (Nat × aI)) (cuts : List Nat) (J : aJ) (K : aR) : Nat → aJ
  | 0 => fun _ _ _ _ => False
  | n + 1 => fun pc L S M => if cuts.contains pc = true then J pc L S M else am_at code pc (am_run code cuts J K n) K pc L S M
theorem am_step {G : aG} {Y : aY} {d : Nat} {code : List (Nat × aI)} (hT : am_tab G Y d code) {K : aR} {j : aJ} (hj : ∀ pc L S M, j pc L S M → am_X G Y d K pc L S M) {pc : Nat} {L : aL} {S : List Value} {M : aM} (h : am_at code pc j K pc L S M) : am_X G Y d K pc L S M := by
  intro p e s m args below meth c C
  exact am_all_at (P := fun pc i => am_S (am_J G Y p e (am_room d) s m args below meth c (am_Z G K s args below) 0 0) K pc i) (fun pc j hj L S M h => h.elim) code pc (hT K p e s m args below meth c C) j (fun pc L S M q => hj pc L S M q p e s m args below meth c C) L S M h
theorem am_go {G : aG} {Y : aY} {d : Nat} {code : List (Nat × aI)} (hT : am_tab G Y d code) {K : aR} {cuts : List Nat} : ∀ (n pc : Nat) (L : aL) (S : List Value) (M : aM), am_run code cuts (am_X G Y d K) K n pc L S M → am_X G Y d K pc L S M
  | 0, _, _, _, _, h => h.elim
  | n + 1, pc, L, S, M, h => by
    simp only [am_run] at h
    split at h
    · exact h
    · exact am_step hT (am_go hT n) h
/-- from a cut on -/
theorem am_from {G : aG} {Y : aY} {d : Nat} {code : List (Nat × aI)} (hT : am_tab G Y d code) {K : aR} (cuts : List Nat) (n : Nat) {pc : Nat} {L : aL} {S : List Value} {M : aM} (h : am_at code pc (am_run code cuts (am_X G Y d K) K n) K pc L S M) : am_X G Y d K pc L S M := am_step hT (am_go hT n) h
/-- the locals at the start -/
def am_l0 : Nat → List Value → aL
  | n, [] => List.replicate n none
  | 0, _ :: _ => []
  | n + 1, v :: r => some v :: (if am_c1 v = true then am_l0 n r else none :: am_l0 (n - 1) r)
theorem am_l0_in (ad : Nat → Nat) : ∀ (As : List Value) (n i k : Nat) (v : Value), (am_l0 n As)[k]? = some (some v) → (i + k, am_v ad v) ∈ lv_args i (As.map (am_v ad))
  | [], n, i, k, v, h => by
    simp only [am_l0, List.getElem?_replicate] at h
    split at h
    · cases h
    · cases h
  | a :: r, 0, i, k, v, h => by simp [am_l0] at h
  | a :: r, n + 1, i, k, v, h => by
    simp only [am_l0] at h
    simp only [List.map_cons, lv_args, List.mem_cons]
    cases k with
    | zero =>
      simp at h
      left
      rw [h]; rfl
    | succ k =>
      right
      rw [List.getElem?_cons_succ] at h
      by_cases hc : am_c1 a = true
      · rw [if_pos hc] at h
        rw [if_neg (by rw [am_c1_cat ad hc]; decide), show i + (k + 1) = i + 1 + k by omega]
        exact am_l0_in ad r n (i + 1) k v h
      · rw [if_neg hc] at h
        have h2 : (am_v ad a).category = 2 := by cases a <;> first | rfl | (exact absurd rfl hc)
        rw [if_pos h2]
        cases k with
        | zero => simp at h
        | succ k =>
          rw [List.getElem?_cons_succ] at h
          rw [show i + (k + 1 + 1) = i + 2 + k by omega]
          exact am_l0_in ad r (n - 1) (i + 2) k v h
theorem am_entry {G : aG} {Y : aY} {d : Nat} {K : aR} {As : List Value} {M : aM} (hG : am_ok G) (hy : plainName Y.1.cls = true) (hl : (lg_sl (As.map (am_v (g_a G)))).length ≤ Y.2.2.1) (h : am_X G Y d K 0 (am_l0 Y.2.2.1 As) [] M) : am_Met G Y d As M K := by
  intro sz
  refine Met.ofW (cc := Y.2.1) (maxL := Y.2.2.1) (ret := Y.2.2.2) hy rfl ?_
  intro p e s m args below meth c s₁ B hml hv
  obtain ⟨rfl, hsz, hP, hT, hE, hB⟩ := hv
  subst hsz
  have hts := atoms_spec (ws := am_wd Y) B.pre
  have hown : s.vm.findClass Y.1.cls = some m.cls := findClass_of_methodNamed B.named
  have C : am_C G Y p s m _ meth c := ⟨hG, B.exec, B.bytes, hml, B.returns, hown, fun w hw => hts w (List.mem_cons_of_mem _ hw), B.notSynchronized, hT, hE, hB⟩
  have hl0 := lv_entry (As.map (am_v (g_a G))) (n := Y.2.2.1) hl
  rw [lg_entry_eq]
  exact h p e s m _ below meth c C s.heap [] _ hP va_S.rf ⟨hl0.1, hl0.2.1, fun k v hk => hl0.2.2 _ (by simpa using am_l0_in (g_a G) As Y.2.2.1 0 k v hk)⟩
theorem am_rm_of {d d1 n : Nat} (h : d1 < d) (hn : n ≤ 21) : am_rm (am_room d) d1 n 0 0 := ⟨h, by show 8 + (n + 11) + 40 * d1 ≤ 40 * d; omega, Nat.le_refl 0, Nat.le_refl 0⟩
theorem hm_1000 (G : aG) : (1000, 5, QF) ∈ am_XA G := List.mem_cons_self
theorem hm_1001 (G : aG) : (1001, g_n G, g_x G) ∈ am_XA G := List.mem_cons_of_mem _ List.mem_cons_self
theorem li_10 : ((1 : Int32) = 0) = False := eq_false (by decide)
end
section
/-! printed by wip/gen/gen.py: the methods, the words -/
set_option maxRecDepth 20000 in
theorem w_0 : (Jvm.Cond.selects "DatumDesk$Text" ({ cls := "DatumDesk$Text", name := "append", desc := "(I)V" } : Jvm.MethodName) ({ cls := "DatumDesk$Text", name := "append", desc := "(I)V" } : Jvm.MethodName)) ∈ TB := tb_of 0 rfl rfl
set_option maxRecDepth 20000 in
theorem w_1 : (Jvm.Cond.selects "DatumDesk$Reader" ({ cls := "DatumDesk$Reader", name := "readText", desc := "()V" } : Jvm.MethodName) ({ cls := "DatumDesk$Reader", name := "readText", desc := "()V" } : Jvm.MethodName)) ∈ TB := tb_of 1 rfl rfl
set_option maxRecDepth 20000 in
theorem w_2 : (Jvm.Cond.selects "DatumDesk$Nodes" ({ cls := "DatumDesk$Nodes", name := "clear", desc := "()V" } : Jvm.MethodName) ({ cls := "DatumDesk$Nodes", name := "clear", desc := "()V" } : Jvm.MethodName)) ∈ TB := tb_of 2 rfl rfl
set_option maxRecDepth 20000 in
theorem w_3 : (Jvm.Cond.selects "DatumDesk$Tokens" ({ cls := "DatumDesk$Tokens", name := "scan", desc := "(LDatumDesk$Text;)V" } : Jvm.MethodName) ({ cls := "DatumDesk$Tokens", name := "scan", desc := "(LDatumDesk$Text;)V" } : Jvm.MethodName)) ∈ TB := tb_of 3 rfl rfl
set_option maxRecDepth 20000 in
theorem w_4 : (Jvm.Cond.selects "DatumDesk$Text" ({ cls := "DatumDesk$Text", name := "skipBlanks", desc := "(I)I" } : Jvm.MethodName) ({ cls := "DatumDesk$Text", name := "skipBlanks", desc := "(I)I" } : Jvm.MethodName)) ∈ TB := tb_of 4 rfl rfl
set_option maxRecDepth 20000 in
theorem w_5 : (Jvm.Cond.selects "DatumDesk$Text" ({ cls := "DatumDesk$Text", name := "at", desc := "(I)I" } : Jvm.MethodName) ({ cls := "DatumDesk$Text", name := "at", desc := "(I)I" } : Jvm.MethodName)) ∈ TB := tb_of 5 rfl rfl
set_option maxRecDepth 20000 in
theorem w_6 : (Jvm.Cond.selects "DatumDesk$Text" ({ cls := "DatumDesk$Text", name := "sortAt", desc := "(I)I" } : Jvm.MethodName) ({ cls := "DatumDesk$Text", name := "sortAt", desc := "(I)I" } : Jvm.MethodName)) ∈ TB := tb_of 6 rfl rfl
set_option maxRecDepth 20000 in
theorem w_7 : (Jvm.Cond.selects "DatumDesk$Text" ({ cls := "DatumDesk$Text", name := "tokenEnd", desc := "(II)I" } : Jvm.MethodName) ({ cls := "DatumDesk$Text", name := "tokenEnd", desc := "(II)I" } : Jvm.MethodName)) ∈ TB := tb_of 7 rfl rfl
set_option maxRecDepth 20000 in
theorem w_8 : (Jvm.Cond.selects "DatumDesk$Text" ({ cls := "DatumDesk$Text", name := "numberEnd", desc := "(I)I" } : Jvm.MethodName) ({ cls := "DatumDesk$Text", name := "numberEnd", desc := "(I)I" } : Jvm.MethodName)) ∈ TB := tb_of 8 rfl rfl
set_option maxRecDepth 20000 in
theorem w_9 : (Jvm.Cond.selects "DatumDesk$Text" ({ cls := "DatumDesk$Text", name := "wordEnd", desc := "(I)I" } : Jvm.MethodName) ({ cls := "DatumDesk$Text", name := "wordEnd", desc := "(I)I" } : Jvm.MethodName)) ∈ TB := tb_of 9 rfl rfl
set_option maxRecDepth 20000 in
theorem w_10 : (Jvm.Cond.selects "DatumDesk$Text" ({ cls := "DatumDesk$Text", name := "nameEnd", desc := "(I)I" } : Jvm.MethodName) ({ cls := "DatumDesk$Text", name := "nameEnd", desc := "(I)I" } : Jvm.MethodName)) ∈ TB := tb_of 10 rfl rfl
set_option maxRecDepth 20000 in
theorem w_11 : (Jvm.Cond.selects "DatumDesk$Text" ({ cls := "DatumDesk$Text", name := "stringEnd", desc := "(I)I" } : Jvm.MethodName) ({ cls := "DatumDesk$Text", name := "stringEnd", desc := "(I)I" } : Jvm.MethodName)) ∈ TB := tb_of 11 rfl rfl
set_option maxRecDepth 20000 in
theorem w_12 : (Jvm.Cond.selects "DatumDesk$Tokens" ({ cls := "DatumDesk$Tokens", name := "sortOf", desc := "(I)I" } : Jvm.MethodName) ({ cls := "DatumDesk$Tokens", name := "sortOf", desc := "(I)I" } : Jvm.MethodName)) ∈ TB := tb_of 12 rfl rfl
set_option maxRecDepth 20000 in
theorem w_13 : (Jvm.Cond.selects "DatumDesk$Reader" ({ cls := "DatumDesk$Reader", name := "readDatum", desc := "(I)I" } : Jvm.MethodName) ({ cls := "DatumDesk$Reader", name := "readDatum", desc := "(I)I" } : Jvm.MethodName)) ∈ TB := tb_of 13 rfl rfl
set_option maxRecDepth 20000 in
theorem w_14 : (Jvm.Cond.selects "DatumDesk$Reader" ({ cls := "DatumDesk$Reader", name := "readNumber", desc := "()I" } : Jvm.MethodName) ({ cls := "DatumDesk$Reader", name := "readNumber", desc := "()I" } : Jvm.MethodName)) ∈ TB := tb_of 14 rfl rfl
set_option maxRecDepth 20000 in
theorem w_15 : (Jvm.Cond.selects "DatumDesk$Tokens" ({ cls := "DatumDesk$Tokens", name := "endOf", desc := "(I)I" } : Jvm.MethodName) ({ cls := "DatumDesk$Tokens", name := "endOf", desc := "(I)I" } : Jvm.MethodName)) ∈ TB := tb_of 15 rfl rfl
set_option maxRecDepth 20000 in
theorem w_16 : (Jvm.Cond.selects "DatumDesk$Tokens" ({ cls := "DatumDesk$Tokens", name := "startOf", desc := "(I)I" } : Jvm.MethodName) ({ cls := "DatumDesk$Tokens", name := "startOf", desc := "(I)I" } : Jvm.MethodName)) ∈ TB := tb_of 16 rfl rfl
set_option maxRecDepth 20000 in
theorem w_17 : (Jvm.Cond.selects "DatumDesk$Reader" ({ cls := "DatumDesk$Reader", name := "add", desc := "(I)I" } : Jvm.MethodName) ({ cls := "DatumDesk$Reader", name := "add", desc := "(I)I" } : Jvm.MethodName)) ∈ TB := tb_of 17 rfl rfl
set_option maxRecDepth 20000 in
theorem w_18 : (Jvm.Cond.selects "DatumDesk$Nodes" ({ cls := "DatumDesk$Nodes", name := "add", desc := "(I)I" } : Jvm.MethodName) ({ cls := "DatumDesk$Nodes", name := "add", desc := "(I)I" } : Jvm.MethodName)) ∈ TB := tb_of 18 rfl rfl
set_option maxRecDepth 20000 in
theorem w_19 : (Jvm.Cond.selects "DatumDesk$Reader" ({ cls := "DatumDesk$Reader", name := "fault", desc := "()I" } : Jvm.MethodName) ({ cls := "DatumDesk$Reader", name := "fault", desc := "()I" } : Jvm.MethodName)) ∈ TB := tb_of 19 rfl rfl
set_option maxRecDepth 20000 in
theorem w_20 : (Jvm.Cond.selects "DatumDesk$Nodes" ({ cls := "DatumDesk$Nodes", name := "setAmount", desc := "(II)V" } : Jvm.MethodName) ({ cls := "DatumDesk$Nodes", name := "setAmount", desc := "(II)V" } : Jvm.MethodName)) ∈ TB := tb_of 20 rfl rfl
set_option maxRecDepth 20000 in
theorem w_21 : (Jvm.Cond.selects "DatumDesk$Nodes" ({ cls := "DatumDesk$Nodes", name := "has", desc := "(I)Z" } : Jvm.MethodName) ({ cls := "DatumDesk$Nodes", name := "has", desc := "(I)Z" } : Jvm.MethodName)) ∈ TB := tb_of 21 rfl rfl
set_option maxRecDepth 20000 in
theorem w_22 : (Jvm.Cond.selects "DatumDesk$Reader" ({ cls := "DatumDesk$Reader", name := "readName", desc := "()I" } : Jvm.MethodName) ({ cls := "DatumDesk$Reader", name := "readName", desc := "()I" } : Jvm.MethodName)) ∈ TB := tb_of 22 rfl rfl
set_option maxRecDepth 20000 in
theorem w_23 : (Jvm.Cond.selects "DatumDesk$Nodes" ({ cls := "DatumDesk$Nodes", name := "addLetter", desc := "(II)V" } : Jvm.MethodName) ({ cls := "DatumDesk$Nodes", name := "addLetter", desc := "(II)V" } : Jvm.MethodName)) ∈ TB := tb_of 23 rfl rfl
set_option maxRecDepth 20000 in
theorem w_24 : (Jvm.Cond.selects "DatumDesk$Reader" ({ cls := "DatumDesk$Reader", name := "readString", desc := "()I" } : Jvm.MethodName) ({ cls := "DatumDesk$Reader", name := "readString", desc := "()I" } : Jvm.MethodName)) ∈ TB := tb_of 24 rfl rfl
set_option maxRecDepth 20000 in
theorem w_25 : (Jvm.Cond.selects "DatumDesk$Reader" ({ cls := "DatumDesk$Reader", name := "readQuoted", desc := "(I)I" } : Jvm.MethodName) ({ cls := "DatumDesk$Reader", name := "readQuoted", desc := "(I)I" } : Jvm.MethodName)) ∈ TB := tb_of 25 rfl rfl
set_option maxRecDepth 20000 in
theorem w_26 : (Jvm.Cond.selects "DatumDesk$Nodes" ({ cls := "DatumDesk$Nodes", name := "nameQuote", desc := "(I)V" } : Jvm.MethodName) ({ cls := "DatumDesk$Nodes", name := "nameQuote", desc := "(I)V" } : Jvm.MethodName)) ∈ TB := tb_of 26 rfl rfl
set_option maxRecDepth 20000 in
theorem w_27 : (Jvm.Cond.selects "DatumDesk$Nodes" ({ cls := "DatumDesk$Nodes", name := "setHead", desc := "(II)V" } : Jvm.MethodName) ({ cls := "DatumDesk$Nodes", name := "setHead", desc := "(II)V" } : Jvm.MethodName)) ∈ TB := tb_of 27 rfl rfl
set_option maxRecDepth 20000 in
theorem w_28 : (Jvm.Cond.selects "DatumDesk$Nodes" ({ cls := "DatumDesk$Nodes", name := "setTail", desc := "(II)V" } : Jvm.MethodName) ({ cls := "DatumDesk$Nodes", name := "setTail", desc := "(II)V" } : Jvm.MethodName)) ∈ TB := tb_of 28 rfl rfl
set_option maxRecDepth 20000 in
theorem w_29 : (Jvm.Cond.selects "DatumDesk$Reader" ({ cls := "DatumDesk$Reader", name := "readList", desc := "(I)I" } : Jvm.MethodName) ({ cls := "DatumDesk$Reader", name := "readList", desc := "(I)I" } : Jvm.MethodName)) ∈ TB := tb_of 29 rfl rfl
set_option maxRecDepth 20000 in
theorem w_30 : (Jvm.Cond.selects "DatumDesk$Reader" ({ cls := "DatumDesk$Reader", name := "readDotted", desc := "(I)I" } : Jvm.MethodName) ({ cls := "DatumDesk$Reader", name := "readDotted", desc := "(I)I" } : Jvm.MethodName)) ∈ TB := tb_of 30 rfl rfl
set_option maxRecDepth 20000 in
theorem w_31 : (Jvm.Cond.selects "DatumDesk$Nodes" ({ cls := "DatumDesk$Nodes", name := "addDatum", desc := "(I)V" } : Jvm.MethodName) ({ cls := "DatumDesk$Nodes", name := "addDatum", desc := "(I)V" } : Jvm.MethodName)) ∈ TB := tb_of 31 rfl rfl
set_option maxRecDepth 20000 in
theorem w_32 : (Jvm.Cond.selects "DatumDesk$Nodes" ({ cls := "DatumDesk$Nodes", name := "datumNode", desc := "(I)I" } : Jvm.MethodName) ({ cls := "DatumDesk$Nodes", name := "datumNode", desc := "(I)I" } : Jvm.MethodName)) ∈ TB := tb_of 32 rfl rfl
set_option maxRecDepth 20000 in
theorem w_33 : (Jvm.Cond.selects "DatumDesk$Nodes" ({ cls := "DatumDesk$Nodes", name := "kindOf", desc := "(I)I" } : Jvm.MethodName) ({ cls := "DatumDesk$Nodes", name := "kindOf", desc := "(I)I" } : Jvm.MethodName)) ∈ TB := tb_of 33 rfl rfl
set_option maxRecDepth 20000 in
theorem w_34 : (Jvm.Cond.selects "DatumDesk$Nodes" ({ cls := "DatumDesk$Nodes", name := "amountOf", desc := "(I)I" } : Jvm.MethodName) ({ cls := "DatumDesk$Nodes", name := "amountOf", desc := "(I)I" } : Jvm.MethodName)) ∈ TB := tb_of 34 rfl rfl
set_option maxRecDepth 20000 in
theorem w_35 : (Jvm.Cond.selects "DatumDesk$Nodes" ({ cls := "DatumDesk$Nodes", name := "byteOf", desc := "(II)I" } : Jvm.MethodName) ({ cls := "DatumDesk$Nodes", name := "byteOf", desc := "(II)I" } : Jvm.MethodName)) ∈ TB := tb_of 35 rfl rfl
set_option maxRecDepth 20000 in
theorem w_36 : (Jvm.Cond.selects "DatumDesk$Nodes" ({ cls := "DatumDesk$Nodes", name := "isOf", desc := "(II)Z" } : Jvm.MethodName) ({ cls := "DatumDesk$Nodes", name := "isOf", desc := "(II)Z" } : Jvm.MethodName)) ∈ TB := tb_of 36 rfl rfl
set_option maxRecDepth 20000 in
theorem w_37 : (Jvm.Cond.selects "DatumDesk$Nodes" ({ cls := "DatumDesk$Nodes", name := "headOf", desc := "(I)I" } : Jvm.MethodName) ({ cls := "DatumDesk$Nodes", name := "headOf", desc := "(I)I" } : Jvm.MethodName)) ∈ TB := tb_of 37 rfl rfl
set_option maxRecDepth 20000 in
theorem w_38 : (Jvm.Cond.selects "DatumDesk$Nodes" ({ cls := "DatumDesk$Nodes", name := "tailOf", desc := "(I)I" } : Jvm.MethodName) ({ cls := "DatumDesk$Nodes", name := "tailOf", desc := "(I)I" } : Jvm.MethodName)) ∈ TB := tb_of 38 rfl rfl
set_option maxRecDepth 20000 in
theorem w_39 : (Jvm.Cond.selects "DatumDesk$Nodes" ({ cls := "DatumDesk$Nodes", name := "alike", desc := "(III)Z" } : Jvm.MethodName) ({ cls := "DatumDesk$Nodes", name := "alike", desc := "(III)Z" } : Jvm.MethodName)) ∈ TB := tb_of 39 rfl rfl
set_option maxRecDepth 20000 in
theorem w_40 : (Jvm.Cond.selects "DatumDesk$Nodes" ({ cls := "DatumDesk$Nodes", name := "sameContent", desc := "(II)Z" } : Jvm.MethodName) ({ cls := "DatumDesk$Nodes", name := "sameContent", desc := "(II)Z" } : Jvm.MethodName)) ∈ TB := tb_of 40 rfl rfl
set_option maxRecDepth 20000 in
theorem w_41 : (Jvm.Cond.selects "DatumDesk$Writer" ({ cls := "DatumDesk$Writer", name := "writeNode", desc := "(II)V" } : Jvm.MethodName) ({ cls := "DatumDesk$Writer", name := "writeNode", desc := "(II)V" } : Jvm.MethodName)) ∈ TB := tb_of 41 rfl rfl
set_option maxRecDepth 20000 in
theorem w_42 : (Jvm.Cond.selects "DatumDesk$Writer" ({ cls := "DatumDesk$Writer", name := "writeNumber", desc := "(I)V" } : Jvm.MethodName) ({ cls := "DatumDesk$Writer", name := "writeNumber", desc := "(I)V" } : Jvm.MethodName)) ∈ TB := tb_of 42 rfl rfl
set_option maxRecDepth 20000 in
theorem w_43 : (Jvm.Cond.selects "DatumDesk$Waiting" ({ cls := "DatumDesk$Waiting", name := "append", desc := "(I)V" } : Jvm.MethodName) ({ cls := "DatumDesk$Waiting", name := "append", desc := "(I)V" } : Jvm.MethodName)) ∈ TB := tb_of 43 rfl rfl
set_option maxRecDepth 20000 in
theorem w_44 : (Jvm.Cond.selects "DatumDesk$Writer" ({ cls := "DatumDesk$Writer", name := "writeName", desc := "(I)V" } : Jvm.MethodName) ({ cls := "DatumDesk$Writer", name := "writeName", desc := "(I)V" } : Jvm.MethodName)) ∈ TB := tb_of 44 rfl rfl
set_option maxRecDepth 20000 in
theorem w_45 : (Jvm.Cond.selects "DatumDesk$Writer" ({ cls := "DatumDesk$Writer", name := "writeString", desc := "(I)V" } : Jvm.MethodName) ({ cls := "DatumDesk$Writer", name := "writeString", desc := "(I)V" } : Jvm.MethodName)) ∈ TB := tb_of 45 rfl rfl
set_option maxRecDepth 20000 in
theorem w_46 : (Jvm.Cond.selects "DatumDesk$Writer" ({ cls := "DatumDesk$Writer", name := "writePair", desc := "(II)V" } : Jvm.MethodName) ({ cls := "DatumDesk$Writer", name := "writePair", desc := "(II)V" } : Jvm.MethodName)) ∈ TB := tb_of 46 rfl rfl
set_option maxRecDepth 20000 in
theorem w_47 : (Jvm.Cond.selects "DatumDesk$Nodes" ({ cls := "DatumDesk$Nodes", name := "quotedIn", desc := "(I)I" } : Jvm.MethodName) ({ cls := "DatumDesk$Nodes", name := "quotedIn", desc := "(I)I" } : Jvm.MethodName)) ∈ TB := tb_of 47 rfl rfl
set_option maxRecDepth 20000 in
theorem w_48 : (Jvm.Cond.selects "DatumDesk$Nodes" ({ cls := "DatumDesk$Nodes", name := "isQuoteName", desc := "(I)Z" } : Jvm.MethodName) ({ cls := "DatumDesk$Nodes", name := "isQuoteName", desc := "(I)Z" } : Jvm.MethodName)) ∈ TB := tb_of 48 rfl rfl
set_option maxRecDepth 20000 in
theorem w_49 : (Jvm.Cond.selects "DatumDesk$Waiting" ({ cls := "DatumDesk$Waiting", name := "take", desc := "()I" } : Jvm.MethodName) ({ cls := "DatumDesk$Waiting", name := "take", desc := "()I" } : Jvm.MethodName)) ∈ TB := tb_of 49 rfl rfl
set_option maxRecDepth 20000 in
theorem w_50 : (Jvm.Cond.selects "DatumDeskModel" ({ cls := "DatumDeskModel", name := "token", desc := "()I" } : Jvm.MethodName) ({ cls := "DatumDeskModel", name := "token", desc := "()I" } : Jvm.MethodName)) ∈ TB := tb_of 50 rfl rfl
set_option maxRecDepth 20000 in
theorem w_51 : (Jvm.Cond.selects "DatumDeskModel" ({ cls := "DatumDeskModel", name := "skip", desc := "()V" } : Jvm.MethodName) ({ cls := "DatumDeskModel", name := "skip", desc := "()V" } : Jvm.MethodName)) ∈ TB := tb_of 51 rfl rfl
set_option maxRecDepth 20000 in
theorem w_52 : (Jvm.Cond.selects "DatumDeskModel" ({ cls := "DatumDeskModel", name := "peek", desc := "(I)I" } : Jvm.MethodName) ({ cls := "DatumDeskModel", name := "peek", desc := "(I)I" } : Jvm.MethodName)) ∈ TB := tb_of 52 rfl rfl
set_option maxRecDepth 20000 in
theorem w_53 : (Jvm.Cond.selects "DatumDeskModel" ({ cls := "DatumDeskModel", name := "string", desc := "()I" } : Jvm.MethodName) ({ cls := "DatumDeskModel", name := "string", desc := "()I" } : Jvm.MethodName)) ∈ TB := tb_of 53 rfl rfl
set_option maxRecDepth 20000 in
theorem w_54 : (Jvm.Cond.selects "DatumDeskModel" ({ cls := "DatumDeskModel", name := "fail", desc := "(I)V" } : Jvm.MethodName) ({ cls := "DatumDeskModel", name := "fail", desc := "(I)V" } : Jvm.MethodName)) ∈ TB := tb_of 54 rfl rfl
set_option maxRecDepth 20000 in
theorem w_55 : (Jvm.Cond.selects "DatumDeskModel" ({ cls := "DatumDeskModel", name := "opens", desc := "(Z)V" } : Jvm.MethodName) ({ cls := "DatumDeskModel", name := "opens", desc := "(Z)V" } : Jvm.MethodName)) ∈ TB := tb_of 55 rfl rfl
set_option maxRecDepth 20000 in
theorem w_56 : (Jvm.Cond.selects "DatumDeskModel" ({ cls := "DatumDeskModel", name := "begin", desc := "()V" } : Jvm.MethodName) ({ cls := "DatumDeskModel", name := "begin", desc := "()V" } : Jvm.MethodName)) ∈ TB := tb_of 56 rfl rfl
set_option maxRecDepth 20000 in
theorem w_57 : (Jvm.Cond.selects "DatumDeskModel" ({ cls := "DatumDeskModel", name := "node", desc := "(I)I" } : Jvm.MethodName) ({ cls := "DatumDeskModel", name := "node", desc := "(I)I" } : Jvm.MethodName)) ∈ TB := tb_of 57 rfl rfl
set_option maxRecDepth 20000 in
theorem w_58 : (Jvm.Cond.selects "DatumDeskModel" ({ cls := "DatumDeskModel", name := "letter", desc := "(II)V" } : Jvm.MethodName) ({ cls := "DatumDeskModel", name := "letter", desc := "(II)V" } : Jvm.MethodName)) ∈ TB := tb_of 58 rfl rfl
set_option maxRecDepth 20000 in
theorem w_59 : (Jvm.Cond.selects "DatumDeskModel" ({ cls := "DatumDeskModel", name := "closes", desc := "()V" } : Jvm.MethodName) ({ cls := "DatumDeskModel", name := "closes", desc := "()V" } : Jvm.MethodName)) ∈ TB := tb_of 59 rfl rfl
set_option maxRecDepth 20000 in
theorem w_60 : (Jvm.Cond.selects "DatumDeskModel" ({ cls := "DatumDeskModel", name := "end", desc := "(I)V" } : Jvm.MethodName) ({ cls := "DatumDeskModel", name := "end", desc := "(I)V" } : Jvm.MethodName)) ∈ TB := tb_of 60 rfl rfl
set_option maxRecDepth 20000 in
theorem w_61 : (Jvm.Cond.selects "DatumDeskModel" ({ cls := "DatumDeskModel", name := "atom", desc := "(I)I" } : Jvm.MethodName) ({ cls := "DatumDeskModel", name := "atom", desc := "(I)I" } : Jvm.MethodName)) ∈ TB := tb_of 61 rfl rfl
set_option maxRecDepth 20000 in
theorem w_62 : (Jvm.Cond.selects "DatumDeskModel" ({ cls := "DatumDeskModel", name := "isNode", desc := "(I)Z" } : Jvm.MethodName) ({ cls := "DatumDeskModel", name := "isNode", desc := "(I)Z" } : Jvm.MethodName)) ∈ TB := tb_of 62 rfl rfl
set_option maxRecDepth 20000 in
theorem w_63 : (Jvm.Cond.selects "DatumDeskModel" ({ cls := "DatumDeskModel", name := "same", desc := "(II)Z" } : Jvm.MethodName) ({ cls := "DatumDeskModel", name := "same", desc := "(II)Z" } : Jvm.MethodName)) ∈ TB := tb_of 63 rfl rfl
set_option maxRecDepth 20000 in
theorem w_64 : (Jvm.Cond.selects "DatumDeskModel" ({ cls := "DatumDeskModel", name := "step", desc := "(II)I" } : Jvm.MethodName) ({ cls := "DatumDeskModel", name := "step", desc := "(II)I" } : Jvm.MethodName)) ∈ TB := tb_of 64 rfl rfl
set_option maxRecDepth 20000 in
theorem w_65 : (Jvm.Cond.selects "DatumDeskModel" ({ cls := "DatumDeskModel", name := "say", desc := "(I)V" } : Jvm.MethodName) ({ cls := "DatumDeskModel", name := "say", desc := "(I)V" } : Jvm.MethodName)) ∈ TB := tb_of 65 rfl rfl
set_option maxRecDepth 20000 in
theorem w_66 : (Jvm.Cond.selects "DatumDeskModel" ({ cls := "DatumDeskModel", name := "isQuote", desc := "(I)Z" } : Jvm.MethodName) ({ cls := "DatumDeskModel", name := "isQuote", desc := "(I)Z" } : Jvm.MethodName)) ∈ TB := tb_of 66 rfl rfl
set_option maxRecDepth 20000 in
theorem w_67 : (Jvm.Cond.selects "DatumDeskModel" ({ cls := "DatumDeskModel", name := "number", desc := "(I)V" } : Jvm.MethodName) ({ cls := "DatumDeskModel", name := "number", desc := "(I)V" } : Jvm.MethodName)) ∈ TB := tb_of 67 rfl rfl
set_option maxRecDepth 20000 in
theorem w_68 : (Jvm.Cond.selects "DatumDeskModel" ({ cls := "DatumDeskModel", name := "letters", desc := "(I)V" } : Jvm.MethodName) ({ cls := "DatumDeskModel", name := "letters", desc := "(I)V" } : Jvm.MethodName)) ∈ TB := tb_of 68 rfl rfl
set_option maxRecDepth 20000 in
theorem w_71 : (Jvm.Cond.initialized "DatumDesk$Text") ∈ TB := tb_of 71 rfl rfl
set_option maxRecDepth 20000 in
theorem w_72 : (Jvm.Cond.initialized "DatumDesk$Nodes") ∈ TB := tb_of 72 rfl rfl
set_option maxRecDepth 20000 in
theorem w_74 : (Jvm.Cond.initialized "DatumDesk$Reader") ∈ TB := tb_of 74 rfl rfl
set_option maxRecDepth 20000 in
theorem w_75 : (Jvm.Cond.initialized "DatumDesk$Tokens") ∈ TB := tb_of 75 rfl rfl
set_option maxRecDepth 20000 in
theorem w_76 : (Jvm.Cond.initialized "DatumDesk$Waiting") ∈ TB := tb_of 76 rfl rfl
set_option maxRecDepth 20000 in
theorem w_77 : (Jvm.Cond.initialized "DatumDesk$Writer") ∈ TB := tb_of 77 rfl rfl
set_option maxRecDepth 20000 in
theorem w_78 : (Jvm.Cond.initialized "DatumDeskModel") ∈ TB := tb_of 78 rfl rfl
set_option maxRecDepth 20000 in
theorem w_83 : (Jvm.Cond.initialized "java/lang/Math") ∈ TB := tb_of 83 rfl rfl
set_option maxRecDepth 20000 in
theorem w_98 : (Jvm.Cond.fieldLink "DatumDesk$Text" (9 : Nat) "DatumDesk$Text" "bytes" "[I") ∈ TB := tb_of 98 rfl rfl
set_option maxRecDepth 20000 in
theorem w_99 : (Jvm.Cond.fieldLink "DatumDesk$Text" (15 : Nat) "DatumDesk$Text" "length" "I") ∈ TB := tb_of 99 rfl rfl
set_option maxRecDepth 20000 in
theorem w_100 : (Jvm.Cond.fieldLinkNest "DatumDesk" (48 : Nat) "DatumDesk$Text" "length" "I" "DatumDesk") ∈ NWs := nw_of 100 rfl rfl
set_option maxRecDepth 20000 in
theorem w_113 : (Jvm.Cond.fieldLinkNest "DatumDesk$Nodes" (37 : Nat) "DatumDesk" "QUOTE" "[I" "DatumDesk") ∈ NWs := nw_of 113 rfl rfl
set_option maxRecDepth 20000 in
theorem w_118 : (Jvm.Cond.fieldLink "DatumDesk$Nodes" (9 : Nat) "DatumDesk$Nodes" "kinds" "[I") ∈ TB := tb_of 118 rfl rfl
set_option maxRecDepth 20000 in
theorem w_119 : (Jvm.Cond.fieldLink "DatumDesk$Nodes" (15 : Nat) "DatumDesk$Nodes" "amounts" "[I") ∈ TB := tb_of 119 rfl rfl
set_option maxRecDepth 20000 in
theorem w_120 : (Jvm.Cond.fieldLink "DatumDesk$Nodes" (18 : Nat) "DatumDesk$Nodes" "starts" "[I") ∈ TB := tb_of 120 rfl rfl
set_option maxRecDepth 20000 in
theorem w_121 : (Jvm.Cond.fieldLink "DatumDesk$Nodes" (21 : Nat) "DatumDesk$Nodes" "heads" "[I") ∈ TB := tb_of 121 rfl rfl
set_option maxRecDepth 20000 in
theorem w_122 : (Jvm.Cond.fieldLink "DatumDesk$Nodes" (24 : Nat) "DatumDesk$Nodes" "tails" "[I") ∈ TB := tb_of 122 rfl rfl
set_option maxRecDepth 20000 in
theorem w_123 : (Jvm.Cond.fieldLink "DatumDesk$Nodes" (27 : Nat) "DatumDesk$Nodes" "count" "I") ∈ TB := tb_of 123 rfl rfl
set_option maxRecDepth 20000 in
theorem w_124 : (Jvm.Cond.fieldLinkNest "DatumDesk" (109 : Nat) "DatumDesk$Nodes" "count" "I" "DatumDesk") ∈ NWs := nw_of 124 rfl rfl
set_option maxRecDepth 20000 in
theorem w_125 : (Jvm.Cond.fieldLink "DatumDesk$Nodes" (31 : Nat) "DatumDesk$Nodes" "data" "[I") ∈ TB := tb_of 125 rfl rfl
set_option maxRecDepth 20000 in
theorem w_126 : (Jvm.Cond.fieldLink "DatumDesk$Nodes" (34 : Nat) "DatumDesk$Nodes" "dataCount" "I") ∈ TB := tb_of 126 rfl rfl
set_option maxRecDepth 20000 in
theorem w_127 : (Jvm.Cond.fieldLinkNest "DatumDesk" (62 : Nat) "DatumDesk$Nodes" "dataCount" "I" "DatumDesk") ∈ NWs := nw_of 127 rfl rfl
set_option maxRecDepth 20000 in
theorem w_128 : (Jvm.Cond.fieldLink "DatumDesk$Nodes" (40 : Nat) "DatumDesk$Nodes" "letters" "[I") ∈ TB := tb_of 128 rfl rfl
set_option maxRecDepth 20000 in
theorem w_129 : (Jvm.Cond.fieldLink "DatumDesk$Nodes" (43 : Nat) "DatumDesk$Nodes" "letterCount" "I") ∈ TB := tb_of 129 rfl rfl
set_option maxRecDepth 20000 in
theorem w_163 : (Jvm.Cond.fieldLink "DatumDesk$Tokens" (9 : Nat) "DatumDesk$Tokens" "sorts" "[I") ∈ TB := tb_of 163 rfl rfl
set_option maxRecDepth 20000 in
theorem w_164 : (Jvm.Cond.fieldLink "DatumDesk$Tokens" (15 : Nat) "DatumDesk$Tokens" "starts" "[I") ∈ TB := tb_of 164 rfl rfl
set_option maxRecDepth 20000 in
theorem w_165 : (Jvm.Cond.fieldLink "DatumDesk$Tokens" (18 : Nat) "DatumDesk$Tokens" "ends" "[I") ∈ TB := tb_of 165 rfl rfl
set_option maxRecDepth 20000 in
theorem w_166 : (Jvm.Cond.fieldLink "DatumDesk$Tokens" (21 : Nat) "DatumDesk$Tokens" "count" "I") ∈ TB := tb_of 166 rfl rfl
set_option maxRecDepth 20000 in
theorem w_176 : (Jvm.Cond.fieldLink "DatumDesk$Reader" (25 : Nat) "DatumDesk$Reader" "text" "LDatumDesk$Text;") ∈ TB := tb_of 176 rfl rfl
set_option maxRecDepth 20000 in
theorem w_177 : (Jvm.Cond.fieldLink "DatumDesk$Reader" (29 : Nat) "DatumDesk$Reader" "nodes" "LDatumDesk$Nodes;") ∈ TB := tb_of 177 rfl rfl
set_option maxRecDepth 20000 in
theorem w_178 : (Jvm.Cond.fieldLink "DatumDesk$Reader" (12 : Nat) "DatumDesk$Reader" "tokens" "LDatumDesk$Tokens;") ∈ TB := tb_of 178 rfl rfl
set_option maxRecDepth 20000 in
theorem w_179 : (Jvm.Cond.fieldLink "DatumDesk$Reader" (18 : Nat) "DatumDesk$Reader" "cursor" "I") ∈ TB := tb_of 179 rfl rfl
set_option maxRecDepth 20000 in
theorem w_180 : (Jvm.Cond.fieldLink "DatumDesk$Reader" (22 : Nat) "DatumDesk$Reader" "faultPlace" "I") ∈ TB := tb_of 180 rfl rfl
set_option maxRecDepth 20000 in
theorem w_181 : (Jvm.Cond.fieldLinkNest "DatumDesk" (59 : Nat) "DatumDesk$Reader" "faultPlace" "I" "DatumDesk") ∈ NWs := nw_of 181 rfl rfl
set_option maxRecDepth 20000 in
theorem w_199 : (Jvm.Cond.fieldLink "DatumDesk$Waiting" (9 : Nat) "DatumDesk$Waiting" "bytes" "[I") ∈ TB := tb_of 199 rfl rfl
set_option maxRecDepth 20000 in
theorem w_200 : (Jvm.Cond.fieldLink "DatumDesk$Waiting" (15 : Nat) "DatumDesk$Waiting" "first" "I") ∈ TB := tb_of 200 rfl rfl
set_option maxRecDepth 20000 in
theorem w_201 : (Jvm.Cond.fieldLink "DatumDesk$Waiting" (19 : Nat) "DatumDesk$Waiting" "count" "I") ∈ TB := tb_of 201 rfl rfl
set_option maxRecDepth 20000 in
theorem w_202 : (Jvm.Cond.fieldLinkNest "DatumDesk" (97 : Nat) "DatumDesk$Waiting" "count" "I" "DatumDesk") ∈ NWs := nw_of 202 rfl rfl
set_option maxRecDepth 20000 in
theorem w_216 : (Jvm.Cond.fieldLink "DatumDesk$Writer" (9 : Nat) "DatumDesk$Writer" "nodes" "LDatumDesk$Nodes;") ∈ TB := tb_of 216 rfl rfl
set_option maxRecDepth 20000 in
theorem w_217 : (Jvm.Cond.fieldLink "DatumDesk$Writer" (15 : Nat) "DatumDesk$Writer" "waiting" "LDatumDesk$Waiting;") ∈ TB := tb_of 217 rfl rfl
set_option maxRecDepth 20000 in
theorem w_223 : (Jvm.Cond.fieldLink "DatumDesk" (10 : Nat) "DatumDesk" "text" "LDatumDesk$Text;") ∈ TB := tb_of 223 rfl rfl
set_option maxRecDepth 20000 in
theorem w_224 : (Jvm.Cond.fieldLink "DatumDesk" (19 : Nat) "DatumDesk" "nodes" "LDatumDesk$Nodes;") ∈ TB := tb_of 224 rfl rfl
set_option maxRecDepth 20000 in
theorem w_225 : (Jvm.Cond.fieldLink "DatumDesk" (28 : Nat) "DatumDesk" "reader" "LDatumDesk$Reader;") ∈ TB := tb_of 225 rfl rfl
set_option maxRecDepth 20000 in
theorem w_226 : (Jvm.Cond.fieldLink "DatumDesk" (35 : Nat) "DatumDesk" "waiting" "LDatumDesk$Waiting;") ∈ TB := tb_of 226 rfl rfl
set_option maxRecDepth 20000 in
theorem w_227 : (Jvm.Cond.fieldLink "DatumDesk" (44 : Nat) "DatumDesk" "writer" "LDatumDesk$Writer;") ∈ TB := tb_of 227 rfl rfl
set_option maxRecDepth 20000 in
theorem w_243 : (Jvm.Cond.methodLinkNest "DatumDesk" (52 : Nat) ({ cls := "DatumDesk$Text", name := "append", desc := "(I)V" } : Jvm.MethodName) "DatumDesk") ∈ NWs := nw_of 243 rfl rfl
set_option maxRecDepth 20000 in
theorem w_245 : (Jvm.Cond.instanceMethod ({ cls := "DatumDesk$Text", name := "append", desc := "(I)V" } : Jvm.MethodName)) ∈ TB := tb_of 245 rfl rfl
set_option maxRecDepth 20000 in
theorem w_246 : (Jvm.Cond.code ({ cls := "DatumDesk$Text", name := "append", desc := "(I)V" } : Jvm.MethodName) prog_4_method_2_code (2 : Nat) (Option.none : Option Jvm.ClassFile.FieldType)) ∈ TB := tb_of 246 rfl rfl
set_option maxRecDepth 20000 in
theorem w_251 : (Jvm.Cond.methodLinkNest "DatumDesk" (56 : Nat) ({ cls := "DatumDesk$Reader", name := "readText", desc := "()V" } : Jvm.MethodName) "DatumDesk") ∈ NWs := nw_of 251 rfl rfl
set_option maxRecDepth 20000 in
theorem w_253 : (Jvm.Cond.instanceMethod ({ cls := "DatumDesk$Reader", name := "readText", desc := "()V" } : Jvm.MethodName)) ∈ TB := tb_of 253 rfl rfl
set_option maxRecDepth 20000 in
theorem w_254 : (Jvm.Cond.code ({ cls := "DatumDesk$Reader", name := "readText", desc := "()V" } : Jvm.MethodName) prog_3_method_2_code (3 : Nat) (Option.none : Option Jvm.ClassFile.FieldType)) ∈ TB := tb_of 254 rfl rfl
set_option maxRecDepth 20000 in
theorem w_255 : (Jvm.Cond.methodLinkNest "DatumDesk$Reader" (33 : Nat) ({ cls := "DatumDesk$Nodes", name := "clear", desc := "()V" } : Jvm.MethodName) "DatumDesk") ∈ NWs := nw_of 255 rfl rfl
set_option maxRecDepth 20000 in
theorem w_257 : (Jvm.Cond.instanceMethod ({ cls := "DatumDesk$Nodes", name := "clear", desc := "()V" } : Jvm.MethodName)) ∈ TB := tb_of 257 rfl rfl
set_option maxRecDepth 20000 in
theorem w_258 : (Jvm.Cond.code ({ cls := "DatumDesk$Nodes", name := "clear", desc := "()V" } : Jvm.MethodName) prog_2_method_2_code (1 : Nat) (Option.none : Option Jvm.ClassFile.FieldType)) ∈ TB := tb_of 258 rfl rfl
set_option maxRecDepth 20000 in
theorem w_259 : (Jvm.Cond.methodLinkNest "DatumDesk$Reader" (38 : Nat) ({ cls := "DatumDesk$Tokens", name := "scan", desc := "(LDatumDesk$Text;)V" } : Jvm.MethodName) "DatumDesk") ∈ NWs := nw_of 259 rfl rfl
set_option maxRecDepth 20000 in
theorem w_261 : (Jvm.Cond.instanceMethod ({ cls := "DatumDesk$Tokens", name := "scan", desc := "(LDatumDesk$Text;)V" } : Jvm.MethodName)) ∈ TB := tb_of 261 rfl rfl
set_option maxRecDepth 20000 in
theorem w_262 : (Jvm.Cond.code ({ cls := "DatumDesk$Tokens", name := "scan", desc := "(LDatumDesk$Text;)V" } : Jvm.MethodName) prog_5_method_2_code (7 : Nat) (Option.none : Option Jvm.ClassFile.FieldType)) ∈ TB := tb_of 262 rfl rfl
set_option maxRecDepth 20000 in
theorem w_263 : (Jvm.Cond.methodLinkNest "DatumDesk$Tokens" (25 : Nat) ({ cls := "DatumDesk$Text", name := "skipBlanks", desc := "(I)I" } : Jvm.MethodName) "DatumDesk") ∈ NWs := nw_of 263 rfl rfl
set_option maxRecDepth 20000 in
theorem w_265 : (Jvm.Cond.instanceMethod ({ cls := "DatumDesk$Text", name := "skipBlanks", desc := "(I)I" } : Jvm.MethodName)) ∈ TB := tb_of 265 rfl rfl
set_option maxRecDepth 20000 in
theorem w_266 : (Jvm.Cond.code ({ cls := "DatumDesk$Text", name := "skipBlanks", desc := "(I)I" } : Jvm.MethodName) prog_4_method_4_code (5 : Nat) (Option.some Jvm.ClassFile.FieldType.int)) ∈ TB := tb_of 266 rfl rfl
set_option maxRecDepth 20000 in
theorem w_267 : (Jvm.Cond.methodLink "DatumDesk$Text" (19 : Nat) ({ cls := "DatumDesk$Text", name := "at", desc := "(I)I" } : Jvm.MethodName)) ∈ TB := tb_of 267 rfl rfl
set_option maxRecDepth 20000 in
theorem w_269 : (Jvm.Cond.instanceMethod ({ cls := "DatumDesk$Text", name := "at", desc := "(I)I" } : Jvm.MethodName)) ∈ TB := tb_of 269 rfl rfl
set_option maxRecDepth 20000 in
theorem w_270 : (Jvm.Cond.code ({ cls := "DatumDesk$Text", name := "at", desc := "(I)I" } : Jvm.MethodName) prog_4_method_3_code (2 : Nat) (Option.some Jvm.ClassFile.FieldType.int)) ∈ TB := tb_of 270 rfl rfl
set_option maxRecDepth 20000 in
theorem w_271 : (Jvm.Cond.methodLinkNest "DatumDesk$Tokens" (31 : Nat) ({ cls := "DatumDesk$Text", name := "sortAt", desc := "(I)I" } : Jvm.MethodName) "DatumDesk") ∈ NWs := nw_of 271 rfl rfl
set_option maxRecDepth 20000 in
theorem w_273 : (Jvm.Cond.instanceMethod ({ cls := "DatumDesk$Text", name := "sortAt", desc := "(I)I" } : Jvm.MethodName)) ∈ TB := tb_of 273 rfl rfl
set_option maxRecDepth 20000 in
theorem w_274 : (Jvm.Cond.code ({ cls := "DatumDesk$Text", name := "sortAt", desc := "(I)I" } : Jvm.MethodName) prog_4_method_5_code (3 : Nat) (Option.some Jvm.ClassFile.FieldType.int)) ∈ TB := tb_of 274 rfl rfl
set_option maxRecDepth 20000 in
theorem w_275 : (Jvm.Cond.methodLink "DatumDesk$Text" (23 : Nat) ({ cls := "DatumDesk$Text", name := "isDigit", desc := "(I)Z" } : Jvm.MethodName)) ∈ TB := tb_of 275 rfl rfl
set_option maxRecDepth 20000 in
theorem w_276 : (Jvm.Cond.static ({ cls := "DatumDesk$Text", name := "isDigit", desc := "(I)Z" } : Jvm.MethodName)) ∈ TB := tb_of 276 rfl rfl
set_option maxRecDepth 20000 in
theorem w_277 : (Jvm.Cond.code ({ cls := "DatumDesk$Text", name := "isDigit", desc := "(I)Z" } : Jvm.MethodName) prog_4_method_11_code (1 : Nat) (Option.some Jvm.ClassFile.FieldType.boolean)) ∈ TB := tb_of 277 rfl rfl
set_option maxRecDepth 20000 in
theorem w_278 : (Jvm.Cond.methodLink "DatumDesk$Text" (27 : Nat) ({ cls := "DatumDesk$Text", name := "isWordByte", desc := "(I)Z" } : Jvm.MethodName)) ∈ TB := tb_of 278 rfl rfl
set_option maxRecDepth 20000 in
theorem w_279 : (Jvm.Cond.static ({ cls := "DatumDesk$Text", name := "isWordByte", desc := "(I)Z" } : Jvm.MethodName)) ∈ TB := tb_of 279 rfl rfl
set_option maxRecDepth 20000 in
theorem w_280 : (Jvm.Cond.code ({ cls := "DatumDesk$Text", name := "isWordByte", desc := "(I)Z" } : Jvm.MethodName) prog_4_method_12_code (1 : Nat) (Option.some Jvm.ClassFile.FieldType.boolean)) ∈ TB := tb_of 280 rfl rfl
set_option maxRecDepth 20000 in
theorem w_281 : (Jvm.Cond.methodLinkNest "DatumDesk$Tokens" (34 : Nat) ({ cls := "DatumDesk$Text", name := "tokenEnd", desc := "(II)I" } : Jvm.MethodName) "DatumDesk") ∈ NWs := nw_of 281 rfl rfl
set_option maxRecDepth 20000 in
theorem w_283 : (Jvm.Cond.instanceMethod ({ cls := "DatumDesk$Text", name := "tokenEnd", desc := "(II)I" } : Jvm.MethodName)) ∈ TB := tb_of 283 rfl rfl
set_option maxRecDepth 20000 in
theorem w_284 : (Jvm.Cond.code ({ cls := "DatumDesk$Text", name := "tokenEnd", desc := "(II)I" } : Jvm.MethodName) prog_4_method_6_code (3 : Nat) (Option.some Jvm.ClassFile.FieldType.int)) ∈ TB := tb_of 284 rfl rfl
set_option maxRecDepth 20000 in
theorem w_285 : (Jvm.Cond.methodLink "DatumDesk$Text" (30 : Nat) ({ cls := "DatumDesk$Text", name := "numberEnd", desc := "(I)I" } : Jvm.MethodName)) ∈ TB := tb_of 285 rfl rfl
set_option maxRecDepth 20000 in
theorem w_287 : (Jvm.Cond.instanceMethod ({ cls := "DatumDesk$Text", name := "numberEnd", desc := "(I)I" } : Jvm.MethodName)) ∈ TB := tb_of 287 rfl rfl
set_option maxRecDepth 20000 in
theorem w_288 : (Jvm.Cond.code ({ cls := "DatumDesk$Text", name := "numberEnd", desc := "(I)I" } : Jvm.MethodName) prog_4_method_7_code (5 : Nat) (Option.some Jvm.ClassFile.FieldType.int)) ∈ TB := tb_of 288 rfl rfl
set_option maxRecDepth 20000 in
theorem w_289 : (Jvm.Cond.methodLink "DatumDesk$Text" (39 : Nat) ({ cls := "DatumDesk$Text", name := "wordEnd", desc := "(I)I" } : Jvm.MethodName)) ∈ TB := tb_of 289 rfl rfl
set_option maxRecDepth 20000 in
theorem w_291 : (Jvm.Cond.instanceMethod ({ cls := "DatumDesk$Text", name := "wordEnd", desc := "(I)I" } : Jvm.MethodName)) ∈ TB := tb_of 291 rfl rfl
set_option maxRecDepth 20000 in
theorem w_292 : (Jvm.Cond.code ({ cls := "DatumDesk$Text", name := "wordEnd", desc := "(I)I" } : Jvm.MethodName) prog_4_method_9_code (3 : Nat) (Option.some Jvm.ClassFile.FieldType.int)) ∈ TB := tb_of 292 rfl rfl
set_option maxRecDepth 20000 in
theorem w_293 : (Jvm.Cond.methodLink "DatumDesk$Text" (33 : Nat) ({ cls := "DatumDesk$Text", name := "nameEnd", desc := "(I)I" } : Jvm.MethodName)) ∈ TB := tb_of 293 rfl rfl
set_option maxRecDepth 20000 in
theorem w_295 : (Jvm.Cond.instanceMethod ({ cls := "DatumDesk$Text", name := "nameEnd", desc := "(I)I" } : Jvm.MethodName)) ∈ TB := tb_of 295 rfl rfl
set_option maxRecDepth 20000 in
theorem w_296 : (Jvm.Cond.code ({ cls := "DatumDesk$Text", name := "nameEnd", desc := "(I)I" } : Jvm.MethodName) prog_4_method_8_code (3 : Nat) (Option.some Jvm.ClassFile.FieldType.int)) ∈ TB := tb_of 296 rfl rfl
set_option maxRecDepth 20000 in
theorem w_297 : (Jvm.Cond.methodLink "DatumDesk$Text" (36 : Nat) ({ cls := "DatumDesk$Text", name := "stringEnd", desc := "(I)I" } : Jvm.MethodName)) ∈ TB := tb_of 297 rfl rfl
set_option maxRecDepth 20000 in
theorem w_299 : (Jvm.Cond.instanceMethod ({ cls := "DatumDesk$Text", name := "stringEnd", desc := "(I)I" } : Jvm.MethodName)) ∈ TB := tb_of 299 rfl rfl
set_option maxRecDepth 20000 in
theorem w_300 : (Jvm.Cond.code ({ cls := "DatumDesk$Text", name := "stringEnd", desc := "(I)I" } : Jvm.MethodName) prog_4_method_10_code (5 : Nat) (Option.some Jvm.ClassFile.FieldType.int)) ∈ TB := tb_of 300 rfl rfl
set_option maxRecDepth 20000 in
theorem w_301 : (Jvm.Cond.methodLinkNest "DatumDesk$Reader" (42 : Nat) ({ cls := "DatumDesk$Tokens", name := "sortOf", desc := "(I)I" } : Jvm.MethodName) "DatumDesk") ∈ NWs := nw_of 301 rfl rfl
set_option maxRecDepth 20000 in
theorem w_303 : (Jvm.Cond.instanceMethod ({ cls := "DatumDesk$Tokens", name := "sortOf", desc := "(I)I" } : Jvm.MethodName)) ∈ TB := tb_of 303 rfl rfl
set_option maxRecDepth 20000 in
theorem w_304 : (Jvm.Cond.code ({ cls := "DatumDesk$Tokens", name := "sortOf", desc := "(I)I" } : Jvm.MethodName) prog_5_method_3_code (2 : Nat) (Option.some Jvm.ClassFile.FieldType.int)) ∈ TB := tb_of 304 rfl rfl
set_option maxRecDepth 20000 in
theorem w_305 : (Jvm.Cond.methodLink "DatumDesk$Reader" (46 : Nat) ({ cls := "DatumDesk$Reader", name := "readDatum", desc := "(I)I" } : Jvm.MethodName)) ∈ TB := tb_of 305 rfl rfl
set_option maxRecDepth 20000 in
theorem w_307 : (Jvm.Cond.instanceMethod ({ cls := "DatumDesk$Reader", name := "readDatum", desc := "(I)I" } : Jvm.MethodName)) ∈ TB := tb_of 307 rfl rfl
set_option maxRecDepth 20000 in
theorem w_308 : (Jvm.Cond.code ({ cls := "DatumDesk$Reader", name := "readDatum", desc := "(I)I" } : Jvm.MethodName) prog_3_method_3_code (2 : Nat) (Option.some Jvm.ClassFile.FieldType.int)) ∈ TB := tb_of 308 rfl rfl
set_option maxRecDepth 20000 in
theorem w_309 : (Jvm.Cond.methodLink "DatumDesk$Reader" (53 : Nat) ({ cls := "DatumDesk$Reader", name := "readNumber", desc := "()I" } : Jvm.MethodName)) ∈ TB := tb_of 309 rfl rfl
set_option maxRecDepth 20000 in
theorem w_311 : (Jvm.Cond.instanceMethod ({ cls := "DatumDesk$Reader", name := "readNumber", desc := "()I" } : Jvm.MethodName)) ∈ TB := tb_of 311 rfl rfl
set_option maxRecDepth 20000 in
theorem w_312 : (Jvm.Cond.code ({ cls := "DatumDesk$Reader", name := "readNumber", desc := "()I" } : Jvm.MethodName) prog_3_method_4_code (6 : Nat) (Option.some Jvm.ClassFile.FieldType.int)) ∈ TB := tb_of 312 rfl rfl
set_option maxRecDepth 20000 in
theorem w_313 : (Jvm.Cond.methodLinkNest "DatumDesk$Reader" (72 : Nat) ({ cls := "DatumDesk$Tokens", name := "endOf", desc := "(I)I" } : Jvm.MethodName) "DatumDesk") ∈ NWs := nw_of 313 rfl rfl
set_option maxRecDepth 20000 in
theorem w_315 : (Jvm.Cond.instanceMethod ({ cls := "DatumDesk$Tokens", name := "endOf", desc := "(I)I" } : Jvm.MethodName)) ∈ TB := tb_of 315 rfl rfl
set_option maxRecDepth 20000 in
theorem w_316 : (Jvm.Cond.code ({ cls := "DatumDesk$Tokens", name := "endOf", desc := "(I)I" } : Jvm.MethodName) prog_5_method_5_code (2 : Nat) (Option.some Jvm.ClassFile.FieldType.int)) ∈ TB := tb_of 316 rfl rfl
set_option maxRecDepth 20000 in
theorem w_317 : (Jvm.Cond.methodLinkNest "DatumDesk$Reader" (75 : Nat) ({ cls := "DatumDesk$Tokens", name := "startOf", desc := "(I)I" } : Jvm.MethodName) "DatumDesk") ∈ NWs := nw_of 317 rfl rfl
set_option maxRecDepth 20000 in
theorem w_319 : (Jvm.Cond.instanceMethod ({ cls := "DatumDesk$Tokens", name := "startOf", desc := "(I)I" } : Jvm.MethodName)) ∈ TB := tb_of 319 rfl rfl
set_option maxRecDepth 20000 in
theorem w_320 : (Jvm.Cond.code ({ cls := "DatumDesk$Tokens", name := "startOf", desc := "(I)I" } : Jvm.MethodName) prog_5_method_4_code (2 : Nat) (Option.some Jvm.ClassFile.FieldType.int)) ∈ TB := tb_of 320 rfl rfl
set_option maxRecDepth 20000 in
theorem w_321 : (Jvm.Cond.methodLinkNest "DatumDesk$Reader" (78 : Nat) ({ cls := "DatumDesk$Text", name := "at", desc := "(I)I" } : Jvm.MethodName) "DatumDesk") ∈ NWs := nw_of 321 rfl rfl
set_option maxRecDepth 20000 in
theorem w_322 : (Jvm.Cond.methodLink "DatumDesk$Reader" (83 : Nat) ({ cls := "DatumDesk$Reader", name := "add", desc := "(I)I" } : Jvm.MethodName)) ∈ TB := tb_of 322 rfl rfl
set_option maxRecDepth 20000 in
theorem w_324 : (Jvm.Cond.instanceMethod ({ cls := "DatumDesk$Reader", name := "add", desc := "(I)I" } : Jvm.MethodName)) ∈ TB := tb_of 324 rfl rfl
set_option maxRecDepth 20000 in
theorem w_325 : (Jvm.Cond.code ({ cls := "DatumDesk$Reader", name := "add", desc := "(I)I" } : Jvm.MethodName) prog_3_method_10_code (3 : Nat) (Option.some Jvm.ClassFile.FieldType.int)) ∈ TB := tb_of 325 rfl rfl
set_option maxRecDepth 20000 in
theorem w_326 : (Jvm.Cond.methodLinkNest "DatumDesk$Reader" (105 : Nat) ({ cls := "DatumDesk$Nodes", name := "add", desc := "(I)I" } : Jvm.MethodName) "DatumDesk") ∈ NWs := nw_of 326 rfl rfl
set_option maxRecDepth 20000 in
theorem w_328 : (Jvm.Cond.instanceMethod ({ cls := "DatumDesk$Nodes", name := "add", desc := "(I)I" } : Jvm.MethodName)) ∈ TB := tb_of 328 rfl rfl
set_option maxRecDepth 20000 in
theorem w_329 : (Jvm.Cond.code ({ cls := "DatumDesk$Nodes", name := "add", desc := "(I)I" } : Jvm.MethodName) prog_2_method_5_code (3 : Nat) (Option.some Jvm.ClassFile.FieldType.int)) ∈ TB := tb_of 329 rfl rfl
set_option maxRecDepth 20000 in
theorem w_330 : (Jvm.Cond.methodLink "DatumDesk$Reader" (69 : Nat) ({ cls := "DatumDesk$Reader", name := "fault", desc := "()I" } : Jvm.MethodName)) ∈ TB := tb_of 330 rfl rfl
set_option maxRecDepth 20000 in
theorem w_332 : (Jvm.Cond.instanceMethod ({ cls := "DatumDesk$Reader", name := "fault", desc := "()I" } : Jvm.MethodName)) ∈ TB := tb_of 332 rfl rfl
set_option maxRecDepth 20000 in
theorem w_333 : (Jvm.Cond.code ({ cls := "DatumDesk$Reader", name := "fault", desc := "()I" } : Jvm.MethodName) prog_3_method_11_code (1 : Nat) (Option.some Jvm.ClassFile.FieldType.int)) ∈ TB := tb_of 333 rfl rfl
set_option maxRecDepth 20000 in
theorem w_334 : (Jvm.Cond.methodLinkNest "DatumDesk$Reader" (86 : Nat) ({ cls := "DatumDesk$Nodes", name := "setAmount", desc := "(II)V" } : Jvm.MethodName) "DatumDesk") ∈ NWs := nw_of 334 rfl rfl
set_option maxRecDepth 20000 in
theorem w_336 : (Jvm.Cond.instanceMethod ({ cls := "DatumDesk$Nodes", name := "setAmount", desc := "(II)V" } : Jvm.MethodName)) ∈ TB := tb_of 336 rfl rfl
set_option maxRecDepth 20000 in
theorem w_337 : (Jvm.Cond.code ({ cls := "DatumDesk$Nodes", name := "setAmount", desc := "(II)V" } : Jvm.MethodName) prog_2_method_9_code (3 : Nat) (Option.none : Option Jvm.ClassFile.FieldType)) ∈ TB := tb_of 337 rfl rfl
set_option maxRecDepth 20000 in
theorem w_338 : (Jvm.Cond.methodLink "DatumDesk$Nodes" (52 : Nat) ({ cls := "DatumDesk$Nodes", name := "has", desc := "(I)Z" } : Jvm.MethodName)) ∈ TB := tb_of 338 rfl rfl
set_option maxRecDepth 20000 in
theorem w_340 : (Jvm.Cond.instanceMethod ({ cls := "DatumDesk$Nodes", name := "has", desc := "(I)Z" } : Jvm.MethodName)) ∈ TB := tb_of 340 rfl rfl
set_option maxRecDepth 20000 in
theorem w_341 : (Jvm.Cond.code ({ cls := "DatumDesk$Nodes", name := "has", desc := "(I)Z" } : Jvm.MethodName) prog_2_method_3_code (2 : Nat) (Option.some Jvm.ClassFile.FieldType.boolean)) ∈ TB := tb_of 341 rfl rfl
set_option maxRecDepth 20000 in
theorem w_342 : (Jvm.Cond.methodLink "DatumDesk$Reader" (57 : Nat) ({ cls := "DatumDesk$Reader", name := "readName", desc := "()I" } : Jvm.MethodName)) ∈ TB := tb_of 342 rfl rfl
set_option maxRecDepth 20000 in
theorem w_344 : (Jvm.Cond.instanceMethod ({ cls := "DatumDesk$Reader", name := "readName", desc := "()I" } : Jvm.MethodName)) ∈ TB := tb_of 344 rfl rfl
set_option maxRecDepth 20000 in
theorem w_345 : (Jvm.Cond.code ({ cls := "DatumDesk$Reader", name := "readName", desc := "()I" } : Jvm.MethodName) prog_3_method_5_code (4 : Nat) (Option.some Jvm.ClassFile.FieldType.int)) ∈ TB := tb_of 345 rfl rfl
set_option maxRecDepth 20000 in
theorem w_346 : (Jvm.Cond.methodLinkNest "DatumDesk$Reader" (90 : Nat) ({ cls := "DatumDesk$Nodes", name := "addLetter", desc := "(II)V" } : Jvm.MethodName) "DatumDesk") ∈ NWs := nw_of 346 rfl rfl
set_option maxRecDepth 20000 in
theorem w_348 : (Jvm.Cond.instanceMethod ({ cls := "DatumDesk$Nodes", name := "addLetter", desc := "(II)V" } : Jvm.MethodName)) ∈ TB := tb_of 348 rfl rfl
set_option maxRecDepth 20000 in
theorem w_349 : (Jvm.Cond.code ({ cls := "DatumDesk$Nodes", name := "addLetter", desc := "(II)V" } : Jvm.MethodName) prog_2_method_7_code (3 : Nat) (Option.none : Option Jvm.ClassFile.FieldType)) ∈ TB := tb_of 349 rfl rfl
set_option maxRecDepth 20000 in
theorem w_350 : (Jvm.Cond.methodLink "DatumDesk$Reader" (60 : Nat) ({ cls := "DatumDesk$Reader", name := "readString", desc := "()I" } : Jvm.MethodName)) ∈ TB := tb_of 350 rfl rfl
set_option maxRecDepth 20000 in
theorem w_352 : (Jvm.Cond.instanceMethod ({ cls := "DatumDesk$Reader", name := "readString", desc := "()I" } : Jvm.MethodName)) ∈ TB := tb_of 352 rfl rfl
set_option maxRecDepth 20000 in
theorem w_353 : (Jvm.Cond.code ({ cls := "DatumDesk$Reader", name := "readString", desc := "()I" } : Jvm.MethodName) prog_3_method_6_code (4 : Nat) (Option.some Jvm.ClassFile.FieldType.int)) ∈ TB := tb_of 353 rfl rfl
set_option maxRecDepth 20000 in
theorem w_354 : (Jvm.Cond.methodLink "DatumDesk$Reader" (63 : Nat) ({ cls := "DatumDesk$Reader", name := "readQuoted", desc := "(I)I" } : Jvm.MethodName)) ∈ TB := tb_of 354 rfl rfl
set_option maxRecDepth 20000 in
theorem w_356 : (Jvm.Cond.instanceMethod ({ cls := "DatumDesk$Reader", name := "readQuoted", desc := "(I)I" } : Jvm.MethodName)) ∈ TB := tb_of 356 rfl rfl
set_option maxRecDepth 20000 in
theorem w_357 : (Jvm.Cond.code ({ cls := "DatumDesk$Reader", name := "readQuoted", desc := "(I)I" } : Jvm.MethodName) prog_3_method_7_code (7 : Nat) (Option.some Jvm.ClassFile.FieldType.int)) ∈ TB := tb_of 357 rfl rfl
set_option maxRecDepth 20000 in
theorem w_358 : (Jvm.Cond.methodLinkNest "DatumDesk$Reader" (93 : Nat) ({ cls := "DatumDesk$Nodes", name := "nameQuote", desc := "(I)V" } : Jvm.MethodName) "DatumDesk") ∈ NWs := nw_of 358 rfl rfl
set_option maxRecDepth 20000 in
theorem w_360 : (Jvm.Cond.instanceMethod ({ cls := "DatumDesk$Nodes", name := "nameQuote", desc := "(I)V" } : Jvm.MethodName)) ∈ TB := tb_of 360 rfl rfl
set_option maxRecDepth 20000 in
theorem w_361 : (Jvm.Cond.code ({ cls := "DatumDesk$Nodes", name := "nameQuote", desc := "(I)V" } : Jvm.MethodName) prog_2_method_8_code (2 : Nat) (Option.none : Option Jvm.ClassFile.FieldType)) ∈ TB := tb_of 361 rfl rfl
set_option maxRecDepth 20000 in
theorem w_362 : (Jvm.Cond.methodLinkNest "DatumDesk$Reader" (96 : Nat) ({ cls := "DatumDesk$Nodes", name := "setHead", desc := "(II)V" } : Jvm.MethodName) "DatumDesk") ∈ NWs := nw_of 362 rfl rfl
set_option maxRecDepth 20000 in
theorem w_364 : (Jvm.Cond.instanceMethod ({ cls := "DatumDesk$Nodes", name := "setHead", desc := "(II)V" } : Jvm.MethodName)) ∈ TB := tb_of 364 rfl rfl
set_option maxRecDepth 20000 in
theorem w_365 : (Jvm.Cond.code ({ cls := "DatumDesk$Nodes", name := "setHead", desc := "(II)V" } : Jvm.MethodName) prog_2_method_10_code (3 : Nat) (Option.none : Option Jvm.ClassFile.FieldType)) ∈ TB := tb_of 365 rfl rfl
set_option maxRecDepth 20000 in
theorem w_366 : (Jvm.Cond.methodLinkNest "DatumDesk$Reader" (99 : Nat) ({ cls := "DatumDesk$Nodes", name := "setTail", desc := "(II)V" } : Jvm.MethodName) "DatumDesk") ∈ NWs := nw_of 366 rfl rfl
set_option maxRecDepth 20000 in
theorem w_368 : (Jvm.Cond.instanceMethod ({ cls := "DatumDesk$Nodes", name := "setTail", desc := "(II)V" } : Jvm.MethodName)) ∈ TB := tb_of 368 rfl rfl
set_option maxRecDepth 20000 in
theorem w_369 : (Jvm.Cond.code ({ cls := "DatumDesk$Nodes", name := "setTail", desc := "(II)V" } : Jvm.MethodName) prog_2_method_11_code (3 : Nat) (Option.none : Option Jvm.ClassFile.FieldType)) ∈ TB := tb_of 369 rfl rfl
set_option maxRecDepth 20000 in
theorem w_370 : (Jvm.Cond.methodLink "DatumDesk$Reader" (66 : Nat) ({ cls := "DatumDesk$Reader", name := "readList", desc := "(I)I" } : Jvm.MethodName)) ∈ TB := tb_of 370 rfl rfl
set_option maxRecDepth 20000 in
theorem w_372 : (Jvm.Cond.instanceMethod ({ cls := "DatumDesk$Reader", name := "readList", desc := "(I)I" } : Jvm.MethodName)) ∈ TB := tb_of 372 rfl rfl
set_option maxRecDepth 20000 in
theorem w_373 : (Jvm.Cond.code ({ cls := "DatumDesk$Reader", name := "readList", desc := "(I)I" } : Jvm.MethodName) prog_3_method_8_code (8 : Nat) (Option.some Jvm.ClassFile.FieldType.int)) ∈ TB := tb_of 373 rfl rfl
set_option maxRecDepth 20000 in
theorem w_374 : (Jvm.Cond.methodLink "DatumDesk$Reader" (102 : Nat) ({ cls := "DatumDesk$Reader", name := "readDotted", desc := "(I)I" } : Jvm.MethodName)) ∈ TB := tb_of 374 rfl rfl
set_option maxRecDepth 20000 in
theorem w_376 : (Jvm.Cond.instanceMethod ({ cls := "DatumDesk$Reader", name := "readDotted", desc := "(I)I" } : Jvm.MethodName)) ∈ TB := tb_of 376 rfl rfl
set_option maxRecDepth 20000 in
theorem w_377 : (Jvm.Cond.code ({ cls := "DatumDesk$Reader", name := "readDotted", desc := "(I)I" } : Jvm.MethodName) prog_3_method_9_code (3 : Nat) (Option.some Jvm.ClassFile.FieldType.int)) ∈ TB := tb_of 377 rfl rfl
set_option maxRecDepth 20000 in
theorem w_378 : (Jvm.Cond.methodLinkNest "DatumDesk$Reader" (49 : Nat) ({ cls := "DatumDesk$Nodes", name := "addDatum", desc := "(I)V" } : Jvm.MethodName) "DatumDesk") ∈ NWs := nw_of 378 rfl rfl
set_option maxRecDepth 20000 in
theorem w_380 : (Jvm.Cond.instanceMethod ({ cls := "DatumDesk$Nodes", name := "addDatum", desc := "(I)V" } : Jvm.MethodName)) ∈ TB := tb_of 380 rfl rfl
set_option maxRecDepth 20000 in
theorem w_381 : (Jvm.Cond.code ({ cls := "DatumDesk$Nodes", name := "addDatum", desc := "(I)V" } : Jvm.MethodName) prog_2_method_6_code (2 : Nat) (Option.none : Option Jvm.ClassFile.FieldType)) ∈ TB := tb_of 381 rfl rfl
set_option maxRecDepth 20000 in
theorem w_390 : (Jvm.Cond.methodLinkNest "DatumDesk" (65 : Nat) ({ cls := "DatumDesk$Nodes", name := "datumNode", desc := "(I)I" } : Jvm.MethodName) "DatumDesk") ∈ NWs := nw_of 390 rfl rfl
set_option maxRecDepth 20000 in
theorem w_392 : (Jvm.Cond.instanceMethod ({ cls := "DatumDesk$Nodes", name := "datumNode", desc := "(I)I" } : Jvm.MethodName)) ∈ TB := tb_of 392 rfl rfl
set_option maxRecDepth 20000 in
theorem w_393 : (Jvm.Cond.code ({ cls := "DatumDesk$Nodes", name := "datumNode", desc := "(I)I" } : Jvm.MethodName) prog_2_method_12_code (2 : Nat) (Option.some Jvm.ClassFile.FieldType.int)) ∈ TB := tb_of 393 rfl rfl
set_option maxRecDepth 20000 in
theorem w_398 : (Jvm.Cond.methodLinkNest "DatumDesk" (69 : Nat) ({ cls := "DatumDesk$Nodes", name := "kindOf", desc := "(I)I" } : Jvm.MethodName) "DatumDesk") ∈ NWs := nw_of 398 rfl rfl
set_option maxRecDepth 20000 in
theorem w_400 : (Jvm.Cond.instanceMethod ({ cls := "DatumDesk$Nodes", name := "kindOf", desc := "(I)I" } : Jvm.MethodName)) ∈ TB := tb_of 400 rfl rfl
set_option maxRecDepth 20000 in
theorem w_401 : (Jvm.Cond.code ({ cls := "DatumDesk$Nodes", name := "kindOf", desc := "(I)I" } : Jvm.MethodName) prog_2_method_13_code (2 : Nat) (Option.some Jvm.ClassFile.FieldType.int)) ∈ TB := tb_of 401 rfl rfl
set_option maxRecDepth 20000 in
theorem w_406 : (Jvm.Cond.methodLinkNest "DatumDesk" (72 : Nat) ({ cls := "DatumDesk$Nodes", name := "amountOf", desc := "(I)I" } : Jvm.MethodName) "DatumDesk") ∈ NWs := nw_of 406 rfl rfl
set_option maxRecDepth 20000 in
theorem w_408 : (Jvm.Cond.instanceMethod ({ cls := "DatumDesk$Nodes", name := "amountOf", desc := "(I)I" } : Jvm.MethodName)) ∈ TB := tb_of 408 rfl rfl
set_option maxRecDepth 20000 in
theorem w_409 : (Jvm.Cond.code ({ cls := "DatumDesk$Nodes", name := "amountOf", desc := "(I)I" } : Jvm.MethodName) prog_2_method_14_code (2 : Nat) (Option.some Jvm.ClassFile.FieldType.int)) ∈ TB := tb_of 409 rfl rfl
set_option maxRecDepth 20000 in
theorem w_414 : (Jvm.Cond.methodLinkNest "DatumDesk" (75 : Nat) ({ cls := "DatumDesk$Nodes", name := "byteOf", desc := "(II)I" } : Jvm.MethodName) "DatumDesk") ∈ NWs := nw_of 414 rfl rfl
set_option maxRecDepth 20000 in
theorem w_416 : (Jvm.Cond.instanceMethod ({ cls := "DatumDesk$Nodes", name := "byteOf", desc := "(II)I" } : Jvm.MethodName)) ∈ TB := tb_of 416 rfl rfl
set_option maxRecDepth 20000 in
theorem w_417 : (Jvm.Cond.code ({ cls := "DatumDesk$Nodes", name := "byteOf", desc := "(II)I" } : Jvm.MethodName) prog_2_method_15_code (4 : Nat) (Option.some Jvm.ClassFile.FieldType.int)) ∈ TB := tb_of 417 rfl rfl
set_option maxRecDepth 20000 in
theorem w_418 : (Jvm.Cond.methodLink "DatumDesk$Nodes" (56 : Nat) ({ cls := "DatumDesk$Nodes", name := "isOf", desc := "(II)Z" } : Jvm.MethodName)) ∈ TB := tb_of 418 rfl rfl
set_option maxRecDepth 20000 in
theorem w_420 : (Jvm.Cond.instanceMethod ({ cls := "DatumDesk$Nodes", name := "isOf", desc := "(II)Z" } : Jvm.MethodName)) ∈ TB := tb_of 420 rfl rfl
set_option maxRecDepth 20000 in
theorem w_421 : (Jvm.Cond.code ({ cls := "DatumDesk$Nodes", name := "isOf", desc := "(II)Z" } : Jvm.MethodName) prog_2_method_4_code (3 : Nat) (Option.some Jvm.ClassFile.FieldType.boolean)) ∈ TB := tb_of 421 rfl rfl
set_option maxRecDepth 20000 in
theorem w_426 : (Jvm.Cond.methodLinkNest "DatumDesk" (79 : Nat) ({ cls := "DatumDesk$Nodes", name := "headOf", desc := "(I)I" } : Jvm.MethodName) "DatumDesk") ∈ NWs := nw_of 426 rfl rfl
set_option maxRecDepth 20000 in
theorem w_428 : (Jvm.Cond.instanceMethod ({ cls := "DatumDesk$Nodes", name := "headOf", desc := "(I)I" } : Jvm.MethodName)) ∈ TB := tb_of 428 rfl rfl
set_option maxRecDepth 20000 in
theorem w_429 : (Jvm.Cond.code ({ cls := "DatumDesk$Nodes", name := "headOf", desc := "(I)I" } : Jvm.MethodName) prog_2_method_16_code (2 : Nat) (Option.some Jvm.ClassFile.FieldType.int)) ∈ TB := tb_of 429 rfl rfl
set_option maxRecDepth 20000 in
theorem w_430 : (Jvm.Cond.methodLinkNest "DatumDesk" (82 : Nat) ({ cls := "DatumDesk$Nodes", name := "tailOf", desc := "(I)I" } : Jvm.MethodName) "DatumDesk") ∈ NWs := nw_of 430 rfl rfl
set_option maxRecDepth 20000 in
theorem w_432 : (Jvm.Cond.instanceMethod ({ cls := "DatumDesk$Nodes", name := "tailOf", desc := "(I)I" } : Jvm.MethodName)) ∈ TB := tb_of 432 rfl rfl
set_option maxRecDepth 20000 in
theorem w_433 : (Jvm.Cond.code ({ cls := "DatumDesk$Nodes", name := "tailOf", desc := "(I)I" } : Jvm.MethodName) prog_2_method_17_code (2 : Nat) (Option.some Jvm.ClassFile.FieldType.int)) ∈ TB := tb_of 433 rfl rfl
set_option maxRecDepth 20000 in
theorem w_438 : (Jvm.Cond.methodLinkNest "DatumDesk" (85 : Nat) ({ cls := "DatumDesk$Nodes", name := "has", desc := "(I)Z" } : Jvm.MethodName) "DatumDesk") ∈ NWs := nw_of 438 rfl rfl
set_option maxRecDepth 20000 in
theorem w_439 : (Jvm.Cond.methodLinkNest "DatumDesk" (89 : Nat) ({ cls := "DatumDesk$Nodes", name := "alike", desc := "(III)Z" } : Jvm.MethodName) "DatumDesk") ∈ NWs := nw_of 439 rfl rfl
set_option maxRecDepth 20000 in
theorem w_441 : (Jvm.Cond.instanceMethod ({ cls := "DatumDesk$Nodes", name := "alike", desc := "(III)Z" } : Jvm.MethodName)) ∈ TB := tb_of 441 rfl rfl
set_option maxRecDepth 20000 in
theorem w_442 : (Jvm.Cond.code ({ cls := "DatumDesk$Nodes", name := "alike", desc := "(III)Z" } : Jvm.MethodName) prog_2_method_18_code (7 : Nat) (Option.some Jvm.ClassFile.FieldType.boolean)) ∈ TB := tb_of 442 rfl rfl
set_option maxRecDepth 20000 in
theorem w_443 : (Jvm.Cond.methodLink "DatumDesk$Nodes" (60 : Nat) ({ cls := "DatumDesk$Nodes", name := "kindOf", desc := "(I)I" } : Jvm.MethodName)) ∈ TB := tb_of 443 rfl rfl
set_option maxRecDepth 20000 in
theorem w_444 : (Jvm.Cond.methodLink "DatumDesk$Nodes" (64 : Nat) ({ cls := "DatumDesk$Nodes", name := "sameContent", desc := "(II)Z" } : Jvm.MethodName)) ∈ TB := tb_of 444 rfl rfl
set_option maxRecDepth 20000 in
theorem w_446 : (Jvm.Cond.instanceMethod ({ cls := "DatumDesk$Nodes", name := "sameContent", desc := "(II)Z" } : Jvm.MethodName)) ∈ TB := tb_of 446 rfl rfl
set_option maxRecDepth 20000 in
theorem w_447 : (Jvm.Cond.code ({ cls := "DatumDesk$Nodes", name := "sameContent", desc := "(II)Z" } : Jvm.MethodName) prog_2_method_19_code (5 : Nat) (Option.some Jvm.ClassFile.FieldType.boolean)) ∈ TB := tb_of 447 rfl rfl
set_option maxRecDepth 20000 in
theorem w_448 : (Jvm.Cond.methodLink "DatumDesk$Nodes" (71 : Nat) ({ cls := "DatumDesk$Nodes", name := "amountOf", desc := "(I)I" } : Jvm.MethodName)) ∈ TB := tb_of 448 rfl rfl
set_option maxRecDepth 20000 in
theorem w_449 : (Jvm.Cond.methodLink "DatumDesk$Nodes" (74 : Nat) ({ cls := "DatumDesk$Nodes", name := "byteOf", desc := "(II)I" } : Jvm.MethodName)) ∈ TB := tb_of 449 rfl rfl
set_option maxRecDepth 20000 in
theorem w_450 : (Jvm.Cond.methodLink "DatumDesk$Nodes" (67 : Nat) ({ cls := "DatumDesk$Nodes", name := "alike", desc := "(III)Z" } : Jvm.MethodName)) ∈ TB := tb_of 450 rfl rfl
set_option maxRecDepth 20000 in
theorem w_455 : (Jvm.Cond.methodLinkNest "DatumDesk" (93 : Nat) ({ cls := "DatumDesk$Writer", name := "writeNode", desc := "(II)V" } : Jvm.MethodName) "DatumDesk") ∈ NWs := nw_of 455 rfl rfl
set_option maxRecDepth 20000 in
theorem w_457 : (Jvm.Cond.instanceMethod ({ cls := "DatumDesk$Writer", name := "writeNode", desc := "(II)V" } : Jvm.MethodName)) ∈ TB := tb_of 457 rfl rfl
set_option maxRecDepth 20000 in
theorem w_458 : (Jvm.Cond.code ({ cls := "DatumDesk$Writer", name := "writeNode", desc := "(II)V" } : Jvm.MethodName) prog_7_method_2_code (3 : Nat) (Option.none : Option Jvm.ClassFile.FieldType)) ∈ TB := tb_of 458 rfl rfl
set_option maxRecDepth 20000 in
theorem w_459 : (Jvm.Cond.methodLinkNest "DatumDesk$Writer" (19 : Nat) ({ cls := "DatumDesk$Nodes", name := "kindOf", desc := "(I)I" } : Jvm.MethodName) "DatumDesk") ∈ NWs := nw_of 459 rfl rfl
set_option maxRecDepth 20000 in
theorem w_460 : (Jvm.Cond.methodLinkNest "DatumDesk$Writer" (25 : Nat) ({ cls := "DatumDesk$Nodes", name := "amountOf", desc := "(I)I" } : Jvm.MethodName) "DatumDesk") ∈ NWs := nw_of 460 rfl rfl
set_option maxRecDepth 20000 in
theorem w_461 : (Jvm.Cond.methodLink "DatumDesk$Writer" (28 : Nat) ({ cls := "DatumDesk$Writer", name := "writeNumber", desc := "(I)V" } : Jvm.MethodName)) ∈ TB := tb_of 461 rfl rfl
set_option maxRecDepth 20000 in
theorem w_463 : (Jvm.Cond.instanceMethod ({ cls := "DatumDesk$Writer", name := "writeNumber", desc := "(I)V" } : Jvm.MethodName)) ∈ TB := tb_of 463 rfl rfl
set_option maxRecDepth 20000 in
theorem w_464 : (Jvm.Cond.code ({ cls := "DatumDesk$Writer", name := "writeNumber", desc := "(I)V" } : Jvm.MethodName) prog_7_method_3_code (4 : Nat) (Option.none : Option Jvm.ClassFile.FieldType)) ∈ TB := tb_of 464 rfl rfl
set_option maxRecDepth 20000 in
theorem w_465 : (Jvm.Cond.methodLinkNest "DatumDesk$Writer" (42 : Nat) ({ cls := "DatumDesk$Waiting", name := "append", desc := "(I)V" } : Jvm.MethodName) "DatumDesk") ∈ NWs := nw_of 465 rfl rfl
set_option maxRecDepth 20000 in
theorem w_467 : (Jvm.Cond.instanceMethod ({ cls := "DatumDesk$Waiting", name := "append", desc := "(I)V" } : Jvm.MethodName)) ∈ TB := tb_of 467 rfl rfl
set_option maxRecDepth 20000 in
theorem w_468 : (Jvm.Cond.code ({ cls := "DatumDesk$Waiting", name := "append", desc := "(I)V" } : Jvm.MethodName) prog_6_method_2_code (3 : Nat) (Option.none : Option Jvm.ClassFile.FieldType)) ∈ TB := tb_of 468 rfl rfl
set_option maxRecDepth 20000 in
theorem w_469 : (Jvm.Cond.constant "DatumDesk$Writer" (47 : Nat) (100000000 : Int32)) ∈ TB := tb_of 469 rfl rfl
set_option maxRecDepth 20000 in
theorem w_470 : (Jvm.Cond.methodLink "DatumDesk$Writer" (32 : Nat) ({ cls := "DatumDesk$Writer", name := "writeName", desc := "(I)V" } : Jvm.MethodName)) ∈ TB := tb_of 470 rfl rfl
set_option maxRecDepth 20000 in
theorem w_472 : (Jvm.Cond.instanceMethod ({ cls := "DatumDesk$Writer", name := "writeName", desc := "(I)V" } : Jvm.MethodName)) ∈ TB := tb_of 472 rfl rfl
set_option maxRecDepth 20000 in
theorem w_473 : (Jvm.Cond.code ({ cls := "DatumDesk$Writer", name := "writeName", desc := "(I)V" } : Jvm.MethodName) prog_7_method_4_code (4 : Nat) (Option.none : Option Jvm.ClassFile.FieldType)) ∈ TB := tb_of 473 rfl rfl
set_option maxRecDepth 20000 in
theorem w_474 : (Jvm.Cond.methodLinkNest "DatumDesk$Writer" (48 : Nat) ({ cls := "DatumDesk$Nodes", name := "byteOf", desc := "(II)I" } : Jvm.MethodName) "DatumDesk") ∈ NWs := nw_of 474 rfl rfl
set_option maxRecDepth 20000 in
theorem w_475 : (Jvm.Cond.methodLink "DatumDesk$Writer" (35 : Nat) ({ cls := "DatumDesk$Writer", name := "writeString", desc := "(I)V" } : Jvm.MethodName)) ∈ TB := tb_of 475 rfl rfl
set_option maxRecDepth 20000 in
theorem w_477 : (Jvm.Cond.instanceMethod ({ cls := "DatumDesk$Writer", name := "writeString", desc := "(I)V" } : Jvm.MethodName)) ∈ TB := tb_of 477 rfl rfl
set_option maxRecDepth 20000 in
theorem w_478 : (Jvm.Cond.code ({ cls := "DatumDesk$Writer", name := "writeString", desc := "(I)V" } : Jvm.MethodName) prog_7_method_5_code (5 : Nat) (Option.none : Option Jvm.ClassFile.FieldType)) ∈ TB := tb_of 478 rfl rfl
set_option maxRecDepth 20000 in
theorem w_479 : (Jvm.Cond.methodLink "DatumDesk$Writer" (38 : Nat) ({ cls := "DatumDesk$Writer", name := "writePair", desc := "(II)V" } : Jvm.MethodName)) ∈ TB := tb_of 479 rfl rfl
set_option maxRecDepth 20000 in
theorem w_481 : (Jvm.Cond.instanceMethod ({ cls := "DatumDesk$Writer", name := "writePair", desc := "(II)V" } : Jvm.MethodName)) ∈ TB := tb_of 481 rfl rfl
set_option maxRecDepth 20000 in
theorem w_482 : (Jvm.Cond.code ({ cls := "DatumDesk$Writer", name := "writePair", desc := "(II)V" } : Jvm.MethodName) prog_7_method_6_code (6 : Nat) (Option.none : Option Jvm.ClassFile.FieldType)) ∈ TB := tb_of 482 rfl rfl
set_option maxRecDepth 20000 in
theorem w_483 : (Jvm.Cond.methodLinkNest "DatumDesk$Writer" (52 : Nat) ({ cls := "DatumDesk$Nodes", name := "quotedIn", desc := "(I)I" } : Jvm.MethodName) "DatumDesk") ∈ NWs := nw_of 483 rfl rfl
set_option maxRecDepth 20000 in
theorem w_485 : (Jvm.Cond.instanceMethod ({ cls := "DatumDesk$Nodes", name := "quotedIn", desc := "(I)I" } : Jvm.MethodName)) ∈ TB := tb_of 485 rfl rfl
set_option maxRecDepth 20000 in
theorem w_486 : (Jvm.Cond.code ({ cls := "DatumDesk$Nodes", name := "quotedIn", desc := "(I)I" } : Jvm.MethodName) prog_2_method_20_code (3 : Nat) (Option.some Jvm.ClassFile.FieldType.int)) ∈ TB := tb_of 486 rfl rfl
set_option maxRecDepth 20000 in
theorem w_487 : (Jvm.Cond.methodLink "DatumDesk$Nodes" (78 : Nat) ({ cls := "DatumDesk$Nodes", name := "tailOf", desc := "(I)I" } : Jvm.MethodName)) ∈ TB := tb_of 487 rfl rfl
set_option maxRecDepth 20000 in
theorem w_488 : (Jvm.Cond.methodLink "DatumDesk$Nodes" (81 : Nat) ({ cls := "DatumDesk$Nodes", name := "headOf", desc := "(I)I" } : Jvm.MethodName)) ∈ TB := tb_of 488 rfl rfl
set_option maxRecDepth 20000 in
theorem w_489 : (Jvm.Cond.methodLink "DatumDesk$Nodes" (84 : Nat) ({ cls := "DatumDesk$Nodes", name := "isQuoteName", desc := "(I)Z" } : Jvm.MethodName)) ∈ TB := tb_of 489 rfl rfl
set_option maxRecDepth 20000 in
theorem w_491 : (Jvm.Cond.instanceMethod ({ cls := "DatumDesk$Nodes", name := "isQuoteName", desc := "(I)Z" } : Jvm.MethodName)) ∈ TB := tb_of 491 rfl rfl
set_option maxRecDepth 20000 in
theorem w_492 : (Jvm.Cond.code ({ cls := "DatumDesk$Nodes", name := "isQuoteName", desc := "(I)Z" } : Jvm.MethodName) prog_2_method_21_code (3 : Nat) (Option.some Jvm.ClassFile.FieldType.boolean)) ∈ TB := tb_of 492 rfl rfl
set_option maxRecDepth 20000 in
theorem w_493 : (Jvm.Cond.methodLink "DatumDesk$Writer" (55 : Nat) ({ cls := "DatumDesk$Writer", name := "writeNode", desc := "(II)V" } : Jvm.MethodName)) ∈ TB := tb_of 493 rfl rfl
set_option maxRecDepth 20000 in
theorem w_494 : (Jvm.Cond.methodLinkNest "DatumDesk$Writer" (58 : Nat) ({ cls := "DatumDesk$Nodes", name := "headOf", desc := "(I)I" } : Jvm.MethodName) "DatumDesk") ∈ NWs := nw_of 494 rfl rfl
set_option maxRecDepth 20000 in
theorem w_495 : (Jvm.Cond.methodLinkNest "DatumDesk$Writer" (61 : Nat) ({ cls := "DatumDesk$Nodes", name := "tailOf", desc := "(I)I" } : Jvm.MethodName) "DatumDesk") ∈ NWs := nw_of 495 rfl rfl
set_option maxRecDepth 20000 in
theorem w_500 : (Jvm.Cond.methodLink "DatumDesk" (100 : Nat) ({ cls := "java/lang/Math", name := "min", desc := "(II)I" } : Jvm.MethodName)) ∈ TB := tb_of 500 rfl rfl
set_option maxRecDepth 20000 in
theorem w_501 : (Jvm.Cond.static ({ cls := "java/lang/Math", name := "min", desc := "(II)I" } : Jvm.MethodName)) ∈ TB := tb_of 501 rfl rfl
set_option maxRecDepth 20000 in
theorem w_502 : (Jvm.Cond.code ({ cls := "java/lang/Math", name := "min", desc := "(II)I" } : Jvm.MethodName) prog_10_method_69_code (2 : Nat) (Option.some Jvm.ClassFile.FieldType.int)) ∈ TB := tb_of 502 rfl rfl
set_option maxRecDepth 20000 in
theorem w_503 : (Jvm.Cond.methodLinkNest "DatumDesk" (105 : Nat) ({ cls := "DatumDesk$Waiting", name := "take", desc := "()I" } : Jvm.MethodName) "DatumDesk") ∈ NWs := nw_of 503 rfl rfl
set_option maxRecDepth 20000 in
theorem w_505 : (Jvm.Cond.instanceMethod ({ cls := "DatumDesk$Waiting", name := "take", desc := "()I" } : Jvm.MethodName)) ∈ TB := tb_of 505 rfl rfl
set_option maxRecDepth 20000 in
theorem w_506 : (Jvm.Cond.code ({ cls := "DatumDesk$Waiting", name := "take", desc := "()I" } : Jvm.MethodName) prog_6_method_3_code (2 : Nat) (Option.some Jvm.ClassFile.FieldType.int)) ∈ TB := tb_of 506 rfl rfl
set_option maxRecDepth 20000 in
theorem w_517 : (Jvm.Cond.fieldLink "DatumDeskModel" (7 : Nat) "DatumDeskModel" "text" "[I") ∈ TB := tb_of 517 rfl rfl
set_option maxRecDepth 20000 in
theorem w_518 : (Jvm.Cond.fieldLink "DatumDeskModel" (53 : Nat) "DatumDeskModel" "size" "I") ∈ TB := tb_of 518 rfl rfl
set_option maxRecDepth 20000 in
theorem w_519 : (Jvm.Cond.fieldLink "DatumDeskModel" (56 : Nat) "DatumDeskModel" "at" "I") ∈ TB := tb_of 519 rfl rfl
set_option maxRecDepth 20000 in
theorem w_520 : (Jvm.Cond.fieldLink "DatumDeskModel" (73 : Nat) "DatumDeskModel" "place" "I") ∈ TB := tb_of 520 rfl rfl
set_option maxRecDepth 20000 in
theorem w_521 : (Jvm.Cond.fieldLink "DatumDeskModel" (13 : Nat) "DatumDeskModel" "fault" "I") ∈ TB := tb_of 521 rfl rfl
set_option maxRecDepth 20000 in
theorem w_522 : (Jvm.Cond.fieldLink "DatumDeskModel" (83 : Nat) "DatumDeskModel" "nodes" "I") ∈ TB := tb_of 522 rfl rfl
set_option maxRecDepth 20000 in
theorem w_523 : (Jvm.Cond.fieldLink "DatumDeskModel" (17 : Nat) "DatumDeskModel" "kinds" "[I") ∈ TB := tb_of 523 rfl rfl
set_option maxRecDepth 20000 in
theorem w_524 : (Jvm.Cond.fieldLink "DatumDeskModel" (20 : Nat) "DatumDeskModel" "values" "[I") ∈ TB := tb_of 524 rfl rfl
set_option maxRecDepth 20000 in
theorem w_525 : (Jvm.Cond.fieldLink "DatumDeskModel" (23 : Nat) "DatumDeskModel" "bytes" "[I") ∈ TB := tb_of 525 rfl rfl
set_option maxRecDepth 20000 in
theorem w_526 : (Jvm.Cond.fieldLink "DatumDeskModel" (26 : Nat) "DatumDeskModel" "heads" "[I") ∈ TB := tb_of 526 rfl rfl
set_option maxRecDepth 20000 in
theorem w_527 : (Jvm.Cond.fieldLink "DatumDeskModel" (29 : Nat) "DatumDeskModel" "tails" "[I") ∈ TB := tb_of 527 rfl rfl
set_option maxRecDepth 20000 in
theorem w_528 : (Jvm.Cond.fieldLink "DatumDeskModel" (100 : Nat) "DatumDeskModel" "data" "I") ∈ TB := tb_of 528 rfl rfl
set_option maxRecDepth 20000 in
theorem w_529 : (Jvm.Cond.fieldLink "DatumDeskModel" (32 : Nat) "DatumDeskModel" "datums" "[I") ∈ TB := tb_of 529 rfl rfl
set_option maxRecDepth 20000 in
theorem w_530 : (Jvm.Cond.fieldLink "DatumDeskModel" (97 : Nat) "DatumDeskModel" "open" "I") ∈ TB := tb_of 530 rfl rfl
set_option maxRecDepth 20000 in
theorem w_531 : (Jvm.Cond.fieldLink "DatumDeskModel" (35 : Nat) "DatumDeskModel" "firsts" "[I") ∈ TB := tb_of 531 rfl rfl
set_option maxRecDepth 20000 in
theorem w_532 : (Jvm.Cond.fieldLink "DatumDeskModel" (38 : Nat) "DatumDeskModel" "lasts" "[I") ∈ TB := tb_of 532 rfl rfl
set_option maxRecDepth 20000 in
theorem w_533 : (Jvm.Cond.fieldLink "DatumDeskModel" (41 : Nat) "DatumDeskModel" "states" "[I") ∈ TB := tb_of 533 rfl rfl
set_option maxRecDepth 20000 in
theorem w_534 : (Jvm.Cond.fieldLink "DatumDeskModel" (44 : Nat) "DatumDeskModel" "written" "[I") ∈ TB := tb_of 534 rfl rfl
set_option maxRecDepth 20000 in
theorem w_535 : (Jvm.Cond.fieldLink "DatumDeskModel" (137 : Nat) "DatumDeskModel" "waits" "I") ∈ TB := tb_of 535 rfl rfl
set_option maxRecDepth 20000 in
theorem w_536 : (Jvm.Cond.fieldLink "DatumDeskModel" (47 : Nat) "DatumDeskModel" "ones" "[I") ∈ TB := tb_of 536 rfl rfl
set_option maxRecDepth 20000 in
theorem w_537 : (Jvm.Cond.fieldLink "DatumDeskModel" (50 : Nat) "DatumDeskModel" "others" "[I") ∈ TB := tb_of 537 rfl rfl
set_option maxRecDepth 20000 in
theorem w_589 : (Jvm.Cond.methodLink "DatumDeskModel" (117 : Nat) ({ cls := "DatumDeskModel", name := "token", desc := "()I" } : Jvm.MethodName)) ∈ TB := tb_of 589 rfl rfl
set_option maxRecDepth 20000 in
theorem w_591 : (Jvm.Cond.instanceMethod ({ cls := "DatumDeskModel", name := "token", desc := "()I" } : Jvm.MethodName)) ∈ TB := tb_of 591 rfl rfl
set_option maxRecDepth 20000 in
theorem w_592 : (Jvm.Cond.code ({ cls := "DatumDeskModel", name := "token", desc := "()I" } : Jvm.MethodName) prog_9_method_8_code (5 : Nat) (Option.some Jvm.ClassFile.FieldType.int)) ∈ TB := tb_of 592 rfl rfl
set_option maxRecDepth 20000 in
theorem w_593 : (Jvm.Cond.methodLink "DatumDeskModel" (70 : Nat) ({ cls := "DatumDeskModel", name := "skip", desc := "()V" } : Jvm.MethodName)) ∈ TB := tb_of 593 rfl rfl
set_option maxRecDepth 20000 in
theorem w_595 : (Jvm.Cond.instanceMethod ({ cls := "DatumDeskModel", name := "skip", desc := "()V" } : Jvm.MethodName)) ∈ TB := tb_of 595 rfl rfl
set_option maxRecDepth 20000 in
theorem w_596 : (Jvm.Cond.code ({ cls := "DatumDeskModel", name := "skip", desc := "()V" } : Jvm.MethodName) prog_9_method_7_code (3 : Nat) (Option.none : Option Jvm.ClassFile.FieldType)) ∈ TB := tb_of 596 rfl rfl
set_option maxRecDepth 20000 in
theorem w_597 : (Jvm.Cond.methodLink "DatumDeskModel" (66 : Nat) ({ cls := "DatumDeskModel", name := "peek", desc := "(I)I" } : Jvm.MethodName)) ∈ TB := tb_of 597 rfl rfl
set_option maxRecDepth 20000 in
theorem w_599 : (Jvm.Cond.instanceMethod ({ cls := "DatumDeskModel", name := "peek", desc := "(I)I" } : Jvm.MethodName)) ∈ TB := tb_of 599 rfl rfl
set_option maxRecDepth 20000 in
theorem w_600 : (Jvm.Cond.code ({ cls := "DatumDeskModel", name := "peek", desc := "(I)I" } : Jvm.MethodName) prog_9_method_3_code (2 : Nat) (Option.some Jvm.ClassFile.FieldType.int)) ∈ TB := tb_of 600 rfl rfl
set_option maxRecDepth 20000 in
theorem w_601 : (Jvm.Cond.methodLink "DatumDeskModel" (76 : Nat) ({ cls := "DatumDeskModel", name := "isByte", desc := "(I)Z" } : Jvm.MethodName)) ∈ TB := tb_of 601 rfl rfl
set_option maxRecDepth 20000 in
theorem w_602 : (Jvm.Cond.static ({ cls := "DatumDeskModel", name := "isByte", desc := "(I)Z" } : Jvm.MethodName)) ∈ TB := tb_of 602 rfl rfl
set_option maxRecDepth 20000 in
theorem w_603 : (Jvm.Cond.code ({ cls := "DatumDeskModel", name := "isByte", desc := "(I)Z" } : Jvm.MethodName) prog_9_method_6_code (1 : Nat) (Option.some Jvm.ClassFile.FieldType.boolean)) ∈ TB := tb_of 603 rfl rfl
set_option maxRecDepth 20000 in
theorem w_604 : (Jvm.Cond.methodLink "DatumDeskModel" (59 : Nat) ({ cls := "DatumDeskModel", name := "isBegin", desc := "(I)Z" } : Jvm.MethodName)) ∈ TB := tb_of 604 rfl rfl
set_option maxRecDepth 20000 in
theorem w_605 : (Jvm.Cond.static ({ cls := "DatumDeskModel", name := "isBegin", desc := "(I)Z" } : Jvm.MethodName)) ∈ TB := tb_of 605 rfl rfl
set_option maxRecDepth 20000 in
theorem w_606 : (Jvm.Cond.code ({ cls := "DatumDeskModel", name := "isBegin", desc := "(I)Z" } : Jvm.MethodName) prog_9_method_5_code (1 : Nat) (Option.some Jvm.ClassFile.FieldType.boolean)) ∈ TB := tb_of 606 rfl rfl
set_option maxRecDepth 20000 in
theorem w_607 : (Jvm.Cond.methodLink "DatumDeskModel" (63 : Nat) ({ cls := "DatumDeskModel", name := "isDigit", desc := "(I)Z" } : Jvm.MethodName)) ∈ TB := tb_of 607 rfl rfl
set_option maxRecDepth 20000 in
theorem w_608 : (Jvm.Cond.static ({ cls := "DatumDeskModel", name := "isDigit", desc := "(I)Z" } : Jvm.MethodName)) ∈ TB := tb_of 608 rfl rfl
set_option maxRecDepth 20000 in
theorem w_609 : (Jvm.Cond.code ({ cls := "DatumDeskModel", name := "isDigit", desc := "(I)Z" } : Jvm.MethodName) prog_9_method_4_code (1 : Nat) (Option.some Jvm.ClassFile.FieldType.boolean)) ∈ TB := tb_of 609 rfl rfl
set_option maxRecDepth 20000 in
theorem w_610 : (Jvm.Cond.methodLink "DatumDeskModel" (79 : Nat) ({ cls := "DatumDeskModel", name := "string", desc := "()I" } : Jvm.MethodName)) ∈ TB := tb_of 610 rfl rfl
set_option maxRecDepth 20000 in
theorem w_612 : (Jvm.Cond.instanceMethod ({ cls := "DatumDeskModel", name := "string", desc := "()I" } : Jvm.MethodName)) ∈ TB := tb_of 612 rfl rfl
set_option maxRecDepth 20000 in
theorem w_613 : (Jvm.Cond.code ({ cls := "DatumDeskModel", name := "string", desc := "()I" } : Jvm.MethodName) prog_9_method_9_code (4 : Nat) (Option.some Jvm.ClassFile.FieldType.int)) ∈ TB := tb_of 613 rfl rfl
set_option maxRecDepth 20000 in
theorem w_614 : (Jvm.Cond.methodLink "DatumDeskModel" (86 : Nat) ({ cls := "DatumDeskModel", name := "fail", desc := "(I)V" } : Jvm.MethodName)) ∈ TB := tb_of 614 rfl rfl
set_option maxRecDepth 20000 in
theorem w_616 : (Jvm.Cond.instanceMethod ({ cls := "DatumDeskModel", name := "fail", desc := "(I)V" } : Jvm.MethodName)) ∈ TB := tb_of 616 rfl rfl
set_option maxRecDepth 20000 in
theorem w_617 : (Jvm.Cond.code ({ cls := "DatumDeskModel", name := "fail", desc := "(I)V" } : Jvm.MethodName) prog_9_method_11_code (2 : Nat) (Option.none : Option Jvm.ClassFile.FieldType)) ∈ TB := tb_of 617 rfl rfl
set_option maxRecDepth 20000 in
theorem w_618 : (Jvm.Cond.methodLink "DatumDeskModel" (120 : Nat) ({ cls := "DatumDeskModel", name := "opens", desc := "(Z)V" } : Jvm.MethodName)) ∈ TB := tb_of 618 rfl rfl
set_option maxRecDepth 20000 in
theorem w_620 : (Jvm.Cond.instanceMethod ({ cls := "DatumDeskModel", name := "opens", desc := "(Z)V" } : Jvm.MethodName)) ∈ TB := tb_of 620 rfl rfl
set_option maxRecDepth 20000 in
theorem w_621 : (Jvm.Cond.code ({ cls := "DatumDeskModel", name := "opens", desc := "(Z)V" } : Jvm.MethodName) prog_9_method_16_code (6 : Nat) (Option.none : Option Jvm.ClassFile.FieldType)) ∈ TB := tb_of 621 rfl rfl
set_option maxRecDepth 20000 in
theorem w_622 : (Jvm.Cond.methodLink "DatumDeskModel" (103 : Nat) ({ cls := "DatumDeskModel", name := "begin", desc := "()V" } : Jvm.MethodName)) ∈ TB := tb_of 622 rfl rfl
set_option maxRecDepth 20000 in
theorem w_624 : (Jvm.Cond.instanceMethod ({ cls := "DatumDeskModel", name := "begin", desc := "()V" } : Jvm.MethodName)) ∈ TB := tb_of 624 rfl rfl
set_option maxRecDepth 20000 in
theorem w_625 : (Jvm.Cond.code ({ cls := "DatumDeskModel", name := "begin", desc := "()V" } : Jvm.MethodName) prog_9_method_14_code (3 : Nat) (Option.none : Option Jvm.ClassFile.FieldType)) ∈ TB := tb_of 625 rfl rfl
set_option maxRecDepth 20000 in
theorem w_626 : (Jvm.Cond.methodLink "DatumDeskModel" (90 : Nat) ({ cls := "DatumDeskModel", name := "node", desc := "(I)I" } : Jvm.MethodName)) ∈ TB := tb_of 626 rfl rfl
set_option maxRecDepth 20000 in
theorem w_628 : (Jvm.Cond.instanceMethod ({ cls := "DatumDeskModel", name := "node", desc := "(I)I" } : Jvm.MethodName)) ∈ TB := tb_of 628 rfl rfl
set_option maxRecDepth 20000 in
theorem w_629 : (Jvm.Cond.code ({ cls := "DatumDeskModel", name := "node", desc := "(I)I" } : Jvm.MethodName) prog_9_method_10_code (2 : Nat) (Option.some Jvm.ClassFile.FieldType.int)) ∈ TB := tb_of 629 rfl rfl
set_option maxRecDepth 20000 in
theorem w_671 : (Jvm.Cond.methodLink "DatumDeskModel" (93 : Nat) ({ cls := "DatumDeskModel", name := "letter", desc := "(II)V" } : Jvm.MethodName)) ∈ TB := tb_of 671 rfl rfl
set_option maxRecDepth 20000 in
theorem w_673 : (Jvm.Cond.instanceMethod ({ cls := "DatumDeskModel", name := "letter", desc := "(II)V" } : Jvm.MethodName)) ∈ TB := tb_of 673 rfl rfl
set_option maxRecDepth 20000 in
theorem w_674 : (Jvm.Cond.code ({ cls := "DatumDeskModel", name := "letter", desc := "(II)V" } : Jvm.MethodName) prog_9_method_12_code (3 : Nat) (Option.none : Option Jvm.ClassFile.FieldType)) ∈ TB := tb_of 674 rfl rfl
set_option maxRecDepth 20000 in
theorem w_675 : (Jvm.Cond.methodLink "DatumDeskModel" (124 : Nat) ({ cls := "DatumDeskModel", name := "closes", desc := "()V" } : Jvm.MethodName)) ∈ TB := tb_of 675 rfl rfl
set_option maxRecDepth 20000 in
theorem w_677 : (Jvm.Cond.instanceMethod ({ cls := "DatumDeskModel", name := "closes", desc := "()V" } : Jvm.MethodName)) ∈ TB := tb_of 677 rfl rfl
set_option maxRecDepth 20000 in
theorem w_678 : (Jvm.Cond.code ({ cls := "DatumDeskModel", name := "closes", desc := "()V" } : Jvm.MethodName) prog_9_method_17_code (6 : Nat) (Option.none : Option Jvm.ClassFile.FieldType)) ∈ TB := tb_of 678 rfl rfl
set_option maxRecDepth 20000 in
theorem w_679 : (Jvm.Cond.methodLink "DatumDeskModel" (114 : Nat) ({ cls := "DatumDeskModel", name := "end", desc := "(I)V" } : Jvm.MethodName)) ∈ TB := tb_of 679 rfl rfl
set_option maxRecDepth 20000 in
theorem w_681 : (Jvm.Cond.instanceMethod ({ cls := "DatumDeskModel", name := "end", desc := "(I)V" } : Jvm.MethodName)) ∈ TB := tb_of 681 rfl rfl
set_option maxRecDepth 20000 in
theorem w_682 : (Jvm.Cond.code ({ cls := "DatumDeskModel", name := "end", desc := "(I)V" } : Jvm.MethodName) prog_9_method_15_code (4 : Nat) (Option.none : Option Jvm.ClassFile.FieldType)) ∈ TB := tb_of 682 rfl rfl
set_option maxRecDepth 20000 in
theorem w_683 : (Jvm.Cond.methodLink "DatumDeskModel" (127 : Nat) ({ cls := "DatumDeskModel", name := "atom", desc := "(I)I" } : Jvm.MethodName)) ∈ TB := tb_of 683 rfl rfl
set_option maxRecDepth 20000 in
theorem w_685 : (Jvm.Cond.instanceMethod ({ cls := "DatumDeskModel", name := "atom", desc := "(I)I" } : Jvm.MethodName)) ∈ TB := tb_of 685 rfl rfl
set_option maxRecDepth 20000 in
theorem w_686 : (Jvm.Cond.code ({ cls := "DatumDeskModel", name := "atom", desc := "(I)I" } : Jvm.MethodName) prog_9_method_13_code (7 : Nat) (Option.some Jvm.ClassFile.FieldType.int)) ∈ TB := tb_of 686 rfl rfl
set_option maxRecDepth 20000 in
theorem w_700 : (Jvm.Cond.methodLink "DatumDeskModel" (130 : Nat) ({ cls := "DatumDeskModel", name := "isNode", desc := "(I)Z" } : Jvm.MethodName)) ∈ TB := tb_of 700 rfl rfl
set_option maxRecDepth 20000 in
theorem w_702 : (Jvm.Cond.instanceMethod ({ cls := "DatumDeskModel", name := "isNode", desc := "(I)Z" } : Jvm.MethodName)) ∈ TB := tb_of 702 rfl rfl
set_option maxRecDepth 20000 in
theorem w_703 : (Jvm.Cond.code ({ cls := "DatumDeskModel", name := "isNode", desc := "(I)Z" } : Jvm.MethodName) prog_9_method_20_code (2 : Nat) (Option.some Jvm.ClassFile.FieldType.boolean)) ∈ TB := tb_of 703 rfl rfl
set_option maxRecDepth 20000 in
theorem w_720 : (Jvm.Cond.methodLink "DatumDeskModel" (133 : Nat) ({ cls := "DatumDeskModel", name := "same", desc := "(II)Z" } : Jvm.MethodName)) ∈ TB := tb_of 720 rfl rfl
set_option maxRecDepth 20000 in
theorem w_722 : (Jvm.Cond.instanceMethod ({ cls := "DatumDeskModel", name := "same", desc := "(II)Z" } : Jvm.MethodName)) ∈ TB := tb_of 722 rfl rfl
set_option maxRecDepth 20000 in
theorem w_723 : (Jvm.Cond.code ({ cls := "DatumDeskModel", name := "same", desc := "(II)Z" } : Jvm.MethodName) prog_9_method_26_code (6 : Nat) (Option.some Jvm.ClassFile.FieldType.boolean)) ∈ TB := tb_of 723 rfl rfl
set_option maxRecDepth 20000 in
theorem w_728 : (Jvm.Cond.methodLink "DatumDeskModel" (152 : Nat) ({ cls := "DatumDeskModel", name := "step", desc := "(II)I" } : Jvm.MethodName)) ∈ TB := tb_of 728 rfl rfl
set_option maxRecDepth 20000 in
theorem w_730 : (Jvm.Cond.instanceMethod ({ cls := "DatumDeskModel", name := "step", desc := "(II)I" } : Jvm.MethodName)) ∈ TB := tb_of 730 rfl rfl
set_option maxRecDepth 20000 in
theorem w_731 : (Jvm.Cond.code ({ cls := "DatumDeskModel", name := "step", desc := "(II)I" } : Jvm.MethodName) prog_9_method_32_code (5 : Nat) (Option.some Jvm.ClassFile.FieldType.int)) ∈ TB := tb_of 731 rfl rfl
set_option maxRecDepth 20000 in
theorem w_732 : (Jvm.Cond.methodLink "DatumDeskModel" (140 : Nat) ({ cls := "DatumDeskModel", name := "say", desc := "(I)V" } : Jvm.MethodName)) ∈ TB := tb_of 732 rfl rfl
set_option maxRecDepth 20000 in
theorem w_734 : (Jvm.Cond.instanceMethod ({ cls := "DatumDeskModel", name := "say", desc := "(I)V" } : Jvm.MethodName)) ∈ TB := tb_of 734 rfl rfl
set_option maxRecDepth 20000 in
theorem w_735 : (Jvm.Cond.code ({ cls := "DatumDeskModel", name := "say", desc := "(I)V" } : Jvm.MethodName) prog_9_method_28_code (2 : Nat) (Option.none : Option Jvm.ClassFile.FieldType)) ∈ TB := tb_of 735 rfl rfl
set_option maxRecDepth 20000 in
theorem w_736 : (Jvm.Cond.methodLink "DatumDeskModel" (143 : Nat) ({ cls := "DatumDeskModel", name := "isQuote", desc := "(I)Z" } : Jvm.MethodName)) ∈ TB := tb_of 736 rfl rfl
set_option maxRecDepth 20000 in
theorem w_738 : (Jvm.Cond.instanceMethod ({ cls := "DatumDeskModel", name := "isQuote", desc := "(I)Z" } : Jvm.MethodName)) ∈ TB := tb_of 738 rfl rfl
set_option maxRecDepth 20000 in
theorem w_739 : (Jvm.Cond.code ({ cls := "DatumDeskModel", name := "isQuote", desc := "(I)Z" } : Jvm.MethodName) prog_9_method_31_code (5 : Nat) (Option.some Jvm.ClassFile.FieldType.boolean)) ∈ TB := tb_of 739 rfl rfl
set_option maxRecDepth 20000 in
theorem w_740 : (Jvm.Cond.methodLink "DatumDeskModel" (146 : Nat) ({ cls := "DatumDeskModel", name := "number", desc := "(I)V" } : Jvm.MethodName)) ∈ TB := tb_of 740 rfl rfl
set_option maxRecDepth 20000 in
theorem w_742 : (Jvm.Cond.instanceMethod ({ cls := "DatumDeskModel", name := "number", desc := "(I)V" } : Jvm.MethodName)) ∈ TB := tb_of 742 rfl rfl
set_option maxRecDepth 20000 in
theorem w_743 : (Jvm.Cond.code ({ cls := "DatumDeskModel", name := "number", desc := "(I)V" } : Jvm.MethodName) prog_9_method_29_code (4 : Nat) (Option.none : Option Jvm.ClassFile.FieldType)) ∈ TB := tb_of 743 rfl rfl
set_option maxRecDepth 20000 in
theorem w_744 : (Jvm.Cond.methodLink "DatumDeskModel" (149 : Nat) ({ cls := "DatumDeskModel", name := "letters", desc := "(I)V" } : Jvm.MethodName)) ∈ TB := tb_of 744 rfl rfl
set_option maxRecDepth 20000 in
theorem w_746 : (Jvm.Cond.instanceMethod ({ cls := "DatumDeskModel", name := "letters", desc := "(I)V" } : Jvm.MethodName)) ∈ TB := tb_of 746 rfl rfl
set_option maxRecDepth 20000 in
theorem w_747 : (Jvm.Cond.code ({ cls := "DatumDeskModel", name := "letters", desc := "(I)V" } : Jvm.MethodName) prog_9_method_30_code (5 : Nat) (Option.none : Option Jvm.ClassFile.FieldType)) ∈ TB := tb_of 747 rfl rfl
def Y_Desk_init : aY := (⟨"DatumDesk", "<init>", "()V"⟩, prog_1_method_1_code, 1, none)
theorem hy_Desk_init : Y_Desk_init.1.cls ≠ "java/lang/invoke/MethodHandle" ∧ Y_Desk_init.1.cls ≠ "java/lang/invoke/VarHandle" ∧ (parseMethodDescriptor Y_Desk_init.1.desc).map (fun d => d.parameters.length) = some 0 := by decide +kernel
def Y_Desk_put : aY := (⟨"DatumDesk", "put", "(JI)Z"⟩, prog_1_method_2_code, 5, some .boolean)
theorem hy_Desk_put : Y_Desk_put.1.cls ≠ "java/lang/invoke/MethodHandle" ∧ Y_Desk_put.1.cls ≠ "java/lang/invoke/VarHandle" ∧ (parseMethodDescriptor Y_Desk_put.1.desc).map (fun d => d.parameters.length) = some 2 := by decide +kernel
def Y_Desk_read : aY := (⟨"DatumDesk", "read", "()I"⟩, prog_1_method_3_code, 1, some .int)
theorem hy_Desk_read : Y_Desk_read.1.cls ≠ "java/lang/invoke/MethodHandle" ∧ Y_Desk_read.1.cls ≠ "java/lang/invoke/VarHandle" ∧ (parseMethodDescriptor Y_Desk_read.1.desc).map (fun d => d.parameters.length) = some 0 := by decide +kernel
def Y_Desk_place : aY := (⟨"DatumDesk", "place", "()I"⟩, prog_1_method_4_code, 1, some .int)
theorem hy_Desk_place : Y_Desk_place.1.cls ≠ "java/lang/invoke/MethodHandle" ∧ Y_Desk_place.1.cls ≠ "java/lang/invoke/VarHandle" ∧ (parseMethodDescriptor Y_Desk_place.1.desc).map (fun d => d.parameters.length) = some 0 := by decide +kernel
def Y_Desk_datum : aY := (⟨"DatumDesk", "datum", "(I)I"⟩, prog_1_method_5_code, 2, some .int)
theorem hy_Desk_datum : Y_Desk_datum.1.cls ≠ "java/lang/invoke/MethodHandle" ∧ Y_Desk_datum.1.cls ≠ "java/lang/invoke/VarHandle" ∧ (parseMethodDescriptor Y_Desk_datum.1.desc).map (fun d => d.parameters.length) = some 1 := by decide +kernel
def Y_Desk_kind : aY := (⟨"DatumDesk", "kind", "(I)I"⟩, prog_1_method_6_code, 2, some .int)
theorem hy_Desk_kind : Y_Desk_kind.1.cls ≠ "java/lang/invoke/MethodHandle" ∧ Y_Desk_kind.1.cls ≠ "java/lang/invoke/VarHandle" ∧ (parseMethodDescriptor Y_Desk_kind.1.desc).map (fun d => d.parameters.length) = some 1 := by decide +kernel
def Y_Desk_value : aY := (⟨"DatumDesk", "value", "(I)I"⟩, prog_1_method_7_code, 2, some .int)
theorem hy_Desk_value : Y_Desk_value.1.cls ≠ "java/lang/invoke/MethodHandle" ∧ Y_Desk_value.1.cls ≠ "java/lang/invoke/VarHandle" ∧ (parseMethodDescriptor Y_Desk_value.1.desc).map (fun d => d.parameters.length) = some 1 := by decide +kernel
def Y_Desk_byteAt : aY := (⟨"DatumDesk", "byteAt", "(II)I"⟩, prog_1_method_8_code, 3, some .int)
theorem hy_Desk_byteAt : Y_Desk_byteAt.1.cls ≠ "java/lang/invoke/MethodHandle" ∧ Y_Desk_byteAt.1.cls ≠ "java/lang/invoke/VarHandle" ∧ (parseMethodDescriptor Y_Desk_byteAt.1.desc).map (fun d => d.parameters.length) = some 2 := by decide +kernel
def Y_Desk_part : aY := (⟨"DatumDesk", "part", "(II)I"⟩, prog_1_method_9_code, 3, some .int)
theorem hy_Desk_part : Y_Desk_part.1.cls ≠ "java/lang/invoke/MethodHandle" ∧ Y_Desk_part.1.cls ≠ "java/lang/invoke/VarHandle" ∧ (parseMethodDescriptor Y_Desk_part.1.desc).map (fun d => d.parameters.length) = some 2 := by decide +kernel
def Y_Desk_like : aY := (⟨"DatumDesk", "like", "(II)Z"⟩, prog_1_method_10_code, 3, some .boolean)
theorem hy_Desk_like : Y_Desk_like.1.cls ≠ "java/lang/invoke/MethodHandle" ∧ Y_Desk_like.1.cls ≠ "java/lang/invoke/VarHandle" ∧ (parseMethodDescriptor Y_Desk_like.1.desc).map (fun d => d.parameters.length) = some 2 := by decide +kernel
def Y_Desk_write : aY := (⟨"DatumDesk", "write", "(I)Z"⟩, prog_1_method_11_code, 2, some .boolean)
theorem hy_Desk_write : Y_Desk_write.1.cls ≠ "java/lang/invoke/MethodHandle" ∧ Y_Desk_write.1.cls ≠ "java/lang/invoke/VarHandle" ∧ (parseMethodDescriptor Y_Desk_write.1.desc).map (fun d => d.parameters.length) = some 1 := by decide +kernel
def Y_Desk_fetch : aY := (⟨"DatumDesk", "fetch", "()J"⟩, prog_1_method_12_code, 5, some .long)
theorem hy_Desk_fetch : Y_Desk_fetch.1.cls ≠ "java/lang/invoke/MethodHandle" ∧ Y_Desk_fetch.1.cls ≠ "java/lang/invoke/VarHandle" ∧ (parseMethodDescriptor Y_Desk_fetch.1.desc).map (fun d => d.parameters.length) = some 0 := by decide +kernel
def Y_Desk_count : aY := (⟨"DatumDesk", "count", "(I)I"⟩, prog_1_method_13_code, 2, some .int)
theorem hy_Desk_count : Y_Desk_count.1.cls ≠ "java/lang/invoke/MethodHandle" ∧ Y_Desk_count.1.cls ≠ "java/lang/invoke/VarHandle" ∧ (parseMethodDescriptor Y_Desk_count.1.desc).map (fun d => d.parameters.length) = some 1 := by decide +kernel
def Y_Model_init : aY := (⟨"DatumDeskModel", "<init>", "()V"⟩, prog_9_method_1_code, 1, none)
theorem hy_Model_init : Y_Model_init.1.cls ≠ "java/lang/invoke/MethodHandle" ∧ Y_Model_init.1.cls ≠ "java/lang/invoke/VarHandle" ∧ (parseMethodDescriptor Y_Model_init.1.desc).map (fun d => d.parameters.length) = some 0 := by decide +kernel
def Y_Model_put : aY := (⟨"DatumDeskModel", "put", "(JI)Z"⟩, prog_9_method_2_code, 5, some .boolean)
theorem hy_Model_put : Y_Model_put.1.cls ≠ "java/lang/invoke/MethodHandle" ∧ Y_Model_put.1.cls ≠ "java/lang/invoke/VarHandle" ∧ (parseMethodDescriptor Y_Model_put.1.desc).map (fun d => d.parameters.length) = some 2 := by decide +kernel
def Y_Model_peek : aY := (⟨"DatumDeskModel", "peek", "(I)I"⟩, prog_9_method_3_code, 2, some .int)
theorem hy_Model_peek : Y_Model_peek.1.cls ≠ "java/lang/invoke/MethodHandle" ∧ Y_Model_peek.1.cls ≠ "java/lang/invoke/VarHandle" ∧ (parseMethodDescriptor Y_Model_peek.1.desc).map (fun d => d.parameters.length) = some 1 := by decide +kernel
def Y_Model_isDigit : aY := (⟨"DatumDeskModel", "isDigit", "(I)Z"⟩, prog_9_method_4_code, 1, some .boolean)
theorem hy_Model_isDigit : Y_Model_isDigit.1.cls ≠ "java/lang/invoke/MethodHandle" ∧ Y_Model_isDigit.1.cls ≠ "java/lang/invoke/VarHandle" ∧ (parseMethodDescriptor Y_Model_isDigit.1.desc).map (fun d => d.parameters.length) = some 1 := by decide +kernel
def Y_Model_isBegin : aY := (⟨"DatumDeskModel", "isBegin", "(I)Z"⟩, prog_9_method_5_code, 1, some .boolean)
theorem hy_Model_isBegin : Y_Model_isBegin.1.cls ≠ "java/lang/invoke/MethodHandle" ∧ Y_Model_isBegin.1.cls ≠ "java/lang/invoke/VarHandle" ∧ (parseMethodDescriptor Y_Model_isBegin.1.desc).map (fun d => d.parameters.length) = some 1 := by decide +kernel
def Y_Model_isByte : aY := (⟨"DatumDeskModel", "isByte", "(I)Z"⟩, prog_9_method_6_code, 1, some .boolean)
theorem hy_Model_isByte : Y_Model_isByte.1.cls ≠ "java/lang/invoke/MethodHandle" ∧ Y_Model_isByte.1.cls ≠ "java/lang/invoke/VarHandle" ∧ (parseMethodDescriptor Y_Model_isByte.1.desc).map (fun d => d.parameters.length) = some 1 := by decide +kernel
def Y_Model_skip : aY := (⟨"DatumDeskModel", "skip", "()V"⟩, prog_9_method_7_code, 3, none)
theorem hy_Model_skip : Y_Model_skip.1.cls ≠ "java/lang/invoke/MethodHandle" ∧ Y_Model_skip.1.cls ≠ "java/lang/invoke/VarHandle" ∧ (parseMethodDescriptor Y_Model_skip.1.desc).map (fun d => d.parameters.length) = some 0 := by decide +kernel
def Y_Model_token : aY := (⟨"DatumDeskModel", "token", "()I"⟩, prog_9_method_8_code, 5, some .int)
theorem hy_Model_token : Y_Model_token.1.cls ≠ "java/lang/invoke/MethodHandle" ∧ Y_Model_token.1.cls ≠ "java/lang/invoke/VarHandle" ∧ (parseMethodDescriptor Y_Model_token.1.desc).map (fun d => d.parameters.length) = some 0 := by decide +kernel
def Y_Model_string : aY := (⟨"DatumDeskModel", "string", "()I"⟩, prog_9_method_9_code, 4, some .int)
theorem hy_Model_string : Y_Model_string.1.cls ≠ "java/lang/invoke/MethodHandle" ∧ Y_Model_string.1.cls ≠ "java/lang/invoke/VarHandle" ∧ (parseMethodDescriptor Y_Model_string.1.desc).map (fun d => d.parameters.length) = some 0 := by decide +kernel
def Y_Model_node : aY := (⟨"DatumDeskModel", "node", "(I)I"⟩, prog_9_method_10_code, 2, some .int)
theorem hy_Model_node : Y_Model_node.1.cls ≠ "java/lang/invoke/MethodHandle" ∧ Y_Model_node.1.cls ≠ "java/lang/invoke/VarHandle" ∧ (parseMethodDescriptor Y_Model_node.1.desc).map (fun d => d.parameters.length) = some 1 := by decide +kernel
def Y_Model_fail : aY := (⟨"DatumDeskModel", "fail", "(I)V"⟩, prog_9_method_11_code, 2, none)
theorem hy_Model_fail : Y_Model_fail.1.cls ≠ "java/lang/invoke/MethodHandle" ∧ Y_Model_fail.1.cls ≠ "java/lang/invoke/VarHandle" ∧ (parseMethodDescriptor Y_Model_fail.1.desc).map (fun d => d.parameters.length) = some 1 := by decide +kernel
def Y_Model_letter : aY := (⟨"DatumDeskModel", "letter", "(II)V"⟩, prog_9_method_12_code, 3, none)
theorem hy_Model_letter : Y_Model_letter.1.cls ≠ "java/lang/invoke/MethodHandle" ∧ Y_Model_letter.1.cls ≠ "java/lang/invoke/VarHandle" ∧ (parseMethodDescriptor Y_Model_letter.1.desc).map (fun d => d.parameters.length) = some 2 := by decide +kernel
def Y_Model_atom : aY := (⟨"DatumDeskModel", "atom", "(I)I"⟩, prog_9_method_13_code, 7, some .int)
theorem hy_Model_atom : Y_Model_atom.1.cls ≠ "java/lang/invoke/MethodHandle" ∧ Y_Model_atom.1.cls ≠ "java/lang/invoke/VarHandle" ∧ (parseMethodDescriptor Y_Model_atom.1.desc).map (fun d => d.parameters.length) = some 1 := by decide +kernel
def Y_Model_begin : aY := (⟨"DatumDeskModel", "begin", "()V"⟩, prog_9_method_14_code, 3, none)
theorem hy_Model_begin : Y_Model_begin.1.cls ≠ "java/lang/invoke/MethodHandle" ∧ Y_Model_begin.1.cls ≠ "java/lang/invoke/VarHandle" ∧ (parseMethodDescriptor Y_Model_begin.1.desc).map (fun d => d.parameters.length) = some 0 := by decide +kernel
def Y_Model_end : aY := (⟨"DatumDeskModel", "end", "(I)V"⟩, prog_9_method_15_code, 4, none)
theorem hy_Model_end : Y_Model_end.1.cls ≠ "java/lang/invoke/MethodHandle" ∧ Y_Model_end.1.cls ≠ "java/lang/invoke/VarHandle" ∧ (parseMethodDescriptor Y_Model_end.1.desc).map (fun d => d.parameters.length) = some 1 := by decide +kernel
def Y_Model_opens : aY := (⟨"DatumDeskModel", "opens", "(Z)V"⟩, prog_9_method_16_code, 6, none)
theorem hy_Model_opens : Y_Model_opens.1.cls ≠ "java/lang/invoke/MethodHandle" ∧ Y_Model_opens.1.cls ≠ "java/lang/invoke/VarHandle" ∧ (parseMethodDescriptor Y_Model_opens.1.desc).map (fun d => d.parameters.length) = some 1 := by decide +kernel
def Y_Model_closes : aY := (⟨"DatumDeskModel", "closes", "()V"⟩, prog_9_method_17_code, 6, none)
theorem hy_Model_closes : Y_Model_closes.1.cls ≠ "java/lang/invoke/MethodHandle" ∧ Y_Model_closes.1.cls ≠ "java/lang/invoke/VarHandle" ∧ (parseMethodDescriptor Y_Model_closes.1.desc).map (fun d => d.parameters.length) = some 0 := by decide +kernel
def Y_Model_read : aY := (⟨"DatumDeskModel", "read", "()I"⟩, prog_9_method_18_code, 3, some .int)
theorem hy_Model_read : Y_Model_read.1.cls ≠ "java/lang/invoke/MethodHandle" ∧ Y_Model_read.1.cls ≠ "java/lang/invoke/VarHandle" ∧ (parseMethodDescriptor Y_Model_read.1.desc).map (fun d => d.parameters.length) = some 0 := by decide +kernel
def Y_Model_place : aY := (⟨"DatumDeskModel", "place", "()I"⟩, prog_9_method_19_code, 1, some .int)
theorem hy_Model_place : Y_Model_place.1.cls ≠ "java/lang/invoke/MethodHandle" ∧ Y_Model_place.1.cls ≠ "java/lang/invoke/VarHandle" ∧ (parseMethodDescriptor Y_Model_place.1.desc).map (fun d => d.parameters.length) = some 0 := by decide +kernel
def Y_Model_isNode : aY := (⟨"DatumDeskModel", "isNode", "(I)Z"⟩, prog_9_method_20_code, 2, some .boolean)
theorem hy_Model_isNode : Y_Model_isNode.1.cls ≠ "java/lang/invoke/MethodHandle" ∧ Y_Model_isNode.1.cls ≠ "java/lang/invoke/VarHandle" ∧ (parseMethodDescriptor Y_Model_isNode.1.desc).map (fun d => d.parameters.length) = some 1 := by decide +kernel
def Y_Model_datum : aY := (⟨"DatumDeskModel", "datum", "(I)I"⟩, prog_9_method_21_code, 2, some .int)
theorem hy_Model_datum : Y_Model_datum.1.cls ≠ "java/lang/invoke/MethodHandle" ∧ Y_Model_datum.1.cls ≠ "java/lang/invoke/VarHandle" ∧ (parseMethodDescriptor Y_Model_datum.1.desc).map (fun d => d.parameters.length) = some 1 := by decide +kernel
def Y_Model_kind : aY := (⟨"DatumDeskModel", "kind", "(I)I"⟩, prog_9_method_22_code, 2, some .int)
theorem hy_Model_kind : Y_Model_kind.1.cls ≠ "java/lang/invoke/MethodHandle" ∧ Y_Model_kind.1.cls ≠ "java/lang/invoke/VarHandle" ∧ (parseMethodDescriptor Y_Model_kind.1.desc).map (fun d => d.parameters.length) = some 1 := by decide +kernel
def Y_Model_value : aY := (⟨"DatumDeskModel", "value", "(I)I"⟩, prog_9_method_23_code, 2, some .int)
theorem hy_Model_value : Y_Model_value.1.cls ≠ "java/lang/invoke/MethodHandle" ∧ Y_Model_value.1.cls ≠ "java/lang/invoke/VarHandle" ∧ (parseMethodDescriptor Y_Model_value.1.desc).map (fun d => d.parameters.length) = some 1 := by decide +kernel
def Y_Model_byteAt : aY := (⟨"DatumDeskModel", "byteAt", "(II)I"⟩, prog_9_method_24_code, 4, some .int)
theorem hy_Model_byteAt : Y_Model_byteAt.1.cls ≠ "java/lang/invoke/MethodHandle" ∧ Y_Model_byteAt.1.cls ≠ "java/lang/invoke/VarHandle" ∧ (parseMethodDescriptor Y_Model_byteAt.1.desc).map (fun d => d.parameters.length) = some 2 := by decide +kernel
def Y_Model_part : aY := (⟨"DatumDeskModel", "part", "(II)I"⟩, prog_9_method_25_code, 3, some .int)
theorem hy_Model_part : Y_Model_part.1.cls ≠ "java/lang/invoke/MethodHandle" ∧ Y_Model_part.1.cls ≠ "java/lang/invoke/VarHandle" ∧ (parseMethodDescriptor Y_Model_part.1.desc).map (fun d => d.parameters.length) = some 2 := by decide +kernel
def Y_Model_same : aY := (⟨"DatumDeskModel", "same", "(II)Z"⟩, prog_9_method_26_code, 6, some .boolean)
theorem hy_Model_same : Y_Model_same.1.cls ≠ "java/lang/invoke/MethodHandle" ∧ Y_Model_same.1.cls ≠ "java/lang/invoke/VarHandle" ∧ (parseMethodDescriptor Y_Model_same.1.desc).map (fun d => d.parameters.length) = some 2 := by decide +kernel
def Y_Model_like : aY := (⟨"DatumDeskModel", "like", "(II)Z"⟩, prog_9_method_27_code, 7, some .boolean)
theorem hy_Model_like : Y_Model_like.1.cls ≠ "java/lang/invoke/MethodHandle" ∧ Y_Model_like.1.cls ≠ "java/lang/invoke/VarHandle" ∧ (parseMethodDescriptor Y_Model_like.1.desc).map (fun d => d.parameters.length) = some 2 := by decide +kernel
def Y_Model_say : aY := (⟨"DatumDeskModel", "say", "(I)V"⟩, prog_9_method_28_code, 2, none)
theorem hy_Model_say : Y_Model_say.1.cls ≠ "java/lang/invoke/MethodHandle" ∧ Y_Model_say.1.cls ≠ "java/lang/invoke/VarHandle" ∧ (parseMethodDescriptor Y_Model_say.1.desc).map (fun d => d.parameters.length) = some 1 := by decide +kernel
def Y_Model_number : aY := (⟨"DatumDeskModel", "number", "(I)V"⟩, prog_9_method_29_code, 4, none)
theorem hy_Model_number : Y_Model_number.1.cls ≠ "java/lang/invoke/MethodHandle" ∧ Y_Model_number.1.cls ≠ "java/lang/invoke/VarHandle" ∧ (parseMethodDescriptor Y_Model_number.1.desc).map (fun d => d.parameters.length) = some 1 := by decide +kernel
def Y_Model_letters : aY := (⟨"DatumDeskModel", "letters", "(I)V"⟩, prog_9_method_30_code, 5, none)
theorem hy_Model_letters : Y_Model_letters.1.cls ≠ "java/lang/invoke/MethodHandle" ∧ Y_Model_letters.1.cls ≠ "java/lang/invoke/VarHandle" ∧ (parseMethodDescriptor Y_Model_letters.1.desc).map (fun d => d.parameters.length) = some 1 := by decide +kernel
def Y_Model_isQuote : aY := (⟨"DatumDeskModel", "isQuote", "(I)Z"⟩, prog_9_method_31_code, 5, some .boolean)
theorem hy_Model_isQuote : Y_Model_isQuote.1.cls ≠ "java/lang/invoke/MethodHandle" ∧ Y_Model_isQuote.1.cls ≠ "java/lang/invoke/VarHandle" ∧ (parseMethodDescriptor Y_Model_isQuote.1.desc).map (fun d => d.parameters.length) = some 1 := by decide +kernel
def Y_Model_step : aY := (⟨"DatumDeskModel", "step", "(II)I"⟩, prog_9_method_32_code, 5, some .int)
theorem hy_Model_step : Y_Model_step.1.cls ≠ "java/lang/invoke/MethodHandle" ∧ Y_Model_step.1.cls ≠ "java/lang/invoke/VarHandle" ∧ (parseMethodDescriptor Y_Model_step.1.desc).map (fun d => d.parameters.length) = some 2 := by decide +kernel
def Y_Model_write : aY := (⟨"DatumDeskModel", "write", "(I)Z"⟩, prog_9_method_33_code, 3, some .boolean)
theorem hy_Model_write : Y_Model_write.1.cls ≠ "java/lang/invoke/MethodHandle" ∧ Y_Model_write.1.cls ≠ "java/lang/invoke/VarHandle" ∧ (parseMethodDescriptor Y_Model_write.1.desc).map (fun d => d.parameters.length) = some 1 := by decide +kernel
def Y_Model_fetch : aY := (⟨"DatumDeskModel", "fetch", "()J"⟩, prog_9_method_34_code, 5, some .long)
theorem hy_Model_fetch : Y_Model_fetch.1.cls ≠ "java/lang/invoke/MethodHandle" ∧ Y_Model_fetch.1.cls ≠ "java/lang/invoke/VarHandle" ∧ (parseMethodDescriptor Y_Model_fetch.1.desc).map (fun d => d.parameters.length) = some 0 := by decide +kernel
def Y_Model_count : aY := (⟨"DatumDeskModel", "count", "(I)I"⟩, prog_9_method_35_code, 2, some .int)
theorem hy_Model_count : Y_Model_count.1.cls ≠ "java/lang/invoke/MethodHandle" ∧ Y_Model_count.1.cls ≠ "java/lang/invoke/VarHandle" ∧ (parseMethodDescriptor Y_Model_count.1.desc).map (fun d => d.parameters.length) = some 1 := by decide +kernel
def Y_Nodes_init : aY := (⟨"DatumDesk$Nodes", "<init>", "()V"⟩, prog_2_method_1_code, 1, none)
theorem hy_Nodes_init : Y_Nodes_init.1.cls ≠ "java/lang/invoke/MethodHandle" ∧ Y_Nodes_init.1.cls ≠ "java/lang/invoke/VarHandle" ∧ (parseMethodDescriptor Y_Nodes_init.1.desc).map (fun d => d.parameters.length) = some 0 := by decide +kernel
def Y_Nodes_clear : aY := (⟨"DatumDesk$Nodes", "clear", "()V"⟩, prog_2_method_2_code, 1, none)
theorem hy_Nodes_clear : Y_Nodes_clear.1.cls ≠ "java/lang/invoke/MethodHandle" ∧ Y_Nodes_clear.1.cls ≠ "java/lang/invoke/VarHandle" ∧ (parseMethodDescriptor Y_Nodes_clear.1.desc).map (fun d => d.parameters.length) = some 0 := by decide +kernel
def Y_Nodes_has : aY := (⟨"DatumDesk$Nodes", "has", "(I)Z"⟩, prog_2_method_3_code, 2, some .boolean)
theorem hy_Nodes_has : Y_Nodes_has.1.cls ≠ "java/lang/invoke/MethodHandle" ∧ Y_Nodes_has.1.cls ≠ "java/lang/invoke/VarHandle" ∧ (parseMethodDescriptor Y_Nodes_has.1.desc).map (fun d => d.parameters.length) = some 1 := by decide +kernel
def Y_Nodes_isOf : aY := (⟨"DatumDesk$Nodes", "isOf", "(II)Z"⟩, prog_2_method_4_code, 3, some .boolean)
theorem hy_Nodes_isOf : Y_Nodes_isOf.1.cls ≠ "java/lang/invoke/MethodHandle" ∧ Y_Nodes_isOf.1.cls ≠ "java/lang/invoke/VarHandle" ∧ (parseMethodDescriptor Y_Nodes_isOf.1.desc).map (fun d => d.parameters.length) = some 2 := by decide +kernel
def Y_Nodes_add : aY := (⟨"DatumDesk$Nodes", "add", "(I)I"⟩, prog_2_method_5_code, 3, some .int)
theorem hy_Nodes_add : Y_Nodes_add.1.cls ≠ "java/lang/invoke/MethodHandle" ∧ Y_Nodes_add.1.cls ≠ "java/lang/invoke/VarHandle" ∧ (parseMethodDescriptor Y_Nodes_add.1.desc).map (fun d => d.parameters.length) = some 1 := by decide +kernel
def Y_Nodes_addDatum : aY := (⟨"DatumDesk$Nodes", "addDatum", "(I)V"⟩, prog_2_method_6_code, 2, none)
theorem hy_Nodes_addDatum : Y_Nodes_addDatum.1.cls ≠ "java/lang/invoke/MethodHandle" ∧ Y_Nodes_addDatum.1.cls ≠ "java/lang/invoke/VarHandle" ∧ (parseMethodDescriptor Y_Nodes_addDatum.1.desc).map (fun d => d.parameters.length) = some 1 := by decide +kernel
def Y_Nodes_addLetter : aY := (⟨"DatumDesk$Nodes", "addLetter", "(II)V"⟩, prog_2_method_7_code, 3, none)
theorem hy_Nodes_addLetter : Y_Nodes_addLetter.1.cls ≠ "java/lang/invoke/MethodHandle" ∧ Y_Nodes_addLetter.1.cls ≠ "java/lang/invoke/VarHandle" ∧ (parseMethodDescriptor Y_Nodes_addLetter.1.desc).map (fun d => d.parameters.length) = some 2 := by decide +kernel
def Y_Nodes_nameQuote : aY := (⟨"DatumDesk$Nodes", "nameQuote", "(I)V"⟩, prog_2_method_8_code, 2, none)
theorem hy_Nodes_nameQuote : Y_Nodes_nameQuote.1.cls ≠ "java/lang/invoke/MethodHandle" ∧ Y_Nodes_nameQuote.1.cls ≠ "java/lang/invoke/VarHandle" ∧ (parseMethodDescriptor Y_Nodes_nameQuote.1.desc).map (fun d => d.parameters.length) = some 1 := by decide +kernel
def Y_Nodes_setAmount : aY := (⟨"DatumDesk$Nodes", "setAmount", "(II)V"⟩, prog_2_method_9_code, 3, none)
theorem hy_Nodes_setAmount : Y_Nodes_setAmount.1.cls ≠ "java/lang/invoke/MethodHandle" ∧ Y_Nodes_setAmount.1.cls ≠ "java/lang/invoke/VarHandle" ∧ (parseMethodDescriptor Y_Nodes_setAmount.1.desc).map (fun d => d.parameters.length) = some 2 := by decide +kernel
def Y_Nodes_setHead : aY := (⟨"DatumDesk$Nodes", "setHead", "(II)V"⟩, prog_2_method_10_code, 3, none)
theorem hy_Nodes_setHead : Y_Nodes_setHead.1.cls ≠ "java/lang/invoke/MethodHandle" ∧ Y_Nodes_setHead.1.cls ≠ "java/lang/invoke/VarHandle" ∧ (parseMethodDescriptor Y_Nodes_setHead.1.desc).map (fun d => d.parameters.length) = some 2 := by decide +kernel
def Y_Nodes_setTail : aY := (⟨"DatumDesk$Nodes", "setTail", "(II)V"⟩, prog_2_method_11_code, 3, none)
theorem hy_Nodes_setTail : Y_Nodes_setTail.1.cls ≠ "java/lang/invoke/MethodHandle" ∧ Y_Nodes_setTail.1.cls ≠ "java/lang/invoke/VarHandle" ∧ (parseMethodDescriptor Y_Nodes_setTail.1.desc).map (fun d => d.parameters.length) = some 2 := by decide +kernel
def Y_Nodes_datumNode : aY := (⟨"DatumDesk$Nodes", "datumNode", "(I)I"⟩, prog_2_method_12_code, 2, some .int)
theorem hy_Nodes_datumNode : Y_Nodes_datumNode.1.cls ≠ "java/lang/invoke/MethodHandle" ∧ Y_Nodes_datumNode.1.cls ≠ "java/lang/invoke/VarHandle" ∧ (parseMethodDescriptor Y_Nodes_datumNode.1.desc).map (fun d => d.parameters.length) = some 1 := by decide +kernel
def Y_Nodes_kindOf : aY := (⟨"DatumDesk$Nodes", "kindOf", "(I)I"⟩, prog_2_method_13_code, 2, some .int)
theorem hy_Nodes_kindOf : Y_Nodes_kindOf.1.cls ≠ "java/lang/invoke/MethodHandle" ∧ Y_Nodes_kindOf.1.cls ≠ "java/lang/invoke/VarHandle" ∧ (parseMethodDescriptor Y_Nodes_kindOf.1.desc).map (fun d => d.parameters.length) = some 1 := by decide +kernel
def Y_Nodes_amountOf : aY := (⟨"DatumDesk$Nodes", "amountOf", "(I)I"⟩, prog_2_method_14_code, 2, some .int)
theorem hy_Nodes_amountOf : Y_Nodes_amountOf.1.cls ≠ "java/lang/invoke/MethodHandle" ∧ Y_Nodes_amountOf.1.cls ≠ "java/lang/invoke/VarHandle" ∧ (parseMethodDescriptor Y_Nodes_amountOf.1.desc).map (fun d => d.parameters.length) = some 1 := by decide +kernel
def Y_Nodes_byteOf : aY := (⟨"DatumDesk$Nodes", "byteOf", "(II)I"⟩, prog_2_method_15_code, 4, some .int)
theorem hy_Nodes_byteOf : Y_Nodes_byteOf.1.cls ≠ "java/lang/invoke/MethodHandle" ∧ Y_Nodes_byteOf.1.cls ≠ "java/lang/invoke/VarHandle" ∧ (parseMethodDescriptor Y_Nodes_byteOf.1.desc).map (fun d => d.parameters.length) = some 2 := by decide +kernel
def Y_Nodes_headOf : aY := (⟨"DatumDesk$Nodes", "headOf", "(I)I"⟩, prog_2_method_16_code, 2, some .int)
theorem hy_Nodes_headOf : Y_Nodes_headOf.1.cls ≠ "java/lang/invoke/MethodHandle" ∧ Y_Nodes_headOf.1.cls ≠ "java/lang/invoke/VarHandle" ∧ (parseMethodDescriptor Y_Nodes_headOf.1.desc).map (fun d => d.parameters.length) = some 1 := by decide +kernel
def Y_Nodes_tailOf : aY := (⟨"DatumDesk$Nodes", "tailOf", "(I)I"⟩, prog_2_method_17_code, 2, some .int)
theorem hy_Nodes_tailOf : Y_Nodes_tailOf.1.cls ≠ "java/lang/invoke/MethodHandle" ∧ Y_Nodes_tailOf.1.cls ≠ "java/lang/invoke/VarHandle" ∧ (parseMethodDescriptor Y_Nodes_tailOf.1.desc).map (fun d => d.parameters.length) = some 1 := by decide +kernel
def Y_Nodes_alike : aY := (⟨"DatumDesk$Nodes", "alike", "(III)Z"⟩, prog_2_method_18_code, 7, some .boolean)
theorem hy_Nodes_alike : Y_Nodes_alike.1.cls ≠ "java/lang/invoke/MethodHandle" ∧ Y_Nodes_alike.1.cls ≠ "java/lang/invoke/VarHandle" ∧ (parseMethodDescriptor Y_Nodes_alike.1.desc).map (fun d => d.parameters.length) = some 3 := by decide +kernel
def Y_Nodes_sameContent : aY := (⟨"DatumDesk$Nodes", "sameContent", "(II)Z"⟩, prog_2_method_19_code, 5, some .boolean)
theorem hy_Nodes_sameContent : Y_Nodes_sameContent.1.cls ≠ "java/lang/invoke/MethodHandle" ∧ Y_Nodes_sameContent.1.cls ≠ "java/lang/invoke/VarHandle" ∧ (parseMethodDescriptor Y_Nodes_sameContent.1.desc).map (fun d => d.parameters.length) = some 2 := by decide +kernel
def Y_Nodes_quotedIn : aY := (⟨"DatumDesk$Nodes", "quotedIn", "(I)I"⟩, prog_2_method_20_code, 3, some .int)
theorem hy_Nodes_quotedIn : Y_Nodes_quotedIn.1.cls ≠ "java/lang/invoke/MethodHandle" ∧ Y_Nodes_quotedIn.1.cls ≠ "java/lang/invoke/VarHandle" ∧ (parseMethodDescriptor Y_Nodes_quotedIn.1.desc).map (fun d => d.parameters.length) = some 1 := by decide +kernel
def Y_Nodes_isQuoteName : aY := (⟨"DatumDesk$Nodes", "isQuoteName", "(I)Z"⟩, prog_2_method_21_code, 3, some .boolean)
theorem hy_Nodes_isQuoteName : Y_Nodes_isQuoteName.1.cls ≠ "java/lang/invoke/MethodHandle" ∧ Y_Nodes_isQuoteName.1.cls ≠ "java/lang/invoke/VarHandle" ∧ (parseMethodDescriptor Y_Nodes_isQuoteName.1.desc).map (fun d => d.parameters.length) = some 1 := by decide +kernel
def Y_Reader_init : aY := (⟨"DatumDesk$Reader", "<init>", "(LDatumDesk$Text;LDatumDesk$Nodes;)V"⟩, prog_3_method_1_code, 3, none)
theorem hy_Reader_init : Y_Reader_init.1.cls ≠ "java/lang/invoke/MethodHandle" ∧ Y_Reader_init.1.cls ≠ "java/lang/invoke/VarHandle" ∧ (parseMethodDescriptor Y_Reader_init.1.desc).map (fun d => d.parameters.length) = some 2 := by decide +kernel
def Y_Reader_readText : aY := (⟨"DatumDesk$Reader", "readText", "()V"⟩, prog_3_method_2_code, 3, none)
theorem hy_Reader_readText : Y_Reader_readText.1.cls ≠ "java/lang/invoke/MethodHandle" ∧ Y_Reader_readText.1.cls ≠ "java/lang/invoke/VarHandle" ∧ (parseMethodDescriptor Y_Reader_readText.1.desc).map (fun d => d.parameters.length) = some 0 := by decide +kernel
def Y_Reader_readDatum : aY := (⟨"DatumDesk$Reader", "readDatum", "(I)I"⟩, prog_3_method_3_code, 2, some .int)
theorem hy_Reader_readDatum : Y_Reader_readDatum.1.cls ≠ "java/lang/invoke/MethodHandle" ∧ Y_Reader_readDatum.1.cls ≠ "java/lang/invoke/VarHandle" ∧ (parseMethodDescriptor Y_Reader_readDatum.1.desc).map (fun d => d.parameters.length) = some 1 := by decide +kernel
def Y_Reader_readNumber : aY := (⟨"DatumDesk$Reader", "readNumber", "()I"⟩, prog_3_method_4_code, 6, some .int)
theorem hy_Reader_readNumber : Y_Reader_readNumber.1.cls ≠ "java/lang/invoke/MethodHandle" ∧ Y_Reader_readNumber.1.cls ≠ "java/lang/invoke/VarHandle" ∧ (parseMethodDescriptor Y_Reader_readNumber.1.desc).map (fun d => d.parameters.length) = some 0 := by decide +kernel
def Y_Reader_readName : aY := (⟨"DatumDesk$Reader", "readName", "()I"⟩, prog_3_method_5_code, 4, some .int)
theorem hy_Reader_readName : Y_Reader_readName.1.cls ≠ "java/lang/invoke/MethodHandle" ∧ Y_Reader_readName.1.cls ≠ "java/lang/invoke/VarHandle" ∧ (parseMethodDescriptor Y_Reader_readName.1.desc).map (fun d => d.parameters.length) = some 0 := by decide +kernel
def Y_Reader_readString : aY := (⟨"DatumDesk$Reader", "readString", "()I"⟩, prog_3_method_6_code, 4, some .int)
theorem hy_Reader_readString : Y_Reader_readString.1.cls ≠ "java/lang/invoke/MethodHandle" ∧ Y_Reader_readString.1.cls ≠ "java/lang/invoke/VarHandle" ∧ (parseMethodDescriptor Y_Reader_readString.1.desc).map (fun d => d.parameters.length) = some 0 := by decide +kernel
def Y_Reader_readQuoted : aY := (⟨"DatumDesk$Reader", "readQuoted", "(I)I"⟩, prog_3_method_7_code, 7, some .int)
theorem hy_Reader_readQuoted : Y_Reader_readQuoted.1.cls ≠ "java/lang/invoke/MethodHandle" ∧ Y_Reader_readQuoted.1.cls ≠ "java/lang/invoke/VarHandle" ∧ (parseMethodDescriptor Y_Reader_readQuoted.1.desc).map (fun d => d.parameters.length) = some 1 := by decide +kernel
def Y_Reader_readList : aY := (⟨"DatumDesk$Reader", "readList", "(I)I"⟩, prog_3_method_8_code, 8, some .int)
theorem hy_Reader_readList : Y_Reader_readList.1.cls ≠ "java/lang/invoke/MethodHandle" ∧ Y_Reader_readList.1.cls ≠ "java/lang/invoke/VarHandle" ∧ (parseMethodDescriptor Y_Reader_readList.1.desc).map (fun d => d.parameters.length) = some 1 := by decide +kernel
def Y_Reader_readDotted : aY := (⟨"DatumDesk$Reader", "readDotted", "(I)I"⟩, prog_3_method_9_code, 3, some .int)
theorem hy_Reader_readDotted : Y_Reader_readDotted.1.cls ≠ "java/lang/invoke/MethodHandle" ∧ Y_Reader_readDotted.1.cls ≠ "java/lang/invoke/VarHandle" ∧ (parseMethodDescriptor Y_Reader_readDotted.1.desc).map (fun d => d.parameters.length) = some 1 := by decide +kernel
def Y_Reader_add : aY := (⟨"DatumDesk$Reader", "add", "(I)I"⟩, prog_3_method_10_code, 3, some .int)
theorem hy_Reader_add : Y_Reader_add.1.cls ≠ "java/lang/invoke/MethodHandle" ∧ Y_Reader_add.1.cls ≠ "java/lang/invoke/VarHandle" ∧ (parseMethodDescriptor Y_Reader_add.1.desc).map (fun d => d.parameters.length) = some 1 := by decide +kernel
def Y_Reader_fault : aY := (⟨"DatumDesk$Reader", "fault", "()I"⟩, prog_3_method_11_code, 1, some .int)
theorem hy_Reader_fault : Y_Reader_fault.1.cls ≠ "java/lang/invoke/MethodHandle" ∧ Y_Reader_fault.1.cls ≠ "java/lang/invoke/VarHandle" ∧ (parseMethodDescriptor Y_Reader_fault.1.desc).map (fun d => d.parameters.length) = some 0 := by decide +kernel
def Y_Text_init : aY := (⟨"DatumDesk$Text", "<init>", "()V"⟩, prog_4_method_1_code, 1, none)
theorem hy_Text_init : Y_Text_init.1.cls ≠ "java/lang/invoke/MethodHandle" ∧ Y_Text_init.1.cls ≠ "java/lang/invoke/VarHandle" ∧ (parseMethodDescriptor Y_Text_init.1.desc).map (fun d => d.parameters.length) = some 0 := by decide +kernel
def Y_Text_append : aY := (⟨"DatumDesk$Text", "append", "(I)V"⟩, prog_4_method_2_code, 2, none)
theorem hy_Text_append : Y_Text_append.1.cls ≠ "java/lang/invoke/MethodHandle" ∧ Y_Text_append.1.cls ≠ "java/lang/invoke/VarHandle" ∧ (parseMethodDescriptor Y_Text_append.1.desc).map (fun d => d.parameters.length) = some 1 := by decide +kernel
def Y_Text_at : aY := (⟨"DatumDesk$Text", "at", "(I)I"⟩, prog_4_method_3_code, 2, some .int)
theorem hy_Text_at : Y_Text_at.1.cls ≠ "java/lang/invoke/MethodHandle" ∧ Y_Text_at.1.cls ≠ "java/lang/invoke/VarHandle" ∧ (parseMethodDescriptor Y_Text_at.1.desc).map (fun d => d.parameters.length) = some 1 := by decide +kernel
def Y_Text_skipBlanks : aY := (⟨"DatumDesk$Text", "skipBlanks", "(I)I"⟩, prog_4_method_4_code, 5, some .int)
theorem hy_Text_skipBlanks : Y_Text_skipBlanks.1.cls ≠ "java/lang/invoke/MethodHandle" ∧ Y_Text_skipBlanks.1.cls ≠ "java/lang/invoke/VarHandle" ∧ (parseMethodDescriptor Y_Text_skipBlanks.1.desc).map (fun d => d.parameters.length) = some 1 := by decide +kernel
def Y_Text_sortAt : aY := (⟨"DatumDesk$Text", "sortAt", "(I)I"⟩, prog_4_method_5_code, 3, some .int)
theorem hy_Text_sortAt : Y_Text_sortAt.1.cls ≠ "java/lang/invoke/MethodHandle" ∧ Y_Text_sortAt.1.cls ≠ "java/lang/invoke/VarHandle" ∧ (parseMethodDescriptor Y_Text_sortAt.1.desc).map (fun d => d.parameters.length) = some 1 := by decide +kernel
def Y_Text_tokenEnd : aY := (⟨"DatumDesk$Text", "tokenEnd", "(II)I"⟩, prog_4_method_6_code, 3, some .int)
theorem hy_Text_tokenEnd : Y_Text_tokenEnd.1.cls ≠ "java/lang/invoke/MethodHandle" ∧ Y_Text_tokenEnd.1.cls ≠ "java/lang/invoke/VarHandle" ∧ (parseMethodDescriptor Y_Text_tokenEnd.1.desc).map (fun d => d.parameters.length) = some 2 := by decide +kernel
def Y_Text_numberEnd : aY := (⟨"DatumDesk$Text", "numberEnd", "(I)I"⟩, prog_4_method_7_code, 5, some .int)
theorem hy_Text_numberEnd : Y_Text_numberEnd.1.cls ≠ "java/lang/invoke/MethodHandle" ∧ Y_Text_numberEnd.1.cls ≠ "java/lang/invoke/VarHandle" ∧ (parseMethodDescriptor Y_Text_numberEnd.1.desc).map (fun d => d.parameters.length) = some 1 := by decide +kernel
def Y_Text_nameEnd : aY := (⟨"DatumDesk$Text", "nameEnd", "(I)I"⟩, prog_4_method_8_code, 3, some .int)
theorem hy_Text_nameEnd : Y_Text_nameEnd.1.cls ≠ "java/lang/invoke/MethodHandle" ∧ Y_Text_nameEnd.1.cls ≠ "java/lang/invoke/VarHandle" ∧ (parseMethodDescriptor Y_Text_nameEnd.1.desc).map (fun d => d.parameters.length) = some 1 := by decide +kernel
def Y_Text_wordEnd : aY := (⟨"DatumDesk$Text", "wordEnd", "(I)I"⟩, prog_4_method_9_code, 3, some .int)
theorem hy_Text_wordEnd : Y_Text_wordEnd.1.cls ≠ "java/lang/invoke/MethodHandle" ∧ Y_Text_wordEnd.1.cls ≠ "java/lang/invoke/VarHandle" ∧ (parseMethodDescriptor Y_Text_wordEnd.1.desc).map (fun d => d.parameters.length) = some 1 := by decide +kernel
def Y_Text_stringEnd : aY := (⟨"DatumDesk$Text", "stringEnd", "(I)I"⟩, prog_4_method_10_code, 5, some .int)
theorem hy_Text_stringEnd : Y_Text_stringEnd.1.cls ≠ "java/lang/invoke/MethodHandle" ∧ Y_Text_stringEnd.1.cls ≠ "java/lang/invoke/VarHandle" ∧ (parseMethodDescriptor Y_Text_stringEnd.1.desc).map (fun d => d.parameters.length) = some 1 := by decide +kernel
def Y_Text_isDigit : aY := (⟨"DatumDesk$Text", "isDigit", "(I)Z"⟩, prog_4_method_11_code, 1, some .boolean)
theorem hy_Text_isDigit : Y_Text_isDigit.1.cls ≠ "java/lang/invoke/MethodHandle" ∧ Y_Text_isDigit.1.cls ≠ "java/lang/invoke/VarHandle" ∧ (parseMethodDescriptor Y_Text_isDigit.1.desc).map (fun d => d.parameters.length) = some 1 := by decide +kernel
def Y_Text_isWordByte : aY := (⟨"DatumDesk$Text", "isWordByte", "(I)Z"⟩, prog_4_method_12_code, 1, some .boolean)
theorem hy_Text_isWordByte : Y_Text_isWordByte.1.cls ≠ "java/lang/invoke/MethodHandle" ∧ Y_Text_isWordByte.1.cls ≠ "java/lang/invoke/VarHandle" ∧ (parseMethodDescriptor Y_Text_isWordByte.1.desc).map (fun d => d.parameters.length) = some 1 := by decide +kernel
def Y_Tokens_init : aY := (⟨"DatumDesk$Tokens", "<init>", "()V"⟩, prog_5_method_1_code, 1, none)
theorem hy_Tokens_init : Y_Tokens_init.1.cls ≠ "java/lang/invoke/MethodHandle" ∧ Y_Tokens_init.1.cls ≠ "java/lang/invoke/VarHandle" ∧ (parseMethodDescriptor Y_Tokens_init.1.desc).map (fun d => d.parameters.length) = some 0 := by decide +kernel
def Y_Tokens_scan : aY := (⟨"DatumDesk$Tokens", "scan", "(LDatumDesk$Text;)V"⟩, prog_5_method_2_code, 7, none)
theorem hy_Tokens_scan : Y_Tokens_scan.1.cls ≠ "java/lang/invoke/MethodHandle" ∧ Y_Tokens_scan.1.cls ≠ "java/lang/invoke/VarHandle" ∧ (parseMethodDescriptor Y_Tokens_scan.1.desc).map (fun d => d.parameters.length) = some 1 := by decide +kernel
def Y_Tokens_sortOf : aY := (⟨"DatumDesk$Tokens", "sortOf", "(I)I"⟩, prog_5_method_3_code, 2, some .int)
theorem hy_Tokens_sortOf : Y_Tokens_sortOf.1.cls ≠ "java/lang/invoke/MethodHandle" ∧ Y_Tokens_sortOf.1.cls ≠ "java/lang/invoke/VarHandle" ∧ (parseMethodDescriptor Y_Tokens_sortOf.1.desc).map (fun d => d.parameters.length) = some 1 := by decide +kernel
def Y_Tokens_startOf : aY := (⟨"DatumDesk$Tokens", "startOf", "(I)I"⟩, prog_5_method_4_code, 2, some .int)
theorem hy_Tokens_startOf : Y_Tokens_startOf.1.cls ≠ "java/lang/invoke/MethodHandle" ∧ Y_Tokens_startOf.1.cls ≠ "java/lang/invoke/VarHandle" ∧ (parseMethodDescriptor Y_Tokens_startOf.1.desc).map (fun d => d.parameters.length) = some 1 := by decide +kernel
def Y_Tokens_endOf : aY := (⟨"DatumDesk$Tokens", "endOf", "(I)I"⟩, prog_5_method_5_code, 2, some .int)
theorem hy_Tokens_endOf : Y_Tokens_endOf.1.cls ≠ "java/lang/invoke/MethodHandle" ∧ Y_Tokens_endOf.1.cls ≠ "java/lang/invoke/VarHandle" ∧ (parseMethodDescriptor Y_Tokens_endOf.1.desc).map (fun d => d.parameters.length) = some 1 := by decide +kernel
def Y_Waiting_init : aY := (⟨"DatumDesk$Waiting", "<init>", "()V"⟩, prog_6_method_1_code, 1, none)
theorem hy_Waiting_init : Y_Waiting_init.1.cls ≠ "java/lang/invoke/MethodHandle" ∧ Y_Waiting_init.1.cls ≠ "java/lang/invoke/VarHandle" ∧ (parseMethodDescriptor Y_Waiting_init.1.desc).map (fun d => d.parameters.length) = some 0 := by decide +kernel
def Y_Waiting_append : aY := (⟨"DatumDesk$Waiting", "append", "(I)V"⟩, prog_6_method_2_code, 3, none)
theorem hy_Waiting_append : Y_Waiting_append.1.cls ≠ "java/lang/invoke/MethodHandle" ∧ Y_Waiting_append.1.cls ≠ "java/lang/invoke/VarHandle" ∧ (parseMethodDescriptor Y_Waiting_append.1.desc).map (fun d => d.parameters.length) = some 1 := by decide +kernel
def Y_Waiting_take : aY := (⟨"DatumDesk$Waiting", "take", "()I"⟩, prog_6_method_3_code, 2, some .int)
theorem hy_Waiting_take : Y_Waiting_take.1.cls ≠ "java/lang/invoke/MethodHandle" ∧ Y_Waiting_take.1.cls ≠ "java/lang/invoke/VarHandle" ∧ (parseMethodDescriptor Y_Waiting_take.1.desc).map (fun d => d.parameters.length) = some 0 := by decide +kernel
def Y_Writer_init : aY := (⟨"DatumDesk$Writer", "<init>", "(LDatumDesk$Nodes;LDatumDesk$Waiting;)V"⟩, prog_7_method_1_code, 3, none)
theorem hy_Writer_init : Y_Writer_init.1.cls ≠ "java/lang/invoke/MethodHandle" ∧ Y_Writer_init.1.cls ≠ "java/lang/invoke/VarHandle" ∧ (parseMethodDescriptor Y_Writer_init.1.desc).map (fun d => d.parameters.length) = some 2 := by decide +kernel
def Y_Writer_writeNode : aY := (⟨"DatumDesk$Writer", "writeNode", "(II)V"⟩, prog_7_method_2_code, 3, none)
theorem hy_Writer_writeNode : Y_Writer_writeNode.1.cls ≠ "java/lang/invoke/MethodHandle" ∧ Y_Writer_writeNode.1.cls ≠ "java/lang/invoke/VarHandle" ∧ (parseMethodDescriptor Y_Writer_writeNode.1.desc).map (fun d => d.parameters.length) = some 2 := by decide +kernel
def Y_Writer_writeNumber : aY := (⟨"DatumDesk$Writer", "writeNumber", "(I)V"⟩, prog_7_method_3_code, 4, none)
theorem hy_Writer_writeNumber : Y_Writer_writeNumber.1.cls ≠ "java/lang/invoke/MethodHandle" ∧ Y_Writer_writeNumber.1.cls ≠ "java/lang/invoke/VarHandle" ∧ (parseMethodDescriptor Y_Writer_writeNumber.1.desc).map (fun d => d.parameters.length) = some 1 := by decide +kernel
def Y_Writer_writeName : aY := (⟨"DatumDesk$Writer", "writeName", "(I)V"⟩, prog_7_method_4_code, 4, none)
theorem hy_Writer_writeName : Y_Writer_writeName.1.cls ≠ "java/lang/invoke/MethodHandle" ∧ Y_Writer_writeName.1.cls ≠ "java/lang/invoke/VarHandle" ∧ (parseMethodDescriptor Y_Writer_writeName.1.desc).map (fun d => d.parameters.length) = some 1 := by decide +kernel
def Y_Writer_writeString : aY := (⟨"DatumDesk$Writer", "writeString", "(I)V"⟩, prog_7_method_5_code, 5, none)
theorem hy_Writer_writeString : Y_Writer_writeString.1.cls ≠ "java/lang/invoke/MethodHandle" ∧ Y_Writer_writeString.1.cls ≠ "java/lang/invoke/VarHandle" ∧ (parseMethodDescriptor Y_Writer_writeString.1.desc).map (fun d => d.parameters.length) = some 1 := by decide +kernel
def Y_Writer_writePair : aY := (⟨"DatumDesk$Writer", "writePair", "(II)V"⟩, prog_7_method_6_code, 6, none)
theorem hy_Writer_writePair : Y_Writer_writePair.1.cls ≠ "java/lang/invoke/MethodHandle" ∧ Y_Writer_writePair.1.cls ≠ "java/lang/invoke/VarHandle" ∧ (parseMethodDescriptor Y_Writer_writePair.1.desc).map (fun d => d.parameters.length) = some 2 := by decide +kernel
end
section
theorem kd_0 : am_kd 0 6 = true := rfl
theorem fd_0_0 : am_fd 0 6 0 = some (some (.ref 1)) := rfl
theorem fd_0_1 : am_fd 0 6 1 = some (some (.ref 3)) := rfl
theorem fd_0_2 : am_fd 0 6 2 = some (some (.ref 11)) := rfl
theorem fd_0_3 : am_fd 0 6 3 = some (some (.ref 16)) := rfl
theorem fd_0_4 : am_fd 0 6 4 = some (some (.ref 18)) := rfl
theorem kd_1 : am_kd 1 2 = true := rfl
theorem fd_1_0 : am_fd 1 2 0 = some (some (.ref 2)) := rfl
theorem fd_1_1 : am_fd 1 2 1 = some none := rfl
theorem ln_2 : am_ln 2 = some 400 := rfl
theorem kd_3 : am_kd 3 0 = true := rfl
theorem fd_3_0 : am_fd 3 0 0 = some (some (.ref 4)) := rfl
theorem fd_3_1 : am_fd 3 0 1 = some (some (.ref 5)) := rfl
theorem fd_3_2 : am_fd 3 0 2 = some (some (.ref 6)) := rfl
theorem fd_3_3 : am_fd 3 0 3 = some (some (.ref 7)) := rfl
theorem fd_3_4 : am_fd 3 0 4 = some (some (.ref 8)) := rfl
theorem fd_3_5 : am_fd 3 0 5 = some none := rfl
theorem fd_3_6 : am_fd 3 0 6 = some (some (.ref 9)) := rfl
theorem fd_3_7 : am_fd 3 0 7 = some none := rfl
theorem fd_3_8 : am_fd 3 0 8 = some (some (.ref 10)) := rfl
theorem fd_3_9 : am_fd 3 0 9 = some none := rfl
theorem ln_4 : am_ln 4 = some 200 := rfl
theorem ln_5 : am_ln 5 = some 200 := rfl
theorem ln_6 : am_ln 6 = some 200 := rfl
theorem ln_7 : am_ln 7 = some 200 := rfl
theorem ln_8 : am_ln 8 = some 200 := rfl
theorem ln_9 : am_ln 9 = some 200 := rfl
theorem ln_10 : am_ln 10 = some 405 := rfl
theorem kd_11 : am_kd 11 1 = true := rfl
theorem fd_11_0 : am_fd 11 1 0 = some (some (.ref 1)) := rfl
theorem fd_11_1 : am_fd 11 1 1 = some (some (.ref 3)) := rfl
theorem fd_11_2 : am_fd 11 1 2 = some (some (.ref 12)) := rfl
theorem fd_11_3 : am_fd 11 1 3 = some none := rfl
theorem fd_11_4 : am_fd 11 1 4 = some none := rfl
theorem kd_12 : am_kd 12 3 = true := rfl
theorem fd_12_0 : am_fd 12 3 0 = some (some (.ref 13)) := rfl
theorem fd_12_1 : am_fd 12 3 1 = some (some (.ref 14)) := rfl
theorem fd_12_2 : am_fd 12 3 2 = some (some (.ref 15)) := rfl
theorem fd_12_3 : am_fd 12 3 3 = some none := rfl
theorem ln_13 : am_ln 13 = some 401 := rfl
theorem ln_14 : am_ln 14 = some 401 := rfl
theorem ln_15 : am_ln 15 = some 401 := rfl
theorem kd_16 : am_kd 16 4 = true := rfl
theorem fd_16_0 : am_fd 16 4 0 = some (some (.ref 17)) := rfl
theorem fd_16_1 : am_fd 16 4 1 = some none := rfl
theorem fd_16_2 : am_fd 16 4 2 = some none := rfl
theorem ln_17 : am_ln 17 = some 500 := rfl
theorem kd_18 : am_kd 18 5 = true := rfl
theorem fd_18_0 : am_fd 18 5 0 = some (some (.ref 3)) := rfl
theorem fd_18_1 : am_fd 18 5 1 = some (some (.ref 16)) := rfl
theorem kd_19 : am_kd 19 7 = true := rfl
theorem fd_19_0 : am_fd 19 7 0 = some (some (.ref 20)) := rfl
theorem fd_19_1 : am_fd 19 7 1 = some none := rfl
theorem fd_19_2 : am_fd 19 7 2 = some none := rfl
theorem fd_19_3 : am_fd 19 7 3 = some none := rfl
theorem fd_19_4 : am_fd 19 7 4 = some none := rfl
theorem fd_19_5 : am_fd 19 7 5 = some none := rfl
theorem fd_19_6 : am_fd 19 7 6 = some (some (.ref 21)) := rfl
theorem fd_19_7 : am_fd 19 7 7 = some (some (.ref 22)) := rfl
theorem fd_19_8 : am_fd 19 7 8 = some (some (.ref 23)) := rfl
theorem fd_19_9 : am_fd 19 7 9 = some (some (.ref 24)) := rfl
theorem fd_19_10 : am_fd 19 7 10 = some (some (.ref 25)) := rfl
theorem fd_19_11 : am_fd 19 7 11 = some none := rfl
theorem fd_19_12 : am_fd 19 7 12 = some (some (.ref 26)) := rfl
theorem fd_19_13 : am_fd 19 7 13 = some none := rfl
theorem fd_19_14 : am_fd 19 7 14 = some (some (.ref 27)) := rfl
theorem fd_19_15 : am_fd 19 7 15 = some (some (.ref 28)) := rfl
theorem fd_19_16 : am_fd 19 7 16 = some (some (.ref 29)) := rfl
theorem fd_19_17 : am_fd 19 7 17 = some (some (.ref 30)) := rfl
theorem fd_19_18 : am_fd 19 7 18 = some none := rfl
theorem fd_19_19 : am_fd 19 7 19 = some (some (.ref 31)) := rfl
theorem fd_19_20 : am_fd 19 7 20 = some (some (.ref 32)) := rfl
theorem ln_20 : am_ln 20 = some 400 := rfl
theorem ln_21 : am_ln 21 = some 200 := rfl
theorem ln_22 : am_ln 22 = some 200 := rfl
theorem ln_23 : am_ln 23 = some 4000 := rfl
theorem ln_24 : am_ln 24 = some 200 := rfl
theorem ln_25 : am_ln 25 = some 200 := rfl
theorem ln_26 : am_ln 26 = some 200 := rfl
theorem ln_27 : am_ln 27 = some 15 := rfl
theorem ln_28 : am_ln 28 = some 15 := rfl
theorem ln_29 : am_ln 29 = some 15 := rfl
theorem ln_30 : am_ln 30 = some 500 := rfl
theorem ln_31 : am_ln 31 = some 420 := rfl
theorem ln_32 : am_ln 32 = some 420 := rfl
end
section
def c_Text_append : List (Nat × aI) := [
  (0, ai_aload 0 1),
  (1, ai_getf 2 1 4),
  (4, ai_iflt 37 7),
  (7, ai_aload 0 8),
  (8, ai_getf 2 1 11),
  (11, ai_const 400 14),
  (14, ai_cmpge 37 17),
  (17, ai_aload 0 18),
  (18, ai_getf 2 0 21),
  (21, ai_aload 0 22),
  (22, ai_getf 2 1 25),
  (25, ai_iload 1 26),
  (26, ai_iast 27),
  (27, ai_aload 0 28),
  (28, ai_dup 29),
  (29, ai_getf 2 1 32),
  (32, ai_const 1 33),
  (33, ai_iadd 34),
  (34, ai_putf 2 1 37),
  (37, ai_vret)]
set_option maxRecDepth 100000 in
set_option maxHeartbeats 4000000 in
theorem tb_Text_append {G : aG} {d : Nat} : am_tab G Y_Text_append d (c_Text_append) := by
  intro K p e s m args below meth c C
  exact ⟨as_aload_n C (pc := 0) (q := 0) (by decide +kernel) rfl rfl,
    as_getf C (pc := 1) (T := T_Text) (N := 2) rfl in_Text (by decide) rfl w_99 (by decide +kernel) rfl,
    as_iflt C (pc := 4) (off := 33) (by decide +kernel) (by decide) rfl,
    as_aload_n C (pc := 7) (q := 0) (by decide +kernel) rfl rfl,
    as_getf C (pc := 8) (T := T_Text) (N := 2) rfl in_Text (by decide) rfl w_99 (by decide +kernel) rfl,
    as_sipush C (pc := 11) (n := 400) (by decide +kernel) (by decide +kernel) rfl,
    as_cmpge C (pc := 14) (off := 23) (by decide +kernel) (by decide) rfl,
    as_aload_n C (pc := 17) (q := 0) (by decide +kernel) rfl rfl,
    as_getf C (pc := 18) (T := T_Text) (N := 2) rfl in_Text (by decide) rfl w_98 (by decide +kernel) rfl,
    as_aload_n C (pc := 21) (q := 0) (by decide +kernel) rfl rfl,
    as_getf C (pc := 22) (T := T_Text) (N := 2) rfl in_Text (by decide) rfl w_99 (by decide +kernel) rfl,
    as_iload_n C (pc := 25) (q := 1) (by decide +kernel) rfl rfl,
    as_iast C (pc := 26) (by decide +kernel) rfl,
    as_aload_n C (pc := 27) (q := 0) (by decide +kernel) rfl rfl,
    as_dup C (pc := 28) (by decide +kernel) rfl,
    as_getf C (pc := 29) (T := T_Text) (N := 2) rfl in_Text (by decide) rfl w_99 (by decide +kernel) rfl,
    as_iconst C (pc := 32) (n := 1) (by decide +kernel) (by decide +kernel) rfl,
    as_iadd C (pc := 33) (by decide +kernel) rfl,
    as_putf C (pc := 34) t_Text (T := T_Text) (N := 2) rfl in_Text tok_Text nm_Text (by decide) rfl rfl (by decide +kernel) w_99 (by decide +kernel) rfl,
    as_vret C (pc := 37) rfl (by decide +kernel), trivial⟩
abbrev k_Text_append : List Nat := []
theorem r_Text_append_0 {J : aJ} {K : aR} {n : Nat} {L : aL} {S : List Value} {M : aM} : am_run (c_Text_append) k_Text_append J K (n + 1) 0 L S M = ai_aload 0 1 (am_run (c_Text_append) k_Text_append J K n) K 0 L S M := rfl
theorem r_Text_append_1 {J : aJ} {K : aR} {n : Nat} {L : aL} {S : List Value} {M : aM} : am_run (c_Text_append) k_Text_append J K (n + 1) 1 L S M = ai_getf 2 1 4 (am_run (c_Text_append) k_Text_append J K n) K 1 L S M := rfl
theorem r_Text_append_4 {J : aJ} {K : aR} {n : Nat} {L : aL} {S : List Value} {M : aM} : am_run (c_Text_append) k_Text_append J K (n + 1) 4 L S M = ai_iflt 37 7 (am_run (c_Text_append) k_Text_append J K n) K 4 L S M := rfl
theorem r_Text_append_7 {J : aJ} {K : aR} {n : Nat} {L : aL} {S : List Value} {M : aM} : am_run (c_Text_append) k_Text_append J K (n + 1) 7 L S M = ai_aload 0 8 (am_run (c_Text_append) k_Text_append J K n) K 7 L S M := rfl
theorem r_Text_append_8 {J : aJ} {K : aR} {n : Nat} {L : aL} {S : List Value} {M : aM} : am_run (c_Text_append) k_Text_append J K (n + 1) 8 L S M = ai_getf 2 1 11 (am_run (c_Text_append) k_Text_append J K n) K 8 L S M := rfl
theorem r_Text_append_11 {J : aJ} {K : aR} {n : Nat} {L : aL} {S : List Value} {M : aM} : am_run (c_Text_append) k_Text_append J K (n + 1) 11 L S M = ai_const 400 14 (am_run (c_Text_append) k_Text_append J K n) K 11 L S M := rfl
theorem r_Text_append_14 {J : aJ} {K : aR} {n : Nat} {L : aL} {S : List Value} {M : aM} : am_run (c_Text_append) k_Text_append J K (n + 1) 14 L S M = ai_cmpge 37 17 (am_run (c_Text_append) k_Text_append J K n) K 14 L S M := rfl
theorem r_Text_append_17 {J : aJ} {K : aR} {n : Nat} {L : aL} {S : List Value} {M : aM} : am_run (c_Text_append) k_Text_append J K (n + 1) 17 L S M = ai_aload 0 18 (am_run (c_Text_append) k_Text_append J K n) K 17 L S M := rfl
theorem r_Text_append_18 {J : aJ} {K : aR} {n : Nat} {L : aL} {S : List Value} {M : aM} : am_run (c_Text_append) k_Text_append J K (n + 1) 18 L S M = ai_getf 2 0 21 (am_run (c_Text_append) k_Text_append J K n) K 18 L S M := rfl
theorem r_Text_append_21 {J : aJ} {K : aR} {n : Nat} {L : aL} {S : List Value} {M : aM} : am_run (c_Text_append) k_Text_append J K (n + 1) 21 L S M = ai_aload 0 22 (am_run (c_Text_append) k_Text_append J K n) K 21 L S M := rfl
theorem r_Text_append_22 {J : aJ} {K : aR} {n : Nat} {L : aL} {S : List Value} {M : aM} : am_run (c_Text_append) k_Text_append J K (n + 1) 22 L S M = ai_getf 2 1 25 (am_run (c_Text_append) k_Text_append J K n) K 22 L S M := rfl
theorem r_Text_append_25 {J : aJ} {K : aR} {n : Nat} {L : aL} {S : List Value} {M : aM} : am_run (c_Text_append) k_Text_append J K (n + 1) 25 L S M = ai_iload 1 26 (am_run (c_Text_append) k_Text_append J K n) K 25 L S M := rfl
theorem r_Text_append_26 {J : aJ} {K : aR} {n : Nat} {L : aL} {S : List Value} {M : aM} : am_run (c_Text_append) k_Text_append J K (n + 1) 26 L S M = ai_iast 27 (am_run (c_Text_append) k_Text_append J K n) K 26 L S M := rfl
theorem r_Text_append_27 {J : aJ} {K : aR} {n : Nat} {L : aL} {S : List Value} {M : aM} : am_run (c_Text_append) k_Text_append J K (n + 1) 27 L S M = ai_aload 0 28 (am_run (c_Text_append) k_Text_append J K n) K 27 L S M := rfl
theorem r_Text_append_28 {J : aJ} {K : aR} {n : Nat} {L : aL} {S : List Value} {M : aM} : am_run (c_Text_append) k_Text_append J K (n + 1) 28 L S M = ai_dup 29 (am_run (c_Text_append) k_Text_append J K n) K 28 L S M := rfl
theorem r_Text_append_29 {J : aJ} {K : aR} {n : Nat} {L : aL} {S : List Value} {M : aM} : am_run (c_Text_append) k_Text_append J K (n + 1) 29 L S M = ai_getf 2 1 32 (am_run (c_Text_append) k_Text_append J K n) K 29 L S M := rfl
theorem r_Text_append_32 {J : aJ} {K : aR} {n : Nat} {L : aL} {S : List Value} {M : aM} : am_run (c_Text_append) k_Text_append J K (n + 1) 32 L S M = ai_const 1 33 (am_run (c_Text_append) k_Text_append J K n) K 32 L S M := rfl
theorem r_Text_append_33 {J : aJ} {K : aR} {n : Nat} {L : aL} {S : List Value} {M : aM} : am_run (c_Text_append) k_Text_append J K (n + 1) 33 L S M = ai_iadd 34 (am_run (c_Text_append) k_Text_append J K n) K 33 L S M := rfl
theorem r_Text_append_34 {J : aJ} {K : aR} {n : Nat} {L : aL} {S : List Value} {M : aM} : am_run (c_Text_append) k_Text_append J K (n + 1) 34 L S M = ai_putf 2 1 37 (am_run (c_Text_append) k_Text_append J K n) K 34 L S M := rfl
theorem r_Text_append_37 {J : aJ} {K : aR} {n : Nat} {L : aL} {S : List Value} {M : aM} : am_run (c_Text_append) k_Text_append J K (n + 1) 37 L S M = ai_vret (am_run (c_Text_append) k_Text_append J K n) K 37 L S M := rfl
def c_Text_at : List (Nat × aI) := [
  (0, ai_iload 1 1),
  (1, ai_iflt 28 4),
  (4, ai_iload 1 5),
  (5, ai_aload 0 6),
  (6, ai_getf 2 1 9),
  (9, ai_cmpge 28 12),
  (12, ai_iload 1 13),
  (13, ai_const 400 16),
  (16, ai_cmpge 28 19),
  (19, ai_aload 0 20),
  (20, ai_getf 2 0 23),
  (23, ai_iload 1 24),
  (24, ai_iald 25),
  (25, ai_goto 29),
  (28, ai_const (-1) 29),
  (29, ai_iret)]
set_option maxRecDepth 100000 in
set_option maxHeartbeats 4000000 in
theorem tb_Text_at {G : aG} {d : Nat} : am_tab G Y_Text_at d (c_Text_at) := by
  intro K p e s m args below meth c C
  exact ⟨as_iload_n C (pc := 0) (q := 1) (by decide +kernel) rfl rfl,
    as_iflt C (pc := 1) (off := 27) (by decide +kernel) (by decide) rfl,
    as_iload_n C (pc := 4) (q := 1) (by decide +kernel) rfl rfl,
    as_aload_n C (pc := 5) (q := 0) (by decide +kernel) rfl rfl,
    as_getf C (pc := 6) (T := T_Text) (N := 2) rfl in_Text (by decide) rfl w_99 (by decide +kernel) rfl,
    as_cmpge C (pc := 9) (off := 19) (by decide +kernel) (by decide) rfl,
    as_iload_n C (pc := 12) (q := 1) (by decide +kernel) rfl rfl,
    as_sipush C (pc := 13) (n := 400) (by decide +kernel) (by decide +kernel) rfl,
    as_cmpge C (pc := 16) (off := 12) (by decide +kernel) (by decide) rfl,
    as_aload_n C (pc := 19) (q := 0) (by decide +kernel) rfl rfl,
    as_getf C (pc := 20) (T := T_Text) (N := 2) rfl in_Text (by decide) rfl w_98 (by decide +kernel) rfl,
    as_iload_n C (pc := 23) (q := 1) (by decide +kernel) rfl rfl,
    as_iald C (pc := 24) (by decide +kernel) rfl,
    as_goto C (pc := 25) (off := 4) (by decide +kernel) (by decide),
    as_iconst C (pc := 28) (n := (-1)) (by decide +kernel) (by decide +kernel) rfl,
    as_iret C (pc := 29) rfl (by decide +kernel), trivial⟩
abbrev k_Text_at : List Nat := []
theorem r_Text_at_0 {J : aJ} {K : aR} {n : Nat} {L : aL} {S : List Value} {M : aM} : am_run (c_Text_at) k_Text_at J K (n + 1) 0 L S M = ai_iload 1 1 (am_run (c_Text_at) k_Text_at J K n) K 0 L S M := rfl
theorem r_Text_at_1 {J : aJ} {K : aR} {n : Nat} {L : aL} {S : List Value} {M : aM} : am_run (c_Text_at) k_Text_at J K (n + 1) 1 L S M = ai_iflt 28 4 (am_run (c_Text_at) k_Text_at J K n) K 1 L S M := rfl
theorem r_Text_at_4 {J : aJ} {K : aR} {n : Nat} {L : aL} {S : List Value} {M : aM} : am_run (c_Text_at) k_Text_at J K (n + 1) 4 L S M = ai_iload 1 5 (am_run (c_Text_at) k_Text_at J K n) K 4 L S M := rfl
theorem r_Text_at_5 {J : aJ} {K : aR} {n : Nat} {L : aL} {S : List Value} {M : aM} : am_run (c_Text_at) k_Text_at J K (n + 1) 5 L S M = ai_aload 0 6 (am_run (c_Text_at) k_Text_at J K n) K 5 L S M := rfl
theorem r_Text_at_6 {J : aJ} {K : aR} {n : Nat} {L : aL} {S : List Value} {M : aM} : am_run (c_Text_at) k_Text_at J K (n + 1) 6 L S M = ai_getf 2 1 9 (am_run (c_Text_at) k_Text_at J K n) K 6 L S M := rfl
theorem r_Text_at_9 {J : aJ} {K : aR} {n : Nat} {L : aL} {S : List Value} {M : aM} : am_run (c_Text_at) k_Text_at J K (n + 1) 9 L S M = ai_cmpge 28 12 (am_run (c_Text_at) k_Text_at J K n) K 9 L S M := rfl
theorem r_Text_at_12 {J : aJ} {K : aR} {n : Nat} {L : aL} {S : List Value} {M : aM} : am_run (c_Text_at) k_Text_at J K (n + 1) 12 L S M = ai_iload 1 13 (am_run (c_Text_at) k_Text_at J K n) K 12 L S M := rfl
theorem r_Text_at_13 {J : aJ} {K : aR} {n : Nat} {L : aL} {S : List Value} {M : aM} : am_run (c_Text_at) k_Text_at J K (n + 1) 13 L S M = ai_const 400 16 (am_run (c_Text_at) k_Text_at J K n) K 13 L S M := rfl
theorem r_Text_at_16 {J : aJ} {K : aR} {n : Nat} {L : aL} {S : List Value} {M : aM} : am_run (c_Text_at) k_Text_at J K (n + 1) 16 L S M = ai_cmpge 28 19 (am_run (c_Text_at) k_Text_at J K n) K 16 L S M := rfl
theorem r_Text_at_19 {J : aJ} {K : aR} {n : Nat} {L : aL} {S : List Value} {M : aM} : am_run (c_Text_at) k_Text_at J K (n + 1) 19 L S M = ai_aload 0 20 (am_run (c_Text_at) k_Text_at J K n) K 19 L S M := rfl
theorem r_Text_at_20 {J : aJ} {K : aR} {n : Nat} {L : aL} {S : List Value} {M : aM} : am_run (c_Text_at) k_Text_at J K (n + 1) 20 L S M = ai_getf 2 0 23 (am_run (c_Text_at) k_Text_at J K n) K 20 L S M := rfl
theorem r_Text_at_23 {J : aJ} {K : aR} {n : Nat} {L : aL} {S : List Value} {M : aM} : am_run (c_Text_at) k_Text_at J K (n + 1) 23 L S M = ai_iload 1 24 (am_run (c_Text_at) k_Text_at J K n) K 23 L S M := rfl
theorem r_Text_at_24 {J : aJ} {K : aR} {n : Nat} {L : aL} {S : List Value} {M : aM} : am_run (c_Text_at) k_Text_at J K (n + 1) 24 L S M = ai_iald 25 (am_run (c_Text_at) k_Text_at J K n) K 24 L S M := rfl
theorem r_Text_at_25 {J : aJ} {K : aR} {n : Nat} {L : aL} {S : List Value} {M : aM} : am_run (c_Text_at) k_Text_at J K (n + 1) 25 L S M = ai_goto 29 (am_run (c_Text_at) k_Text_at J K n) K 25 L S M := rfl
theorem r_Text_at_28 {J : aJ} {K : aR} {n : Nat} {L : aL} {S : List Value} {M : aM} : am_run (c_Text_at) k_Text_at J K (n + 1) 28 L S M = ai_const (-1) 29 (am_run (c_Text_at) k_Text_at J K n) K 28 L S M := rfl
theorem r_Text_at_29 {J : aJ} {K : aR} {n : Nat} {L : aL} {S : List Value} {M : aM} : am_run (c_Text_at) k_Text_at J K (n + 1) 29 L S M = ai_iret (am_run (c_Text_at) k_Text_at J K n) K 29 L S M := rfl
def c_Text_skipBlanks (s_Text_at : aS) : List (Nat × aI) := [
  (0, ai_const 0 1),
  (1, ai_istore 2 2),
  (2, ai_iload 1 3),
  (3, ai_istore 3 4),
  (4, ai_iload 3 5),
  (5, ai_aload 0 6),
  (6, ai_getf 2 1 9),
  (9, ai_cmpge 69 12),
  (12, ai_aload 0 13),
  (13, ai_iload 3 14),
  (14, ai_callv2 2 s_Text_at 17),
  (17, ai_istore 4 19),
  (19, ai_iload 4 21),
  (21, ai_const 59 23),
  (23, ai_cmpeq 37 26),
  (26, ai_iload 2 27),
  (27, ai_ifeq 41 30),
  (30, ai_iload 4 32),
  (32, ai_const 10 34),
  (34, ai_cmpeq 41 37),
  (37, ai_const 1 38),
  (38, ai_goto 42),
  (41, ai_const 0 42),
  (42, ai_istore 2 43),
  (43, ai_iload 2 44),
  (44, ai_ifne 63 47),
  (47, ai_iload 4 49),
  (49, ai_const 10 51),
  (51, ai_cmpeq 63 54),
  (54, ai_iload 4 56),
  (56, ai_const 32 58),
  (58, ai_cmpeq 63 61),
  (61, ai_iload 3 62),
  (62, ai_iret),
  (63, ai_iinc 3 1 66),
  (66, ai_goto 4),
  (69, ai_iload 3 70),
  (70, ai_iret)]
set_option maxRecDepth 100000 in
set_option maxHeartbeats 4000000 in
theorem tb_Text_skipBlanks {G : aG} {d : Nat} {s_Text_at : aS} {d_Text_at : Nat} (h_Text_at : am_Sp G Y_Text_at d_Text_at s_Text_at) (l_Text_at : d_Text_at < d) : am_tab G Y_Text_skipBlanks d (c_Text_skipBlanks s_Text_at) := by
  intro K p e s m args below meth c C
  exact ⟨as_iconst C (pc := 0) (n := 0) (by decide +kernel) (by decide +kernel) rfl,
    as_istore_n C (pc := 1) (q := 2) (by decide +kernel) rfl (by decide) rfl,
    as_iload_n C (pc := 2) (q := 1) (by decide +kernel) rfl rfl,
    as_istore_n C (pc := 3) (q := 3) (by decide +kernel) rfl (by decide) rfl,
    as_iload_n C (pc := 4) (q := 3) (by decide +kernel) rfl rfl,
    as_aload_n C (pc := 5) (q := 0) (by decide +kernel) rfl rfl,
    as_getf C (pc := 6) (T := T_Text) (N := 2) rfl in_Text (by decide) rfl w_99 (by decide +kernel) rfl,
    as_cmpge C (pc := 9) (off := 60) (by decide +kernel) (by decide) rfl,
    as_aload_n C (pc := 12) (q := 0) (by decide +kernel) rfl rfl,
    as_iload_n C (pc := 13) (q := 3) (by decide +kernel) rfl rfl,
    as_callv2 C (pc := 14) h_Text_at (T := T_Text) (N := 2) rfl w_270 w_71 w_269 w_5 w_267 hy_Text_at (am_rm_of l_Text_at (by decide)) (by decide +kernel) rfl,
    as_istore C (pc := 17) (k := 4) (by decide +kernel) (by decide) rfl,
    as_iload C (pc := 19) (k := 4) (by decide +kernel) rfl,
    as_bipush C (pc := 21) (n := 59) (by decide +kernel) (by decide +kernel) rfl,
    as_cmpeq C (pc := 23) (off := 14) (by decide +kernel) (by decide) rfl,
    as_iload_n C (pc := 26) (q := 2) (by decide +kernel) rfl rfl,
    as_ifeq C (pc := 27) (off := 14) (by decide +kernel) (by decide) rfl,
    as_iload C (pc := 30) (k := 4) (by decide +kernel) rfl,
    as_bipush C (pc := 32) (n := 10) (by decide +kernel) (by decide +kernel) rfl,
    as_cmpeq C (pc := 34) (off := 7) (by decide +kernel) (by decide) rfl,
    as_iconst C (pc := 37) (n := 1) (by decide +kernel) (by decide +kernel) rfl,
    as_goto C (pc := 38) (off := 4) (by decide +kernel) (by decide),
    as_iconst C (pc := 41) (n := 0) (by decide +kernel) (by decide +kernel) rfl,
    as_istore_n C (pc := 42) (q := 2) (by decide +kernel) rfl (by decide) rfl,
    as_iload_n C (pc := 43) (q := 2) (by decide +kernel) rfl rfl,
    as_ifne C (pc := 44) (off := 19) (by decide +kernel) (by decide) rfl,
    as_iload C (pc := 47) (k := 4) (by decide +kernel) rfl,
    as_bipush C (pc := 49) (n := 10) (by decide +kernel) (by decide +kernel) rfl,
    as_cmpeq C (pc := 51) (off := 12) (by decide +kernel) (by decide) rfl,
    as_iload C (pc := 54) (k := 4) (by decide +kernel) rfl,
    as_bipush C (pc := 56) (n := 32) (by decide +kernel) (by decide +kernel) rfl,
    as_cmpeq C (pc := 58) (off := 5) (by decide +kernel) (by decide) rfl,
    as_iload_n C (pc := 61) (q := 3) (by decide +kernel) rfl rfl,
    as_iret C (pc := 62) rfl (by decide +kernel),
    as_iinc C (pc := 63) (k := 3) (n := 1) (by decide +kernel) (by decide +kernel) (by decide) rfl,
    as_goto C (pc := 66) (off := (-62)) (by decide +kernel) (by decide),
    as_iload_n C (pc := 69) (q := 3) (by decide +kernel) rfl rfl,
    as_iret C (pc := 70) rfl (by decide +kernel), trivial⟩
abbrev k_Text_skipBlanks : List Nat := [4]
theorem q_Text_skipBlanks_4 {s_Text_at : aS} : am_at (c_Text_skipBlanks s_Text_at) 4 = ai_iload 3 5 := rfl
theorem r_Text_skipBlanks_0 {s_Text_at : aS} {J : aJ} {K : aR} {n : Nat} {L : aL} {S : List Value} {M : aM} : am_run (c_Text_skipBlanks s_Text_at) k_Text_skipBlanks J K (n + 1) 0 L S M = ai_const 0 1 (am_run (c_Text_skipBlanks s_Text_at) k_Text_skipBlanks J K n) K 0 L S M := rfl
theorem r_Text_skipBlanks_1 {s_Text_at : aS} {J : aJ} {K : aR} {n : Nat} {L : aL} {S : List Value} {M : aM} : am_run (c_Text_skipBlanks s_Text_at) k_Text_skipBlanks J K (n + 1) 1 L S M = ai_istore 2 2 (am_run (c_Text_skipBlanks s_Text_at) k_Text_skipBlanks J K n) K 1 L S M := rfl
theorem r_Text_skipBlanks_2 {s_Text_at : aS} {J : aJ} {K : aR} {n : Nat} {L : aL} {S : List Value} {M : aM} : am_run (c_Text_skipBlanks s_Text_at) k_Text_skipBlanks J K (n + 1) 2 L S M = ai_iload 1 3 (am_run (c_Text_skipBlanks s_Text_at) k_Text_skipBlanks J K n) K 2 L S M := rfl
theorem r_Text_skipBlanks_3 {s_Text_at : aS} {J : aJ} {K : aR} {n : Nat} {L : aL} {S : List Value} {M : aM} : am_run (c_Text_skipBlanks s_Text_at) k_Text_skipBlanks J K (n + 1) 3 L S M = ai_istore 3 4 (am_run (c_Text_skipBlanks s_Text_at) k_Text_skipBlanks J K n) K 3 L S M := rfl
theorem r_Text_skipBlanks_4 {s_Text_at : aS} {J : aJ} {K : aR} {n : Nat} {L : aL} {S : List Value} {M : aM} : am_run (c_Text_skipBlanks s_Text_at) k_Text_skipBlanks J K (n + 1) 4 L S M = J 4 L S M := rfl
theorem r_Text_skipBlanks_5 {s_Text_at : aS} {J : aJ} {K : aR} {n : Nat} {L : aL} {S : List Value} {M : aM} : am_run (c_Text_skipBlanks s_Text_at) k_Text_skipBlanks J K (n + 1) 5 L S M = ai_aload 0 6 (am_run (c_Text_skipBlanks s_Text_at) k_Text_skipBlanks J K n) K 5 L S M := rfl
theorem r_Text_skipBlanks_6 {s_Text_at : aS} {J : aJ} {K : aR} {n : Nat} {L : aL} {S : List Value} {M : aM} : am_run (c_Text_skipBlanks s_Text_at) k_Text_skipBlanks J K (n + 1) 6 L S M = ai_getf 2 1 9 (am_run (c_Text_skipBlanks s_Text_at) k_Text_skipBlanks J K n) K 6 L S M := rfl
theorem r_Text_skipBlanks_9 {s_Text_at : aS} {J : aJ} {K : aR} {n : Nat} {L : aL} {S : List Value} {M : aM} : am_run (c_Text_skipBlanks s_Text_at) k_Text_skipBlanks J K (n + 1) 9 L S M = ai_cmpge 69 12 (am_run (c_Text_skipBlanks s_Text_at) k_Text_skipBlanks J K n) K 9 L S M := rfl
theorem r_Text_skipBlanks_12 {s_Text_at : aS} {J : aJ} {K : aR} {n : Nat} {L : aL} {S : List Value} {M : aM} : am_run (c_Text_skipBlanks s_Text_at) k_Text_skipBlanks J K (n + 1) 12 L S M = ai_aload 0 13 (am_run (c_Text_skipBlanks s_Text_at) k_Text_skipBlanks J K n) K 12 L S M := rfl
theorem r_Text_skipBlanks_13 {s_Text_at : aS} {J : aJ} {K : aR} {n : Nat} {L : aL} {S : List Value} {M : aM} : am_run (c_Text_skipBlanks s_Text_at) k_Text_skipBlanks J K (n + 1) 13 L S M = ai_iload 3 14 (am_run (c_Text_skipBlanks s_Text_at) k_Text_skipBlanks J K n) K 13 L S M := rfl
theorem r_Text_skipBlanks_14 {s_Text_at : aS} {J : aJ} {K : aR} {n : Nat} {L : aL} {S : List Value} {M : aM} : am_run (c_Text_skipBlanks s_Text_at) k_Text_skipBlanks J K (n + 1) 14 L S M = ai_callv2 2 s_Text_at 17 (am_run (c_Text_skipBlanks s_Text_at) k_Text_skipBlanks J K n) K 14 L S M := rfl
theorem r_Text_skipBlanks_17 {s_Text_at : aS} {J : aJ} {K : aR} {n : Nat} {L : aL} {S : List Value} {M : aM} : am_run (c_Text_skipBlanks s_Text_at) k_Text_skipBlanks J K (n + 1) 17 L S M = ai_istore 4 19 (am_run (c_Text_skipBlanks s_Text_at) k_Text_skipBlanks J K n) K 17 L S M := rfl
theorem r_Text_skipBlanks_19 {s_Text_at : aS} {J : aJ} {K : aR} {n : Nat} {L : aL} {S : List Value} {M : aM} : am_run (c_Text_skipBlanks s_Text_at) k_Text_skipBlanks J K (n + 1) 19 L S M = ai_iload 4 21 (am_run (c_Text_skipBlanks s_Text_at) k_Text_skipBlanks J K n) K 19 L S M := rfl
theorem r_Text_skipBlanks_21 {s_Text_at : aS} {J : aJ} {K : aR} {n : Nat} {L : aL} {S : List Value} {M : aM} : am_run (c_Text_skipBlanks s_Text_at) k_Text_skipBlanks J K (n + 1) 21 L S M = ai_const 59 23 (am_run (c_Text_skipBlanks s_Text_at) k_Text_skipBlanks J K n) K 21 L S M := rfl
theorem r_Text_skipBlanks_23 {s_Text_at : aS} {J : aJ} {K : aR} {n : Nat} {L : aL} {S : List Value} {M : aM} : am_run (c_Text_skipBlanks s_Text_at) k_Text_skipBlanks J K (n + 1) 23 L S M = ai_cmpeq 37 26 (am_run (c_Text_skipBlanks s_Text_at) k_Text_skipBlanks J K n) K 23 L S M := rfl
theorem r_Text_skipBlanks_26 {s_Text_at : aS} {J : aJ} {K : aR} {n : Nat} {L : aL} {S : List Value} {M : aM} : am_run (c_Text_skipBlanks s_Text_at) k_Text_skipBlanks J K (n + 1) 26 L S M = ai_iload 2 27 (am_run (c_Text_skipBlanks s_Text_at) k_Text_skipBlanks J K n) K 26 L S M := rfl
theorem r_Text_skipBlanks_27 {s_Text_at : aS} {J : aJ} {K : aR} {n : Nat} {L : aL} {S : List Value} {M : aM} : am_run (c_Text_skipBlanks s_Text_at) k_Text_skipBlanks J K (n + 1) 27 L S M = ai_ifeq 41 30 (am_run (c_Text_skipBlanks s_Text_at) k_Text_skipBlanks J K n) K 27 L S M := rfl
theorem r_Text_skipBlanks_30 {s_Text_at : aS} {J : aJ} {K : aR} {n : Nat} {L : aL} {S : List Value} {M : aM} : am_run (c_Text_skipBlanks s_Text_at) k_Text_skipBlanks J K (n + 1) 30 L S M = ai_iload 4 32 (am_run (c_Text_skipBlanks s_Text_at) k_Text_skipBlanks J K n) K 30 L S M := rfl
theorem r_Text_skipBlanks_32 {s_Text_at : aS} {J : aJ} {K : aR} {n : Nat} {L : aL} {S : List Value} {M : aM} : am_run (c_Text_skipBlanks s_Text_at) k_Text_skipBlanks J K (n + 1) 32 L S M = ai_const 10 34 (am_run (c_Text_skipBlanks s_Text_at) k_Text_skipBlanks J K n) K 32 L S M := rfl
theorem r_Text_skipBlanks_34 {s_Text_at : aS} {J : aJ} {K : aR} {n : Nat} {L : aL} {S : List Value} {M : aM} : am_run (c_Text_skipBlanks s_Text_at) k_Text_skipBlanks J K (n + 1) 34 L S M = ai_cmpeq 41 37 (am_run (c_Text_skipBlanks s_Text_at) k_Text_skipBlanks J K n) K 34 L S M := rfl
theorem r_Text_skipBlanks_37 {s_Text_at : aS} {J : aJ} {K : aR} {n : Nat} {L : aL} {S : List Value} {M : aM} : am_run (c_Text_skipBlanks s_Text_at) k_Text_skipBlanks J K (n + 1) 37 L S M = ai_const 1 38 (am_run (c_Text_skipBlanks s_Text_at) k_Text_skipBlanks J K n) K 37 L S M := rfl
theorem r_Text_skipBlanks_38 {s_Text_at : aS} {J : aJ} {K : aR} {n : Nat} {L : aL} {S : List Value} {M : aM} : am_run (c_Text_skipBlanks s_Text_at) k_Text_skipBlanks J K (n + 1) 38 L S M = ai_goto 42 (am_run (c_Text_skipBlanks s_Text_at) k_Text_skipBlanks J K n) K 38 L S M := rfl
theorem r_Text_skipBlanks_41 {s_Text_at : aS} {J : aJ} {K : aR} {n : Nat} {L : aL} {S : List Value} {M : aM} : am_run (c_Text_skipBlanks s_Text_at) k_Text_skipBlanks J K (n + 1) 41 L S M = ai_const 0 42 (am_run (c_Text_skipBlanks s_Text_at) k_Text_skipBlanks J K n) K 41 L S M := rfl
theorem r_Text_skipBlanks_42 {s_Text_at : aS} {J : aJ} {K : aR} {n : Nat} {L : aL} {S : List Value} {M : aM} : am_run (c_Text_skipBlanks s_Text_at) k_Text_skipBlanks J K (n + 1) 42 L S M = ai_istore 2 43 (am_run (c_Text_skipBlanks s_Text_at) k_Text_skipBlanks J K n) K 42 L S M := rfl
theorem r_Text_skipBlanks_43 {s_Text_at : aS} {J : aJ} {K : aR} {n : Nat} {L : aL} {S : List Value} {M : aM} : am_run (c_Text_skipBlanks s_Text_at) k_Text_skipBlanks J K (n + 1) 43 L S M = ai_iload 2 44 (am_run (c_Text_skipBlanks s_Text_at) k_Text_skipBlanks J K n) K 43 L S M := rfl
theorem r_Text_skipBlanks_44 {s_Text_at : aS} {J : aJ} {K : aR} {n : Nat} {L : aL} {S : List Value} {M : aM} : am_run (c_Text_skipBlanks s_Text_at) k_Text_skipBlanks J K (n + 1) 44 L S M = ai_ifne 63 47 (am_run (c_Text_skipBlanks s_Text_at) k_Text_skipBlanks J K n) K 44 L S M := rfl
theorem r_Text_skipBlanks_47 {s_Text_at : aS} {J : aJ} {K : aR} {n : Nat} {L : aL} {S : List Value} {M : aM} : am_run (c_Text_skipBlanks s_Text_at) k_Text_skipBlanks J K (n + 1) 47 L S M = ai_iload 4 49 (am_run (c_Text_skipBlanks s_Text_at) k_Text_skipBlanks J K n) K 47 L S M := rfl
theorem r_Text_skipBlanks_49 {s_Text_at : aS} {J : aJ} {K : aR} {n : Nat} {L : aL} {S : List Value} {M : aM} : am_run (c_Text_skipBlanks s_Text_at) k_Text_skipBlanks J K (n + 1) 49 L S M = ai_const 10 51 (am_run (c_Text_skipBlanks s_Text_at) k_Text_skipBlanks J K n) K 49 L S M := rfl
theorem r_Text_skipBlanks_51 {s_Text_at : aS} {J : aJ} {K : aR} {n : Nat} {L : aL} {S : List Value} {M : aM} : am_run (c_Text_skipBlanks s_Text_at) k_Text_skipBlanks J K (n + 1) 51 L S M = ai_cmpeq 63 54 (am_run (c_Text_skipBlanks s_Text_at) k_Text_skipBlanks J K n) K 51 L S M := rfl
theorem r_Text_skipBlanks_54 {s_Text_at : aS} {J : aJ} {K : aR} {n : Nat} {L : aL} {S : List Value} {M : aM} : am_run (c_Text_skipBlanks s_Text_at) k_Text_skipBlanks J K (n + 1) 54 L S M = ai_iload 4 56 (am_run (c_Text_skipBlanks s_Text_at) k_Text_skipBlanks J K n) K 54 L S M := rfl
theorem r_Text_skipBlanks_56 {s_Text_at : aS} {J : aJ} {K : aR} {n : Nat} {L : aL} {S : List Value} {M : aM} : am_run (c_Text_skipBlanks s_Text_at) k_Text_skipBlanks J K (n + 1) 56 L S M = ai_const 32 58 (am_run (c_Text_skipBlanks s_Text_at) k_Text_skipBlanks J K n) K 56 L S M := rfl
theorem r_Text_skipBlanks_58 {s_Text_at : aS} {J : aJ} {K : aR} {n : Nat} {L : aL} {S : List Value} {M : aM} : am_run (c_Text_skipBlanks s_Text_at) k_Text_skipBlanks J K (n + 1) 58 L S M = ai_cmpeq 63 61 (am_run (c_Text_skipBlanks s_Text_at) k_Text_skipBlanks J K n) K 58 L S M := rfl
theorem r_Text_skipBlanks_61 {s_Text_at : aS} {J : aJ} {K : aR} {n : Nat} {L : aL} {S : List Value} {M : aM} : am_run (c_Text_skipBlanks s_Text_at) k_Text_skipBlanks J K (n + 1) 61 L S M = ai_iload 3 62 (am_run (c_Text_skipBlanks s_Text_at) k_Text_skipBlanks J K n) K 61 L S M := rfl
theorem r_Text_skipBlanks_62 {s_Text_at : aS} {J : aJ} {K : aR} {n : Nat} {L : aL} {S : List Value} {M : aM} : am_run (c_Text_skipBlanks s_Text_at) k_Text_skipBlanks J K (n + 1) 62 L S M = ai_iret (am_run (c_Text_skipBlanks s_Text_at) k_Text_skipBlanks J K n) K 62 L S M := rfl
theorem r_Text_skipBlanks_63 {s_Text_at : aS} {J : aJ} {K : aR} {n : Nat} {L : aL} {S : List Value} {M : aM} : am_run (c_Text_skipBlanks s_Text_at) k_Text_skipBlanks J K (n + 1) 63 L S M = ai_iinc 3 1 66 (am_run (c_Text_skipBlanks s_Text_at) k_Text_skipBlanks J K n) K 63 L S M := rfl
theorem r_Text_skipBlanks_66 {s_Text_at : aS} {J : aJ} {K : aR} {n : Nat} {L : aL} {S : List Value} {M : aM} : am_run (c_Text_skipBlanks s_Text_at) k_Text_skipBlanks J K (n + 1) 66 L S M = ai_goto 4 (am_run (c_Text_skipBlanks s_Text_at) k_Text_skipBlanks J K n) K 66 L S M := rfl
theorem r_Text_skipBlanks_69 {s_Text_at : aS} {J : aJ} {K : aR} {n : Nat} {L : aL} {S : List Value} {M : aM} : am_run (c_Text_skipBlanks s_Text_at) k_Text_skipBlanks J K (n + 1) 69 L S M = ai_iload 3 70 (am_run (c_Text_skipBlanks s_Text_at) k_Text_skipBlanks J K n) K 69 L S M := rfl
theorem r_Text_skipBlanks_70 {s_Text_at : aS} {J : aJ} {K : aR} {n : Nat} {L : aL} {S : List Value} {M : aM} : am_run (c_Text_skipBlanks s_Text_at) k_Text_skipBlanks J K (n + 1) 70 L S M = ai_iret (am_run (c_Text_skipBlanks s_Text_at) k_Text_skipBlanks J K n) K 70 L S M := rfl
def c_Text_sortAt (s_Text_at : aS) (s_Text_isDigit : aS) (s_Text_isWordByte : aS) : List (Nat × aI) := [
  (0, ai_aload 0 1),
  (1, ai_iload 1 2),
  (2, ai_callv2 2 s_Text_at 5),
  (5, ai_istore 2 6),
  (6, ai_iload 2 7),
  (7, ai_switch [((-1), 64), (34, 79), (39, 73), (40, 67), (41, 70), (46, 76)] 81),
  (64, ai_const 10 66),
  (66, ai_iret),
  (67, ai_const 6 69),
  (69, ai_iret),
  (70, ai_const 7 72),
  (72, ai_iret),
  (73, ai_const 8 75),
  (75, ai_iret),
  (76, ai_const 9 78),
  (78, ai_iret),
  (79, ai_const 3 80),
  (80, ai_iret),
  (81, ai_iload 2 82),
  (82, ai_const 45 84),
  (84, ai_cmpeq 94 87),
  (87, ai_iload 2 88),
  (88, ai_calls1 s_Text_isDigit 91),
  (91, ai_ifeq 96 94),
  (94, ai_const 1 95),
  (95, ai_iret),
  (96, ai_iload 2 97),
  (97, ai_calls1 s_Text_isWordByte 100),
  (100, ai_ifeq 107 103),
  (103, ai_const 2 104),
  (104, ai_goto 109),
  (107, ai_const 11 109),
  (109, ai_iret)]
set_option maxRecDepth 100000 in
set_option maxHeartbeats 4000000 in
theorem tb_Text_sortAt {G : aG} {d : Nat} {s_Text_at : aS} {d_Text_at : Nat} (h_Text_at : am_Sp G Y_Text_at d_Text_at s_Text_at) (l_Text_at : d_Text_at < d) {s_Text_isDigit : aS} {d_Text_isDigit : Nat} (h_Text_isDigit : am_Sp G Y_Text_isDigit d_Text_isDigit s_Text_isDigit) (l_Text_isDigit : d_Text_isDigit < d) {s_Text_isWordByte : aS} {d_Text_isWordByte : Nat} (h_Text_isWordByte : am_Sp G Y_Text_isWordByte d_Text_isWordByte s_Text_isWordByte) (l_Text_isWordByte : d_Text_isWordByte < d) : am_tab G Y_Text_sortAt d (c_Text_sortAt s_Text_at s_Text_isDigit s_Text_isWordByte) := by
  intro K p e s m args below meth c C
  exact ⟨as_aload_n C (pc := 0) (q := 0) (by decide +kernel) rfl rfl,
    as_iload_n C (pc := 1) (q := 1) (by decide +kernel) rfl rfl,
    as_callv2 C (pc := 2) h_Text_at (T := T_Text) (N := 2) rfl w_270 w_71 w_269 w_5 w_267 hy_Text_at (am_rm_of l_Text_at (by decide)) (by decide +kernel) rfl,
    as_istore_n C (pc := 5) (q := 2) (by decide +kernel) rfl (by decide) rfl,
    as_iload_n C (pc := 6) (q := 2) (by decide +kernel) rfl rfl,
    as_lookup C (pc := 7) (dflt := 74) (ps := #[((-1), 57), (34, 72), (39, 66), (40, 60), (41, 63), (46, 69)]) (len := 57) (by decide +kernel) (by decide +kernel) (by decide +kernel) (by decide),
    as_bipush C (pc := 64) (n := 10) (by decide +kernel) (by decide +kernel) rfl,
    as_iret C (pc := 66) rfl (by decide +kernel),
    as_bipush C (pc := 67) (n := 6) (by decide +kernel) (by decide +kernel) rfl,
    as_iret C (pc := 69) rfl (by decide +kernel),
    as_bipush C (pc := 70) (n := 7) (by decide +kernel) (by decide +kernel) rfl,
    as_iret C (pc := 72) rfl (by decide +kernel),
    as_bipush C (pc := 73) (n := 8) (by decide +kernel) (by decide +kernel) rfl,
    as_iret C (pc := 75) rfl (by decide +kernel),
    as_bipush C (pc := 76) (n := 9) (by decide +kernel) (by decide +kernel) rfl,
    as_iret C (pc := 78) rfl (by decide +kernel),
    as_iconst C (pc := 79) (n := 3) (by decide +kernel) (by decide +kernel) rfl,
    as_iret C (pc := 80) rfl (by decide +kernel),
    as_iload_n C (pc := 81) (q := 2) (by decide +kernel) rfl rfl,
    as_bipush C (pc := 82) (n := 45) (by decide +kernel) (by decide +kernel) rfl,
    as_cmpeq C (pc := 84) (off := 10) (by decide +kernel) (by decide) rfl,
    as_iload_n C (pc := 87) (q := 2) (by decide +kernel) rfl rfl,
    as_calls1 C (pc := 88) h_Text_isDigit w_277 w_71 w_276 w_275 hy_Text_isDigit (am_rm_of l_Text_isDigit (by decide)) (by decide +kernel) rfl,
    as_ifeq C (pc := 91) (off := 5) (by decide +kernel) (by decide) rfl,
    as_iconst C (pc := 94) (n := 1) (by decide +kernel) (by decide +kernel) rfl,
    as_iret C (pc := 95) rfl (by decide +kernel),
    as_iload_n C (pc := 96) (q := 2) (by decide +kernel) rfl rfl,
    as_calls1 C (pc := 97) h_Text_isWordByte w_280 w_71 w_279 w_278 hy_Text_isWordByte (am_rm_of l_Text_isWordByte (by decide)) (by decide +kernel) rfl,
    as_ifeq C (pc := 100) (off := 7) (by decide +kernel) (by decide) rfl,
    as_iconst C (pc := 103) (n := 2) (by decide +kernel) (by decide +kernel) rfl,
    as_goto C (pc := 104) (off := 5) (by decide +kernel) (by decide),
    as_bipush C (pc := 107) (n := 11) (by decide +kernel) (by decide +kernel) rfl,
    as_iret C (pc := 109) rfl (by decide +kernel), trivial⟩
abbrev k_Text_sortAt : List Nat := []
theorem r_Text_sortAt_0 {s_Text_at : aS} {s_Text_isDigit : aS} {s_Text_isWordByte : aS} {J : aJ} {K : aR} {n : Nat} {L : aL} {S : List Value} {M : aM} : am_run (c_Text_sortAt s_Text_at s_Text_isDigit s_Text_isWordByte) k_Text_sortAt J K (n + 1) 0 L S M = ai_aload 0 1 (am_run (c_Text_sortAt s_Text_at s_Text_isDigit s_Text_isWordByte) k_Text_sortAt J K n) K 0 L S M := rfl
theorem r_Text_sortAt_1 {s_Text_at : aS} {s_Text_isDigit : aS} {s_Text_isWordByte : aS} {J : aJ} {K : aR} {n : Nat} {L : aL} {S : List Value} {M : aM} : am_run (c_Text_sortAt s_Text_at s_Text_isDigit s_Text_isWordByte) k_Text_sortAt J K (n + 1) 1 L S M = ai_iload 1 2 (am_run (c_Text_sortAt s_Text_at s_Text_isDigit s_Text_isWordByte) k_Text_sortAt J K n) K 1 L S M := rfl
theorem r_Text_sortAt_2 {s_Text_at : aS} {s_Text_isDigit : aS} {s_Text_isWordByte : aS} {J : aJ} {K : aR} {n : Nat} {L : aL} {S : List Value} {M : aM} : am_run (c_Text_sortAt s_Text_at s_Text_isDigit s_Text_isWordByte) k_Text_sortAt J K (n + 1) 2 L S M = ai_callv2 2 s_Text_at 5 (am_run (c_Text_sortAt s_Text_at s_Text_isDigit s_Text_isWordByte) k_Text_sortAt J K n) K 2 L S M := rfl
theorem r_Text_sortAt_5 {s_Text_at : aS} {s_Text_isDigit : aS} {s_Text_isWordByte : aS} {J : aJ} {K : aR} {n : Nat} {L : aL} {S : List Value} {M : aM} : am_run (c_Text_sortAt s_Text_at s_Text_isDigit s_Text_isWordByte) k_Text_sortAt J K (n + 1) 5 L S M = ai_istore 2 6 (am_run (c_Text_sortAt s_Text_at s_Text_isDigit s_Text_isWordByte) k_Text_sortAt J K n) K 5 L S M := rfl
theorem r_Text_sortAt_6 {s_Text_at : aS} {s_Text_isDigit : aS} {s_Text_isWordByte : aS} {J : aJ} {K : aR} {n : Nat} {L : aL} {S : List Value} {M : aM} : am_run (c_Text_sortAt s_Text_at s_Text_isDigit s_Text_isWordByte) k_Text_sortAt J K (n + 1) 6 L S M = ai_iload 2 7 (am_run (c_Text_sortAt s_Text_at s_Text_isDigit s_Text_isWordByte) k_Text_sortAt J K n) K 6 L S M := rfl
theorem r_Text_sortAt_7 {s_Text_at : aS} {s_Text_isDigit : aS} {s_Text_isWordByte : aS} {J : aJ} {K : aR} {n : Nat} {L : aL} {S : List Value} {M : aM} : am_run (c_Text_sortAt s_Text_at s_Text_isDigit s_Text_isWordByte) k_Text_sortAt J K (n + 1) 7 L S M = ai_switch [((-1), 64), (34, 79), (39, 73), (40, 67), (41, 70), (46, 76)] 81 (am_run (c_Text_sortAt s_Text_at s_Text_isDigit s_Text_isWordByte) k_Text_sortAt J K n) K 7 L S M := rfl
theorem r_Text_sortAt_64 {s_Text_at : aS} {s_Text_isDigit : aS} {s_Text_isWordByte : aS} {J : aJ} {K : aR} {n : Nat} {L : aL} {S : List Value} {M : aM} : am_run (c_Text_sortAt s_Text_at s_Text_isDigit s_Text_isWordByte) k_Text_sortAt J K (n + 1) 64 L S M = ai_const 10 66 (am_run (c_Text_sortAt s_Text_at s_Text_isDigit s_Text_isWordByte) k_Text_sortAt J K n) K 64 L S M := rfl
theorem r_Text_sortAt_66 {s_Text_at : aS} {s_Text_isDigit : aS} {s_Text_isWordByte : aS} {J : aJ} {K : aR} {n : Nat} {L : aL} {S : List Value} {M : aM} : am_run (c_Text_sortAt s_Text_at s_Text_isDigit s_Text_isWordByte) k_Text_sortAt J K (n + 1) 66 L S M = ai_iret (am_run (c_Text_sortAt s_Text_at s_Text_isDigit s_Text_isWordByte) k_Text_sortAt J K n) K 66 L S M := rfl
theorem r_Text_sortAt_67 {s_Text_at : aS} {s_Text_isDigit : aS} {s_Text_isWordByte : aS} {J : aJ} {K : aR} {n : Nat} {L : aL} {S : List Value} {M : aM} : am_run (c_Text_sortAt s_Text_at s_Text_isDigit s_Text_isWordByte) k_Text_sortAt J K (n + 1) 67 L S M = ai_const 6 69 (am_run (c_Text_sortAt s_Text_at s_Text_isDigit s_Text_isWordByte) k_Text_sortAt J K n) K 67 L S M := rfl
theorem r_Text_sortAt_69 {s_Text_at : aS} {s_Text_isDigit : aS} {s_Text_isWordByte : aS} {J : aJ} {K : aR} {n : Nat} {L : aL} {S : List Value} {M : aM} : am_run (c_Text_sortAt s_Text_at s_Text_isDigit s_Text_isWordByte) k_Text_sortAt J K (n + 1) 69 L S M = ai_iret (am_run (c_Text_sortAt s_Text_at s_Text_isDigit s_Text_isWordByte) k_Text_sortAt J K n) K 69 L S M := rfl
theorem r_Text_sortAt_70 {s_Text_at : aS} {s_Text_isDigit : aS} {s_Text_isWordByte : aS} {J : aJ} {K : aR} {n : Nat} {L : aL} {S : List Value} {M : aM} : am_run (c_Text_sortAt s_Text_at s_Text_isDigit s_Text_isWordByte) k_Text_sortAt J K (n + 1) 70 L S M = ai_const 7 72 (am_run (c_Text_sortAt s_Text_at s_Text_isDigit s_Text_isWordByte) k_Text_sortAt J K n) K 70 L S M := rfl
theorem r_Text_sortAt_72 {s_Text_at : aS} {s_Text_isDigit : aS} {s_Text_isWordByte : aS} {J : aJ} {K : aR} {n : Nat} {L : aL} {S : List Value} {M : aM} : am_run (c_Text_sortAt s_Text_at s_Text_isDigit s_Text_isWordByte) k_Text_sortAt J K (n + 1) 72 L S M = ai_iret (am_run (c_Text_sortAt s_Text_at s_Text_isDigit s_Text_isWordByte) k_Text_sortAt J K n) K 72 L S M := rfl
theorem r_Text_sortAt_73 {s_Text_at : aS} {s_Text_isDigit : aS} {s_Text_isWordByte : aS} {J : aJ} {K : aR} {n : Nat} {L : aL} {S : List Value} {M : aM} : am_run (c_Text_sortAt s_Text_at s_Text_isDigit s_Text_isWordByte) k_Text_sortAt J K (n + 1) 73 L S M = ai_const 8 75 (am_run (c_Text_sortAt s_Text_at s_Text_isDigit s_Text_isWordByte) k_Text_sortAt J K n) K 73 L S M := rfl
theorem r_Text_sortAt_75 {s_Text_at : aS} {s_Text_isDigit : aS} {s_Text_isWordByte : aS} {J : aJ} {K : aR} {n : Nat} {L : aL} {S : List Value} {M : aM} : am_run (c_Text_sortAt s_Text_at s_Text_isDigit s_Text_isWordByte) k_Text_sortAt J K (n + 1) 75 L S M = ai_iret (am_run (c_Text_sortAt s_Text_at s_Text_isDigit s_Text_isWordByte) k_Text_sortAt J K n) K 75 L S M := rfl
theorem r_Text_sortAt_76 {s_Text_at : aS} {s_Text_isDigit : aS} {s_Text_isWordByte : aS} {J : aJ} {K : aR} {n : Nat} {L : aL} {S : List Value} {M : aM} : am_run (c_Text_sortAt s_Text_at s_Text_isDigit s_Text_isWordByte) k_Text_sortAt J K (n + 1) 76 L S M = ai_const 9 78 (am_run (c_Text_sortAt s_Text_at s_Text_isDigit s_Text_isWordByte) k_Text_sortAt J K n) K 76 L S M := rfl
theorem r_Text_sortAt_78 {s_Text_at : aS} {s_Text_isDigit : aS} {s_Text_isWordByte : aS} {J : aJ} {K : aR} {n : Nat} {L : aL} {S : List Value} {M : aM} : am_run (c_Text_sortAt s_Text_at s_Text_isDigit s_Text_isWordByte) k_Text_sortAt J K (n + 1) 78 L S M = ai_iret (am_run (c_Text_sortAt s_Text_at s_Text_isDigit s_Text_isWordByte) k_Text_sortAt J K n) K 78 L S M := rfl
theorem r_Text_sortAt_79 {s_Text_at : aS} {s_Text_isDigit : aS} {s_Text_isWordByte : aS} {J : aJ} {K : aR} {n : Nat} {L : aL} {S : List Value} {M : aM} : am_run (c_Text_sortAt s_Text_at s_Text_isDigit s_Text_isWordByte) k_Text_sortAt J K (n + 1) 79 L S M = ai_const 3 80 (am_run (c_Text_sortAt s_Text_at s_Text_isDigit s_Text_isWordByte) k_Text_sortAt J K n) K 79 L S M := rfl
theorem r_Text_sortAt_80 {s_Text_at : aS} {s_Text_isDigit : aS} {s_Text_isWordByte : aS} {J : aJ} {K : aR} {n : Nat} {L : aL} {S : List Value} {M : aM} : am_run (c_Text_sortAt s_Text_at s_Text_isDigit s_Text_isWordByte) k_Text_sortAt J K (n + 1) 80 L S M = ai_iret (am_run (c_Text_sortAt s_Text_at s_Text_isDigit s_Text_isWordByte) k_Text_sortAt J K n) K 80 L S M := rfl
theorem r_Text_sortAt_81 {s_Text_at : aS} {s_Text_isDigit : aS} {s_Text_isWordByte : aS} {J : aJ} {K : aR} {n : Nat} {L : aL} {S : List Value} {M : aM} : am_run (c_Text_sortAt s_Text_at s_Text_isDigit s_Text_isWordByte) k_Text_sortAt J K (n + 1) 81 L S M = ai_iload 2 82 (am_run (c_Text_sortAt s_Text_at s_Text_isDigit s_Text_isWordByte) k_Text_sortAt J K n) K 81 L S M := rfl
theorem r_Text_sortAt_82 {s_Text_at : aS} {s_Text_isDigit : aS} {s_Text_isWordByte : aS} {J : aJ} {K : aR} {n : Nat} {L : aL} {S : List Value} {M : aM} : am_run (c_Text_sortAt s_Text_at s_Text_isDigit s_Text_isWordByte) k_Text_sortAt J K (n + 1) 82 L S M = ai_const 45 84 (am_run (c_Text_sortAt s_Text_at s_Text_isDigit s_Text_isWordByte) k_Text_sortAt J K n) K 82 L S M := rfl
theorem r_Text_sortAt_84 {s_Text_at : aS} {s_Text_isDigit : aS} {s_Text_isWordByte : aS} {J : aJ} {K : aR} {n : Nat} {L : aL} {S : List Value} {M : aM} : am_run (c_Text_sortAt s_Text_at s_Text_isDigit s_Text_isWordByte) k_Text_sortAt J K (n + 1) 84 L S M = ai_cmpeq 94 87 (am_run (c_Text_sortAt s_Text_at s_Text_isDigit s_Text_isWordByte) k_Text_sortAt J K n) K 84 L S M := rfl
theorem r_Text_sortAt_87 {s_Text_at : aS} {s_Text_isDigit : aS} {s_Text_isWordByte : aS} {J : aJ} {K : aR} {n : Nat} {L : aL} {S : List Value} {M : aM} : am_run (c_Text_sortAt s_Text_at s_Text_isDigit s_Text_isWordByte) k_Text_sortAt J K (n + 1) 87 L S M = ai_iload 2 88 (am_run (c_Text_sortAt s_Text_at s_Text_isDigit s_Text_isWordByte) k_Text_sortAt J K n) K 87 L S M := rfl
theorem r_Text_sortAt_88 {s_Text_at : aS} {s_Text_isDigit : aS} {s_Text_isWordByte : aS} {J : aJ} {K : aR} {n : Nat} {L : aL} {S : List Value} {M : aM} : am_run (c_Text_sortAt s_Text_at s_Text_isDigit s_Text_isWordByte) k_Text_sortAt J K (n + 1) 88 L S M = ai_calls1 s_Text_isDigit 91 (am_run (c_Text_sortAt s_Text_at s_Text_isDigit s_Text_isWordByte) k_Text_sortAt J K n) K 88 L S M := rfl
theorem r_Text_sortAt_91 {s_Text_at : aS} {s_Text_isDigit : aS} {s_Text_isWordByte : aS} {J : aJ} {K : aR} {n : Nat} {L : aL} {S : List Value} {M : aM} : am_run (c_Text_sortAt s_Text_at s_Text_isDigit s_Text_isWordByte) k_Text_sortAt J K (n + 1) 91 L S M = ai_ifeq 96 94 (am_run (c_Text_sortAt s_Text_at s_Text_isDigit s_Text_isWordByte) k_Text_sortAt J K n) K 91 L S M := rfl
theorem r_Text_sortAt_94 {s_Text_at : aS} {s_Text_isDigit : aS} {s_Text_isWordByte : aS} {J : aJ} {K : aR} {n : Nat} {L : aL} {S : List Value} {M : aM} : am_run (c_Text_sortAt s_Text_at s_Text_isDigit s_Text_isWordByte) k_Text_sortAt J K (n + 1) 94 L S M = ai_const 1 95 (am_run (c_Text_sortAt s_Text_at s_Text_isDigit s_Text_isWordByte) k_Text_sortAt J K n) K 94 L S M := rfl
theorem r_Text_sortAt_95 {s_Text_at : aS} {s_Text_isDigit : aS} {s_Text_isWordByte : aS} {J : aJ} {K : aR} {n : Nat} {L : aL} {S : List Value} {M : aM} : am_run (c_Text_sortAt s_Text_at s_Text_isDigit s_Text_isWordByte) k_Text_sortAt J K (n + 1) 95 L S M = ai_iret (am_run (c_Text_sortAt s_Text_at s_Text_isDigit s_Text_isWordByte) k_Text_sortAt J K n) K 95 L S M := rfl
theorem r_Text_sortAt_96 {s_Text_at : aS} {s_Text_isDigit : aS} {s_Text_isWordByte : aS} {J : aJ} {K : aR} {n : Nat} {L : aL} {S : List Value} {M : aM} : am_run (c_Text_sortAt s_Text_at s_Text_isDigit s_Text_isWordByte) k_Text_sortAt J K (n + 1) 96 L S M = ai_iload 2 97 (am_run (c_Text_sortAt s_Text_at s_Text_isDigit s_Text_isWordByte) k_Text_sortAt J K n) K 96 L S M := rfl
theorem r_Text_sortAt_97 {s_Text_at : aS} {s_Text_isDigit : aS} {s_Text_isWordByte : aS} {J : aJ} {K : aR} {n : Nat} {L : aL} {S : List Value} {M : aM} : am_run (c_Text_sortAt s_Text_at s_Text_isDigit s_Text_isWordByte) k_Text_sortAt J K (n + 1) 97 L S M = ai_calls1 s_Text_isWordByte 100 (am_run (c_Text_sortAt s_Text_at s_Text_isDigit s_Text_isWordByte) k_Text_sortAt J K n) K 97 L S M := rfl
theorem r_Text_sortAt_100 {s_Text_at : aS} {s_Text_isDigit : aS} {s_Text_isWordByte : aS} {J : aJ} {K : aR} {n : Nat} {L : aL} {S : List Value} {M : aM} : am_run (c_Text_sortAt s_Text_at s_Text_isDigit s_Text_isWordByte) k_Text_sortAt J K (n + 1) 100 L S M = ai_ifeq 107 103 (am_run (c_Text_sortAt s_Text_at s_Text_isDigit s_Text_isWordByte) k_Text_sortAt J K n) K 100 L S M := rfl
theorem r_Text_sortAt_103 {s_Text_at : aS} {s_Text_isDigit : aS} {s_Text_isWordByte : aS} {J : aJ} {K : aR} {n : Nat} {L : aL} {S : List Value} {M : aM} : am_run (c_Text_sortAt s_Text_at s_Text_isDigit s_Text_isWordByte) k_Text_sortAt J K (n + 1) 103 L S M = ai_const 2 104 (am_run (c_Text_sortAt s_Text_at s_Text_isDigit s_Text_isWordByte) k_Text_sortAt J K n) K 103 L S M := rfl
theorem r_Text_sortAt_104 {s_Text_at : aS} {s_Text_isDigit : aS} {s_Text_isWordByte : aS} {J : aJ} {K : aR} {n : Nat} {L : aL} {S : List Value} {M : aM} : am_run (c_Text_sortAt s_Text_at s_Text_isDigit s_Text_isWordByte) k_Text_sortAt J K (n + 1) 104 L S M = ai_goto 109 (am_run (c_Text_sortAt s_Text_at s_Text_isDigit s_Text_isWordByte) k_Text_sortAt J K n) K 104 L S M := rfl
theorem r_Text_sortAt_107 {s_Text_at : aS} {s_Text_isDigit : aS} {s_Text_isWordByte : aS} {J : aJ} {K : aR} {n : Nat} {L : aL} {S : List Value} {M : aM} : am_run (c_Text_sortAt s_Text_at s_Text_isDigit s_Text_isWordByte) k_Text_sortAt J K (n + 1) 107 L S M = ai_const 11 109 (am_run (c_Text_sortAt s_Text_at s_Text_isDigit s_Text_isWordByte) k_Text_sortAt J K n) K 107 L S M := rfl
theorem r_Text_sortAt_109 {s_Text_at : aS} {s_Text_isDigit : aS} {s_Text_isWordByte : aS} {J : aJ} {K : aR} {n : Nat} {L : aL} {S : List Value} {M : aM} : am_run (c_Text_sortAt s_Text_at s_Text_isDigit s_Text_isWordByte) k_Text_sortAt J K (n + 1) 109 L S M = ai_iret (am_run (c_Text_sortAt s_Text_at s_Text_isDigit s_Text_isWordByte) k_Text_sortAt J K n) K 109 L S M := rfl
def c_Text_tokenEnd (s_Text_numberEnd : aS) (s_Text_nameEnd : aS) (s_Text_stringEnd : aS) (s_Text_at : aS) (s_Text_isWordByte : aS) : List (Nat × aI) := [
  (0, ai_iload 2 1),
  (1, ai_switch [(1, 60), (2, 66), (3, 72), (4, 114), (5, 114), (6, 114), (7, 114), (8, 114), (9, 78), (10, 114), (11, 112)] 114),
  (60, ai_aload 0 61),
  (61, ai_iload 1 62),
  (62, ai_callv2 2 s_Text_numberEnd 65),
  (65, ai_iret),
  (66, ai_aload 0 67),
  (67, ai_iload 1 68),
  (68, ai_callv2 2 s_Text_nameEnd 71),
  (71, ai_iret),
  (72, ai_aload 0 73),
  (73, ai_iload 1 74),
  (74, ai_callv2 2 s_Text_stringEnd 77),
  (77, ai_iret),
  (78, ai_aload 0 79),
  (79, ai_iload 1 80),
  (80, ai_const 1 81),
  (81, ai_isub 82),
  (82, ai_callv2 2 s_Text_at 85),
  (85, ai_calls1 s_Text_isWordByte 88),
  (88, ai_ifne 104 91),
  (91, ai_aload 0 92),
  (92, ai_iload 1 93),
  (93, ai_const 1 94),
  (94, ai_iadd 95),
  (95, ai_callv2 2 s_Text_at 98),
  (98, ai_calls1 s_Text_isWordByte 101),
  (101, ai_ifeq 108 104),
  (104, ai_const (-1) 105),
  (105, ai_goto 111),
  (108, ai_iload 1 109),
  (109, ai_const 1 110),
  (110, ai_iadd 111),
  (111, ai_iret),
  (112, ai_const (-1) 113),
  (113, ai_iret),
  (114, ai_iload 1 115),
  (115, ai_const 1 116),
  (116, ai_iadd 117),
  (117, ai_iret)]
set_option maxRecDepth 100000 in
set_option maxHeartbeats 4000000 in
theorem tb_Text_tokenEnd {G : aG} {d : Nat} {s_Text_numberEnd : aS} {d_Text_numberEnd : Nat} (h_Text_numberEnd : am_Sp G Y_Text_numberEnd d_Text_numberEnd s_Text_numberEnd) (l_Text_numberEnd : d_Text_numberEnd < d) {s_Text_nameEnd : aS} {d_Text_nameEnd : Nat} (h_Text_nameEnd : am_Sp G Y_Text_nameEnd d_Text_nameEnd s_Text_nameEnd) (l_Text_nameEnd : d_Text_nameEnd < d) {s_Text_stringEnd : aS} {d_Text_stringEnd : Nat} (h_Text_stringEnd : am_Sp G Y_Text_stringEnd d_Text_stringEnd s_Text_stringEnd) (l_Text_stringEnd : d_Text_stringEnd < d) {s_Text_at : aS} {d_Text_at : Nat} (h_Text_at : am_Sp G Y_Text_at d_Text_at s_Text_at) (l_Text_at : d_Text_at < d) {s_Text_isWordByte : aS} {d_Text_isWordByte : Nat} (h_Text_isWordByte : am_Sp G Y_Text_isWordByte d_Text_isWordByte s_Text_isWordByte) (l_Text_isWordByte : d_Text_isWordByte < d) : am_tab G Y_Text_tokenEnd d (c_Text_tokenEnd s_Text_numberEnd s_Text_nameEnd s_Text_stringEnd s_Text_at s_Text_isWordByte) := by
  intro K p e s m args below meth c C
  exact ⟨as_iload_n C (pc := 0) (q := 2) (by decide +kernel) rfl rfl,
    as_table C (pc := 1) (dflt := 113) (lo := 1) (hi := 11) (offs := #[59, 65, 71, 113, 113, 113, 113, 113, 77, 113, 111]) (len := 59) (by decide +kernel) (by decide +kernel) (by decide) (by decide),
    as_aload_n C (pc := 60) (q := 0) (by decide +kernel) rfl rfl,
    as_iload_n C (pc := 61) (q := 1) (by decide +kernel) rfl rfl,
    as_callv2 C (pc := 62) h_Text_numberEnd (T := T_Text) (N := 2) rfl w_288 w_71 w_287 w_8 w_285 hy_Text_numberEnd (am_rm_of l_Text_numberEnd (by decide)) (by decide +kernel) rfl,
    as_iret C (pc := 65) rfl (by decide +kernel),
    as_aload_n C (pc := 66) (q := 0) (by decide +kernel) rfl rfl,
    as_iload_n C (pc := 67) (q := 1) (by decide +kernel) rfl rfl,
    as_callv2 C (pc := 68) h_Text_nameEnd (T := T_Text) (N := 2) rfl w_296 w_71 w_295 w_10 w_293 hy_Text_nameEnd (am_rm_of l_Text_nameEnd (by decide)) (by decide +kernel) rfl,
    as_iret C (pc := 71) rfl (by decide +kernel),
    as_aload_n C (pc := 72) (q := 0) (by decide +kernel) rfl rfl,
    as_iload_n C (pc := 73) (q := 1) (by decide +kernel) rfl rfl,
    as_callv2 C (pc := 74) h_Text_stringEnd (T := T_Text) (N := 2) rfl w_300 w_71 w_299 w_11 w_297 hy_Text_stringEnd (am_rm_of l_Text_stringEnd (by decide)) (by decide +kernel) rfl,
    as_iret C (pc := 77) rfl (by decide +kernel),
    as_aload_n C (pc := 78) (q := 0) (by decide +kernel) rfl rfl,
    as_iload_n C (pc := 79) (q := 1) (by decide +kernel) rfl rfl,
    as_iconst C (pc := 80) (n := 1) (by decide +kernel) (by decide +kernel) rfl,
    as_isub C (pc := 81) (by decide +kernel) rfl,
    as_callv2 C (pc := 82) h_Text_at (T := T_Text) (N := 2) rfl w_270 w_71 w_269 w_5 w_267 hy_Text_at (am_rm_of l_Text_at (by decide)) (by decide +kernel) rfl,
    as_calls1 C (pc := 85) h_Text_isWordByte w_280 w_71 w_279 w_278 hy_Text_isWordByte (am_rm_of l_Text_isWordByte (by decide)) (by decide +kernel) rfl,
    as_ifne C (pc := 88) (off := 16) (by decide +kernel) (by decide) rfl,
    as_aload_n C (pc := 91) (q := 0) (by decide +kernel) rfl rfl,
    as_iload_n C (pc := 92) (q := 1) (by decide +kernel) rfl rfl,
    as_iconst C (pc := 93) (n := 1) (by decide +kernel) (by decide +kernel) rfl,
    as_iadd C (pc := 94) (by decide +kernel) rfl,
    as_callv2 C (pc := 95) h_Text_at (T := T_Text) (N := 2) rfl w_270 w_71 w_269 w_5 w_267 hy_Text_at (am_rm_of l_Text_at (by decide)) (by decide +kernel) rfl,
    as_calls1 C (pc := 98) h_Text_isWordByte w_280 w_71 w_279 w_278 hy_Text_isWordByte (am_rm_of l_Text_isWordByte (by decide)) (by decide +kernel) rfl,
    as_ifeq C (pc := 101) (off := 7) (by decide +kernel) (by decide) rfl,
    as_iconst C (pc := 104) (n := (-1)) (by decide +kernel) (by decide +kernel) rfl,
    as_goto C (pc := 105) (off := 6) (by decide +kernel) (by decide),
    as_iload_n C (pc := 108) (q := 1) (by decide +kernel) rfl rfl,
    as_iconst C (pc := 109) (n := 1) (by decide +kernel) (by decide +kernel) rfl,
    as_iadd C (pc := 110) (by decide +kernel) rfl,
    as_iret C (pc := 111) rfl (by decide +kernel),
    as_iconst C (pc := 112) (n := (-1)) (by decide +kernel) (by decide +kernel) rfl,
    as_iret C (pc := 113) rfl (by decide +kernel),
    as_iload_n C (pc := 114) (q := 1) (by decide +kernel) rfl rfl,
    as_iconst C (pc := 115) (n := 1) (by decide +kernel) (by decide +kernel) rfl,
    as_iadd C (pc := 116) (by decide +kernel) rfl,
    as_iret C (pc := 117) rfl (by decide +kernel), trivial⟩
abbrev k_Text_tokenEnd : List Nat := []
theorem r_Text_tokenEnd_0 {s_Text_numberEnd : aS} {s_Text_nameEnd : aS} {s_Text_stringEnd : aS} {s_Text_at : aS} {s_Text_isWordByte : aS} {J : aJ} {K : aR} {n : Nat} {L : aL} {S : List Value} {M : aM} : am_run (c_Text_tokenEnd s_Text_numberEnd s_Text_nameEnd s_Text_stringEnd s_Text_at s_Text_isWordByte) k_Text_tokenEnd J K (n + 1) 0 L S M = ai_iload 2 1 (am_run (c_Text_tokenEnd s_Text_numberEnd s_Text_nameEnd s_Text_stringEnd s_Text_at s_Text_isWordByte) k_Text_tokenEnd J K n) K 0 L S M := rfl
theorem r_Text_tokenEnd_1 {s_Text_numberEnd : aS} {s_Text_nameEnd : aS} {s_Text_stringEnd : aS} {s_Text_at : aS} {s_Text_isWordByte : aS} {J : aJ} {K : aR} {n : Nat} {L : aL} {S : List Value} {M : aM} : am_run (c_Text_tokenEnd s_Text_numberEnd s_Text_nameEnd s_Text_stringEnd s_Text_at s_Text_isWordByte) k_Text_tokenEnd J K (n + 1) 1 L S M = ai_switch [(1, 60), (2, 66), (3, 72), (4, 114), (5, 114), (6, 114), (7, 114), (8, 114), (9, 78), (10, 114), (11, 112)] 114 (am_run (c_Text_tokenEnd s_Text_numberEnd s_Text_nameEnd s_Text_stringEnd s_Text_at s_Text_isWordByte) k_Text_tokenEnd J K n) K 1 L S M := rfl
theorem r_Text_tokenEnd_60 {s_Text_numberEnd : aS} {s_Text_nameEnd : aS} {s_Text_stringEnd : aS} {s_Text_at : aS} {s_Text_isWordByte : aS} {J : aJ} {K : aR} {n : Nat} {L : aL} {S : List Value} {M : aM} : am_run (c_Text_tokenEnd s_Text_numberEnd s_Text_nameEnd s_Text_stringEnd s_Text_at s_Text_isWordByte) k_Text_tokenEnd J K (n + 1) 60 L S M = ai_aload 0 61 (am_run (c_Text_tokenEnd s_Text_numberEnd s_Text_nameEnd s_Text_stringEnd s_Text_at s_Text_isWordByte) k_Text_tokenEnd J K n) K 60 L S M := rfl
theorem r_Text_tokenEnd_61 {s_Text_numberEnd : aS} {s_Text_nameEnd : aS} {s_Text_stringEnd : aS} {s_Text_at : aS} {s_Text_isWordByte : aS} {J : aJ} {K : aR} {n : Nat} {L : aL} {S : List Value} {M : aM} : am_run (c_Text_tokenEnd s_Text_numberEnd s_Text_nameEnd s_Text_stringEnd s_Text_at s_Text_isWordByte) k_Text_tokenEnd J K (n + 1) 61 L S M = ai_iload 1 62 (am_run (c_Text_tokenEnd s_Text_numberEnd s_Text_nameEnd s_Text_stringEnd s_Text_at s_Text_isWordByte) k_Text_tokenEnd J K n) K 61 L S M := rfl
theorem r_Text_tokenEnd_62 {s_Text_numberEnd : aS} {s_Text_nameEnd : aS} {s_Text_stringEnd : aS} {s_Text_at : aS} {s_Text_isWordByte : aS} {J : aJ} {K : aR} {n : Nat} {L : aL} {S : List Value} {M : aM} : am_run (c_Text_tokenEnd s_Text_numberEnd s_Text_nameEnd s_Text_stringEnd s_Text_at s_Text_isWordByte) k_Text_tokenEnd J K (n + 1) 62 L S M = ai_callv2 2 s_Text_numberEnd 65 (am_run (c_Text_tokenEnd s_Text_numberEnd s_Text_nameEnd s_Text_stringEnd s_Text_at s_Text_isWordByte) k_Text_tokenEnd J K n) K 62 L S M := rfl
theorem r_Text_tokenEnd_65 {s_Text_numberEnd : aS} {s_Text_nameEnd : aS} {s_Text_stringEnd : aS} {s_Text_at : aS} {s_Text_isWordByte : aS} {J : aJ} {K : aR} {n : Nat} {L : aL} {S : List Value} {M : aM} : am_run (c_Text_tokenEnd s_Text_numberEnd s_Text_nameEnd s_Text_stringEnd s_Text_at s_Text_isWordByte) k_Text_tokenEnd J K (n + 1) 65 L S M = ai_iret (am_run (c_Text_tokenEnd s_Text_numberEnd s_Text_nameEnd s_Text_stringEnd s_Text_at s_Text_isWordByte) k_Text_tokenEnd J K n) K 65 L S M := rfl
theorem r_Text_tokenEnd_66 {s_Text_numberEnd : aS} {s_Text_nameEnd : aS} {s_Text_stringEnd : aS} {s_Text_at : aS} {s_Text_isWordByte : aS} {J : aJ} {K : aR} {n : Nat} {L : aL} {S : List Value} {M : aM} : am_run (c_Text_tokenEnd s_Text_numberEnd s_Text_nameEnd s_Text_stringEnd s_Text_at s_Text_isWordByte) k_Text_tokenEnd J K (n + 1) 66 L S M = ai_aload 0 67 (am_run (c_Text_tokenEnd s_Text_numberEnd s_Text_nameEnd s_Text_stringEnd s_Text_at s_Text_isWordByte) k_Text_tokenEnd J K n) K 66 L S M := rfl
theorem r_Text_tokenEnd_67 {s_Text_numberEnd : aS} {s_Text_nameEnd : aS} {s_Text_stringEnd : aS} {s_Text_at : aS} {s_Text_isWordByte : aS} {J : aJ} {K : aR} {n : Nat} {L : aL} {S : List Value} {M : aM} : am_run (c_Text_tokenEnd s_Text_numberEnd s_Text_nameEnd s_Text_stringEnd s_Text_at s_Text_isWordByte) k_Text_tokenEnd J K (n + 1) 67 L S M = ai_iload 1 68 (am_run (c_Text_tokenEnd s_Text_numberEnd s_Text_nameEnd s_Text_stringEnd s_Text_at s_Text_isWordByte) k_Text_tokenEnd J K n) K 67 L S M := rfl
theorem r_Text_tokenEnd_68 {s_Text_numberEnd : aS} {s_Text_nameEnd : aS} {s_Text_stringEnd : aS} {s_Text_at : aS} {s_Text_isWordByte : aS} {J : aJ} {K : aR} {n : Nat} {L : aL} {S : List Value} {M : aM} : am_run (c_Text_tokenEnd s_Text_numberEnd s_Text_nameEnd s_Text_stringEnd s_Text_at s_Text_isWordByte) k_Text_tokenEnd J K (n + 1) 68 L S M = ai_callv2 2 s_Text_nameEnd 71 (am_run (c_Text_tokenEnd s_Text_numberEnd s_Text_nameEnd s_Text_stringEnd s_Text_at s_Text_isWordByte) k_Text_tokenEnd J K n) K 68 L S M := rfl
theorem r_Text_tokenEnd_71 {s_Text_numberEnd : aS} {s_Text_nameEnd : aS} {s_Text_stringEnd : aS} {s_Text_at : aS} {s_Text_isWordByte : aS} {J : aJ} {K : aR} {n : Nat} {L : aL} {S : List Value} {M : aM} : am_run (c_Text_tokenEnd s_Text_numberEnd s_Text_nameEnd s_Text_stringEnd s_Text_at s_Text_isWordByte) k_Text_tokenEnd J K (n + 1) 71 L S M = ai_iret (am_run (c_Text_tokenEnd s_Text_numberEnd s_Text_nameEnd s_Text_stringEnd s_Text_at s_Text_isWordByte) k_Text_tokenEnd J K n) K 71 L S M := rfl
theorem r_Text_tokenEnd_72 {s_Text_numberEnd : aS} {s_Text_nameEnd : aS} {s_Text_stringEnd : aS} {s_Text_at : aS} {s_Text_isWordByte : aS} {J : aJ} {K : aR} {n : Nat} {L : aL} {S : List Value} {M : aM} : am_run (c_Text_tokenEnd s_Text_numberEnd s_Text_nameEnd s_Text_stringEnd s_Text_at s_Text_isWordByte) k_Text_tokenEnd J K (n + 1) 72 L S M = ai_aload 0 73 (am_run (c_Text_tokenEnd s_Text_numberEnd s_Text_nameEnd s_Text_stringEnd s_Text_at s_Text_isWordByte) k_Text_tokenEnd J K n) K 72 L S M := rfl
theorem r_Text_tokenEnd_73 {s_Text_numberEnd : aS} {s_Text_nameEnd : aS} {s_Text_stringEnd : aS} {s_Text_at : aS} {s_Text_isWordByte : aS} {J : aJ} {K : aR} {n : Nat} {L : aL} {S : List Value} {M : aM} : am_run (c_Text_tokenEnd s_Text_numberEnd s_Text_nameEnd s_Text_stringEnd s_Text_at s_Text_isWordByte) k_Text_tokenEnd J K (n + 1) 73 L S M = ai_iload 1 74 (am_run (c_Text_tokenEnd s_Text_numberEnd s_Text_nameEnd s_Text_stringEnd s_Text_at s_Text_isWordByte) k_Text_tokenEnd J K n) K 73 L S M := rfl
theorem r_Text_tokenEnd_74 {s_Text_numberEnd : aS} {s_Text_nameEnd : aS} {s_Text_stringEnd : aS} {s_Text_at : aS} {s_Text_isWordByte : aS} {J : aJ} {K : aR} {n : Nat} {L : aL} {S : List Value} {M : aM} : am_run (c_Text_tokenEnd s_Text_numberEnd s_Text_nameEnd s_Text_stringEnd s_Text_at s_Text_isWordByte) k_Text_tokenEnd J K (n + 1) 74 L S M = ai_callv2 2 s_Text_stringEnd 77 (am_run (c_Text_tokenEnd s_Text_numberEnd s_Text_nameEnd s_Text_stringEnd s_Text_at s_Text_isWordByte) k_Text_tokenEnd J K n) K 74 L S M := rfl
theorem r_Text_tokenEnd_77 {s_Text_numberEnd : aS} {s_Text_nameEnd : aS} {s_Text_stringEnd : aS} {s_Text_at : aS} {s_Text_isWordByte : aS} {J : aJ} {K : aR} {n : Nat} {L : aL} {S : List Value} {M : aM} : am_run (c_Text_tokenEnd s_Text_numberEnd s_Text_nameEnd s_Text_stringEnd s_Text_at s_Text_isWordByte) k_Text_tokenEnd J K (n + 1) 77 L S M = ai_iret (am_run (c_Text_tokenEnd s_Text_numberEnd s_Text_nameEnd s_Text_stringEnd s_Text_at s_Text_isWordByte) k_Text_tokenEnd J K n) K 77 L S M := rfl
theorem r_Text_tokenEnd_78 {s_Text_numberEnd : aS} {s_Text_nameEnd : aS} {s_Text_stringEnd : aS} {s_Text_at : aS} {s_Text_isWordByte : aS} {J : aJ} {K : aR} {n : Nat} {L : aL} {S : List Value} {M : aM} : am_run (c_Text_tokenEnd s_Text_numberEnd s_Text_nameEnd s_Text_stringEnd s_Text_at s_Text_isWordByte) k_Text_tokenEnd J K (n + 1) 78 L S M = ai_aload 0 79 (am_run (c_Text_tokenEnd s_Text_numberEnd s_Text_nameEnd s_Text_stringEnd s_Text_at s_Text_isWordByte) k_Text_tokenEnd J K n) K 78 L S M := rfl
theorem r_Text_tokenEnd_79 {s_Text_numberEnd : aS} {s_Text_nameEnd : aS} {s_Text_stringEnd : aS} {s_Text_at : aS} {s_Text_isWordByte : aS} {J : aJ} {K : aR} {n : Nat} {L : aL} {S : List Value} {M : aM} : am_run (c_Text_tokenEnd s_Text_numberEnd s_Text_nameEnd s_Text_stringEnd s_Text_at s_Text_isWordByte) k_Text_tokenEnd J K (n + 1) 79 L S M = ai_iload 1 80 (am_run (c_Text_tokenEnd s_Text_numberEnd s_Text_nameEnd s_Text_stringEnd s_Text_at s_Text_isWordByte) k_Text_tokenEnd J K n) K 79 L S M := rfl
theorem r_Text_tokenEnd_80 {s_Text_numberEnd : aS} {s_Text_nameEnd : aS} {s_Text_stringEnd : aS} {s_Text_at : aS} {s_Text_isWordByte : aS} {J : aJ} {K : aR} {n : Nat} {L : aL} {S : List Value} {M : aM} : am_run (c_Text_tokenEnd s_Text_numberEnd s_Text_nameEnd s_Text_stringEnd s_Text_at s_Text_isWordByte) k_Text_tokenEnd J K (n + 1) 80 L S M = ai_const 1 81 (am_run (c_Text_tokenEnd s_Text_numberEnd s_Text_nameEnd s_Text_stringEnd s_Text_at s_Text_isWordByte) k_Text_tokenEnd J K n) K 80 L S M := rfl
theorem r_Text_tokenEnd_81 {s_Text_numberEnd : aS} {s_Text_nameEnd : aS} {s_Text_stringEnd : aS} {s_Text_at : aS} {s_Text_isWordByte : aS} {J : aJ} {K : aR} {n : Nat} {L : aL} {S : List Value} {M : aM} : am_run (c_Text_tokenEnd s_Text_numberEnd s_Text_nameEnd s_Text_stringEnd s_Text_at s_Text_isWordByte) k_Text_tokenEnd J K (n + 1) 81 L S M = ai_isub 82 (am_run (c_Text_tokenEnd s_Text_numberEnd s_Text_nameEnd s_Text_stringEnd s_Text_at s_Text_isWordByte) k_Text_tokenEnd J K n) K 81 L S M := rfl
theorem r_Text_tokenEnd_82 {s_Text_numberEnd : aS} {s_Text_nameEnd : aS} {s_Text_stringEnd : aS} {s_Text_at : aS} {s_Text_isWordByte : aS} {J : aJ} {K : aR} {n : Nat} {L : aL} {S : List Value} {M : aM} : am_run (c_Text_tokenEnd s_Text_numberEnd s_Text_nameEnd s_Text_stringEnd s_Text_at s_Text_isWordByte) k_Text_tokenEnd J K (n + 1) 82 L S M = ai_callv2 2 s_Text_at 85 (am_run (c_Text_tokenEnd s_Text_numberEnd s_Text_nameEnd s_Text_stringEnd s_Text_at s_Text_isWordByte) k_Text_tokenEnd J K n) K 82 L S M := rfl
theorem r_Text_tokenEnd_85 {s_Text_numberEnd : aS} {s_Text_nameEnd : aS} {s_Text_stringEnd : aS} {s_Text_at : aS} {s_Text_isWordByte : aS} {J : aJ} {K : aR} {n : Nat} {L : aL} {S : List Value} {M : aM} : am_run (c_Text_tokenEnd s_Text_numberEnd s_Text_nameEnd s_Text_stringEnd s_Text_at s_Text_isWordByte) k_Text_tokenEnd J K (n + 1) 85 L S M = ai_calls1 s_Text_isWordByte 88 (am_run (c_Text_tokenEnd s_Text_numberEnd s_Text_nameEnd s_Text_stringEnd s_Text_at s_Text_isWordByte) k_Text_tokenEnd J K n) K 85 L S M := rfl
theorem r_Text_tokenEnd_88 {s_Text_numberEnd : aS} {s_Text_nameEnd : aS} {s_Text_stringEnd : aS} {s_Text_at : aS} {s_Text_isWordByte : aS} {J : aJ} {K : aR} {n : Nat} {L : aL} {S : List Value} {M : aM} : am_run (c_Text_tokenEnd s_Text_numberEnd s_Text_nameEnd s_Text_stringEnd s_Text_at s_Text_isWordByte) k_Text_tokenEnd J K (n + 1) 88 L S M = ai_ifne 104 91 (am_run (c_Text_tokenEnd s_Text_numberEnd s_Text_nameEnd s_Text_stringEnd s_Text_at s_Text_isWordByte) k_Text_tokenEnd J K n) K 88 L S M := rfl
theorem r_Text_tokenEnd_91 {s_Text_numberEnd : aS} {s_Text_nameEnd : aS} {s_Text_stringEnd : aS} {s_Text_at : aS} {s_Text_isWordByte : aS} {J : aJ} {K : aR} {n : Nat} {L : aL} {S : List Value} {M : aM} : am_run (c_Text_tokenEnd s_Text_numberEnd s_Text_nameEnd s_Text_stringEnd s_Text_at s_Text_isWordByte) k_Text_tokenEnd J K (n + 1) 91 L S M = ai_aload 0 92 (am_run (c_Text_tokenEnd s_Text_numberEnd s_Text_nameEnd s_Text_stringEnd s_Text_at s_Text_isWordByte) k_Text_tokenEnd J K n) K 91 L S M := rfl
theorem r_Text_tokenEnd_92 {s_Text_numberEnd : aS} {s_Text_nameEnd : aS} {s_Text_stringEnd : aS} {s_Text_at : aS} {s_Text_isWordByte : aS} {J : aJ} {K : aR} {n : Nat} {L : aL} {S : List Value} {M : aM} : am_run (c_Text_tokenEnd s_Text_numberEnd s_Text_nameEnd s_Text_stringEnd s_Text_at s_Text_isWordByte) k_Text_tokenEnd J K (n + 1) 92 L S M = ai_iload 1 93 (am_run (c_Text_tokenEnd s_Text_numberEnd s_Text_nameEnd s_Text_stringEnd s_Text_at s_Text_isWordByte) k_Text_tokenEnd J K n) K 92 L S M := rfl
theorem r_Text_tokenEnd_93 {s_Text_numberEnd : aS} {s_Text_nameEnd : aS} {s_Text_stringEnd : aS} {s_Text_at : aS} {s_Text_isWordByte : aS} {J : aJ} {K : aR} {n : Nat} {L : aL} {S : List Value} {M : aM} : am_run (c_Text_tokenEnd s_Text_numberEnd s_Text_nameEnd s_Text_stringEnd s_Text_at s_Text_isWordByte) k_Text_tokenEnd J K (n + 1) 93 L S M = ai_const 1 94 (am_run (c_Text_tokenEnd s_Text_numberEnd s_Text_nameEnd s_Text_stringEnd s_Text_at s_Text_isWordByte) k_Text_tokenEnd J K n) K 93 L S M := rfl
theorem r_Text_tokenEnd_94 {s_Text_numberEnd : aS} {s_Text_nameEnd : aS} {s_Text_stringEnd : aS} {s_Text_at : aS} {s_Text_isWordByte : aS} {J : aJ} {K : aR} {n : Nat} {L : aL} {S : List Value} {M : aM} : am_run (c_Text_tokenEnd s_Text_numberEnd s_Text_nameEnd s_Text_stringEnd s_Text_at s_Text_isWordByte) k_Text_tokenEnd J K (n + 1) 94 L S M = ai_iadd 95 (am_run (c_Text_tokenEnd s_Text_numberEnd s_Text_nameEnd s_Text_stringEnd s_Text_at s_Text_isWordByte) k_Text_tokenEnd J K n) K 94 L S M := rfl
theorem r_Text_tokenEnd_95 {s_Text_numberEnd : aS} {s_Text_nameEnd : aS} {s_Text_stringEnd : aS} {s_Text_at : aS} {s_Text_isWordByte : aS} {J : aJ} {K : aR} {n : Nat} {L : aL} {S : List Value} {M : aM} : am_run (c_Text_tokenEnd s_Text_numberEnd s_Text_nameEnd s_Text_stringEnd s_Text_at s_Text_isWordByte) k_Text_tokenEnd J K (n + 1) 95 L S M = ai_callv2 2 s_Text_at 98 (am_run (c_Text_tokenEnd s_Text_numberEnd s_Text_nameEnd s_Text_stringEnd s_Text_at s_Text_isWordByte) k_Text_tokenEnd J K n) K 95 L S M := rfl
theorem r_Text_tokenEnd_98 {s_Text_numberEnd : aS} {s_Text_nameEnd : aS} {s_Text_stringEnd : aS} {s_Text_at : aS} {s_Text_isWordByte : aS} {J : aJ} {K : aR} {n : Nat} {L : aL} {S : List Value} {M : aM} : am_run (c_Text_tokenEnd s_Text_numberEnd s_Text_nameEnd s_Text_stringEnd s_Text_at s_Text_isWordByte) k_Text_tokenEnd J K (n + 1) 98 L S M = ai_calls1 s_Text_isWordByte 101 (am_run (c_Text_tokenEnd s_Text_numberEnd s_Text_nameEnd s_Text_stringEnd s_Text_at s_Text_isWordByte) k_Text_tokenEnd J K n) K 98 L S M := rfl
theorem r_Text_tokenEnd_101 {s_Text_numberEnd : aS} {s_Text_nameEnd : aS} {s_Text_stringEnd : aS} {s_Text_at : aS} {s_Text_isWordByte : aS} {J : aJ} {K : aR} {n : Nat} {L : aL} {S : List Value} {M : aM} : am_run (c_Text_tokenEnd s_Text_numberEnd s_Text_nameEnd s_Text_stringEnd s_Text_at s_Text_isWordByte) k_Text_tokenEnd J K (n + 1) 101 L S M = ai_ifeq 108 104 (am_run (c_Text_tokenEnd s_Text_numberEnd s_Text_nameEnd s_Text_stringEnd s_Text_at s_Text_isWordByte) k_Text_tokenEnd J K n) K 101 L S M := rfl
theorem r_Text_tokenEnd_104 {s_Text_numberEnd : aS} {s_Text_nameEnd : aS} {s_Text_stringEnd : aS} {s_Text_at : aS} {s_Text_isWordByte : aS} {J : aJ} {K : aR} {n : Nat} {L : aL} {S : List Value} {M : aM} : am_run (c_Text_tokenEnd s_Text_numberEnd s_Text_nameEnd s_Text_stringEnd s_Text_at s_Text_isWordByte) k_Text_tokenEnd J K (n + 1) 104 L S M = ai_const (-1) 105 (am_run (c_Text_tokenEnd s_Text_numberEnd s_Text_nameEnd s_Text_stringEnd s_Text_at s_Text_isWordByte) k_Text_tokenEnd J K n) K 104 L S M := rfl
theorem r_Text_tokenEnd_105 {s_Text_numberEnd : aS} {s_Text_nameEnd : aS} {s_Text_stringEnd : aS} {s_Text_at : aS} {s_Text_isWordByte : aS} {J : aJ} {K : aR} {n : Nat} {L : aL} {S : List Value} {M : aM} : am_run (c_Text_tokenEnd s_Text_numberEnd s_Text_nameEnd s_Text_stringEnd s_Text_at s_Text_isWordByte) k_Text_tokenEnd J K (n + 1) 105 L S M = ai_goto 111 (am_run (c_Text_tokenEnd s_Text_numberEnd s_Text_nameEnd s_Text_stringEnd s_Text_at s_Text_isWordByte) k_Text_tokenEnd J K n) K 105 L S M := rfl
theorem r_Text_tokenEnd_108 {s_Text_numberEnd : aS} {s_Text_nameEnd : aS} {s_Text_stringEnd : aS} {s_Text_at : aS} {s_Text_isWordByte : aS} {J : aJ} {K : aR} {n : Nat} {L : aL} {S : List Value} {M : aM} : am_run (c_Text_tokenEnd s_Text_numberEnd s_Text_nameEnd s_Text_stringEnd s_Text_at s_Text_isWordByte) k_Text_tokenEnd J K (n + 1) 108 L S M = ai_iload 1 109 (am_run (c_Text_tokenEnd s_Text_numberEnd s_Text_nameEnd s_Text_stringEnd s_Text_at s_Text_isWordByte) k_Text_tokenEnd J K n) K 108 L S M := rfl
theorem r_Text_tokenEnd_109 {s_Text_numberEnd : aS} {s_Text_nameEnd : aS} {s_Text_stringEnd : aS} {s_Text_at : aS} {s_Text_isWordByte : aS} {J : aJ} {K : aR} {n : Nat} {L : aL} {S : List Value} {M : aM} : am_run (c_Text_tokenEnd s_Text_numberEnd s_Text_nameEnd s_Text_stringEnd s_Text_at s_Text_isWordByte) k_Text_tokenEnd J K (n + 1) 109 L S M = ai_const 1 110 (am_run (c_Text_tokenEnd s_Text_numberEnd s_Text_nameEnd s_Text_stringEnd s_Text_at s_Text_isWordByte) k_Text_tokenEnd J K n) K 109 L S M := rfl
theorem r_Text_tokenEnd_110 {s_Text_numberEnd : aS} {s_Text_nameEnd : aS} {s_Text_stringEnd : aS} {s_Text_at : aS} {s_Text_isWordByte : aS} {J : aJ} {K : aR} {n : Nat} {L : aL} {S : List Value} {M : aM} : am_run (c_Text_tokenEnd s_Text_numberEnd s_Text_nameEnd s_Text_stringEnd s_Text_at s_Text_isWordByte) k_Text_tokenEnd J K (n + 1) 110 L S M = ai_iadd 111 (am_run (c_Text_tokenEnd s_Text_numberEnd s_Text_nameEnd s_Text_stringEnd s_Text_at s_Text_isWordByte) k_Text_tokenEnd J K n) K 110 L S M := rfl
theorem r_Text_tokenEnd_111 {s_Text_numberEnd : aS} {s_Text_nameEnd : aS} {s_Text_stringEnd : aS} {s_Text_at : aS} {s_Text_isWordByte : aS} {J : aJ} {K : aR} {n : Nat} {L : aL} {S : List Value} {M : aM} : am_run (c_Text_tokenEnd s_Text_numberEnd s_Text_nameEnd s_Text_stringEnd s_Text_at s_Text_isWordByte) k_Text_tokenEnd J K (n + 1) 111 L S M = ai_iret (am_run (c_Text_tokenEnd s_Text_numberEnd s_Text_nameEnd s_Text_stringEnd s_Text_at s_Text_isWordByte) k_Text_tokenEnd J K n) K 111 L S M := rfl
theorem r_Text_tokenEnd_112 {s_Text_numberEnd : aS} {s_Text_nameEnd : aS} {s_Text_stringEnd : aS} {s_Text_at : aS} {s_Text_isWordByte : aS} {J : aJ} {K : aR} {n : Nat} {L : aL} {S : List Value} {M : aM} : am_run (c_Text_tokenEnd s_Text_numberEnd s_Text_nameEnd s_Text_stringEnd s_Text_at s_Text_isWordByte) k_Text_tokenEnd J K (n + 1) 112 L S M = ai_const (-1) 113 (am_run (c_Text_tokenEnd s_Text_numberEnd s_Text_nameEnd s_Text_stringEnd s_Text_at s_Text_isWordByte) k_Text_tokenEnd J K n) K 112 L S M := rfl
theorem r_Text_tokenEnd_113 {s_Text_numberEnd : aS} {s_Text_nameEnd : aS} {s_Text_stringEnd : aS} {s_Text_at : aS} {s_Text_isWordByte : aS} {J : aJ} {K : aR} {n : Nat} {L : aL} {S : List Value} {M : aM} : am_run (c_Text_tokenEnd s_Text_numberEnd s_Text_nameEnd s_Text_stringEnd s_Text_at s_Text_isWordByte) k_Text_tokenEnd J K (n + 1) 113 L S M = ai_iret (am_run (c_Text_tokenEnd s_Text_numberEnd s_Text_nameEnd s_Text_stringEnd s_Text_at s_Text_isWordByte) k_Text_tokenEnd J K n) K 113 L S M := rfl
theorem r_Text_tokenEnd_114 {s_Text_numberEnd : aS} {s_Text_nameEnd : aS} {s_Text_stringEnd : aS} {s_Text_at : aS} {s_Text_isWordByte : aS} {J : aJ} {K : aR} {n : Nat} {L : aL} {S : List Value} {M : aM} : am_run (c_Text_tokenEnd s_Text_numberEnd s_Text_nameEnd s_Text_stringEnd s_Text_at s_Text_isWordByte) k_Text_tokenEnd J K (n + 1) 114 L S M = ai_iload 1 115 (am_run (c_Text_tokenEnd s_Text_numberEnd s_Text_nameEnd s_Text_stringEnd s_Text_at s_Text_isWordByte) k_Text_tokenEnd J K n) K 114 L S M := rfl
theorem r_Text_tokenEnd_115 {s_Text_numberEnd : aS} {s_Text_nameEnd : aS} {s_Text_stringEnd : aS} {s_Text_at : aS} {s_Text_isWordByte : aS} {J : aJ} {K : aR} {n : Nat} {L : aL} {S : List Value} {M : aM} : am_run (c_Text_tokenEnd s_Text_numberEnd s_Text_nameEnd s_Text_stringEnd s_Text_at s_Text_isWordByte) k_Text_tokenEnd J K (n + 1) 115 L S M = ai_const 1 116 (am_run (c_Text_tokenEnd s_Text_numberEnd s_Text_nameEnd s_Text_stringEnd s_Text_at s_Text_isWordByte) k_Text_tokenEnd J K n) K 115 L S M := rfl
theorem r_Text_tokenEnd_116 {s_Text_numberEnd : aS} {s_Text_nameEnd : aS} {s_Text_stringEnd : aS} {s_Text_at : aS} {s_Text_isWordByte : aS} {J : aJ} {K : aR} {n : Nat} {L : aL} {S : List Value} {M : aM} : am_run (c_Text_tokenEnd s_Text_numberEnd s_Text_nameEnd s_Text_stringEnd s_Text_at s_Text_isWordByte) k_Text_tokenEnd J K (n + 1) 116 L S M = ai_iadd 117 (am_run (c_Text_tokenEnd s_Text_numberEnd s_Text_nameEnd s_Text_stringEnd s_Text_at s_Text_isWordByte) k_Text_tokenEnd J K n) K 116 L S M := rfl
theorem r_Text_tokenEnd_117 {s_Text_numberEnd : aS} {s_Text_nameEnd : aS} {s_Text_stringEnd : aS} {s_Text_at : aS} {s_Text_isWordByte : aS} {J : aJ} {K : aR} {n : Nat} {L : aL} {S : List Value} {M : aM} : am_run (c_Text_tokenEnd s_Text_numberEnd s_Text_nameEnd s_Text_stringEnd s_Text_at s_Text_isWordByte) k_Text_tokenEnd J K (n + 1) 117 L S M = ai_iret (am_run (c_Text_tokenEnd s_Text_numberEnd s_Text_nameEnd s_Text_stringEnd s_Text_at s_Text_isWordByte) k_Text_tokenEnd J K n) K 117 L S M := rfl
def c_Text_numberEnd (s_Text_at : aS) (s_Text_wordEnd : aS) (s_Text_isDigit : aS) : List (Nat × aI) := [
  (0, ai_aload 0 1),
  (1, ai_iload 1 2),
  (2, ai_callv2 2 s_Text_at 5),
  (5, ai_const 45 7),
  (7, ai_cmpne 16 10),
  (10, ai_iload 1 11),
  (11, ai_const 1 12),
  (12, ai_iadd 13),
  (13, ai_goto 17),
  (16, ai_iload 1 17),
  (17, ai_istore 2 18),
  (18, ai_aload 0 19),
  (19, ai_iload 2 20),
  (20, ai_callv2 2 s_Text_wordEnd 23),
  (23, ai_istore 3 24),
  (24, ai_iload 3 25),
  (25, ai_iload 2 26),
  (26, ai_isub 27),
  (27, ai_const 1 28),
  (28, ai_cmplt 39 31),
  (31, ai_iload 3 32),
  (32, ai_iload 2 33),
  (33, ai_isub 34),
  (34, ai_const 9 36),
  (36, ai_cmple 41 39),
  (39, ai_const (-1) 40),
  (40, ai_iret),
  (41, ai_iload 2 42),
  (42, ai_istore 4 44),
  (44, ai_iload 4 46),
  (46, ai_iload 3 47),
  (47, ai_cmpge 70 50),
  (50, ai_aload 0 51),
  (51, ai_iload 4 53),
  (53, ai_callv2 2 s_Text_at 56),
  (56, ai_calls1 s_Text_isDigit 59),
  (59, ai_ifne 64 62),
  (62, ai_const (-1) 63),
  (63, ai_iret),
  (64, ai_iinc 4 1 67),
  (67, ai_goto 44),
  (70, ai_iload 3 71),
  (71, ai_iret)]
set_option maxRecDepth 100000 in
set_option maxHeartbeats 4000000 in
theorem tb_Text_numberEnd {G : aG} {d : Nat} {s_Text_at : aS} {d_Text_at : Nat} (h_Text_at : am_Sp G Y_Text_at d_Text_at s_Text_at) (l_Text_at : d_Text_at < d) {s_Text_wordEnd : aS} {d_Text_wordEnd : Nat} (h_Text_wordEnd : am_Sp G Y_Text_wordEnd d_Text_wordEnd s_Text_wordEnd) (l_Text_wordEnd : d_Text_wordEnd < d) {s_Text_isDigit : aS} {d_Text_isDigit : Nat} (h_Text_isDigit : am_Sp G Y_Text_isDigit d_Text_isDigit s_Text_isDigit) (l_Text_isDigit : d_Text_isDigit < d) : am_tab G Y_Text_numberEnd d (c_Text_numberEnd s_Text_at s_Text_wordEnd s_Text_isDigit) := by
  intro K p e s m args below meth c C
  exact ⟨as_aload_n C (pc := 0) (q := 0) (by decide +kernel) rfl rfl,
    as_iload_n C (pc := 1) (q := 1) (by decide +kernel) rfl rfl,
    as_callv2 C (pc := 2) h_Text_at (T := T_Text) (N := 2) rfl w_270 w_71 w_269 w_5 w_267 hy_Text_at (am_rm_of l_Text_at (by decide)) (by decide +kernel) rfl,
    as_bipush C (pc := 5) (n := 45) (by decide +kernel) (by decide +kernel) rfl,
    as_cmpne C (pc := 7) (off := 9) (by decide +kernel) (by decide) rfl,
    as_iload_n C (pc := 10) (q := 1) (by decide +kernel) rfl rfl,
    as_iconst C (pc := 11) (n := 1) (by decide +kernel) (by decide +kernel) rfl,
    as_iadd C (pc := 12) (by decide +kernel) rfl,
    as_goto C (pc := 13) (off := 4) (by decide +kernel) (by decide),
    as_iload_n C (pc := 16) (q := 1) (by decide +kernel) rfl rfl,
    as_istore_n C (pc := 17) (q := 2) (by decide +kernel) rfl (by decide) rfl,
    as_aload_n C (pc := 18) (q := 0) (by decide +kernel) rfl rfl,
    as_iload_n C (pc := 19) (q := 2) (by decide +kernel) rfl rfl,
    as_callv2 C (pc := 20) h_Text_wordEnd (T := T_Text) (N := 2) rfl w_292 w_71 w_291 w_9 w_289 hy_Text_wordEnd (am_rm_of l_Text_wordEnd (by decide)) (by decide +kernel) rfl,
    as_istore_n C (pc := 23) (q := 3) (by decide +kernel) rfl (by decide) rfl,
    as_iload_n C (pc := 24) (q := 3) (by decide +kernel) rfl rfl,
    as_iload_n C (pc := 25) (q := 2) (by decide +kernel) rfl rfl,
    as_isub C (pc := 26) (by decide +kernel) rfl,
    as_iconst C (pc := 27) (n := 1) (by decide +kernel) (by decide +kernel) rfl,
    as_cmplt C (pc := 28) (off := 11) (by decide +kernel) (by decide) rfl,
    as_iload_n C (pc := 31) (q := 3) (by decide +kernel) rfl rfl,
    as_iload_n C (pc := 32) (q := 2) (by decide +kernel) rfl rfl,
    as_isub C (pc := 33) (by decide +kernel) rfl,
    as_bipush C (pc := 34) (n := 9) (by decide +kernel) (by decide +kernel) rfl,
    as_cmple C (pc := 36) (off := 5) (by decide +kernel) (by decide) rfl,
    as_iconst C (pc := 39) (n := (-1)) (by decide +kernel) (by decide +kernel) rfl,
    as_iret C (pc := 40) rfl (by decide +kernel),
    as_iload_n C (pc := 41) (q := 2) (by decide +kernel) rfl rfl,
    as_istore C (pc := 42) (k := 4) (by decide +kernel) (by decide) rfl,
    as_iload C (pc := 44) (k := 4) (by decide +kernel) rfl,
    as_iload_n C (pc := 46) (q := 3) (by decide +kernel) rfl rfl,
    as_cmpge C (pc := 47) (off := 23) (by decide +kernel) (by decide) rfl,
    as_aload_n C (pc := 50) (q := 0) (by decide +kernel) rfl rfl,
    as_iload C (pc := 51) (k := 4) (by decide +kernel) rfl,
    as_callv2 C (pc := 53) h_Text_at (T := T_Text) (N := 2) rfl w_270 w_71 w_269 w_5 w_267 hy_Text_at (am_rm_of l_Text_at (by decide)) (by decide +kernel) rfl,
    as_calls1 C (pc := 56) h_Text_isDigit w_277 w_71 w_276 w_275 hy_Text_isDigit (am_rm_of l_Text_isDigit (by decide)) (by decide +kernel) rfl,
    as_ifne C (pc := 59) (off := 5) (by decide +kernel) (by decide) rfl,
    as_iconst C (pc := 62) (n := (-1)) (by decide +kernel) (by decide +kernel) rfl,
    as_iret C (pc := 63) rfl (by decide +kernel),
    as_iinc C (pc := 64) (k := 4) (n := 1) (by decide +kernel) (by decide +kernel) (by decide) rfl,
    as_goto C (pc := 67) (off := (-23)) (by decide +kernel) (by decide),
    as_iload_n C (pc := 70) (q := 3) (by decide +kernel) rfl rfl,
    as_iret C (pc := 71) rfl (by decide +kernel), trivial⟩
abbrev k_Text_numberEnd : List Nat := [44]
theorem q_Text_numberEnd_44 {s_Text_at : aS} {s_Text_wordEnd : aS} {s_Text_isDigit : aS} : am_at (c_Text_numberEnd s_Text_at s_Text_wordEnd s_Text_isDigit) 44 = ai_iload 4 46 := rfl
theorem r_Text_numberEnd_0 {s_Text_at : aS} {s_Text_wordEnd : aS} {s_Text_isDigit : aS} {J : aJ} {K : aR} {n : Nat} {L : aL} {S : List Value} {M : aM} : am_run (c_Text_numberEnd s_Text_at s_Text_wordEnd s_Text_isDigit) k_Text_numberEnd J K (n + 1) 0 L S M = ai_aload 0 1 (am_run (c_Text_numberEnd s_Text_at s_Text_wordEnd s_Text_isDigit) k_Text_numberEnd J K n) K 0 L S M := rfl
theorem r_Text_numberEnd_1 {s_Text_at : aS} {s_Text_wordEnd : aS} {s_Text_isDigit : aS} {J : aJ} {K : aR} {n : Nat} {L : aL} {S : List Value} {M : aM} : am_run (c_Text_numberEnd s_Text_at s_Text_wordEnd s_Text_isDigit) k_Text_numberEnd J K (n + 1) 1 L S M = ai_iload 1 2 (am_run (c_Text_numberEnd s_Text_at s_Text_wordEnd s_Text_isDigit) k_Text_numberEnd J K n) K 1 L S M := rfl
theorem r_Text_numberEnd_2 {s_Text_at : aS} {s_Text_wordEnd : aS} {s_Text_isDigit : aS} {J : aJ} {K : aR} {n : Nat} {L : aL} {S : List Value} {M : aM} : am_run (c_Text_numberEnd s_Text_at s_Text_wordEnd s_Text_isDigit) k_Text_numberEnd J K (n + 1) 2 L S M = ai_callv2 2 s_Text_at 5 (am_run (c_Text_numberEnd s_Text_at s_Text_wordEnd s_Text_isDigit) k_Text_numberEnd J K n) K 2 L S M := rfl
theorem r_Text_numberEnd_5 {s_Text_at : aS} {s_Text_wordEnd : aS} {s_Text_isDigit : aS} {J : aJ} {K : aR} {n : Nat} {L : aL} {S : List Value} {M : aM} : am_run (c_Text_numberEnd s_Text_at s_Text_wordEnd s_Text_isDigit) k_Text_numberEnd J K (n + 1) 5 L S M = ai_const 45 7 (am_run (c_Text_numberEnd s_Text_at s_Text_wordEnd s_Text_isDigit) k_Text_numberEnd J K n) K 5 L S M := rfl
theorem r_Text_numberEnd_7 {s_Text_at : aS} {s_Text_wordEnd : aS} {s_Text_isDigit : aS} {J : aJ} {K : aR} {n : Nat} {L : aL} {S : List Value} {M : aM} : am_run (c_Text_numberEnd s_Text_at s_Text_wordEnd s_Text_isDigit) k_Text_numberEnd J K (n + 1) 7 L S M = ai_cmpne 16 10 (am_run (c_Text_numberEnd s_Text_at s_Text_wordEnd s_Text_isDigit) k_Text_numberEnd J K n) K 7 L S M := rfl
theorem r_Text_numberEnd_10 {s_Text_at : aS} {s_Text_wordEnd : aS} {s_Text_isDigit : aS} {J : aJ} {K : aR} {n : Nat} {L : aL} {S : List Value} {M : aM} : am_run (c_Text_numberEnd s_Text_at s_Text_wordEnd s_Text_isDigit) k_Text_numberEnd J K (n + 1) 10 L S M = ai_iload 1 11 (am_run (c_Text_numberEnd s_Text_at s_Text_wordEnd s_Text_isDigit) k_Text_numberEnd J K n) K 10 L S M := rfl
theorem r_Text_numberEnd_11 {s_Text_at : aS} {s_Text_wordEnd : aS} {s_Text_isDigit : aS} {J : aJ} {K : aR} {n : Nat} {L : aL} {S : List Value} {M : aM} : am_run (c_Text_numberEnd s_Text_at s_Text_wordEnd s_Text_isDigit) k_Text_numberEnd J K (n + 1) 11 L S M = ai_const 1 12 (am_run (c_Text_numberEnd s_Text_at s_Text_wordEnd s_Text_isDigit) k_Text_numberEnd J K n) K 11 L S M := rfl
theorem r_Text_numberEnd_12 {s_Text_at : aS} {s_Text_wordEnd : aS} {s_Text_isDigit : aS} {J : aJ} {K : aR} {n : Nat} {L : aL} {S : List Value} {M : aM} : am_run (c_Text_numberEnd s_Text_at s_Text_wordEnd s_Text_isDigit) k_Text_numberEnd J K (n + 1) 12 L S M = ai_iadd 13 (am_run (c_Text_numberEnd s_Text_at s_Text_wordEnd s_Text_isDigit) k_Text_numberEnd J K n) K 12 L S M := rfl
theorem r_Text_numberEnd_13 {s_Text_at : aS} {s_Text_wordEnd : aS} {s_Text_isDigit : aS} {J : aJ} {K : aR} {n : Nat} {L : aL} {S : List Value} {M : aM} : am_run (c_Text_numberEnd s_Text_at s_Text_wordEnd s_Text_isDigit) k_Text_numberEnd J K (n + 1) 13 L S M = ai_goto 17 (am_run (c_Text_numberEnd s_Text_at s_Text_wordEnd s_Text_isDigit) k_Text_numberEnd J K n) K 13 L S M := rfl
theorem r_Text_numberEnd_16 {s_Text_at : aS} {s_Text_wordEnd : aS} {s_Text_isDigit : aS} {J : aJ} {K : aR} {n : Nat} {L : aL} {S : List Value} {M : aM} : am_run (c_Text_numberEnd s_Text_at s_Text_wordEnd s_Text_isDigit) k_Text_numberEnd J K (n + 1) 16 L S M = ai_iload 1 17 (am_run (c_Text_numberEnd s_Text_at s_Text_wordEnd s_Text_isDigit) k_Text_numberEnd J K n) K 16 L S M := rfl
theorem r_Text_numberEnd_17 {s_Text_at : aS} {s_Text_wordEnd : aS} {s_Text_isDigit : aS} {J : aJ} {K : aR} {n : Nat} {L : aL} {S : List Value} {M : aM} : am_run (c_Text_numberEnd s_Text_at s_Text_wordEnd s_Text_isDigit) k_Text_numberEnd J K (n + 1) 17 L S M = ai_istore 2 18 (am_run (c_Text_numberEnd s_Text_at s_Text_wordEnd s_Text_isDigit) k_Text_numberEnd J K n) K 17 L S M := rfl
theorem r_Text_numberEnd_18 {s_Text_at : aS} {s_Text_wordEnd : aS} {s_Text_isDigit : aS} {J : aJ} {K : aR} {n : Nat} {L : aL} {S : List Value} {M : aM} : am_run (c_Text_numberEnd s_Text_at s_Text_wordEnd s_Text_isDigit) k_Text_numberEnd J K (n + 1) 18 L S M = ai_aload 0 19 (am_run (c_Text_numberEnd s_Text_at s_Text_wordEnd s_Text_isDigit) k_Text_numberEnd J K n) K 18 L S M := rfl
theorem r_Text_numberEnd_19 {s_Text_at : aS} {s_Text_wordEnd : aS} {s_Text_isDigit : aS} {J : aJ} {K : aR} {n : Nat} {L : aL} {S : List Value} {M : aM} : am_run (c_Text_numberEnd s_Text_at s_Text_wordEnd s_Text_isDigit) k_Text_numberEnd J K (n + 1) 19 L S M = ai_iload 2 20 (am_run (c_Text_numberEnd s_Text_at s_Text_wordEnd s_Text_isDigit) k_Text_numberEnd J K n) K 19 L S M := rfl
theorem r_Text_numberEnd_20 {s_Text_at : aS} {s_Text_wordEnd : aS} {s_Text_isDigit : aS} {J : aJ} {K : aR} {n : Nat} {L : aL} {S : List Value} {M : aM} : am_run (c_Text_numberEnd s_Text_at s_Text_wordEnd s_Text_isDigit) k_Text_numberEnd J K (n + 1) 20 L S M = ai_callv2 2 s_Text_wordEnd 23 (am_run (c_Text_numberEnd s_Text_at s_Text_wordEnd s_Text_isDigit) k_Text_numberEnd J K n) K 20 L S M := rfl
theorem r_Text_numberEnd_23 {s_Text_at : aS} {s_Text_wordEnd : aS} {s_Text_isDigit : aS} {J : aJ} {K : aR} {n : Nat} {L : aL} {S : List Value} {M : aM} : am_run (c_Text_numberEnd s_Text_at s_Text_wordEnd s_Text_isDigit) k_Text_numberEnd J K (n + 1) 23 L S M = ai_istore 3 24 (am_run (c_Text_numberEnd s_Text_at s_Text_wordEnd s_Text_isDigit) k_Text_numberEnd J K n) K 23 L S M := rfl
theorem r_Text_numberEnd_24 {s_Text_at : aS} {s_Text_wordEnd : aS} {s_Text_isDigit : aS} {J : aJ} {K : aR} {n : Nat} {L : aL} {S : List Value} {M : aM} : am_run (c_Text_numberEnd s_Text_at s_Text_wordEnd s_Text_isDigit) k_Text_numberEnd J K (n + 1) 24 L S M = ai_iload 3 25 (am_run (c_Text_numberEnd s_Text_at s_Text_wordEnd s_Text_isDigit) k_Text_numberEnd J K n) K 24 L S M := rfl
theorem r_Text_numberEnd_25 {s_Text_at : aS} {s_Text_wordEnd : aS} {s_Text_isDigit : aS} {J : aJ} {K : aR} {n : Nat} {L : aL} {S : List Value} {M : aM} : am_run (c_Text_numberEnd s_Text_at s_Text_wordEnd s_Text_isDigit) k_Text_numberEnd J K (n + 1) 25 L S M = ai_iload 2 26 (am_run (c_Text_numberEnd s_Text_at s_Text_wordEnd s_Text_isDigit) k_Text_numberEnd J K n) K 25 L S M := rfl
theorem r_Text_numberEnd_26 {s_Text_at : aS} {s_Text_wordEnd : aS} {s_Text_isDigit : aS} {J : aJ} {K : aR} {n : Nat} {L : aL} {S : List Value} {M : aM} : am_run (c_Text_numberEnd s_Text_at s_Text_wordEnd s_Text_isDigit) k_Text_numberEnd J K (n + 1) 26 L S M = ai_isub 27 (am_run (c_Text_numberEnd s_Text_at s_Text_wordEnd s_Text_isDigit) k_Text_numberEnd J K n) K 26 L S M := rfl
theorem r_Text_numberEnd_27 {s_Text_at : aS} {s_Text_wordEnd : aS} {s_Text_isDigit : aS} {J : aJ} {K : aR} {n : Nat} {L : aL} {S : List Value} {M : aM} : am_run (c_Text_numberEnd s_Text_at s_Text_wordEnd s_Text_isDigit) k_Text_numberEnd J K (n + 1) 27 L S M = ai_const 1 28 (am_run (c_Text_numberEnd s_Text_at s_Text_wordEnd s_Text_isDigit) k_Text_numberEnd J K n) K 27 L S M := rfl
theorem r_Text_numberEnd_28 {s_Text_at : aS} {s_Text_wordEnd : aS} {s_Text_isDigit : aS} {J : aJ} {K : aR} {n : Nat} {L : aL} {S : List Value} {M : aM} : am_run (c_Text_numberEnd s_Text_at s_Text_wordEnd s_Text_isDigit) k_Text_numberEnd J K (n + 1) 28 L S M = ai_cmplt 39 31 (am_run (c_Text_numberEnd s_Text_at s_Text_wordEnd s_Text_isDigit) k_Text_numberEnd J K n) K 28 L S M := rfl
theorem r_Text_numberEnd_31 {s_Text_at : aS} {s_Text_wordEnd : aS} {s_Text_isDigit : aS} {J : aJ} {K : aR} {n : Nat} {L : aL} {S : List Value} {M : aM} : am_run (c_Text_numberEnd s_Text_at s_Text_wordEnd s_Text_isDigit) k_Text_numberEnd J K (n + 1) 31 L S M = ai_iload 3 32 (am_run (c_Text_numberEnd s_Text_at s_Text_wordEnd s_Text_isDigit) k_Text_numberEnd J K n) K 31 L S M := rfl
theorem r_Text_numberEnd_32 {s_Text_at : aS} {s_Text_wordEnd : aS} {s_Text_isDigit : aS} {J : aJ} {K : aR} {n : Nat} {L : aL} {S : List Value} {M : aM} : am_run (c_Text_numberEnd s_Text_at s_Text_wordEnd s_Text_isDigit) k_Text_numberEnd J K (n + 1) 32 L S M = ai_iload 2 33 (am_run (c_Text_numberEnd s_Text_at s_Text_wordEnd s_Text_isDigit) k_Text_numberEnd J K n) K 32 L S M := rfl
theorem r_Text_numberEnd_33 {s_Text_at : aS} {s_Text_wordEnd : aS} {s_Text_isDigit : aS} {J : aJ} {K : aR} {n : Nat} {L : aL} {S : List Value} {M : aM} : am_run (c_Text_numberEnd s_Text_at s_Text_wordEnd s_Text_isDigit) k_Text_numberEnd J K (n + 1) 33 L S M = ai_isub 34 (am_run (c_Text_numberEnd s_Text_at s_Text_wordEnd s_Text_isDigit) k_Text_numberEnd J K n) K 33 L S M := rfl
theorem r_Text_numberEnd_34 {s_Text_at : aS} {s_Text_wordEnd : aS} {s_Text_isDigit : aS} {J : aJ} {K : aR} {n : Nat} {L : aL} {S : List Value} {M : aM} : am_run (c_Text_numberEnd s_Text_at s_Text_wordEnd s_Text_isDigit) k_Text_numberEnd J K (n + 1) 34 L S M = ai_const 9 36 (am_run (c_Text_numberEnd s_Text_at s_Text_wordEnd s_Text_isDigit) k_Text_numberEnd J K n) K 34 L S M := rfl
theorem r_Text_numberEnd_36 {s_Text_at : aS} {s_Text_wordEnd : aS} {s_Text_isDigit : aS} {J : aJ} {K : aR} {n : Nat} {L : aL} {S : List Value} {M : aM} : am_run (c_Text_numberEnd s_Text_at s_Text_wordEnd s_Text_isDigit) k_Text_numberEnd J K (n + 1) 36 L S M = ai_cmple 41 39 (am_run (c_Text_numberEnd s_Text_at s_Text_wordEnd s_Text_isDigit) k_Text_numberEnd J K n) K 36 L S M := rfl
theorem r_Text_numberEnd_39 {s_Text_at : aS} {s_Text_wordEnd : aS} {s_Text_isDigit : aS} {J : aJ} {K : aR} {n : Nat} {L : aL} {S : List Value} {M : aM} : am_run (c_Text_numberEnd s_Text_at s_Text_wordEnd s_Text_isDigit) k_Text_numberEnd J K (n + 1) 39 L S M = ai_const (-1) 40 (am_run (c_Text_numberEnd s_Text_at s_Text_wordEnd s_Text_isDigit) k_Text_numberEnd J K n) K 39 L S M := rfl
theorem r_Text_numberEnd_40 {s_Text_at : aS} {s_Text_wordEnd : aS} {s_Text_isDigit : aS} {J : aJ} {K : aR} {n : Nat} {L : aL} {S : List Value} {M : aM} : am_run (c_Text_numberEnd s_Text_at s_Text_wordEnd s_Text_isDigit) k_Text_numberEnd J K (n + 1) 40 L S M = ai_iret (am_run (c_Text_numberEnd s_Text_at s_Text_wordEnd s_Text_isDigit) k_Text_numberEnd J K n) K 40 L S M := rfl
theorem r_Text_numberEnd_41 {s_Text_at : aS} {s_Text_wordEnd : aS} {s_Text_isDigit : aS} {J : aJ} {K : aR} {n : Nat} {L : aL} {S : List Value} {M : aM} : am_run (c_Text_numberEnd s_Text_at s_Text_wordEnd s_Text_isDigit) k_Text_numberEnd J K (n + 1) 41 L S M = ai_iload 2 42 (am_run (c_Text_numberEnd s_Text_at s_Text_wordEnd s_Text_isDigit) k_Text_numberEnd J K n) K 41 L S M := rfl
theorem r_Text_numberEnd_42 {s_Text_at : aS} {s_Text_wordEnd : aS} {s_Text_isDigit : aS} {J : aJ} {K : aR} {n : Nat} {L : aL} {S : List Value} {M : aM} : am_run (c_Text_numberEnd s_Text_at s_Text_wordEnd s_Text_isDigit) k_Text_numberEnd J K (n + 1) 42 L S M = ai_istore 4 44 (am_run (c_Text_numberEnd s_Text_at s_Text_wordEnd s_Text_isDigit) k_Text_numberEnd J K n) K 42 L S M := rfl
theorem r_Text_numberEnd_44 {s_Text_at : aS} {s_Text_wordEnd : aS} {s_Text_isDigit : aS} {J : aJ} {K : aR} {n : Nat} {L : aL} {S : List Value} {M : aM} : am_run (c_Text_numberEnd s_Text_at s_Text_wordEnd s_Text_isDigit) k_Text_numberEnd J K (n + 1) 44 L S M = J 44 L S M := rfl
theorem r_Text_numberEnd_46 {s_Text_at : aS} {s_Text_wordEnd : aS} {s_Text_isDigit : aS} {J : aJ} {K : aR} {n : Nat} {L : aL} {S : List Value} {M : aM} : am_run (c_Text_numberEnd s_Text_at s_Text_wordEnd s_Text_isDigit) k_Text_numberEnd J K (n + 1) 46 L S M = ai_iload 3 47 (am_run (c_Text_numberEnd s_Text_at s_Text_wordEnd s_Text_isDigit) k_Text_numberEnd J K n) K 46 L S M := rfl
theorem r_Text_numberEnd_47 {s_Text_at : aS} {s_Text_wordEnd : aS} {s_Text_isDigit : aS} {J : aJ} {K : aR} {n : Nat} {L : aL} {S : List Value} {M : aM} : am_run (c_Text_numberEnd s_Text_at s_Text_wordEnd s_Text_isDigit) k_Text_numberEnd J K (n + 1) 47 L S M = ai_cmpge 70 50 (am_run (c_Text_numberEnd s_Text_at s_Text_wordEnd s_Text_isDigit) k_Text_numberEnd J K n) K 47 L S M := rfl
theorem r_Text_numberEnd_50 {s_Text_at : aS} {s_Text_wordEnd : aS} {s_Text_isDigit : aS} {J : aJ} {K : aR} {n : Nat} {L : aL} {S : List Value} {M : aM} : am_run (c_Text_numberEnd s_Text_at s_Text_wordEnd s_Text_isDigit) k_Text_numberEnd J K (n + 1) 50 L S M = ai_aload 0 51 (am_run (c_Text_numberEnd s_Text_at s_Text_wordEnd s_Text_isDigit) k_Text_numberEnd J K n) K 50 L S M := rfl
theorem r_Text_numberEnd_51 {s_Text_at : aS} {s_Text_wordEnd : aS} {s_Text_isDigit : aS} {J : aJ} {K : aR} {n : Nat} {L : aL} {S : List Value} {M : aM} : am_run (c_Text_numberEnd s_Text_at s_Text_wordEnd s_Text_isDigit) k_Text_numberEnd J K (n + 1) 51 L S M = ai_iload 4 53 (am_run (c_Text_numberEnd s_Text_at s_Text_wordEnd s_Text_isDigit) k_Text_numberEnd J K n) K 51 L S M := rfl
theorem r_Text_numberEnd_53 {s_Text_at : aS} {s_Text_wordEnd : aS} {s_Text_isDigit : aS} {J : aJ} {K : aR} {n : Nat} {L : aL} {S : List Value} {M : aM} : am_run (c_Text_numberEnd s_Text_at s_Text_wordEnd s_Text_isDigit) k_Text_numberEnd J K (n + 1) 53 L S M = ai_callv2 2 s_Text_at 56 (am_run (c_Text_numberEnd s_Text_at s_Text_wordEnd s_Text_isDigit) k_Text_numberEnd J K n) K 53 L S M := rfl
theorem r_Text_numberEnd_56 {s_Text_at : aS} {s_Text_wordEnd : aS} {s_Text_isDigit : aS} {J : aJ} {K : aR} {n : Nat} {L : aL} {S : List Value} {M : aM} : am_run (c_Text_numberEnd s_Text_at s_Text_wordEnd s_Text_isDigit) k_Text_numberEnd J K (n + 1) 56 L S M = ai_calls1 s_Text_isDigit 59 (am_run (c_Text_numberEnd s_Text_at s_Text_wordEnd s_Text_isDigit) k_Text_numberEnd J K n) K 56 L S M := rfl
theorem r_Text_numberEnd_59 {s_Text_at : aS} {s_Text_wordEnd : aS} {s_Text_isDigit : aS} {J : aJ} {K : aR} {n : Nat} {L : aL} {S : List Value} {M : aM} : am_run (c_Text_numberEnd s_Text_at s_Text_wordEnd s_Text_isDigit) k_Text_numberEnd J K (n + 1) 59 L S M = ai_ifne 64 62 (am_run (c_Text_numberEnd s_Text_at s_Text_wordEnd s_Text_isDigit) k_Text_numberEnd J K n) K 59 L S M := rfl
theorem r_Text_numberEnd_62 {s_Text_at : aS} {s_Text_wordEnd : aS} {s_Text_isDigit : aS} {J : aJ} {K : aR} {n : Nat} {L : aL} {S : List Value} {M : aM} : am_run (c_Text_numberEnd s_Text_at s_Text_wordEnd s_Text_isDigit) k_Text_numberEnd J K (n + 1) 62 L S M = ai_const (-1) 63 (am_run (c_Text_numberEnd s_Text_at s_Text_wordEnd s_Text_isDigit) k_Text_numberEnd J K n) K 62 L S M := rfl
theorem r_Text_numberEnd_63 {s_Text_at : aS} {s_Text_wordEnd : aS} {s_Text_isDigit : aS} {J : aJ} {K : aR} {n : Nat} {L : aL} {S : List Value} {M : aM} : am_run (c_Text_numberEnd s_Text_at s_Text_wordEnd s_Text_isDigit) k_Text_numberEnd J K (n + 1) 63 L S M = ai_iret (am_run (c_Text_numberEnd s_Text_at s_Text_wordEnd s_Text_isDigit) k_Text_numberEnd J K n) K 63 L S M := rfl
theorem r_Text_numberEnd_64 {s_Text_at : aS} {s_Text_wordEnd : aS} {s_Text_isDigit : aS} {J : aJ} {K : aR} {n : Nat} {L : aL} {S : List Value} {M : aM} : am_run (c_Text_numberEnd s_Text_at s_Text_wordEnd s_Text_isDigit) k_Text_numberEnd J K (n + 1) 64 L S M = ai_iinc 4 1 67 (am_run (c_Text_numberEnd s_Text_at s_Text_wordEnd s_Text_isDigit) k_Text_numberEnd J K n) K 64 L S M := rfl
theorem r_Text_numberEnd_67 {s_Text_at : aS} {s_Text_wordEnd : aS} {s_Text_isDigit : aS} {J : aJ} {K : aR} {n : Nat} {L : aL} {S : List Value} {M : aM} : am_run (c_Text_numberEnd s_Text_at s_Text_wordEnd s_Text_isDigit) k_Text_numberEnd J K (n + 1) 67 L S M = ai_goto 44 (am_run (c_Text_numberEnd s_Text_at s_Text_wordEnd s_Text_isDigit) k_Text_numberEnd J K n) K 67 L S M := rfl
theorem r_Text_numberEnd_70 {s_Text_at : aS} {s_Text_wordEnd : aS} {s_Text_isDigit : aS} {J : aJ} {K : aR} {n : Nat} {L : aL} {S : List Value} {M : aM} : am_run (c_Text_numberEnd s_Text_at s_Text_wordEnd s_Text_isDigit) k_Text_numberEnd J K (n + 1) 70 L S M = ai_iload 3 71 (am_run (c_Text_numberEnd s_Text_at s_Text_wordEnd s_Text_isDigit) k_Text_numberEnd J K n) K 70 L S M := rfl
theorem r_Text_numberEnd_71 {s_Text_at : aS} {s_Text_wordEnd : aS} {s_Text_isDigit : aS} {J : aJ} {K : aR} {n : Nat} {L : aL} {S : List Value} {M : aM} : am_run (c_Text_numberEnd s_Text_at s_Text_wordEnd s_Text_isDigit) k_Text_numberEnd J K (n + 1) 71 L S M = ai_iret (am_run (c_Text_numberEnd s_Text_at s_Text_wordEnd s_Text_isDigit) k_Text_numberEnd J K n) K 71 L S M := rfl
def c_Text_nameEnd (s_Text_wordEnd : aS) : List (Nat × aI) := [
  (0, ai_aload 0 1),
  (1, ai_iload 1 2),
  (2, ai_callv2 2 s_Text_wordEnd 5),
  (5, ai_istore 2 6),
  (6, ai_iload 2 7),
  (7, ai_iload 1 8),
  (8, ai_isub 9),
  (9, ai_const 12 11),
  (11, ai_cmpgt 18 14),
  (14, ai_iload 2 15),
  (15, ai_goto 19),
  (18, ai_const (-1) 19),
  (19, ai_iret)]
set_option maxRecDepth 100000 in
set_option maxHeartbeats 4000000 in
theorem tb_Text_nameEnd {G : aG} {d : Nat} {s_Text_wordEnd : aS} {d_Text_wordEnd : Nat} (h_Text_wordEnd : am_Sp G Y_Text_wordEnd d_Text_wordEnd s_Text_wordEnd) (l_Text_wordEnd : d_Text_wordEnd < d) : am_tab G Y_Text_nameEnd d (c_Text_nameEnd s_Text_wordEnd) := by
  intro K p e s m args below meth c C
  exact ⟨as_aload_n C (pc := 0) (q := 0) (by decide +kernel) rfl rfl,
    as_iload_n C (pc := 1) (q := 1) (by decide +kernel) rfl rfl,
    as_callv2 C (pc := 2) h_Text_wordEnd (T := T_Text) (N := 2) rfl w_292 w_71 w_291 w_9 w_289 hy_Text_wordEnd (am_rm_of l_Text_wordEnd (by decide)) (by decide +kernel) rfl,
    as_istore_n C (pc := 5) (q := 2) (by decide +kernel) rfl (by decide) rfl,
    as_iload_n C (pc := 6) (q := 2) (by decide +kernel) rfl rfl,
    as_iload_n C (pc := 7) (q := 1) (by decide +kernel) rfl rfl,
    as_isub C (pc := 8) (by decide +kernel) rfl,
    as_bipush C (pc := 9) (n := 12) (by decide +kernel) (by decide +kernel) rfl,
    as_cmpgt C (pc := 11) (off := 7) (by decide +kernel) (by decide) rfl,
    as_iload_n C (pc := 14) (q := 2) (by decide +kernel) rfl rfl,
    as_goto C (pc := 15) (off := 4) (by decide +kernel) (by decide),
    as_iconst C (pc := 18) (n := (-1)) (by decide +kernel) (by decide +kernel) rfl,
    as_iret C (pc := 19) rfl (by decide +kernel), trivial⟩
abbrev k_Text_nameEnd : List Nat := []
theorem r_Text_nameEnd_0 {s_Text_wordEnd : aS} {J : aJ} {K : aR} {n : Nat} {L : aL} {S : List Value} {M : aM} : am_run (c_Text_nameEnd s_Text_wordEnd) k_Text_nameEnd J K (n + 1) 0 L S M = ai_aload 0 1 (am_run (c_Text_nameEnd s_Text_wordEnd) k_Text_nameEnd J K n) K 0 L S M := rfl
theorem r_Text_nameEnd_1 {s_Text_wordEnd : aS} {J : aJ} {K : aR} {n : Nat} {L : aL} {S : List Value} {M : aM} : am_run (c_Text_nameEnd s_Text_wordEnd) k_Text_nameEnd J K (n + 1) 1 L S M = ai_iload 1 2 (am_run (c_Text_nameEnd s_Text_wordEnd) k_Text_nameEnd J K n) K 1 L S M := rfl
theorem r_Text_nameEnd_2 {s_Text_wordEnd : aS} {J : aJ} {K : aR} {n : Nat} {L : aL} {S : List Value} {M : aM} : am_run (c_Text_nameEnd s_Text_wordEnd) k_Text_nameEnd J K (n + 1) 2 L S M = ai_callv2 2 s_Text_wordEnd 5 (am_run (c_Text_nameEnd s_Text_wordEnd) k_Text_nameEnd J K n) K 2 L S M := rfl
theorem r_Text_nameEnd_5 {s_Text_wordEnd : aS} {J : aJ} {K : aR} {n : Nat} {L : aL} {S : List Value} {M : aM} : am_run (c_Text_nameEnd s_Text_wordEnd) k_Text_nameEnd J K (n + 1) 5 L S M = ai_istore 2 6 (am_run (c_Text_nameEnd s_Text_wordEnd) k_Text_nameEnd J K n) K 5 L S M := rfl
theorem r_Text_nameEnd_6 {s_Text_wordEnd : aS} {J : aJ} {K : aR} {n : Nat} {L : aL} {S : List Value} {M : aM} : am_run (c_Text_nameEnd s_Text_wordEnd) k_Text_nameEnd J K (n + 1) 6 L S M = ai_iload 2 7 (am_run (c_Text_nameEnd s_Text_wordEnd) k_Text_nameEnd J K n) K 6 L S M := rfl
theorem r_Text_nameEnd_7 {s_Text_wordEnd : aS} {J : aJ} {K : aR} {n : Nat} {L : aL} {S : List Value} {M : aM} : am_run (c_Text_nameEnd s_Text_wordEnd) k_Text_nameEnd J K (n + 1) 7 L S M = ai_iload 1 8 (am_run (c_Text_nameEnd s_Text_wordEnd) k_Text_nameEnd J K n) K 7 L S M := rfl
theorem r_Text_nameEnd_8 {s_Text_wordEnd : aS} {J : aJ} {K : aR} {n : Nat} {L : aL} {S : List Value} {M : aM} : am_run (c_Text_nameEnd s_Text_wordEnd) k_Text_nameEnd J K (n + 1) 8 L S M = ai_isub 9 (am_run (c_Text_nameEnd s_Text_wordEnd) k_Text_nameEnd J K n) K 8 L S M := rfl
theorem r_Text_nameEnd_9 {s_Text_wordEnd : aS} {J : aJ} {K : aR} {n : Nat} {L : aL} {S : List Value} {M : aM} : am_run (c_Text_nameEnd s_Text_wordEnd) k_Text_nameEnd J K (n + 1) 9 L S M = ai_const 12 11 (am_run (c_Text_nameEnd s_Text_wordEnd) k_Text_nameEnd J K n) K 9 L S M := rfl
theorem r_Text_nameEnd_11 {s_Text_wordEnd : aS} {J : aJ} {K : aR} {n : Nat} {L : aL} {S : List Value} {M : aM} : am_run (c_Text_nameEnd s_Text_wordEnd) k_Text_nameEnd J K (n + 1) 11 L S M = ai_cmpgt 18 14 (am_run (c_Text_nameEnd s_Text_wordEnd) k_Text_nameEnd J K n) K 11 L S M := rfl
theorem r_Text_nameEnd_14 {s_Text_wordEnd : aS} {J : aJ} {K : aR} {n : Nat} {L : aL} {S : List Value} {M : aM} : am_run (c_Text_nameEnd s_Text_wordEnd) k_Text_nameEnd J K (n + 1) 14 L S M = ai_iload 2 15 (am_run (c_Text_nameEnd s_Text_wordEnd) k_Text_nameEnd J K n) K 14 L S M := rfl
theorem r_Text_nameEnd_15 {s_Text_wordEnd : aS} {J : aJ} {K : aR} {n : Nat} {L : aL} {S : List Value} {M : aM} : am_run (c_Text_nameEnd s_Text_wordEnd) k_Text_nameEnd J K (n + 1) 15 L S M = ai_goto 19 (am_run (c_Text_nameEnd s_Text_wordEnd) k_Text_nameEnd J K n) K 15 L S M := rfl
theorem r_Text_nameEnd_18 {s_Text_wordEnd : aS} {J : aJ} {K : aR} {n : Nat} {L : aL} {S : List Value} {M : aM} : am_run (c_Text_nameEnd s_Text_wordEnd) k_Text_nameEnd J K (n + 1) 18 L S M = ai_const (-1) 19 (am_run (c_Text_nameEnd s_Text_wordEnd) k_Text_nameEnd J K n) K 18 L S M := rfl
theorem r_Text_nameEnd_19 {s_Text_wordEnd : aS} {J : aJ} {K : aR} {n : Nat} {L : aL} {S : List Value} {M : aM} : am_run (c_Text_nameEnd s_Text_wordEnd) k_Text_nameEnd J K (n + 1) 19 L S M = ai_iret (am_run (c_Text_nameEnd s_Text_wordEnd) k_Text_nameEnd J K n) K 19 L S M := rfl
def c_Text_wordEnd (s_Text_at : aS) (s_Text_isWordByte : aS) : List (Nat × aI) := [
  (0, ai_iload 1 1),
  (1, ai_istore 2 2),
  (2, ai_iload 2 3),
  (3, ai_aload 0 4),
  (4, ai_getf 2 1 7),
  (7, ai_cmpge 27 10),
  (10, ai_aload 0 11),
  (11, ai_iload 2 12),
  (12, ai_callv2 2 s_Text_at 15),
  (15, ai_calls1 s_Text_isWordByte 18),
  (18, ai_ifeq 27 21),
  (21, ai_iinc 2 1 24),
  (24, ai_goto 2),
  (27, ai_iload 2 28),
  (28, ai_iret)]
set_option maxRecDepth 100000 in
set_option maxHeartbeats 4000000 in
theorem tb_Text_wordEnd {G : aG} {d : Nat} {s_Text_at : aS} {d_Text_at : Nat} (h_Text_at : am_Sp G Y_Text_at d_Text_at s_Text_at) (l_Text_at : d_Text_at < d) {s_Text_isWordByte : aS} {d_Text_isWordByte : Nat} (h_Text_isWordByte : am_Sp G Y_Text_isWordByte d_Text_isWordByte s_Text_isWordByte) (l_Text_isWordByte : d_Text_isWordByte < d) : am_tab G Y_Text_wordEnd d (c_Text_wordEnd s_Text_at s_Text_isWordByte) := by
  intro K p e s m args below meth c C
  exact ⟨as_iload_n C (pc := 0) (q := 1) (by decide +kernel) rfl rfl,
    as_istore_n C (pc := 1) (q := 2) (by decide +kernel) rfl (by decide) rfl,
    as_iload_n C (pc := 2) (q := 2) (by decide +kernel) rfl rfl,
    as_aload_n C (pc := 3) (q := 0) (by decide +kernel) rfl rfl,
    as_getf C (pc := 4) (T := T_Text) (N := 2) rfl in_Text (by decide) rfl w_99 (by decide +kernel) rfl,
    as_cmpge C (pc := 7) (off := 20) (by decide +kernel) (by decide) rfl,
    as_aload_n C (pc := 10) (q := 0) (by decide +kernel) rfl rfl,
    as_iload_n C (pc := 11) (q := 2) (by decide +kernel) rfl rfl,
    as_callv2 C (pc := 12) h_Text_at (T := T_Text) (N := 2) rfl w_270 w_71 w_269 w_5 w_267 hy_Text_at (am_rm_of l_Text_at (by decide)) (by decide +kernel) rfl,
    as_calls1 C (pc := 15) h_Text_isWordByte w_280 w_71 w_279 w_278 hy_Text_isWordByte (am_rm_of l_Text_isWordByte (by decide)) (by decide +kernel) rfl,
    as_ifeq C (pc := 18) (off := 9) (by decide +kernel) (by decide) rfl,
    as_iinc C (pc := 21) (k := 2) (n := 1) (by decide +kernel) (by decide +kernel) (by decide) rfl,
    as_goto C (pc := 24) (off := (-22)) (by decide +kernel) (by decide),
    as_iload_n C (pc := 27) (q := 2) (by decide +kernel) rfl rfl,
    as_iret C (pc := 28) rfl (by decide +kernel), trivial⟩
abbrev k_Text_wordEnd : List Nat := [2]
theorem q_Text_wordEnd_2 {s_Text_at : aS} {s_Text_isWordByte : aS} : am_at (c_Text_wordEnd s_Text_at s_Text_isWordByte) 2 = ai_iload 2 3 := rfl
theorem r_Text_wordEnd_0 {s_Text_at : aS} {s_Text_isWordByte : aS} {J : aJ} {K : aR} {n : Nat} {L : aL} {S : List Value} {M : aM} : am_run (c_Text_wordEnd s_Text_at s_Text_isWordByte) k_Text_wordEnd J K (n + 1) 0 L S M = ai_iload 1 1 (am_run (c_Text_wordEnd s_Text_at s_Text_isWordByte) k_Text_wordEnd J K n) K 0 L S M := rfl
theorem r_Text_wordEnd_1 {s_Text_at : aS} {s_Text_isWordByte : aS} {J : aJ} {K : aR} {n : Nat} {L : aL} {S : List Value} {M : aM} : am_run (c_Text_wordEnd s_Text_at s_Text_isWordByte) k_Text_wordEnd J K (n + 1) 1 L S M = ai_istore 2 2 (am_run (c_Text_wordEnd s_Text_at s_Text_isWordByte) k_Text_wordEnd J K n) K 1 L S M := rfl
theorem r_Text_wordEnd_2 {s_Text_at : aS} {s_Text_isWordByte : aS} {J : aJ} {K : aR} {n : Nat} {L : aL} {S : List Value} {M : aM} : am_run (c_Text_wordEnd s_Text_at s_Text_isWordByte) k_Text_wordEnd J K (n + 1) 2 L S M = J 2 L S M := rfl
theorem r_Text_wordEnd_3 {s_Text_at : aS} {s_Text_isWordByte : aS} {J : aJ} {K : aR} {n : Nat} {L : aL} {S : List Value} {M : aM} : am_run (c_Text_wordEnd s_Text_at s_Text_isWordByte) k_Text_wordEnd J K (n + 1) 3 L S M = ai_aload 0 4 (am_run (c_Text_wordEnd s_Text_at s_Text_isWordByte) k_Text_wordEnd J K n) K 3 L S M := rfl
theorem r_Text_wordEnd_4 {s_Text_at : aS} {s_Text_isWordByte : aS} {J : aJ} {K : aR} {n : Nat} {L : aL} {S : List Value} {M : aM} : am_run (c_Text_wordEnd s_Text_at s_Text_isWordByte) k_Text_wordEnd J K (n + 1) 4 L S M = ai_getf 2 1 7 (am_run (c_Text_wordEnd s_Text_at s_Text_isWordByte) k_Text_wordEnd J K n) K 4 L S M := rfl
theorem r_Text_wordEnd_7 {s_Text_at : aS} {s_Text_isWordByte : aS} {J : aJ} {K : aR} {n : Nat} {L : aL} {S : List Value} {M : aM} : am_run (c_Text_wordEnd s_Text_at s_Text_isWordByte) k_Text_wordEnd J K (n + 1) 7 L S M = ai_cmpge 27 10 (am_run (c_Text_wordEnd s_Text_at s_Text_isWordByte) k_Text_wordEnd J K n) K 7 L S M := rfl
theorem r_Text_wordEnd_10 {s_Text_at : aS} {s_Text_isWordByte : aS} {J : aJ} {K : aR} {n : Nat} {L : aL} {S : List Value} {M : aM} : am_run (c_Text_wordEnd s_Text_at s_Text_isWordByte) k_Text_wordEnd J K (n + 1) 10 L S M = ai_aload 0 11 (am_run (c_Text_wordEnd s_Text_at s_Text_isWordByte) k_Text_wordEnd J K n) K 10 L S M := rfl
theorem r_Text_wordEnd_11 {s_Text_at : aS} {s_Text_isWordByte : aS} {J : aJ} {K : aR} {n : Nat} {L : aL} {S : List Value} {M : aM} : am_run (c_Text_wordEnd s_Text_at s_Text_isWordByte) k_Text_wordEnd J K (n + 1) 11 L S M = ai_iload 2 12 (am_run (c_Text_wordEnd s_Text_at s_Text_isWordByte) k_Text_wordEnd J K n) K 11 L S M := rfl
theorem r_Text_wordEnd_12 {s_Text_at : aS} {s_Text_isWordByte : aS} {J : aJ} {K : aR} {n : Nat} {L : aL} {S : List Value} {M : aM} : am_run (c_Text_wordEnd s_Text_at s_Text_isWordByte) k_Text_wordEnd J K (n + 1) 12 L S M = ai_callv2 2 s_Text_at 15 (am_run (c_Text_wordEnd s_Text_at s_Text_isWordByte) k_Text_wordEnd J K n) K 12 L S M := rfl
theorem r_Text_wordEnd_15 {s_Text_at : aS} {s_Text_isWordByte : aS} {J : aJ} {K : aR} {n : Nat} {L : aL} {S : List Value} {M : aM} : am_run (c_Text_wordEnd s_Text_at s_Text_isWordByte) k_Text_wordEnd J K (n + 1) 15 L S M = ai_calls1 s_Text_isWordByte 18 (am_run (c_Text_wordEnd s_Text_at s_Text_isWordByte) k_Text_wordEnd J K n) K 15 L S M := rfl
theorem r_Text_wordEnd_18 {s_Text_at : aS} {s_Text_isWordByte : aS} {J : aJ} {K : aR} {n : Nat} {L : aL} {S : List Value} {M : aM} : am_run (c_Text_wordEnd s_Text_at s_Text_isWordByte) k_Text_wordEnd J K (n + 1) 18 L S M = ai_ifeq 27 21 (am_run (c_Text_wordEnd s_Text_at s_Text_isWordByte) k_Text_wordEnd J K n) K 18 L S M := rfl
theorem r_Text_wordEnd_21 {s_Text_at : aS} {s_Text_isWordByte : aS} {J : aJ} {K : aR} {n : Nat} {L : aL} {S : List Value} {M : aM} : am_run (c_Text_wordEnd s_Text_at s_Text_isWordByte) k_Text_wordEnd J K (n + 1) 21 L S M = ai_iinc 2 1 24 (am_run (c_Text_wordEnd s_Text_at s_Text_isWordByte) k_Text_wordEnd J K n) K 21 L S M := rfl
theorem r_Text_wordEnd_24 {s_Text_at : aS} {s_Text_isWordByte : aS} {J : aJ} {K : aR} {n : Nat} {L : aL} {S : List Value} {M : aM} : am_run (c_Text_wordEnd s_Text_at s_Text_isWordByte) k_Text_wordEnd J K (n + 1) 24 L S M = ai_goto 2 (am_run (c_Text_wordEnd s_Text_at s_Text_isWordByte) k_Text_wordEnd J K n) K 24 L S M := rfl
theorem r_Text_wordEnd_27 {s_Text_at : aS} {s_Text_isWordByte : aS} {J : aJ} {K : aR} {n : Nat} {L : aL} {S : List Value} {M : aM} : am_run (c_Text_wordEnd s_Text_at s_Text_isWordByte) k_Text_wordEnd J K (n + 1) 27 L S M = ai_iload 2 28 (am_run (c_Text_wordEnd s_Text_at s_Text_isWordByte) k_Text_wordEnd J K n) K 27 L S M := rfl
theorem r_Text_wordEnd_28 {s_Text_at : aS} {s_Text_isWordByte : aS} {J : aJ} {K : aR} {n : Nat} {L : aL} {S : List Value} {M : aM} : am_run (c_Text_wordEnd s_Text_at s_Text_isWordByte) k_Text_wordEnd J K (n + 1) 28 L S M = ai_iret (am_run (c_Text_wordEnd s_Text_at s_Text_isWordByte) k_Text_wordEnd J K n) K 28 L S M := rfl
def c_Text_stringEnd (s_Text_at : aS) : List (Nat × aI) := [
  (0, ai_iload 1 1),
  (1, ai_const 1 2),
  (2, ai_iadd 3),
  (3, ai_istore 2 4),
  (4, ai_const 0 5),
  (5, ai_istore 3 6),
  (6, ai_iload 3 7),
  (7, ai_const 20 9),
  (9, ai_cmpgt 88 12),
  (12, ai_aload 0 13),
  (13, ai_iload 2 14),
  (14, ai_callv2 2 s_Text_at 17),
  (17, ai_istore 4 19),
  (19, ai_iload 4 21),
  (21, ai_const 34 23),
  (23, ai_cmpne 30 26),
  (26, ai_iload 2 27),
  (27, ai_const 1 28),
  (28, ai_iadd 29),
  (29, ai_iret),
  (30, ai_iload 4 32),
  (32, ai_const 92 34),
  (34, ai_cmpne 63 37),
  (37, ai_iinc 2 1 40),
  (40, ai_aload 0 41),
  (41, ai_iload 2 42),
  (42, ai_callv2 2 s_Text_at 45),
  (45, ai_istore 4 47),
  (47, ai_iload 4 49),
  (49, ai_const 34 51),
  (51, ai_cmpeq 63 54),
  (54, ai_iload 4 56),
  (56, ai_const 92 58),
  (58, ai_cmpeq 63 61),
  (61, ai_const (-1) 62),
  (62, ai_iret),
  (63, ai_iload 4 65),
  (65, ai_const 32 67),
  (67, ai_cmplt 77 70),
  (70, ai_iload 4 72),
  (72, ai_const 126 74),
  (74, ai_cmple 79 77),
  (77, ai_const (-1) 78),
  (78, ai_iret),
  (79, ai_iinc 2 1 82),
  (82, ai_iinc 3 1 85),
  (85, ai_goto 6),
  (88, ai_const (-1) 89),
  (89, ai_iret)]
set_option maxRecDepth 100000 in
set_option maxHeartbeats 4000000 in
theorem tb_Text_stringEnd {G : aG} {d : Nat} {s_Text_at : aS} {d_Text_at : Nat} (h_Text_at : am_Sp G Y_Text_at d_Text_at s_Text_at) (l_Text_at : d_Text_at < d) : am_tab G Y_Text_stringEnd d (c_Text_stringEnd s_Text_at) := by
  intro K p e s m args below meth c C
  exact ⟨as_iload_n C (pc := 0) (q := 1) (by decide +kernel) rfl rfl,
    as_iconst C (pc := 1) (n := 1) (by decide +kernel) (by decide +kernel) rfl,
    as_iadd C (pc := 2) (by decide +kernel) rfl,
    as_istore_n C (pc := 3) (q := 2) (by decide +kernel) rfl (by decide) rfl,
    as_iconst C (pc := 4) (n := 0) (by decide +kernel) (by decide +kernel) rfl,
    as_istore_n C (pc := 5) (q := 3) (by decide +kernel) rfl (by decide) rfl,
    as_iload_n C (pc := 6) (q := 3) (by decide +kernel) rfl rfl,
    as_bipush C (pc := 7) (n := 20) (by decide +kernel) (by decide +kernel) rfl,
    as_cmpgt C (pc := 9) (off := 79) (by decide +kernel) (by decide) rfl,
    as_aload_n C (pc := 12) (q := 0) (by decide +kernel) rfl rfl,
    as_iload_n C (pc := 13) (q := 2) (by decide +kernel) rfl rfl,
    as_callv2 C (pc := 14) h_Text_at (T := T_Text) (N := 2) rfl w_270 w_71 w_269 w_5 w_267 hy_Text_at (am_rm_of l_Text_at (by decide)) (by decide +kernel) rfl,
    as_istore C (pc := 17) (k := 4) (by decide +kernel) (by decide) rfl,
    as_iload C (pc := 19) (k := 4) (by decide +kernel) rfl,
    as_bipush C (pc := 21) (n := 34) (by decide +kernel) (by decide +kernel) rfl,
    as_cmpne C (pc := 23) (off := 7) (by decide +kernel) (by decide) rfl,
    as_iload_n C (pc := 26) (q := 2) (by decide +kernel) rfl rfl,
    as_iconst C (pc := 27) (n := 1) (by decide +kernel) (by decide +kernel) rfl,
    as_iadd C (pc := 28) (by decide +kernel) rfl,
    as_iret C (pc := 29) rfl (by decide +kernel),
    as_iload C (pc := 30) (k := 4) (by decide +kernel) rfl,
    as_bipush C (pc := 32) (n := 92) (by decide +kernel) (by decide +kernel) rfl,
    as_cmpne C (pc := 34) (off := 29) (by decide +kernel) (by decide) rfl,
    as_iinc C (pc := 37) (k := 2) (n := 1) (by decide +kernel) (by decide +kernel) (by decide) rfl,
    as_aload_n C (pc := 40) (q := 0) (by decide +kernel) rfl rfl,
    as_iload_n C (pc := 41) (q := 2) (by decide +kernel) rfl rfl,
    as_callv2 C (pc := 42) h_Text_at (T := T_Text) (N := 2) rfl w_270 w_71 w_269 w_5 w_267 hy_Text_at (am_rm_of l_Text_at (by decide)) (by decide +kernel) rfl,
    as_istore C (pc := 45) (k := 4) (by decide +kernel) (by decide) rfl,
    as_iload C (pc := 47) (k := 4) (by decide +kernel) rfl,
    as_bipush C (pc := 49) (n := 34) (by decide +kernel) (by decide +kernel) rfl,
    as_cmpeq C (pc := 51) (off := 12) (by decide +kernel) (by decide) rfl,
    as_iload C (pc := 54) (k := 4) (by decide +kernel) rfl,
    as_bipush C (pc := 56) (n := 92) (by decide +kernel) (by decide +kernel) rfl,
    as_cmpeq C (pc := 58) (off := 5) (by decide +kernel) (by decide) rfl,
    as_iconst C (pc := 61) (n := (-1)) (by decide +kernel) (by decide +kernel) rfl,
    as_iret C (pc := 62) rfl (by decide +kernel),
    as_iload C (pc := 63) (k := 4) (by decide +kernel) rfl,
    as_bipush C (pc := 65) (n := 32) (by decide +kernel) (by decide +kernel) rfl,
    as_cmplt C (pc := 67) (off := 10) (by decide +kernel) (by decide) rfl,
    as_iload C (pc := 70) (k := 4) (by decide +kernel) rfl,
    as_bipush C (pc := 72) (n := 126) (by decide +kernel) (by decide +kernel) rfl,
    as_cmple C (pc := 74) (off := 5) (by decide +kernel) (by decide) rfl,
    as_iconst C (pc := 77) (n := (-1)) (by decide +kernel) (by decide +kernel) rfl,
    as_iret C (pc := 78) rfl (by decide +kernel),
    as_iinc C (pc := 79) (k := 2) (n := 1) (by decide +kernel) (by decide +kernel) (by decide) rfl,
    as_iinc C (pc := 82) (k := 3) (n := 1) (by decide +kernel) (by decide +kernel) (by decide) rfl,
    as_goto C (pc := 85) (off := (-79)) (by decide +kernel) (by decide),
    as_iconst C (pc := 88) (n := (-1)) (by decide +kernel) (by decide +kernel) rfl,
    as_iret C (pc := 89) rfl (by decide +kernel), trivial⟩
abbrev k_Text_stringEnd : List Nat := [6]
theorem q_Text_stringEnd_6 {s_Text_at : aS} : am_at (c_Text_stringEnd s_Text_at) 6 = ai_iload 3 7 := rfl
theorem r_Text_stringEnd_0 {s_Text_at : aS} {J : aJ} {K : aR} {n : Nat} {L : aL} {S : List Value} {M : aM} : am_run (c_Text_stringEnd s_Text_at) k_Text_stringEnd J K (n + 1) 0 L S M = ai_iload 1 1 (am_run (c_Text_stringEnd s_Text_at) k_Text_stringEnd J K n) K 0 L S M := rfl
theorem r_Text_stringEnd_1 {s_Text_at : aS} {J : aJ} {K : aR} {n : Nat} {L : aL} {S : List Value} {M : aM} : am_run (c_Text_stringEnd s_Text_at) k_Text_stringEnd J K (n + 1) 1 L S M = ai_const 1 2 (am_run (c_Text_stringEnd s_Text_at) k_Text_stringEnd J K n) K 1 L S M := rfl
theorem r_Text_stringEnd_2 {s_Text_at : aS} {J : aJ} {K : aR} {n : Nat} {L : aL} {S : List Value} {M : aM} : am_run (c_Text_stringEnd s_Text_at) k_Text_stringEnd J K (n + 1) 2 L S M = ai_iadd 3 (am_run (c_Text_stringEnd s_Text_at) k_Text_stringEnd J K n) K 2 L S M := rfl
theorem r_Text_stringEnd_3 {s_Text_at : aS} {J : aJ} {K : aR} {n : Nat} {L : aL} {S : List Value} {M : aM} : am_run (c_Text_stringEnd s_Text_at) k_Text_stringEnd J K (n + 1) 3 L S M = ai_istore 2 4 (am_run (c_Text_stringEnd s_Text_at) k_Text_stringEnd J K n) K 3 L S M := rfl
theorem r_Text_stringEnd_4 {s_Text_at : aS} {J : aJ} {K : aR} {n : Nat} {L : aL} {S : List Value} {M : aM} : am_run (c_Text_stringEnd s_Text_at) k_Text_stringEnd J K (n + 1) 4 L S M = ai_const 0 5 (am_run (c_Text_stringEnd s_Text_at) k_Text_stringEnd J K n) K 4 L S M := rfl
theorem r_Text_stringEnd_5 {s_Text_at : aS} {J : aJ} {K : aR} {n : Nat} {L : aL} {S : List Value} {M : aM} : am_run (c_Text_stringEnd s_Text_at) k_Text_stringEnd J K (n + 1) 5 L S M = ai_istore 3 6 (am_run (c_Text_stringEnd s_Text_at) k_Text_stringEnd J K n) K 5 L S M := rfl
theorem r_Text_stringEnd_6 {s_Text_at : aS} {J : aJ} {K : aR} {n : Nat} {L : aL} {S : List Value} {M : aM} : am_run (c_Text_stringEnd s_Text_at) k_Text_stringEnd J K (n + 1) 6 L S M = J 6 L S M := rfl
theorem r_Text_stringEnd_7 {s_Text_at : aS} {J : aJ} {K : aR} {n : Nat} {L : aL} {S : List Value} {M : aM} : am_run (c_Text_stringEnd s_Text_at) k_Text_stringEnd J K (n + 1) 7 L S M = ai_const 20 9 (am_run (c_Text_stringEnd s_Text_at) k_Text_stringEnd J K n) K 7 L S M := rfl
theorem r_Text_stringEnd_9 {s_Text_at : aS} {J : aJ} {K : aR} {n : Nat} {L : aL} {S : List Value} {M : aM} : am_run (c_Text_stringEnd s_Text_at) k_Text_stringEnd J K (n + 1) 9 L S M = ai_cmpgt 88 12 (am_run (c_Text_stringEnd s_Text_at) k_Text_stringEnd J K n) K 9 L S M := rfl
theorem r_Text_stringEnd_12 {s_Text_at : aS} {J : aJ} {K : aR} {n : Nat} {L : aL} {S : List Value} {M : aM} : am_run (c_Text_stringEnd s_Text_at) k_Text_stringEnd J K (n + 1) 12 L S M = ai_aload 0 13 (am_run (c_Text_stringEnd s_Text_at) k_Text_stringEnd J K n) K 12 L S M := rfl
theorem r_Text_stringEnd_13 {s_Text_at : aS} {J : aJ} {K : aR} {n : Nat} {L : aL} {S : List Value} {M : aM} : am_run (c_Text_stringEnd s_Text_at) k_Text_stringEnd J K (n + 1) 13 L S M = ai_iload 2 14 (am_run (c_Text_stringEnd s_Text_at) k_Text_stringEnd J K n) K 13 L S M := rfl
theorem r_Text_stringEnd_14 {s_Text_at : aS} {J : aJ} {K : aR} {n : Nat} {L : aL} {S : List Value} {M : aM} : am_run (c_Text_stringEnd s_Text_at) k_Text_stringEnd J K (n + 1) 14 L S M = ai_callv2 2 s_Text_at 17 (am_run (c_Text_stringEnd s_Text_at) k_Text_stringEnd J K n) K 14 L S M := rfl
theorem r_Text_stringEnd_17 {s_Text_at : aS} {J : aJ} {K : aR} {n : Nat} {L : aL} {S : List Value} {M : aM} : am_run (c_Text_stringEnd s_Text_at) k_Text_stringEnd J K (n + 1) 17 L S M = ai_istore 4 19 (am_run (c_Text_stringEnd s_Text_at) k_Text_stringEnd J K n) K 17 L S M := rfl
theorem r_Text_stringEnd_19 {s_Text_at : aS} {J : aJ} {K : aR} {n : Nat} {L : aL} {S : List Value} {M : aM} : am_run (c_Text_stringEnd s_Text_at) k_Text_stringEnd J K (n + 1) 19 L S M = ai_iload 4 21 (am_run (c_Text_stringEnd s_Text_at) k_Text_stringEnd J K n) K 19 L S M := rfl
theorem r_Text_stringEnd_21 {s_Text_at : aS} {J : aJ} {K : aR} {n : Nat} {L : aL} {S : List Value} {M : aM} : am_run (c_Text_stringEnd s_Text_at) k_Text_stringEnd J K (n + 1) 21 L S M = ai_const 34 23 (am_run (c_Text_stringEnd s_Text_at) k_Text_stringEnd J K n) K 21 L S M := rfl
theorem r_Text_stringEnd_23 {s_Text_at : aS} {J : aJ} {K : aR} {n : Nat} {L : aL} {S : List Value} {M : aM} : am_run (c_Text_stringEnd s_Text_at) k_Text_stringEnd J K (n + 1) 23 L S M = ai_cmpne 30 26 (am_run (c_Text_stringEnd s_Text_at) k_Text_stringEnd J K n) K 23 L S M := rfl
theorem r_Text_stringEnd_26 {s_Text_at : aS} {J : aJ} {K : aR} {n : Nat} {L : aL} {S : List Value} {M : aM} : am_run (c_Text_stringEnd s_Text_at) k_Text_stringEnd J K (n + 1) 26 L S M = ai_iload 2 27 (am_run (c_Text_stringEnd s_Text_at) k_Text_stringEnd J K n) K 26 L S M := rfl
theorem r_Text_stringEnd_27 {s_Text_at : aS} {J : aJ} {K : aR} {n : Nat} {L : aL} {S : List Value} {M : aM} : am_run (c_Text_stringEnd s_Text_at) k_Text_stringEnd J K (n + 1) 27 L S M = ai_const 1 28 (am_run (c_Text_stringEnd s_Text_at) k_Text_stringEnd J K n) K 27 L S M := rfl
theorem r_Text_stringEnd_28 {s_Text_at : aS} {J : aJ} {K : aR} {n : Nat} {L : aL} {S : List Value} {M : aM} : am_run (c_Text_stringEnd s_Text_at) k_Text_stringEnd J K (n + 1) 28 L S M = ai_iadd 29 (am_run (c_Text_stringEnd s_Text_at) k_Text_stringEnd J K n) K 28 L S M := rfl
theorem r_Text_stringEnd_29 {s_Text_at : aS} {J : aJ} {K : aR} {n : Nat} {L : aL} {S : List Value} {M : aM} : am_run (c_Text_stringEnd s_Text_at) k_Text_stringEnd J K (n + 1) 29 L S M = ai_iret (am_run (c_Text_stringEnd s_Text_at) k_Text_stringEnd J K n) K 29 L S M := rfl
theorem r_Text_stringEnd_30 {s_Text_at : aS} {J : aJ} {K : aR} {n : Nat} {L : aL} {S : List Value} {M : aM} : am_run (c_Text_stringEnd s_Text_at) k_Text_stringEnd J K (n + 1) 30 L S M = ai_iload 4 32 (am_run (c_Text_stringEnd s_Text_at) k_Text_stringEnd J K n) K 30 L S M := rfl
theorem r_Text_stringEnd_32 {s_Text_at : aS} {J : aJ} {K : aR} {n : Nat} {L : aL} {S : List Value} {M : aM} : am_run (c_Text_stringEnd s_Text_at) k_Text_stringEnd J K (n + 1) 32 L S M = ai_const 92 34 (am_run (c_Text_stringEnd s_Text_at) k_Text_stringEnd J K n) K 32 L S M := rfl
theorem r_Text_stringEnd_34 {s_Text_at : aS} {J : aJ} {K : aR} {n : Nat} {L : aL} {S : List Value} {M : aM} : am_run (c_Text_stringEnd s_Text_at) k_Text_stringEnd J K (n + 1) 34 L S M = ai_cmpne 63 37 (am_run (c_Text_stringEnd s_Text_at) k_Text_stringEnd J K n) K 34 L S M := rfl
theorem r_Text_stringEnd_37 {s_Text_at : aS} {J : aJ} {K : aR} {n : Nat} {L : aL} {S : List Value} {M : aM} : am_run (c_Text_stringEnd s_Text_at) k_Text_stringEnd J K (n + 1) 37 L S M = ai_iinc 2 1 40 (am_run (c_Text_stringEnd s_Text_at) k_Text_stringEnd J K n) K 37 L S M := rfl
theorem r_Text_stringEnd_40 {s_Text_at : aS} {J : aJ} {K : aR} {n : Nat} {L : aL} {S : List Value} {M : aM} : am_run (c_Text_stringEnd s_Text_at) k_Text_stringEnd J K (n + 1) 40 L S M = ai_aload 0 41 (am_run (c_Text_stringEnd s_Text_at) k_Text_stringEnd J K n) K 40 L S M := rfl
theorem r_Text_stringEnd_41 {s_Text_at : aS} {J : aJ} {K : aR} {n : Nat} {L : aL} {S : List Value} {M : aM} : am_run (c_Text_stringEnd s_Text_at) k_Text_stringEnd J K (n + 1) 41 L S M = ai_iload 2 42 (am_run (c_Text_stringEnd s_Text_at) k_Text_stringEnd J K n) K 41 L S M := rfl
theorem r_Text_stringEnd_42 {s_Text_at : aS} {J : aJ} {K : aR} {n : Nat} {L : aL} {S : List Value} {M : aM} : am_run (c_Text_stringEnd s_Text_at) k_Text_stringEnd J K (n + 1) 42 L S M = ai_callv2 2 s_Text_at 45 (am_run (c_Text_stringEnd s_Text_at) k_Text_stringEnd J K n) K 42 L S M := rfl
theorem r_Text_stringEnd_45 {s_Text_at : aS} {J : aJ} {K : aR} {n : Nat} {L : aL} {S : List Value} {M : aM} : am_run (c_Text_stringEnd s_Text_at) k_Text_stringEnd J K (n + 1) 45 L S M = ai_istore 4 47 (am_run (c_Text_stringEnd s_Text_at) k_Text_stringEnd J K n) K 45 L S M := rfl
theorem r_Text_stringEnd_47 {s_Text_at : aS} {J : aJ} {K : aR} {n : Nat} {L : aL} {S : List Value} {M : aM} : am_run (c_Text_stringEnd s_Text_at) k_Text_stringEnd J K (n + 1) 47 L S M = ai_iload 4 49 (am_run (c_Text_stringEnd s_Text_at) k_Text_stringEnd J K n) K 47 L S M := rfl
theorem r_Text_stringEnd_49 {s_Text_at : aS} {J : aJ} {K : aR} {n : Nat} {L : aL} {S : List Value} {M : aM} : am_run (c_Text_stringEnd s_Text_at) k_Text_stringEnd J K (n + 1) 49 L S M = ai_const 34 51 (am_run (c_Text_stringEnd s_Text_at) k_Text_stringEnd J K n) K 49 L S M := rfl
theorem r_Text_stringEnd_51 {s_Text_at : aS} {J : aJ} {K : aR} {n : Nat} {L : aL} {S : List Value} {M : aM} : am_run (c_Text_stringEnd s_Text_at) k_Text_stringEnd J K (n + 1) 51 L S M = ai_cmpeq 63 54 (am_run (c_Text_stringEnd s_Text_at) k_Text_stringEnd J K n) K 51 L S M := rfl
theorem r_Text_stringEnd_54 {s_Text_at : aS} {J : aJ} {K : aR} {n : Nat} {L : aL} {S : List Value} {M : aM} : am_run (c_Text_stringEnd s_Text_at) k_Text_stringEnd J K (n + 1) 54 L S M = ai_iload 4 56 (am_run (c_Text_stringEnd s_Text_at) k_Text_stringEnd J K n) K 54 L S M := rfl
theorem r_Text_stringEnd_56 {s_Text_at : aS} {J : aJ} {K : aR} {n : Nat} {L : aL} {S : List Value} {M : aM} : am_run (c_Text_stringEnd s_Text_at) k_Text_stringEnd J K (n + 1) 56 L S M = ai_const 92 58 (am_run (c_Text_stringEnd s_Text_at) k_Text_stringEnd J K n) K 56 L S M := rfl
theorem r_Text_stringEnd_58 {s_Text_at : aS} {J : aJ} {K : aR} {n : Nat} {L : aL} {S : List Value} {M : aM} : am_run (c_Text_stringEnd s_Text_at) k_Text_stringEnd J K (n + 1) 58 L S M = ai_cmpeq 63 61 (am_run (c_Text_stringEnd s_Text_at) k_Text_stringEnd J K n) K 58 L S M := rfl
theorem r_Text_stringEnd_61 {s_Text_at : aS} {J : aJ} {K : aR} {n : Nat} {L : aL} {S : List Value} {M : aM} : am_run (c_Text_stringEnd s_Text_at) k_Text_stringEnd J K (n + 1) 61 L S M = ai_const (-1) 62 (am_run (c_Text_stringEnd s_Text_at) k_Text_stringEnd J K n) K 61 L S M := rfl
theorem r_Text_stringEnd_62 {s_Text_at : aS} {J : aJ} {K : aR} {n : Nat} {L : aL} {S : List Value} {M : aM} : am_run (c_Text_stringEnd s_Text_at) k_Text_stringEnd J K (n + 1) 62 L S M = ai_iret (am_run (c_Text_stringEnd s_Text_at) k_Text_stringEnd J K n) K 62 L S M := rfl
theorem r_Text_stringEnd_63 {s_Text_at : aS} {J : aJ} {K : aR} {n : Nat} {L : aL} {S : List Value} {M : aM} : am_run (c_Text_stringEnd s_Text_at) k_Text_stringEnd J K (n + 1) 63 L S M = ai_iload 4 65 (am_run (c_Text_stringEnd s_Text_at) k_Text_stringEnd J K n) K 63 L S M := rfl
theorem r_Text_stringEnd_65 {s_Text_at : aS} {J : aJ} {K : aR} {n : Nat} {L : aL} {S : List Value} {M : aM} : am_run (c_Text_stringEnd s_Text_at) k_Text_stringEnd J K (n + 1) 65 L S M = ai_const 32 67 (am_run (c_Text_stringEnd s_Text_at) k_Text_stringEnd J K n) K 65 L S M := rfl
theorem r_Text_stringEnd_67 {s_Text_at : aS} {J : aJ} {K : aR} {n : Nat} {L : aL} {S : List Value} {M : aM} : am_run (c_Text_stringEnd s_Text_at) k_Text_stringEnd J K (n + 1) 67 L S M = ai_cmplt 77 70 (am_run (c_Text_stringEnd s_Text_at) k_Text_stringEnd J K n) K 67 L S M := rfl
theorem r_Text_stringEnd_70 {s_Text_at : aS} {J : aJ} {K : aR} {n : Nat} {L : aL} {S : List Value} {M : aM} : am_run (c_Text_stringEnd s_Text_at) k_Text_stringEnd J K (n + 1) 70 L S M = ai_iload 4 72 (am_run (c_Text_stringEnd s_Text_at) k_Text_stringEnd J K n) K 70 L S M := rfl
theorem r_Text_stringEnd_72 {s_Text_at : aS} {J : aJ} {K : aR} {n : Nat} {L : aL} {S : List Value} {M : aM} : am_run (c_Text_stringEnd s_Text_at) k_Text_stringEnd J K (n + 1) 72 L S M = ai_const 126 74 (am_run (c_Text_stringEnd s_Text_at) k_Text_stringEnd J K n) K 72 L S M := rfl
theorem r_Text_stringEnd_74 {s_Text_at : aS} {J : aJ} {K : aR} {n : Nat} {L : aL} {S : List Value} {M : aM} : am_run (c_Text_stringEnd s_Text_at) k_Text_stringEnd J K (n + 1) 74 L S M = ai_cmple 79 77 (am_run (c_Text_stringEnd s_Text_at) k_Text_stringEnd J K n) K 74 L S M := rfl
theorem r_Text_stringEnd_77 {s_Text_at : aS} {J : aJ} {K : aR} {n : Nat} {L : aL} {S : List Value} {M : aM} : am_run (c_Text_stringEnd s_Text_at) k_Text_stringEnd J K (n + 1) 77 L S M = ai_const (-1) 78 (am_run (c_Text_stringEnd s_Text_at) k_Text_stringEnd J K n) K 77 L S M := rfl
theorem r_Text_stringEnd_78 {s_Text_at : aS} {J : aJ} {K : aR} {n : Nat} {L : aL} {S : List Value} {M : aM} : am_run (c_Text_stringEnd s_Text_at) k_Text_stringEnd J K (n + 1) 78 L S M = ai_iret (am_run (c_Text_stringEnd s_Text_at) k_Text_stringEnd J K n) K 78 L S M := rfl
theorem r_Text_stringEnd_79 {s_Text_at : aS} {J : aJ} {K : aR} {n : Nat} {L : aL} {S : List Value} {M : aM} : am_run (c_Text_stringEnd s_Text_at) k_Text_stringEnd J K (n + 1) 79 L S M = ai_iinc 2 1 82 (am_run (c_Text_stringEnd s_Text_at) k_Text_stringEnd J K n) K 79 L S M := rfl
theorem r_Text_stringEnd_82 {s_Text_at : aS} {J : aJ} {K : aR} {n : Nat} {L : aL} {S : List Value} {M : aM} : am_run (c_Text_stringEnd s_Text_at) k_Text_stringEnd J K (n + 1) 82 L S M = ai_iinc 3 1 85 (am_run (c_Text_stringEnd s_Text_at) k_Text_stringEnd J K n) K 82 L S M := rfl
theorem r_Text_stringEnd_85 {s_Text_at : aS} {J : aJ} {K : aR} {n : Nat} {L : aL} {S : List Value} {M : aM} : am_run (c_Text_stringEnd s_Text_at) k_Text_stringEnd J K (n + 1) 85 L S M = ai_goto 6 (am_run (c_Text_stringEnd s_Text_at) k_Text_stringEnd J K n) K 85 L S M := rfl
theorem r_Text_stringEnd_88 {s_Text_at : aS} {J : aJ} {K : aR} {n : Nat} {L : aL} {S : List Value} {M : aM} : am_run (c_Text_stringEnd s_Text_at) k_Text_stringEnd J K (n + 1) 88 L S M = ai_const (-1) 89 (am_run (c_Text_stringEnd s_Text_at) k_Text_stringEnd J K n) K 88 L S M := rfl
theorem r_Text_stringEnd_89 {s_Text_at : aS} {J : aJ} {K : aR} {n : Nat} {L : aL} {S : List Value} {M : aM} : am_run (c_Text_stringEnd s_Text_at) k_Text_stringEnd J K (n + 1) 89 L S M = ai_iret (am_run (c_Text_stringEnd s_Text_at) k_Text_stringEnd J K n) K 89 L S M := rfl
def c_Text_isDigit : List (Nat × aI) := [
  (0, ai_iload 0 1),
  (1, ai_const 48 3),
  (3, ai_cmplt 16 6),
  (6, ai_iload 0 7),
  (7, ai_const 57 9),
  (9, ai_cmpgt 16 12),
  (12, ai_const 1 13),
  (13, ai_goto 17),
  (16, ai_const 0 17),
  (17, ai_zret)]
set_option maxRecDepth 100000 in
set_option maxHeartbeats 4000000 in
theorem tb_Text_isDigit {G : aG} {d : Nat} : am_tab G Y_Text_isDigit d (c_Text_isDigit) := by
  intro K p e s m args below meth c C
  exact ⟨as_iload_n C (pc := 0) (q := 0) (by decide +kernel) rfl rfl,
    as_bipush C (pc := 1) (n := 48) (by decide +kernel) (by decide +kernel) rfl,
    as_cmplt C (pc := 3) (off := 13) (by decide +kernel) (by decide) rfl,
    as_iload_n C (pc := 6) (q := 0) (by decide +kernel) rfl rfl,
    as_bipush C (pc := 7) (n := 57) (by decide +kernel) (by decide +kernel) rfl,
    as_cmpgt C (pc := 9) (off := 7) (by decide +kernel) (by decide) rfl,
    as_iconst C (pc := 12) (n := 1) (by decide +kernel) (by decide +kernel) rfl,
    as_goto C (pc := 13) (off := 4) (by decide +kernel) (by decide),
    as_iconst C (pc := 16) (n := 0) (by decide +kernel) (by decide +kernel) rfl,
    as_zret C (pc := 17) rfl (by decide +kernel), trivial⟩
abbrev k_Text_isDigit : List Nat := []
theorem r_Text_isDigit_0 {J : aJ} {K : aR} {n : Nat} {L : aL} {S : List Value} {M : aM} : am_run (c_Text_isDigit) k_Text_isDigit J K (n + 1) 0 L S M = ai_iload 0 1 (am_run (c_Text_isDigit) k_Text_isDigit J K n) K 0 L S M := rfl
theorem r_Text_isDigit_1 {J : aJ} {K : aR} {n : Nat} {L : aL} {S : List Value} {M : aM} : am_run (c_Text_isDigit) k_Text_isDigit J K (n + 1) 1 L S M = ai_const 48 3 (am_run (c_Text_isDigit) k_Text_isDigit J K n) K 1 L S M := rfl
theorem r_Text_isDigit_3 {J : aJ} {K : aR} {n : Nat} {L : aL} {S : List Value} {M : aM} : am_run (c_Text_isDigit) k_Text_isDigit J K (n + 1) 3 L S M = ai_cmplt 16 6 (am_run (c_Text_isDigit) k_Text_isDigit J K n) K 3 L S M := rfl
theorem r_Text_isDigit_6 {J : aJ} {K : aR} {n : Nat} {L : aL} {S : List Value} {M : aM} : am_run (c_Text_isDigit) k_Text_isDigit J K (n + 1) 6 L S M = ai_iload 0 7 (am_run (c_Text_isDigit) k_Text_isDigit J K n) K 6 L S M := rfl
theorem r_Text_isDigit_7 {J : aJ} {K : aR} {n : Nat} {L : aL} {S : List Value} {M : aM} : am_run (c_Text_isDigit) k_Text_isDigit J K (n + 1) 7 L S M = ai_const 57 9 (am_run (c_Text_isDigit) k_Text_isDigit J K n) K 7 L S M := rfl
theorem r_Text_isDigit_9 {J : aJ} {K : aR} {n : Nat} {L : aL} {S : List Value} {M : aM} : am_run (c_Text_isDigit) k_Text_isDigit J K (n + 1) 9 L S M = ai_cmpgt 16 12 (am_run (c_Text_isDigit) k_Text_isDigit J K n) K 9 L S M := rfl
theorem r_Text_isDigit_12 {J : aJ} {K : aR} {n : Nat} {L : aL} {S : List Value} {M : aM} : am_run (c_Text_isDigit) k_Text_isDigit J K (n + 1) 12 L S M = ai_const 1 13 (am_run (c_Text_isDigit) k_Text_isDigit J K n) K 12 L S M := rfl
theorem r_Text_isDigit_13 {J : aJ} {K : aR} {n : Nat} {L : aL} {S : List Value} {M : aM} : am_run (c_Text_isDigit) k_Text_isDigit J K (n + 1) 13 L S M = ai_goto 17 (am_run (c_Text_isDigit) k_Text_isDigit J K n) K 13 L S M := rfl
theorem r_Text_isDigit_16 {J : aJ} {K : aR} {n : Nat} {L : aL} {S : List Value} {M : aM} : am_run (c_Text_isDigit) k_Text_isDigit J K (n + 1) 16 L S M = ai_const 0 17 (am_run (c_Text_isDigit) k_Text_isDigit J K n) K 16 L S M := rfl
theorem r_Text_isDigit_17 {J : aJ} {K : aR} {n : Nat} {L : aL} {S : List Value} {M : aM} : am_run (c_Text_isDigit) k_Text_isDigit J K (n + 1) 17 L S M = ai_zret (am_run (c_Text_isDigit) k_Text_isDigit J K n) K 17 L S M := rfl
def c_Text_isWordByte : List (Nat × aI) := [
  (0, ai_iload 0 1),
  (1, ai_const 97 3),
  (3, ai_cmplt 12 6),
  (6, ai_iload 0 7),
  (7, ai_const 122 9),
  (9, ai_cmple 24 12),
  (12, ai_iload 0 13),
  (13, ai_const 48 15),
  (15, ai_cmplt 26 18),
  (18, ai_iload 0 19),
  (19, ai_const 57 21),
  (21, ai_cmpgt 26 24),
  (24, ai_const 1 25),
  (25, ai_zret),
  (26, ai_iload 0 27),
  (27, ai_switch [(33, 164), (34, 166), (35, 166), (36, 166), (37, 166), (38, 166), (39, 166), (40, 166), (41, 166), (42, 164), (43, 164), (44, 166), (45, 164), (46, 166), (47, 164), (48, 166), (49, 166), (50, 166), (51, 166), (52, 166), (53, 166), (54, 166), (55, 166), (56, 166), (57, 166), (58, 166), (59, 166), (60, 164), (61, 164), (62, 164), (63, 164)] 166),
  (164, ai_const 1 165),
  (165, ai_zret),
  (166, ai_const 0 167),
  (167, ai_zret)]
set_option maxRecDepth 100000 in
set_option maxHeartbeats 4000000 in
theorem tb_Text_isWordByte {G : aG} {d : Nat} : am_tab G Y_Text_isWordByte d (c_Text_isWordByte) := by
  intro K p e s m args below meth c C
  exact ⟨as_iload_n C (pc := 0) (q := 0) (by decide +kernel) rfl rfl,
    as_bipush C (pc := 1) (n := 97) (by decide +kernel) (by decide +kernel) rfl,
    as_cmplt C (pc := 3) (off := 9) (by decide +kernel) (by decide) rfl,
    as_iload_n C (pc := 6) (q := 0) (by decide +kernel) rfl rfl,
    as_bipush C (pc := 7) (n := 122) (by decide +kernel) (by decide +kernel) rfl,
    as_cmple C (pc := 9) (off := 15) (by decide +kernel) (by decide) rfl,
    as_iload_n C (pc := 12) (q := 0) (by decide +kernel) rfl rfl,
    as_bipush C (pc := 13) (n := 48) (by decide +kernel) (by decide +kernel) rfl,
    as_cmplt C (pc := 15) (off := 11) (by decide +kernel) (by decide) rfl,
    as_iload_n C (pc := 18) (q := 0) (by decide +kernel) rfl rfl,
    as_bipush C (pc := 19) (n := 57) (by decide +kernel) (by decide +kernel) rfl,
    as_cmpgt C (pc := 21) (off := 5) (by decide +kernel) (by decide) rfl,
    as_iconst C (pc := 24) (n := 1) (by decide +kernel) (by decide +kernel) rfl,
    as_zret C (pc := 25) rfl (by decide +kernel),
    as_iload_n C (pc := 26) (q := 0) (by decide +kernel) rfl rfl,
    as_table C (pc := 27) (dflt := 139) (lo := 33) (hi := 63) (offs := #[137, 139, 139, 139, 139, 139, 139, 139, 139, 137, 137, 139, 137, 139, 137, 139, 139, 139, 139, 139, 139, 139, 139, 139, 139, 139, 139, 137, 137, 137, 137]) (len := 137) (by decide +kernel) (by decide +kernel) (by decide) (by decide),
    as_iconst C (pc := 164) (n := 1) (by decide +kernel) (by decide +kernel) rfl,
    as_zret C (pc := 165) rfl (by decide +kernel),
    as_iconst C (pc := 166) (n := 0) (by decide +kernel) (by decide +kernel) rfl,
    as_zret C (pc := 167) rfl (by decide +kernel), trivial⟩
abbrev k_Text_isWordByte : List Nat := []
theorem r_Text_isWordByte_0 {J : aJ} {K : aR} {n : Nat} {L : aL} {S : List Value} {M : aM} : am_run (c_Text_isWordByte) k_Text_isWordByte J K (n + 1) 0 L S M = ai_iload 0 1 (am_run (c_Text_isWordByte) k_Text_isWordByte J K n) K 0 L S M := rfl
theorem r_Text_isWordByte_1 {J : aJ} {K : aR} {n : Nat} {L : aL} {S : List Value} {M : aM} : am_run (c_Text_isWordByte) k_Text_isWordByte J K (n + 1) 1 L S M = ai_const 97 3 (am_run (c_Text_isWordByte) k_Text_isWordByte J K n) K 1 L S M := rfl
theorem r_Text_isWordByte_3 {J : aJ} {K : aR} {n : Nat} {L : aL} {S : List Value} {M : aM} : am_run (c_Text_isWordByte) k_Text_isWordByte J K (n + 1) 3 L S M = ai_cmplt 12 6 (am_run (c_Text_isWordByte) k_Text_isWordByte J K n) K 3 L S M := rfl
theorem r_Text_isWordByte_6 {J : aJ} {K : aR} {n : Nat} {L : aL} {S : List Value} {M : aM} : am_run (c_Text_isWordByte) k_Text_isWordByte J K (n + 1) 6 L S M = ai_iload 0 7 (am_run (c_Text_isWordByte) k_Text_isWordByte J K n) K 6 L S M := rfl
theorem r_Text_isWordByte_7 {J : aJ} {K : aR} {n : Nat} {L : aL} {S : List Value} {M : aM} : am_run (c_Text_isWordByte) k_Text_isWordByte J K (n + 1) 7 L S M = ai_const 122 9 (am_run (c_Text_isWordByte) k_Text_isWordByte J K n) K 7 L S M := rfl
theorem r_Text_isWordByte_9 {J : aJ} {K : aR} {n : Nat} {L : aL} {S : List Value} {M : aM} : am_run (c_Text_isWordByte) k_Text_isWordByte J K (n + 1) 9 L S M = ai_cmple 24 12 (am_run (c_Text_isWordByte) k_Text_isWordByte J K n) K 9 L S M := rfl
theorem r_Text_isWordByte_12 {J : aJ} {K : aR} {n : Nat} {L : aL} {S : List Value} {M : aM} : am_run (c_Text_isWordByte) k_Text_isWordByte J K (n + 1) 12 L S M = ai_iload 0 13 (am_run (c_Text_isWordByte) k_Text_isWordByte J K n) K 12 L S M := rfl
theorem r_Text_isWordByte_13 {J : aJ} {K : aR} {n : Nat} {L : aL} {S : List Value} {M : aM} : am_run (c_Text_isWordByte) k_Text_isWordByte J K (n + 1) 13 L S M = ai_const 48 15 (am_run (c_Text_isWordByte) k_Text_isWordByte J K n) K 13 L S M := rfl
theorem r_Text_isWordByte_15 {J : aJ} {K : aR} {n : Nat} {L : aL} {S : List Value} {M : aM} : am_run (c_Text_isWordByte) k_Text_isWordByte J K (n + 1) 15 L S M = ai_cmplt 26 18 (am_run (c_Text_isWordByte) k_Text_isWordByte J K n) K 15 L S M := rfl
theorem r_Text_isWordByte_18 {J : aJ} {K : aR} {n : Nat} {L : aL} {S : List Value} {M : aM} : am_run (c_Text_isWordByte) k_Text_isWordByte J K (n + 1) 18 L S M = ai_iload 0 19 (am_run (c_Text_isWordByte) k_Text_isWordByte J K n) K 18 L S M := rfl
theorem r_Text_isWordByte_19 {J : aJ} {K : aR} {n : Nat} {L : aL} {S : List Value} {M : aM} : am_run (c_Text_isWordByte) k_Text_isWordByte J K (n + 1) 19 L S M = ai_const 57 21 (am_run (c_Text_isWordByte) k_Text_isWordByte J K n) K 19 L S M := rfl
theorem r_Text_isWordByte_21 {J : aJ} {K : aR} {n : Nat} {L : aL} {S : List Value} {M : aM} : am_run (c_Text_isWordByte) k_Text_isWordByte J K (n + 1) 21 L S M = ai_cmpgt 26 24 (am_run (c_Text_isWordByte) k_Text_isWordByte J K n) K 21 L S M := rfl
theorem r_Text_isWordByte_24 {J : aJ} {K : aR} {n : Nat} {L : aL} {S : List Value} {M : aM} : am_run (c_Text_isWordByte) k_Text_isWordByte J K (n + 1) 24 L S M = ai_const 1 25 (am_run (c_Text_isWordByte) k_Text_isWordByte J K n) K 24 L S M := rfl
theorem r_Text_isWordByte_25 {J : aJ} {K : aR} {n : Nat} {L : aL} {S : List Value} {M : aM} : am_run (c_Text_isWordByte) k_Text_isWordByte J K (n + 1) 25 L S M = ai_zret (am_run (c_Text_isWordByte) k_Text_isWordByte J K n) K 25 L S M := rfl
theorem r_Text_isWordByte_26 {J : aJ} {K : aR} {n : Nat} {L : aL} {S : List Value} {M : aM} : am_run (c_Text_isWordByte) k_Text_isWordByte J K (n + 1) 26 L S M = ai_iload 0 27 (am_run (c_Text_isWordByte) k_Text_isWordByte J K n) K 26 L S M := rfl
theorem r_Text_isWordByte_27 {J : aJ} {K : aR} {n : Nat} {L : aL} {S : List Value} {M : aM} : am_run (c_Text_isWordByte) k_Text_isWordByte J K (n + 1) 27 L S M = ai_switch [(33, 164), (34, 166), (35, 166), (36, 166), (37, 166), (38, 166), (39, 166), (40, 166), (41, 166), (42, 164), (43, 164), (44, 166), (45, 164), (46, 166), (47, 164), (48, 166), (49, 166), (50, 166), (51, 166), (52, 166), (53, 166), (54, 166), (55, 166), (56, 166), (57, 166), (58, 166), (59, 166), (60, 164), (61, 164), (62, 164), (63, 164)] 166 (am_run (c_Text_isWordByte) k_Text_isWordByte J K n) K 27 L S M := rfl
theorem r_Text_isWordByte_164 {J : aJ} {K : aR} {n : Nat} {L : aL} {S : List Value} {M : aM} : am_run (c_Text_isWordByte) k_Text_isWordByte J K (n + 1) 164 L S M = ai_const 1 165 (am_run (c_Text_isWordByte) k_Text_isWordByte J K n) K 164 L S M := rfl
theorem r_Text_isWordByte_165 {J : aJ} {K : aR} {n : Nat} {L : aL} {S : List Value} {M : aM} : am_run (c_Text_isWordByte) k_Text_isWordByte J K (n + 1) 165 L S M = ai_zret (am_run (c_Text_isWordByte) k_Text_isWordByte J K n) K 165 L S M := rfl
theorem r_Text_isWordByte_166 {J : aJ} {K : aR} {n : Nat} {L : aL} {S : List Value} {M : aM} : am_run (c_Text_isWordByte) k_Text_isWordByte J K (n + 1) 166 L S M = ai_const 0 167 (am_run (c_Text_isWordByte) k_Text_isWordByte J K n) K 166 L S M := rfl
theorem r_Text_isWordByte_167 {J : aJ} {K : aR} {n : Nat} {L : aL} {S : List Value} {M : aM} : am_run (c_Text_isWordByte) k_Text_isWordByte J K (n + 1) 167 L S M = ai_zret (am_run (c_Text_isWordByte) k_Text_isWordByte J K n) K 167 L S M := rfl
end
section
def c_Nodes_clear : List (Nat × aI) := [
  (0, ai_aload 0 1),
  (1, ai_const 0 2),
  (2, ai_putf 0 5 5),
  (5, ai_aload 0 6),
  (6, ai_const 0 7),
  (7, ai_putf 0 7 10),
  (10, ai_aload 0 11),
  (11, ai_gets (.ref 1000) 14),
  (14, ai_xlen 1000 5 15),
  (15, ai_putf 0 9 18),
  (18, ai_vret)]
set_option maxRecDepth 100000 in
set_option maxHeartbeats 4000000 in
theorem tb_Nodes_clear {G : aG} {d : Nat} : am_tab G Y_Nodes_clear d (c_Nodes_clear) := by
  intro K p e s m args below meth c C
  exact ⟨as_aload_n C (pc := 0) (q := 0) (by decide +kernel) rfl rfl,
    as_iconst C (pc := 1) (n := 0) (by decide +kernel) (by decide +kernel) rfl,
    as_putf C (pc := 2) t_Nodes (T := T_Nodes) (N := 10) rfl in_Nodes tok_Nodes nm_Nodes (by decide) rfl rfl (by decide +kernel) w_123 (by decide +kernel) rfl,
    as_aload_n C (pc := 5) (q := 0) (by decide +kernel) rfl rfl,
    as_iconst C (pc := 6) (n := 0) (by decide +kernel) (by decide +kernel) rfl,
    as_putf C (pc := 7) t_Nodes (T := T_Nodes) (N := 10) rfl in_Nodes tok_Nodes nm_Nodes (by decide) rfl rfl (by decide +kernel) w_126 (by decide +kernel) rfl,
    as_aload_n C (pc := 10) (q := 0) (by decide +kernel) rfl rfl,
    as_getsN C (pc := 11) (Cn := "DatumDesk") (f := "QUOTE") (d := "[I") List.mem_cons_self w_113 (by decide +kernel) rfl,
    as_xlen C (pc := 14) (hm_1000 G) (by decide +kernel) rfl,
    as_putf C (pc := 15) t_Nodes (T := T_Nodes) (N := 10) rfl in_Nodes tok_Nodes nm_Nodes (by decide) rfl rfl (by decide +kernel) w_129 (by decide +kernel) rfl,
    as_vret C (pc := 18) rfl (by decide +kernel), trivial⟩
abbrev k_Nodes_clear : List Nat := []
theorem r_Nodes_clear_0 {J : aJ} {K : aR} {n : Nat} {L : aL} {S : List Value} {M : aM} : am_run (c_Nodes_clear) k_Nodes_clear J K (n + 1) 0 L S M = ai_aload 0 1 (am_run (c_Nodes_clear) k_Nodes_clear J K n) K 0 L S M := rfl
theorem r_Nodes_clear_1 {J : aJ} {K : aR} {n : Nat} {L : aL} {S : List Value} {M : aM} : am_run (c_Nodes_clear) k_Nodes_clear J K (n + 1) 1 L S M = ai_const 0 2 (am_run (c_Nodes_clear) k_Nodes_clear J K n) K 1 L S M := rfl
theorem r_Nodes_clear_2 {J : aJ} {K : aR} {n : Nat} {L : aL} {S : List Value} {M : aM} : am_run (c_Nodes_clear) k_Nodes_clear J K (n + 1) 2 L S M = ai_putf 0 5 5 (am_run (c_Nodes_clear) k_Nodes_clear J K n) K 2 L S M := rfl
theorem r_Nodes_clear_5 {J : aJ} {K : aR} {n : Nat} {L : aL} {S : List Value} {M : aM} : am_run (c_Nodes_clear) k_Nodes_clear J K (n + 1) 5 L S M = ai_aload 0 6 (am_run (c_Nodes_clear) k_Nodes_clear J K n) K 5 L S M := rfl
theorem r_Nodes_clear_6 {J : aJ} {K : aR} {n : Nat} {L : aL} {S : List Value} {M : aM} : am_run (c_Nodes_clear) k_Nodes_clear J K (n + 1) 6 L S M = ai_const 0 7 (am_run (c_Nodes_clear) k_Nodes_clear J K n) K 6 L S M := rfl
theorem r_Nodes_clear_7 {J : aJ} {K : aR} {n : Nat} {L : aL} {S : List Value} {M : aM} : am_run (c_Nodes_clear) k_Nodes_clear J K (n + 1) 7 L S M = ai_putf 0 7 10 (am_run (c_Nodes_clear) k_Nodes_clear J K n) K 7 L S M := rfl
theorem r_Nodes_clear_10 {J : aJ} {K : aR} {n : Nat} {L : aL} {S : List Value} {M : aM} : am_run (c_Nodes_clear) k_Nodes_clear J K (n + 1) 10 L S M = ai_aload 0 11 (am_run (c_Nodes_clear) k_Nodes_clear J K n) K 10 L S M := rfl
theorem r_Nodes_clear_11 {J : aJ} {K : aR} {n : Nat} {L : aL} {S : List Value} {M : aM} : am_run (c_Nodes_clear) k_Nodes_clear J K (n + 1) 11 L S M = ai_gets (.ref 1000) 14 (am_run (c_Nodes_clear) k_Nodes_clear J K n) K 11 L S M := rfl
theorem r_Nodes_clear_14 {J : aJ} {K : aR} {n : Nat} {L : aL} {S : List Value} {M : aM} : am_run (c_Nodes_clear) k_Nodes_clear J K (n + 1) 14 L S M = ai_xlen 1000 5 15 (am_run (c_Nodes_clear) k_Nodes_clear J K n) K 14 L S M := rfl
theorem r_Nodes_clear_15 {J : aJ} {K : aR} {n : Nat} {L : aL} {S : List Value} {M : aM} : am_run (c_Nodes_clear) k_Nodes_clear J K (n + 1) 15 L S M = ai_putf 0 9 18 (am_run (c_Nodes_clear) k_Nodes_clear J K n) K 15 L S M := rfl
theorem r_Nodes_clear_18 {J : aJ} {K : aR} {n : Nat} {L : aL} {S : List Value} {M : aM} : am_run (c_Nodes_clear) k_Nodes_clear J K (n + 1) 18 L S M = ai_vret (am_run (c_Nodes_clear) k_Nodes_clear J K n) K 18 L S M := rfl
def c_Nodes_has : List (Nat × aI) := [
  (0, ai_iload 1 1),
  (1, ai_iflt 23 4),
  (4, ai_iload 1 5),
  (5, ai_aload 0 6),
  (6, ai_getf 0 5 9),
  (9, ai_cmpge 23 12),
  (12, ai_iload 1 13),
  (13, ai_const 200 16),
  (16, ai_cmpge 23 19),
  (19, ai_const 1 20),
  (20, ai_goto 24),
  (23, ai_const 0 24),
  (24, ai_zret)]
set_option maxRecDepth 100000 in
set_option maxHeartbeats 4000000 in
theorem tb_Nodes_has {G : aG} {d : Nat} : am_tab G Y_Nodes_has d (c_Nodes_has) := by
  intro K p e s m args below meth c C
  exact ⟨as_iload_n C (pc := 0) (q := 1) (by decide +kernel) rfl rfl,
    as_iflt C (pc := 1) (off := 22) (by decide +kernel) (by decide) rfl,
    as_iload_n C (pc := 4) (q := 1) (by decide +kernel) rfl rfl,
    as_aload_n C (pc := 5) (q := 0) (by decide +kernel) rfl rfl,
    as_getf C (pc := 6) (T := T_Nodes) (N := 10) rfl in_Nodes (by decide) rfl w_123 (by decide +kernel) rfl,
    as_cmpge C (pc := 9) (off := 14) (by decide +kernel) (by decide) rfl,
    as_iload_n C (pc := 12) (q := 1) (by decide +kernel) rfl rfl,
    as_sipush C (pc := 13) (n := 200) (by decide +kernel) (by decide +kernel) rfl,
    as_cmpge C (pc := 16) (off := 7) (by decide +kernel) (by decide) rfl,
    as_iconst C (pc := 19) (n := 1) (by decide +kernel) (by decide +kernel) rfl,
    as_goto C (pc := 20) (off := 4) (by decide +kernel) (by decide),
    as_iconst C (pc := 23) (n := 0) (by decide +kernel) (by decide +kernel) rfl,
    as_zret C (pc := 24) rfl (by decide +kernel), trivial⟩
abbrev k_Nodes_has : List Nat := []
theorem r_Nodes_has_0 {J : aJ} {K : aR} {n : Nat} {L : aL} {S : List Value} {M : aM} : am_run (c_Nodes_has) k_Nodes_has J K (n + 1) 0 L S M = ai_iload 1 1 (am_run (c_Nodes_has) k_Nodes_has J K n) K 0 L S M := rfl
theorem r_Nodes_has_1 {J : aJ} {K : aR} {n : Nat} {L : aL} {S : List Value} {M : aM} : am_run (c_Nodes_has) k_Nodes_has J K (n + 1) 1 L S M = ai_iflt 23 4 (am_run (c_Nodes_has) k_Nodes_has J K n) K 1 L S M := rfl
theorem r_Nodes_has_4 {J : aJ} {K : aR} {n : Nat} {L : aL} {S : List Value} {M : aM} : am_run (c_Nodes_has) k_Nodes_has J K (n + 1) 4 L S M = ai_iload 1 5 (am_run (c_Nodes_has) k_Nodes_has J K n) K 4 L S M := rfl
theorem r_Nodes_has_5 {J : aJ} {K : aR} {n : Nat} {L : aL} {S : List Value} {M : aM} : am_run (c_Nodes_has) k_Nodes_has J K (n + 1) 5 L S M = ai_aload 0 6 (am_run (c_Nodes_has) k_Nodes_has J K n) K 5 L S M := rfl
theorem r_Nodes_has_6 {J : aJ} {K : aR} {n : Nat} {L : aL} {S : List Value} {M : aM} : am_run (c_Nodes_has) k_Nodes_has J K (n + 1) 6 L S M = ai_getf 0 5 9 (am_run (c_Nodes_has) k_Nodes_has J K n) K 6 L S M := rfl
theorem r_Nodes_has_9 {J : aJ} {K : aR} {n : Nat} {L : aL} {S : List Value} {M : aM} : am_run (c_Nodes_has) k_Nodes_has J K (n + 1) 9 L S M = ai_cmpge 23 12 (am_run (c_Nodes_has) k_Nodes_has J K n) K 9 L S M := rfl
theorem r_Nodes_has_12 {J : aJ} {K : aR} {n : Nat} {L : aL} {S : List Value} {M : aM} : am_run (c_Nodes_has) k_Nodes_has J K (n + 1) 12 L S M = ai_iload 1 13 (am_run (c_Nodes_has) k_Nodes_has J K n) K 12 L S M := rfl
theorem r_Nodes_has_13 {J : aJ} {K : aR} {n : Nat} {L : aL} {S : List Value} {M : aM} : am_run (c_Nodes_has) k_Nodes_has J K (n + 1) 13 L S M = ai_const 200 16 (am_run (c_Nodes_has) k_Nodes_has J K n) K 13 L S M := rfl
theorem r_Nodes_has_16 {J : aJ} {K : aR} {n : Nat} {L : aL} {S : List Value} {M : aM} : am_run (c_Nodes_has) k_Nodes_has J K (n + 1) 16 L S M = ai_cmpge 23 19 (am_run (c_Nodes_has) k_Nodes_has J K n) K 16 L S M := rfl
theorem r_Nodes_has_19 {J : aJ} {K : aR} {n : Nat} {L : aL} {S : List Value} {M : aM} : am_run (c_Nodes_has) k_Nodes_has J K (n + 1) 19 L S M = ai_const 1 20 (am_run (c_Nodes_has) k_Nodes_has J K n) K 19 L S M := rfl
theorem r_Nodes_has_20 {J : aJ} {K : aR} {n : Nat} {L : aL} {S : List Value} {M : aM} : am_run (c_Nodes_has) k_Nodes_has J K (n + 1) 20 L S M = ai_goto 24 (am_run (c_Nodes_has) k_Nodes_has J K n) K 20 L S M := rfl
theorem r_Nodes_has_23 {J : aJ} {K : aR} {n : Nat} {L : aL} {S : List Value} {M : aM} : am_run (c_Nodes_has) k_Nodes_has J K (n + 1) 23 L S M = ai_const 0 24 (am_run (c_Nodes_has) k_Nodes_has J K n) K 23 L S M := rfl
theorem r_Nodes_has_24 {J : aJ} {K : aR} {n : Nat} {L : aL} {S : List Value} {M : aM} : am_run (c_Nodes_has) k_Nodes_has J K (n + 1) 24 L S M = ai_zret (am_run (c_Nodes_has) k_Nodes_has J K n) K 24 L S M := rfl
def c_Nodes_isOf : List (Nat × aI) := [
  (0, ai_iload 1 1),
  (1, ai_iflt 33 4),
  (4, ai_iload 1 5),
  (5, ai_aload 0 6),
  (6, ai_getf 0 5 9),
  (9, ai_cmpge 33 12),
  (12, ai_iload 1 13),
  (13, ai_const 200 16),
  (16, ai_cmpge 33 19),
  (19, ai_aload 0 20),
  (20, ai_getf 0 0 23),
  (23, ai_iload 1 24),
  (24, ai_iald 25),
  (25, ai_iload 2 26),
  (26, ai_cmpne 33 29),
  (29, ai_const 1 30),
  (30, ai_goto 34),
  (33, ai_const 0 34),
  (34, ai_zret)]
set_option maxRecDepth 100000 in
set_option maxHeartbeats 4000000 in
theorem tb_Nodes_isOf {G : aG} {d : Nat} : am_tab G Y_Nodes_isOf d (c_Nodes_isOf) := by
  intro K p e s m args below meth c C
  exact ⟨as_iload_n C (pc := 0) (q := 1) (by decide +kernel) rfl rfl,
    as_iflt C (pc := 1) (off := 32) (by decide +kernel) (by decide) rfl,
    as_iload_n C (pc := 4) (q := 1) (by decide +kernel) rfl rfl,
    as_aload_n C (pc := 5) (q := 0) (by decide +kernel) rfl rfl,
    as_getf C (pc := 6) (T := T_Nodes) (N := 10) rfl in_Nodes (by decide) rfl w_123 (by decide +kernel) rfl,
    as_cmpge C (pc := 9) (off := 24) (by decide +kernel) (by decide) rfl,
    as_iload_n C (pc := 12) (q := 1) (by decide +kernel) rfl rfl,
    as_sipush C (pc := 13) (n := 200) (by decide +kernel) (by decide +kernel) rfl,
    as_cmpge C (pc := 16) (off := 17) (by decide +kernel) (by decide) rfl,
    as_aload_n C (pc := 19) (q := 0) (by decide +kernel) rfl rfl,
    as_getf C (pc := 20) (T := T_Nodes) (N := 10) rfl in_Nodes (by decide) rfl w_118 (by decide +kernel) rfl,
    as_iload_n C (pc := 23) (q := 1) (by decide +kernel) rfl rfl,
    as_iald C (pc := 24) (by decide +kernel) rfl,
    as_iload_n C (pc := 25) (q := 2) (by decide +kernel) rfl rfl,
    as_cmpne C (pc := 26) (off := 7) (by decide +kernel) (by decide) rfl,
    as_iconst C (pc := 29) (n := 1) (by decide +kernel) (by decide +kernel) rfl,
    as_goto C (pc := 30) (off := 4) (by decide +kernel) (by decide),
    as_iconst C (pc := 33) (n := 0) (by decide +kernel) (by decide +kernel) rfl,
    as_zret C (pc := 34) rfl (by decide +kernel), trivial⟩
abbrev k_Nodes_isOf : List Nat := []
theorem r_Nodes_isOf_0 {J : aJ} {K : aR} {n : Nat} {L : aL} {S : List Value} {M : aM} : am_run (c_Nodes_isOf) k_Nodes_isOf J K (n + 1) 0 L S M = ai_iload 1 1 (am_run (c_Nodes_isOf) k_Nodes_isOf J K n) K 0 L S M := rfl
theorem r_Nodes_isOf_1 {J : aJ} {K : aR} {n : Nat} {L : aL} {S : List Value} {M : aM} : am_run (c_Nodes_isOf) k_Nodes_isOf J K (n + 1) 1 L S M = ai_iflt 33 4 (am_run (c_Nodes_isOf) k_Nodes_isOf J K n) K 1 L S M := rfl
theorem r_Nodes_isOf_4 {J : aJ} {K : aR} {n : Nat} {L : aL} {S : List Value} {M : aM} : am_run (c_Nodes_isOf) k_Nodes_isOf J K (n + 1) 4 L S M = ai_iload 1 5 (am_run (c_Nodes_isOf) k_Nodes_isOf J K n) K 4 L S M := rfl
theorem r_Nodes_isOf_5 {J : aJ} {K : aR} {n : Nat} {L : aL} {S : List Value} {M : aM} : am_run (c_Nodes_isOf) k_Nodes_isOf J K (n + 1) 5 L S M = ai_aload 0 6 (am_run (c_Nodes_isOf) k_Nodes_isOf J K n) K 5 L S M := rfl
theorem r_Nodes_isOf_6 {J : aJ} {K : aR} {n : Nat} {L : aL} {S : List Value} {M : aM} : am_run (c_Nodes_isOf) k_Nodes_isOf J K (n + 1) 6 L S M = ai_getf 0 5 9 (am_run (c_Nodes_isOf) k_Nodes_isOf J K n) K 6 L S M := rfl
theorem r_Nodes_isOf_9 {J : aJ} {K : aR} {n : Nat} {L : aL} {S : List Value} {M : aM} : am_run (c_Nodes_isOf) k_Nodes_isOf J K (n + 1) 9 L S M = ai_cmpge 33 12 (am_run (c_Nodes_isOf) k_Nodes_isOf J K n) K 9 L S M := rfl
theorem r_Nodes_isOf_12 {J : aJ} {K : aR} {n : Nat} {L : aL} {S : List Value} {M : aM} : am_run (c_Nodes_isOf) k_Nodes_isOf J K (n + 1) 12 L S M = ai_iload 1 13 (am_run (c_Nodes_isOf) k_Nodes_isOf J K n) K 12 L S M := rfl
theorem r_Nodes_isOf_13 {J : aJ} {K : aR} {n : Nat} {L : aL} {S : List Value} {M : aM} : am_run (c_Nodes_isOf) k_Nodes_isOf J K (n + 1) 13 L S M = ai_const 200 16 (am_run (c_Nodes_isOf) k_Nodes_isOf J K n) K 13 L S M := rfl
theorem r_Nodes_isOf_16 {J : aJ} {K : aR} {n : Nat} {L : aL} {S : List Value} {M : aM} : am_run (c_Nodes_isOf) k_Nodes_isOf J K (n + 1) 16 L S M = ai_cmpge 33 19 (am_run (c_Nodes_isOf) k_Nodes_isOf J K n) K 16 L S M := rfl
theorem r_Nodes_isOf_19 {J : aJ} {K : aR} {n : Nat} {L : aL} {S : List Value} {M : aM} : am_run (c_Nodes_isOf) k_Nodes_isOf J K (n + 1) 19 L S M = ai_aload 0 20 (am_run (c_Nodes_isOf) k_Nodes_isOf J K n) K 19 L S M := rfl
theorem r_Nodes_isOf_20 {J : aJ} {K : aR} {n : Nat} {L : aL} {S : List Value} {M : aM} : am_run (c_Nodes_isOf) k_Nodes_isOf J K (n + 1) 20 L S M = ai_getf 0 0 23 (am_run (c_Nodes_isOf) k_Nodes_isOf J K n) K 20 L S M := rfl
theorem r_Nodes_isOf_23 {J : aJ} {K : aR} {n : Nat} {L : aL} {S : List Value} {M : aM} : am_run (c_Nodes_isOf) k_Nodes_isOf J K (n + 1) 23 L S M = ai_iload 1 24 (am_run (c_Nodes_isOf) k_Nodes_isOf J K n) K 23 L S M := rfl
theorem r_Nodes_isOf_24 {J : aJ} {K : aR} {n : Nat} {L : aL} {S : List Value} {M : aM} : am_run (c_Nodes_isOf) k_Nodes_isOf J K (n + 1) 24 L S M = ai_iald 25 (am_run (c_Nodes_isOf) k_Nodes_isOf J K n) K 24 L S M := rfl
theorem r_Nodes_isOf_25 {J : aJ} {K : aR} {n : Nat} {L : aL} {S : List Value} {M : aM} : am_run (c_Nodes_isOf) k_Nodes_isOf J K (n + 1) 25 L S M = ai_iload 2 26 (am_run (c_Nodes_isOf) k_Nodes_isOf J K n) K 25 L S M := rfl
theorem r_Nodes_isOf_26 {J : aJ} {K : aR} {n : Nat} {L : aL} {S : List Value} {M : aM} : am_run (c_Nodes_isOf) k_Nodes_isOf J K (n + 1) 26 L S M = ai_cmpne 33 29 (am_run (c_Nodes_isOf) k_Nodes_isOf J K n) K 26 L S M := rfl
theorem r_Nodes_isOf_29 {J : aJ} {K : aR} {n : Nat} {L : aL} {S : List Value} {M : aM} : am_run (c_Nodes_isOf) k_Nodes_isOf J K (n + 1) 29 L S M = ai_const 1 30 (am_run (c_Nodes_isOf) k_Nodes_isOf J K n) K 29 L S M := rfl
theorem r_Nodes_isOf_30 {J : aJ} {K : aR} {n : Nat} {L : aL} {S : List Value} {M : aM} : am_run (c_Nodes_isOf) k_Nodes_isOf J K (n + 1) 30 L S M = ai_goto 34 (am_run (c_Nodes_isOf) k_Nodes_isOf J K n) K 30 L S M := rfl
theorem r_Nodes_isOf_33 {J : aJ} {K : aR} {n : Nat} {L : aL} {S : List Value} {M : aM} : am_run (c_Nodes_isOf) k_Nodes_isOf J K (n + 1) 33 L S M = ai_const 0 34 (am_run (c_Nodes_isOf) k_Nodes_isOf J K n) K 33 L S M := rfl
theorem r_Nodes_isOf_34 {J : aJ} {K : aR} {n : Nat} {L : aL} {S : List Value} {M : aM} : am_run (c_Nodes_isOf) k_Nodes_isOf J K (n + 1) 34 L S M = ai_zret (am_run (c_Nodes_isOf) k_Nodes_isOf J K n) K 34 L S M := rfl
def c_Nodes_add : List (Nat × aI) := [
  (0, ai_aload 0 1),
  (1, ai_getf 0 5 4),
  (4, ai_iflt 17 7),
  (7, ai_aload 0 8),
  (8, ai_getf 0 5 11),
  (11, ai_const 200 14),
  (14, ai_cmplt 19 17),
  (17, ai_const (-1) 18),
  (18, ai_iret),
  (19, ai_aload 0 20),
  (20, ai_getf 0 5 23),
  (23, ai_istore 2 24),
  (24, ai_aload 0 25),
  (25, ai_getf 0 0 28),
  (28, ai_iload 2 29),
  (29, ai_iload 1 30),
  (30, ai_iast 31),
  (31, ai_aload 0 32),
  (32, ai_getf 0 1 35),
  (35, ai_iload 2 36),
  (36, ai_const 0 37),
  (37, ai_iast 38),
  (38, ai_aload 0 39),
  (39, ai_getf 0 2 42),
  (42, ai_iload 2 43),
  (43, ai_aload 0 44),
  (44, ai_getf 0 9 47),
  (47, ai_iast 48),
  (48, ai_aload 0 49),
  (49, ai_getf 0 3 52),
  (52, ai_iload 2 53),
  (53, ai_const (-1) 54),
  (54, ai_iast 55),
  (55, ai_aload 0 56),
  (56, ai_getf 0 4 59),
  (59, ai_iload 2 60),
  (60, ai_const (-1) 61),
  (61, ai_iast 62),
  (62, ai_aload 0 63),
  (63, ai_dup 64),
  (64, ai_getf 0 5 67),
  (67, ai_const 1 68),
  (68, ai_iadd 69),
  (69, ai_putf 0 5 72),
  (72, ai_iload 2 73),
  (73, ai_iret)]
set_option maxRecDepth 100000 in
set_option maxHeartbeats 4000000 in
theorem tb_Nodes_add {G : aG} {d : Nat} : am_tab G Y_Nodes_add d (c_Nodes_add) := by
  intro K p e s m args below meth c C
  exact ⟨as_aload_n C (pc := 0) (q := 0) (by decide +kernel) rfl rfl,
    as_getf C (pc := 1) (T := T_Nodes) (N := 10) rfl in_Nodes (by decide) rfl w_123 (by decide +kernel) rfl,
    as_iflt C (pc := 4) (off := 13) (by decide +kernel) (by decide) rfl,
    as_aload_n C (pc := 7) (q := 0) (by decide +kernel) rfl rfl,
    as_getf C (pc := 8) (T := T_Nodes) (N := 10) rfl in_Nodes (by decide) rfl w_123 (by decide +kernel) rfl,
    as_sipush C (pc := 11) (n := 200) (by decide +kernel) (by decide +kernel) rfl,
    as_cmplt C (pc := 14) (off := 5) (by decide +kernel) (by decide) rfl,
    as_iconst C (pc := 17) (n := (-1)) (by decide +kernel) (by decide +kernel) rfl,
    as_iret C (pc := 18) rfl (by decide +kernel),
    as_aload_n C (pc := 19) (q := 0) (by decide +kernel) rfl rfl,
    as_getf C (pc := 20) (T := T_Nodes) (N := 10) rfl in_Nodes (by decide) rfl w_123 (by decide +kernel) rfl,
    as_istore_n C (pc := 23) (q := 2) (by decide +kernel) rfl (by decide) rfl,
    as_aload_n C (pc := 24) (q := 0) (by decide +kernel) rfl rfl,
    as_getf C (pc := 25) (T := T_Nodes) (N := 10) rfl in_Nodes (by decide) rfl w_118 (by decide +kernel) rfl,
    as_iload_n C (pc := 28) (q := 2) (by decide +kernel) rfl rfl,
    as_iload_n C (pc := 29) (q := 1) (by decide +kernel) rfl rfl,
    as_iast C (pc := 30) (by decide +kernel) rfl,
    as_aload_n C (pc := 31) (q := 0) (by decide +kernel) rfl rfl,
    as_getf C (pc := 32) (T := T_Nodes) (N := 10) rfl in_Nodes (by decide) rfl w_119 (by decide +kernel) rfl,
    as_iload_n C (pc := 35) (q := 2) (by decide +kernel) rfl rfl,
    as_iconst C (pc := 36) (n := 0) (by decide +kernel) (by decide +kernel) rfl,
    as_iast C (pc := 37) (by decide +kernel) rfl,
    as_aload_n C (pc := 38) (q := 0) (by decide +kernel) rfl rfl,
    as_getf C (pc := 39) (T := T_Nodes) (N := 10) rfl in_Nodes (by decide) rfl w_120 (by decide +kernel) rfl,
    as_iload_n C (pc := 42) (q := 2) (by decide +kernel) rfl rfl,
    as_aload_n C (pc := 43) (q := 0) (by decide +kernel) rfl rfl,
    as_getf C (pc := 44) (T := T_Nodes) (N := 10) rfl in_Nodes (by decide) rfl w_129 (by decide +kernel) rfl,
    as_iast C (pc := 47) (by decide +kernel) rfl,
    as_aload_n C (pc := 48) (q := 0) (by decide +kernel) rfl rfl,
    as_getf C (pc := 49) (T := T_Nodes) (N := 10) rfl in_Nodes (by decide) rfl w_121 (by decide +kernel) rfl,
    as_iload_n C (pc := 52) (q := 2) (by decide +kernel) rfl rfl,
    as_iconst C (pc := 53) (n := (-1)) (by decide +kernel) (by decide +kernel) rfl,
    as_iast C (pc := 54) (by decide +kernel) rfl,
    as_aload_n C (pc := 55) (q := 0) (by decide +kernel) rfl rfl,
    as_getf C (pc := 56) (T := T_Nodes) (N := 10) rfl in_Nodes (by decide) rfl w_122 (by decide +kernel) rfl,
    as_iload_n C (pc := 59) (q := 2) (by decide +kernel) rfl rfl,
    as_iconst C (pc := 60) (n := (-1)) (by decide +kernel) (by decide +kernel) rfl,
    as_iast C (pc := 61) (by decide +kernel) rfl,
    as_aload_n C (pc := 62) (q := 0) (by decide +kernel) rfl rfl,
    as_dup C (pc := 63) (by decide +kernel) rfl,
    as_getf C (pc := 64) (T := T_Nodes) (N := 10) rfl in_Nodes (by decide) rfl w_123 (by decide +kernel) rfl,
    as_iconst C (pc := 67) (n := 1) (by decide +kernel) (by decide +kernel) rfl,
    as_iadd C (pc := 68) (by decide +kernel) rfl,
    as_putf C (pc := 69) t_Nodes (T := T_Nodes) (N := 10) rfl in_Nodes tok_Nodes nm_Nodes (by decide) rfl rfl (by decide +kernel) w_123 (by decide +kernel) rfl,
    as_iload_n C (pc := 72) (q := 2) (by decide +kernel) rfl rfl,
    as_iret C (pc := 73) rfl (by decide +kernel), trivial⟩
abbrev k_Nodes_add : List Nat := []
theorem r_Nodes_add_0 {J : aJ} {K : aR} {n : Nat} {L : aL} {S : List Value} {M : aM} : am_run (c_Nodes_add) k_Nodes_add J K (n + 1) 0 L S M = ai_aload 0 1 (am_run (c_Nodes_add) k_Nodes_add J K n) K 0 L S M := rfl
theorem r_Nodes_add_1 {J : aJ} {K : aR} {n : Nat} {L : aL} {S : List Value} {M : aM} : am_run (c_Nodes_add) k_Nodes_add J K (n + 1) 1 L S M = ai_getf 0 5 4 (am_run (c_Nodes_add) k_Nodes_add J K n) K 1 L S M := rfl
theorem r_Nodes_add_4 {J : aJ} {K : aR} {n : Nat} {L : aL} {S : List Value} {M : aM} : am_run (c_Nodes_add) k_Nodes_add J K (n + 1) 4 L S M = ai_iflt 17 7 (am_run (c_Nodes_add) k_Nodes_add J K n) K 4 L S M := rfl
theorem r_Nodes_add_7 {J : aJ} {K : aR} {n : Nat} {L : aL} {S : List Value} {M : aM} : am_run (c_Nodes_add) k_Nodes_add J K (n + 1) 7 L S M = ai_aload 0 8 (am_run (c_Nodes_add) k_Nodes_add J K n) K 7 L S M := rfl
theorem r_Nodes_add_8 {J : aJ} {K : aR} {n : Nat} {L : aL} {S : List Value} {M : aM} : am_run (c_Nodes_add) k_Nodes_add J K (n + 1) 8 L S M = ai_getf 0 5 11 (am_run (c_Nodes_add) k_Nodes_add J K n) K 8 L S M := rfl
theorem r_Nodes_add_11 {J : aJ} {K : aR} {n : Nat} {L : aL} {S : List Value} {M : aM} : am_run (c_Nodes_add) k_Nodes_add J K (n + 1) 11 L S M = ai_const 200 14 (am_run (c_Nodes_add) k_Nodes_add J K n) K 11 L S M := rfl
theorem r_Nodes_add_14 {J : aJ} {K : aR} {n : Nat} {L : aL} {S : List Value} {M : aM} : am_run (c_Nodes_add) k_Nodes_add J K (n + 1) 14 L S M = ai_cmplt 19 17 (am_run (c_Nodes_add) k_Nodes_add J K n) K 14 L S M := rfl
theorem r_Nodes_add_17 {J : aJ} {K : aR} {n : Nat} {L : aL} {S : List Value} {M : aM} : am_run (c_Nodes_add) k_Nodes_add J K (n + 1) 17 L S M = ai_const (-1) 18 (am_run (c_Nodes_add) k_Nodes_add J K n) K 17 L S M := rfl
theorem r_Nodes_add_18 {J : aJ} {K : aR} {n : Nat} {L : aL} {S : List Value} {M : aM} : am_run (c_Nodes_add) k_Nodes_add J K (n + 1) 18 L S M = ai_iret (am_run (c_Nodes_add) k_Nodes_add J K n) K 18 L S M := rfl
theorem r_Nodes_add_19 {J : aJ} {K : aR} {n : Nat} {L : aL} {S : List Value} {M : aM} : am_run (c_Nodes_add) k_Nodes_add J K (n + 1) 19 L S M = ai_aload 0 20 (am_run (c_Nodes_add) k_Nodes_add J K n) K 19 L S M := rfl
theorem r_Nodes_add_20 {J : aJ} {K : aR} {n : Nat} {L : aL} {S : List Value} {M : aM} : am_run (c_Nodes_add) k_Nodes_add J K (n + 1) 20 L S M = ai_getf 0 5 23 (am_run (c_Nodes_add) k_Nodes_add J K n) K 20 L S M := rfl
theorem r_Nodes_add_23 {J : aJ} {K : aR} {n : Nat} {L : aL} {S : List Value} {M : aM} : am_run (c_Nodes_add) k_Nodes_add J K (n + 1) 23 L S M = ai_istore 2 24 (am_run (c_Nodes_add) k_Nodes_add J K n) K 23 L S M := rfl
theorem r_Nodes_add_24 {J : aJ} {K : aR} {n : Nat} {L : aL} {S : List Value} {M : aM} : am_run (c_Nodes_add) k_Nodes_add J K (n + 1) 24 L S M = ai_aload 0 25 (am_run (c_Nodes_add) k_Nodes_add J K n) K 24 L S M := rfl
theorem r_Nodes_add_25 {J : aJ} {K : aR} {n : Nat} {L : aL} {S : List Value} {M : aM} : am_run (c_Nodes_add) k_Nodes_add J K (n + 1) 25 L S M = ai_getf 0 0 28 (am_run (c_Nodes_add) k_Nodes_add J K n) K 25 L S M := rfl
theorem r_Nodes_add_28 {J : aJ} {K : aR} {n : Nat} {L : aL} {S : List Value} {M : aM} : am_run (c_Nodes_add) k_Nodes_add J K (n + 1) 28 L S M = ai_iload 2 29 (am_run (c_Nodes_add) k_Nodes_add J K n) K 28 L S M := rfl
theorem r_Nodes_add_29 {J : aJ} {K : aR} {n : Nat} {L : aL} {S : List Value} {M : aM} : am_run (c_Nodes_add) k_Nodes_add J K (n + 1) 29 L S M = ai_iload 1 30 (am_run (c_Nodes_add) k_Nodes_add J K n) K 29 L S M := rfl
theorem r_Nodes_add_30 {J : aJ} {K : aR} {n : Nat} {L : aL} {S : List Value} {M : aM} : am_run (c_Nodes_add) k_Nodes_add J K (n + 1) 30 L S M = ai_iast 31 (am_run (c_Nodes_add) k_Nodes_add J K n) K 30 L S M := rfl
theorem r_Nodes_add_31 {J : aJ} {K : aR} {n : Nat} {L : aL} {S : List Value} {M : aM} : am_run (c_Nodes_add) k_Nodes_add J K (n + 1) 31 L S M = ai_aload 0 32 (am_run (c_Nodes_add) k_Nodes_add J K n) K 31 L S M := rfl
theorem r_Nodes_add_32 {J : aJ} {K : aR} {n : Nat} {L : aL} {S : List Value} {M : aM} : am_run (c_Nodes_add) k_Nodes_add J K (n + 1) 32 L S M = ai_getf 0 1 35 (am_run (c_Nodes_add) k_Nodes_add J K n) K 32 L S M := rfl
theorem r_Nodes_add_35 {J : aJ} {K : aR} {n : Nat} {L : aL} {S : List Value} {M : aM} : am_run (c_Nodes_add) k_Nodes_add J K (n + 1) 35 L S M = ai_iload 2 36 (am_run (c_Nodes_add) k_Nodes_add J K n) K 35 L S M := rfl
theorem r_Nodes_add_36 {J : aJ} {K : aR} {n : Nat} {L : aL} {S : List Value} {M : aM} : am_run (c_Nodes_add) k_Nodes_add J K (n + 1) 36 L S M = ai_const 0 37 (am_run (c_Nodes_add) k_Nodes_add J K n) K 36 L S M := rfl
theorem r_Nodes_add_37 {J : aJ} {K : aR} {n : Nat} {L : aL} {S : List Value} {M : aM} : am_run (c_Nodes_add) k_Nodes_add J K (n + 1) 37 L S M = ai_iast 38 (am_run (c_Nodes_add) k_Nodes_add J K n) K 37 L S M := rfl
theorem r_Nodes_add_38 {J : aJ} {K : aR} {n : Nat} {L : aL} {S : List Value} {M : aM} : am_run (c_Nodes_add) k_Nodes_add J K (n + 1) 38 L S M = ai_aload 0 39 (am_run (c_Nodes_add) k_Nodes_add J K n) K 38 L S M := rfl
theorem r_Nodes_add_39 {J : aJ} {K : aR} {n : Nat} {L : aL} {S : List Value} {M : aM} : am_run (c_Nodes_add) k_Nodes_add J K (n + 1) 39 L S M = ai_getf 0 2 42 (am_run (c_Nodes_add) k_Nodes_add J K n) K 39 L S M := rfl
theorem r_Nodes_add_42 {J : aJ} {K : aR} {n : Nat} {L : aL} {S : List Value} {M : aM} : am_run (c_Nodes_add) k_Nodes_add J K (n + 1) 42 L S M = ai_iload 2 43 (am_run (c_Nodes_add) k_Nodes_add J K n) K 42 L S M := rfl
theorem r_Nodes_add_43 {J : aJ} {K : aR} {n : Nat} {L : aL} {S : List Value} {M : aM} : am_run (c_Nodes_add) k_Nodes_add J K (n + 1) 43 L S M = ai_aload 0 44 (am_run (c_Nodes_add) k_Nodes_add J K n) K 43 L S M := rfl
theorem r_Nodes_add_44 {J : aJ} {K : aR} {n : Nat} {L : aL} {S : List Value} {M : aM} : am_run (c_Nodes_add) k_Nodes_add J K (n + 1) 44 L S M = ai_getf 0 9 47 (am_run (c_Nodes_add) k_Nodes_add J K n) K 44 L S M := rfl
theorem r_Nodes_add_47 {J : aJ} {K : aR} {n : Nat} {L : aL} {S : List Value} {M : aM} : am_run (c_Nodes_add) k_Nodes_add J K (n + 1) 47 L S M = ai_iast 48 (am_run (c_Nodes_add) k_Nodes_add J K n) K 47 L S M := rfl
theorem r_Nodes_add_48 {J : aJ} {K : aR} {n : Nat} {L : aL} {S : List Value} {M : aM} : am_run (c_Nodes_add) k_Nodes_add J K (n + 1) 48 L S M = ai_aload 0 49 (am_run (c_Nodes_add) k_Nodes_add J K n) K 48 L S M := rfl
theorem r_Nodes_add_49 {J : aJ} {K : aR} {n : Nat} {L : aL} {S : List Value} {M : aM} : am_run (c_Nodes_add) k_Nodes_add J K (n + 1) 49 L S M = ai_getf 0 3 52 (am_run (c_Nodes_add) k_Nodes_add J K n) K 49 L S M := rfl
theorem r_Nodes_add_52 {J : aJ} {K : aR} {n : Nat} {L : aL} {S : List Value} {M : aM} : am_run (c_Nodes_add) k_Nodes_add J K (n + 1) 52 L S M = ai_iload 2 53 (am_run (c_Nodes_add) k_Nodes_add J K n) K 52 L S M := rfl
theorem r_Nodes_add_53 {J : aJ} {K : aR} {n : Nat} {L : aL} {S : List Value} {M : aM} : am_run (c_Nodes_add) k_Nodes_add J K (n + 1) 53 L S M = ai_const (-1) 54 (am_run (c_Nodes_add) k_Nodes_add J K n) K 53 L S M := rfl
theorem r_Nodes_add_54 {J : aJ} {K : aR} {n : Nat} {L : aL} {S : List Value} {M : aM} : am_run (c_Nodes_add) k_Nodes_add J K (n + 1) 54 L S M = ai_iast 55 (am_run (c_Nodes_add) k_Nodes_add J K n) K 54 L S M := rfl
theorem r_Nodes_add_55 {J : aJ} {K : aR} {n : Nat} {L : aL} {S : List Value} {M : aM} : am_run (c_Nodes_add) k_Nodes_add J K (n + 1) 55 L S M = ai_aload 0 56 (am_run (c_Nodes_add) k_Nodes_add J K n) K 55 L S M := rfl
theorem r_Nodes_add_56 {J : aJ} {K : aR} {n : Nat} {L : aL} {S : List Value} {M : aM} : am_run (c_Nodes_add) k_Nodes_add J K (n + 1) 56 L S M = ai_getf 0 4 59 (am_run (c_Nodes_add) k_Nodes_add J K n) K 56 L S M := rfl
theorem r_Nodes_add_59 {J : aJ} {K : aR} {n : Nat} {L : aL} {S : List Value} {M : aM} : am_run (c_Nodes_add) k_Nodes_add J K (n + 1) 59 L S M = ai_iload 2 60 (am_run (c_Nodes_add) k_Nodes_add J K n) K 59 L S M := rfl
theorem r_Nodes_add_60 {J : aJ} {K : aR} {n : Nat} {L : aL} {S : List Value} {M : aM} : am_run (c_Nodes_add) k_Nodes_add J K (n + 1) 60 L S M = ai_const (-1) 61 (am_run (c_Nodes_add) k_Nodes_add J K n) K 60 L S M := rfl
theorem r_Nodes_add_61 {J : aJ} {K : aR} {n : Nat} {L : aL} {S : List Value} {M : aM} : am_run (c_Nodes_add) k_Nodes_add J K (n + 1) 61 L S M = ai_iast 62 (am_run (c_Nodes_add) k_Nodes_add J K n) K 61 L S M := rfl
theorem r_Nodes_add_62 {J : aJ} {K : aR} {n : Nat} {L : aL} {S : List Value} {M : aM} : am_run (c_Nodes_add) k_Nodes_add J K (n + 1) 62 L S M = ai_aload 0 63 (am_run (c_Nodes_add) k_Nodes_add J K n) K 62 L S M := rfl
theorem r_Nodes_add_63 {J : aJ} {K : aR} {n : Nat} {L : aL} {S : List Value} {M : aM} : am_run (c_Nodes_add) k_Nodes_add J K (n + 1) 63 L S M = ai_dup 64 (am_run (c_Nodes_add) k_Nodes_add J K n) K 63 L S M := rfl
theorem r_Nodes_add_64 {J : aJ} {K : aR} {n : Nat} {L : aL} {S : List Value} {M : aM} : am_run (c_Nodes_add) k_Nodes_add J K (n + 1) 64 L S M = ai_getf 0 5 67 (am_run (c_Nodes_add) k_Nodes_add J K n) K 64 L S M := rfl
theorem r_Nodes_add_67 {J : aJ} {K : aR} {n : Nat} {L : aL} {S : List Value} {M : aM} : am_run (c_Nodes_add) k_Nodes_add J K (n + 1) 67 L S M = ai_const 1 68 (am_run (c_Nodes_add) k_Nodes_add J K n) K 67 L S M := rfl
theorem r_Nodes_add_68 {J : aJ} {K : aR} {n : Nat} {L : aL} {S : List Value} {M : aM} : am_run (c_Nodes_add) k_Nodes_add J K (n + 1) 68 L S M = ai_iadd 69 (am_run (c_Nodes_add) k_Nodes_add J K n) K 68 L S M := rfl
theorem r_Nodes_add_69 {J : aJ} {K : aR} {n : Nat} {L : aL} {S : List Value} {M : aM} : am_run (c_Nodes_add) k_Nodes_add J K (n + 1) 69 L S M = ai_putf 0 5 72 (am_run (c_Nodes_add) k_Nodes_add J K n) K 69 L S M := rfl
theorem r_Nodes_add_72 {J : aJ} {K : aR} {n : Nat} {L : aL} {S : List Value} {M : aM} : am_run (c_Nodes_add) k_Nodes_add J K (n + 1) 72 L S M = ai_iload 2 73 (am_run (c_Nodes_add) k_Nodes_add J K n) K 72 L S M := rfl
theorem r_Nodes_add_73 {J : aJ} {K : aR} {n : Nat} {L : aL} {S : List Value} {M : aM} : am_run (c_Nodes_add) k_Nodes_add J K (n + 1) 73 L S M = ai_iret (am_run (c_Nodes_add) k_Nodes_add J K n) K 73 L S M := rfl
def c_Nodes_addDatum : List (Nat × aI) := [
  (0, ai_aload 0 1),
  (1, ai_getf 0 7 4),
  (4, ai_iflt 37 7),
  (7, ai_aload 0 8),
  (8, ai_getf 0 7 11),
  (11, ai_const 200 14),
  (14, ai_cmpge 37 17),
  (17, ai_aload 0 18),
  (18, ai_getf 0 6 21),
  (21, ai_aload 0 22),
  (22, ai_getf 0 7 25),
  (25, ai_iload 1 26),
  (26, ai_iast 27),
  (27, ai_aload 0 28),
  (28, ai_dup 29),
  (29, ai_getf 0 7 32),
  (32, ai_const 1 33),
  (33, ai_iadd 34),
  (34, ai_putf 0 7 37),
  (37, ai_vret)]
set_option maxRecDepth 100000 in
set_option maxHeartbeats 4000000 in
theorem tb_Nodes_addDatum {G : aG} {d : Nat} : am_tab G Y_Nodes_addDatum d (c_Nodes_addDatum) := by
  intro K p e s m args below meth c C
  exact ⟨as_aload_n C (pc := 0) (q := 0) (by decide +kernel) rfl rfl,
    as_getf C (pc := 1) (T := T_Nodes) (N := 10) rfl in_Nodes (by decide) rfl w_126 (by decide +kernel) rfl,
    as_iflt C (pc := 4) (off := 33) (by decide +kernel) (by decide) rfl,
    as_aload_n C (pc := 7) (q := 0) (by decide +kernel) rfl rfl,
    as_getf C (pc := 8) (T := T_Nodes) (N := 10) rfl in_Nodes (by decide) rfl w_126 (by decide +kernel) rfl,
    as_sipush C (pc := 11) (n := 200) (by decide +kernel) (by decide +kernel) rfl,
    as_cmpge C (pc := 14) (off := 23) (by decide +kernel) (by decide) rfl,
    as_aload_n C (pc := 17) (q := 0) (by decide +kernel) rfl rfl,
    as_getf C (pc := 18) (T := T_Nodes) (N := 10) rfl in_Nodes (by decide) rfl w_125 (by decide +kernel) rfl,
    as_aload_n C (pc := 21) (q := 0) (by decide +kernel) rfl rfl,
    as_getf C (pc := 22) (T := T_Nodes) (N := 10) rfl in_Nodes (by decide) rfl w_126 (by decide +kernel) rfl,
    as_iload_n C (pc := 25) (q := 1) (by decide +kernel) rfl rfl,
    as_iast C (pc := 26) (by decide +kernel) rfl,
    as_aload_n C (pc := 27) (q := 0) (by decide +kernel) rfl rfl,
    as_dup C (pc := 28) (by decide +kernel) rfl,
    as_getf C (pc := 29) (T := T_Nodes) (N := 10) rfl in_Nodes (by decide) rfl w_126 (by decide +kernel) rfl,
    as_iconst C (pc := 32) (n := 1) (by decide +kernel) (by decide +kernel) rfl,
    as_iadd C (pc := 33) (by decide +kernel) rfl,
    as_putf C (pc := 34) t_Nodes (T := T_Nodes) (N := 10) rfl in_Nodes tok_Nodes nm_Nodes (by decide) rfl rfl (by decide +kernel) w_126 (by decide +kernel) rfl,
    as_vret C (pc := 37) rfl (by decide +kernel), trivial⟩
abbrev k_Nodes_addDatum : List Nat := []
theorem r_Nodes_addDatum_0 {J : aJ} {K : aR} {n : Nat} {L : aL} {S : List Value} {M : aM} : am_run (c_Nodes_addDatum) k_Nodes_addDatum J K (n + 1) 0 L S M = ai_aload 0 1 (am_run (c_Nodes_addDatum) k_Nodes_addDatum J K n) K 0 L S M := rfl
theorem r_Nodes_addDatum_1 {J : aJ} {K : aR} {n : Nat} {L : aL} {S : List Value} {M : aM} : am_run (c_Nodes_addDatum) k_Nodes_addDatum J K (n + 1) 1 L S M = ai_getf 0 7 4 (am_run (c_Nodes_addDatum) k_Nodes_addDatum J K n) K 1 L S M := rfl
theorem r_Nodes_addDatum_4 {J : aJ} {K : aR} {n : Nat} {L : aL} {S : List Value} {M : aM} : am_run (c_Nodes_addDatum) k_Nodes_addDatum J K (n + 1) 4 L S M = ai_iflt 37 7 (am_run (c_Nodes_addDatum) k_Nodes_addDatum J K n) K 4 L S M := rfl
theorem r_Nodes_addDatum_7 {J : aJ} {K : aR} {n : Nat} {L : aL} {S : List Value} {M : aM} : am_run (c_Nodes_addDatum) k_Nodes_addDatum J K (n + 1) 7 L S M = ai_aload 0 8 (am_run (c_Nodes_addDatum) k_Nodes_addDatum J K n) K 7 L S M := rfl
theorem r_Nodes_addDatum_8 {J : aJ} {K : aR} {n : Nat} {L : aL} {S : List Value} {M : aM} : am_run (c_Nodes_addDatum) k_Nodes_addDatum J K (n + 1) 8 L S M = ai_getf 0 7 11 (am_run (c_Nodes_addDatum) k_Nodes_addDatum J K n) K 8 L S M := rfl
theorem r_Nodes_addDatum_11 {J : aJ} {K : aR} {n : Nat} {L : aL} {S : List Value} {M : aM} : am_run (c_Nodes_addDatum) k_Nodes_addDatum J K (n + 1) 11 L S M = ai_const 200 14 (am_run (c_Nodes_addDatum) k_Nodes_addDatum J K n) K 11 L S M := rfl
theorem r_Nodes_addDatum_14 {J : aJ} {K : aR} {n : Nat} {L : aL} {S : List Value} {M : aM} : am_run (c_Nodes_addDatum) k_Nodes_addDatum J K (n + 1) 14 L S M = ai_cmpge 37 17 (am_run (c_Nodes_addDatum) k_Nodes_addDatum J K n) K 14 L S M := rfl
theorem r_Nodes_addDatum_17 {J : aJ} {K : aR} {n : Nat} {L : aL} {S : List Value} {M : aM} : am_run (c_Nodes_addDatum) k_Nodes_addDatum J K (n + 1) 17 L S M = ai_aload 0 18 (am_run (c_Nodes_addDatum) k_Nodes_addDatum J K n) K 17 L S M := rfl
theorem r_Nodes_addDatum_18 {J : aJ} {K : aR} {n : Nat} {L : aL} {S : List Value} {M : aM} : am_run (c_Nodes_addDatum) k_Nodes_addDatum J K (n + 1) 18 L S M = ai_getf 0 6 21 (am_run (c_Nodes_addDatum) k_Nodes_addDatum J K n) K 18 L S M := rfl
theorem r_Nodes_addDatum_21 {J : aJ} {K : aR} {n : Nat} {L : aL} {S : List Value} {M : aM} : am_run (c_Nodes_addDatum) k_Nodes_addDatum J K (n + 1) 21 L S M = ai_aload 0 22 (am_run (c_Nodes_addDatum) k_Nodes_addDatum J K n) K 21 L S M := rfl
theorem r_Nodes_addDatum_22 {J : aJ} {K : aR} {n : Nat} {L : aL} {S : List Value} {M : aM} : am_run (c_Nodes_addDatum) k_Nodes_addDatum J K (n + 1) 22 L S M = ai_getf 0 7 25 (am_run (c_Nodes_addDatum) k_Nodes_addDatum J K n) K 22 L S M := rfl
theorem r_Nodes_addDatum_25 {J : aJ} {K : aR} {n : Nat} {L : aL} {S : List Value} {M : aM} : am_run (c_Nodes_addDatum) k_Nodes_addDatum J K (n + 1) 25 L S M = ai_iload 1 26 (am_run (c_Nodes_addDatum) k_Nodes_addDatum J K n) K 25 L S M := rfl
theorem r_Nodes_addDatum_26 {J : aJ} {K : aR} {n : Nat} {L : aL} {S : List Value} {M : aM} : am_run (c_Nodes_addDatum) k_Nodes_addDatum J K (n + 1) 26 L S M = ai_iast 27 (am_run (c_Nodes_addDatum) k_Nodes_addDatum J K n) K 26 L S M := rfl
theorem r_Nodes_addDatum_27 {J : aJ} {K : aR} {n : Nat} {L : aL} {S : List Value} {M : aM} : am_run (c_Nodes_addDatum) k_Nodes_addDatum J K (n + 1) 27 L S M = ai_aload 0 28 (am_run (c_Nodes_addDatum) k_Nodes_addDatum J K n) K 27 L S M := rfl
theorem r_Nodes_addDatum_28 {J : aJ} {K : aR} {n : Nat} {L : aL} {S : List Value} {M : aM} : am_run (c_Nodes_addDatum) k_Nodes_addDatum J K (n + 1) 28 L S M = ai_dup 29 (am_run (c_Nodes_addDatum) k_Nodes_addDatum J K n) K 28 L S M := rfl
theorem r_Nodes_addDatum_29 {J : aJ} {K : aR} {n : Nat} {L : aL} {S : List Value} {M : aM} : am_run (c_Nodes_addDatum) k_Nodes_addDatum J K (n + 1) 29 L S M = ai_getf 0 7 32 (am_run (c_Nodes_addDatum) k_Nodes_addDatum J K n) K 29 L S M := rfl
theorem r_Nodes_addDatum_32 {J : aJ} {K : aR} {n : Nat} {L : aL} {S : List Value} {M : aM} : am_run (c_Nodes_addDatum) k_Nodes_addDatum J K (n + 1) 32 L S M = ai_const 1 33 (am_run (c_Nodes_addDatum) k_Nodes_addDatum J K n) K 32 L S M := rfl
theorem r_Nodes_addDatum_33 {J : aJ} {K : aR} {n : Nat} {L : aL} {S : List Value} {M : aM} : am_run (c_Nodes_addDatum) k_Nodes_addDatum J K (n + 1) 33 L S M = ai_iadd 34 (am_run (c_Nodes_addDatum) k_Nodes_addDatum J K n) K 33 L S M := rfl
theorem r_Nodes_addDatum_34 {J : aJ} {K : aR} {n : Nat} {L : aL} {S : List Value} {M : aM} : am_run (c_Nodes_addDatum) k_Nodes_addDatum J K (n + 1) 34 L S M = ai_putf 0 7 37 (am_run (c_Nodes_addDatum) k_Nodes_addDatum J K n) K 34 L S M := rfl
theorem r_Nodes_addDatum_37 {J : aJ} {K : aR} {n : Nat} {L : aL} {S : List Value} {M : aM} : am_run (c_Nodes_addDatum) k_Nodes_addDatum J K (n + 1) 37 L S M = ai_vret (am_run (c_Nodes_addDatum) k_Nodes_addDatum J K n) K 37 L S M := rfl
def c_Nodes_addLetter (s_Nodes_has : aS) : List (Nat × aI) := [
  (0, ai_aload 0 1),
  (1, ai_iload 1 2),
  (2, ai_callv2 0 s_Nodes_has 5),
  (5, ai_ifeq 57 8),
  (8, ai_aload 0 9),
  (9, ai_getf 0 9 12),
  (12, ai_iflt 57 15),
  (15, ai_aload 0 16),
  (16, ai_getf 0 9 19),
  (19, ai_aload 0 20),
  (20, ai_getf 0 8 23),
  (23, ai_alen 24),
  (24, ai_cmpge 57 27),
  (27, ai_aload 0 28),
  (28, ai_getf 0 8 31),
  (31, ai_aload 0 32),
  (32, ai_getf 0 9 35),
  (35, ai_iload 2 36),
  (36, ai_iast 37),
  (37, ai_aload 0 38),
  (38, ai_dup 39),
  (39, ai_getf 0 9 42),
  (42, ai_const 1 43),
  (43, ai_iadd 44),
  (44, ai_putf 0 9 47),
  (47, ai_aload 0 48),
  (48, ai_getf 0 1 51),
  (51, ai_iload 1 52),
  (52, ai_dup2 53),
  (53, ai_iald 54),
  (54, ai_const 1 55),
  (55, ai_iadd 56),
  (56, ai_iast 57),
  (57, ai_vret)]
set_option maxRecDepth 100000 in
set_option maxHeartbeats 4000000 in
theorem tb_Nodes_addLetter {G : aG} {d : Nat} {s_Nodes_has : aS} {d_Nodes_has : Nat} (h_Nodes_has : am_Sp G Y_Nodes_has d_Nodes_has s_Nodes_has) (l_Nodes_has : d_Nodes_has < d) : am_tab G Y_Nodes_addLetter d (c_Nodes_addLetter s_Nodes_has) := by
  intro K p e s m args below meth c C
  exact ⟨as_aload_n C (pc := 0) (q := 0) (by decide +kernel) rfl rfl,
    as_iload_n C (pc := 1) (q := 1) (by decide +kernel) rfl rfl,
    as_callv2 C (pc := 2) h_Nodes_has (T := T_Nodes) (N := 10) rfl w_341 w_72 w_340 w_21 w_338 hy_Nodes_has (am_rm_of l_Nodes_has (by decide)) (by decide +kernel) rfl,
    as_ifeq C (pc := 5) (off := 52) (by decide +kernel) (by decide) rfl,
    as_aload_n C (pc := 8) (q := 0) (by decide +kernel) rfl rfl,
    as_getf C (pc := 9) (T := T_Nodes) (N := 10) rfl in_Nodes (by decide) rfl w_129 (by decide +kernel) rfl,
    as_iflt C (pc := 12) (off := 45) (by decide +kernel) (by decide) rfl,
    as_aload_n C (pc := 15) (q := 0) (by decide +kernel) rfl rfl,
    as_getf C (pc := 16) (T := T_Nodes) (N := 10) rfl in_Nodes (by decide) rfl w_129 (by decide +kernel) rfl,
    as_aload_n C (pc := 19) (q := 0) (by decide +kernel) rfl rfl,
    as_getf C (pc := 20) (T := T_Nodes) (N := 10) rfl in_Nodes (by decide) rfl w_128 (by decide +kernel) rfl,
    as_alen C (pc := 23) (by decide +kernel) rfl,
    as_cmpge C (pc := 24) (off := 33) (by decide +kernel) (by decide) rfl,
    as_aload_n C (pc := 27) (q := 0) (by decide +kernel) rfl rfl,
    as_getf C (pc := 28) (T := T_Nodes) (N := 10) rfl in_Nodes (by decide) rfl w_128 (by decide +kernel) rfl,
    as_aload_n C (pc := 31) (q := 0) (by decide +kernel) rfl rfl,
    as_getf C (pc := 32) (T := T_Nodes) (N := 10) rfl in_Nodes (by decide) rfl w_129 (by decide +kernel) rfl,
    as_iload_n C (pc := 35) (q := 2) (by decide +kernel) rfl rfl,
    as_iast C (pc := 36) (by decide +kernel) rfl,
    as_aload_n C (pc := 37) (q := 0) (by decide +kernel) rfl rfl,
    as_dup C (pc := 38) (by decide +kernel) rfl,
    as_getf C (pc := 39) (T := T_Nodes) (N := 10) rfl in_Nodes (by decide) rfl w_129 (by decide +kernel) rfl,
    as_iconst C (pc := 42) (n := 1) (by decide +kernel) (by decide +kernel) rfl,
    as_iadd C (pc := 43) (by decide +kernel) rfl,
    as_putf C (pc := 44) t_Nodes (T := T_Nodes) (N := 10) rfl in_Nodes tok_Nodes nm_Nodes (by decide) rfl rfl (by decide +kernel) w_129 (by decide +kernel) rfl,
    as_aload_n C (pc := 47) (q := 0) (by decide +kernel) rfl rfl,
    as_getf C (pc := 48) (T := T_Nodes) (N := 10) rfl in_Nodes (by decide) rfl w_119 (by decide +kernel) rfl,
    as_iload_n C (pc := 51) (q := 1) (by decide +kernel) rfl rfl,
    as_dup2 C (pc := 52) (by decide +kernel) rfl,
    as_iald C (pc := 53) (by decide +kernel) rfl,
    as_iconst C (pc := 54) (n := 1) (by decide +kernel) (by decide +kernel) rfl,
    as_iadd C (pc := 55) (by decide +kernel) rfl,
    as_iast C (pc := 56) (by decide +kernel) rfl,
    as_vret C (pc := 57) rfl (by decide +kernel), trivial⟩
abbrev k_Nodes_addLetter : List Nat := []
theorem r_Nodes_addLetter_0 {s_Nodes_has : aS} {J : aJ} {K : aR} {n : Nat} {L : aL} {S : List Value} {M : aM} : am_run (c_Nodes_addLetter s_Nodes_has) k_Nodes_addLetter J K (n + 1) 0 L S M = ai_aload 0 1 (am_run (c_Nodes_addLetter s_Nodes_has) k_Nodes_addLetter J K n) K 0 L S M := rfl
theorem r_Nodes_addLetter_1 {s_Nodes_has : aS} {J : aJ} {K : aR} {n : Nat} {L : aL} {S : List Value} {M : aM} : am_run (c_Nodes_addLetter s_Nodes_has) k_Nodes_addLetter J K (n + 1) 1 L S M = ai_iload 1 2 (am_run (c_Nodes_addLetter s_Nodes_has) k_Nodes_addLetter J K n) K 1 L S M := rfl
theorem r_Nodes_addLetter_2 {s_Nodes_has : aS} {J : aJ} {K : aR} {n : Nat} {L : aL} {S : List Value} {M : aM} : am_run (c_Nodes_addLetter s_Nodes_has) k_Nodes_addLetter J K (n + 1) 2 L S M = ai_callv2 0 s_Nodes_has 5 (am_run (c_Nodes_addLetter s_Nodes_has) k_Nodes_addLetter J K n) K 2 L S M := rfl
theorem r_Nodes_addLetter_5 {s_Nodes_has : aS} {J : aJ} {K : aR} {n : Nat} {L : aL} {S : List Value} {M : aM} : am_run (c_Nodes_addLetter s_Nodes_has) k_Nodes_addLetter J K (n + 1) 5 L S M = ai_ifeq 57 8 (am_run (c_Nodes_addLetter s_Nodes_has) k_Nodes_addLetter J K n) K 5 L S M := rfl
theorem r_Nodes_addLetter_8 {s_Nodes_has : aS} {J : aJ} {K : aR} {n : Nat} {L : aL} {S : List Value} {M : aM} : am_run (c_Nodes_addLetter s_Nodes_has) k_Nodes_addLetter J K (n + 1) 8 L S M = ai_aload 0 9 (am_run (c_Nodes_addLetter s_Nodes_has) k_Nodes_addLetter J K n) K 8 L S M := rfl
theorem r_Nodes_addLetter_9 {s_Nodes_has : aS} {J : aJ} {K : aR} {n : Nat} {L : aL} {S : List Value} {M : aM} : am_run (c_Nodes_addLetter s_Nodes_has) k_Nodes_addLetter J K (n + 1) 9 L S M = ai_getf 0 9 12 (am_run (c_Nodes_addLetter s_Nodes_has) k_Nodes_addLetter J K n) K 9 L S M := rfl
theorem r_Nodes_addLetter_12 {s_Nodes_has : aS} {J : aJ} {K : aR} {n : Nat} {L : aL} {S : List Value} {M : aM} : am_run (c_Nodes_addLetter s_Nodes_has) k_Nodes_addLetter J K (n + 1) 12 L S M = ai_iflt 57 15 (am_run (c_Nodes_addLetter s_Nodes_has) k_Nodes_addLetter J K n) K 12 L S M := rfl
theorem r_Nodes_addLetter_15 {s_Nodes_has : aS} {J : aJ} {K : aR} {n : Nat} {L : aL} {S : List Value} {M : aM} : am_run (c_Nodes_addLetter s_Nodes_has) k_Nodes_addLetter J K (n + 1) 15 L S M = ai_aload 0 16 (am_run (c_Nodes_addLetter s_Nodes_has) k_Nodes_addLetter J K n) K 15 L S M := rfl
theorem r_Nodes_addLetter_16 {s_Nodes_has : aS} {J : aJ} {K : aR} {n : Nat} {L : aL} {S : List Value} {M : aM} : am_run (c_Nodes_addLetter s_Nodes_has) k_Nodes_addLetter J K (n + 1) 16 L S M = ai_getf 0 9 19 (am_run (c_Nodes_addLetter s_Nodes_has) k_Nodes_addLetter J K n) K 16 L S M := rfl
theorem r_Nodes_addLetter_19 {s_Nodes_has : aS} {J : aJ} {K : aR} {n : Nat} {L : aL} {S : List Value} {M : aM} : am_run (c_Nodes_addLetter s_Nodes_has) k_Nodes_addLetter J K (n + 1) 19 L S M = ai_aload 0 20 (am_run (c_Nodes_addLetter s_Nodes_has) k_Nodes_addLetter J K n) K 19 L S M := rfl
theorem r_Nodes_addLetter_20 {s_Nodes_has : aS} {J : aJ} {K : aR} {n : Nat} {L : aL} {S : List Value} {M : aM} : am_run (c_Nodes_addLetter s_Nodes_has) k_Nodes_addLetter J K (n + 1) 20 L S M = ai_getf 0 8 23 (am_run (c_Nodes_addLetter s_Nodes_has) k_Nodes_addLetter J K n) K 20 L S M := rfl
theorem r_Nodes_addLetter_23 {s_Nodes_has : aS} {J : aJ} {K : aR} {n : Nat} {L : aL} {S : List Value} {M : aM} : am_run (c_Nodes_addLetter s_Nodes_has) k_Nodes_addLetter J K (n + 1) 23 L S M = ai_alen 24 (am_run (c_Nodes_addLetter s_Nodes_has) k_Nodes_addLetter J K n) K 23 L S M := rfl
theorem r_Nodes_addLetter_24 {s_Nodes_has : aS} {J : aJ} {K : aR} {n : Nat} {L : aL} {S : List Value} {M : aM} : am_run (c_Nodes_addLetter s_Nodes_has) k_Nodes_addLetter J K (n + 1) 24 L S M = ai_cmpge 57 27 (am_run (c_Nodes_addLetter s_Nodes_has) k_Nodes_addLetter J K n) K 24 L S M := rfl
theorem r_Nodes_addLetter_27 {s_Nodes_has : aS} {J : aJ} {K : aR} {n : Nat} {L : aL} {S : List Value} {M : aM} : am_run (c_Nodes_addLetter s_Nodes_has) k_Nodes_addLetter J K (n + 1) 27 L S M = ai_aload 0 28 (am_run (c_Nodes_addLetter s_Nodes_has) k_Nodes_addLetter J K n) K 27 L S M := rfl
theorem r_Nodes_addLetter_28 {s_Nodes_has : aS} {J : aJ} {K : aR} {n : Nat} {L : aL} {S : List Value} {M : aM} : am_run (c_Nodes_addLetter s_Nodes_has) k_Nodes_addLetter J K (n + 1) 28 L S M = ai_getf 0 8 31 (am_run (c_Nodes_addLetter s_Nodes_has) k_Nodes_addLetter J K n) K 28 L S M := rfl
theorem r_Nodes_addLetter_31 {s_Nodes_has : aS} {J : aJ} {K : aR} {n : Nat} {L : aL} {S : List Value} {M : aM} : am_run (c_Nodes_addLetter s_Nodes_has) k_Nodes_addLetter J K (n + 1) 31 L S M = ai_aload 0 32 (am_run (c_Nodes_addLetter s_Nodes_has) k_Nodes_addLetter J K n) K 31 L S M := rfl
theorem r_Nodes_addLetter_32 {s_Nodes_has : aS} {J : aJ} {K : aR} {n : Nat} {L : aL} {S : List Value} {M : aM} : am_run (c_Nodes_addLetter s_Nodes_has) k_Nodes_addLetter J K (n + 1) 32 L S M = ai_getf 0 9 35 (am_run (c_Nodes_addLetter s_Nodes_has) k_Nodes_addLetter J K n) K 32 L S M := rfl
theorem r_Nodes_addLetter_35 {s_Nodes_has : aS} {J : aJ} {K : aR} {n : Nat} {L : aL} {S : List Value} {M : aM} : am_run (c_Nodes_addLetter s_Nodes_has) k_Nodes_addLetter J K (n + 1) 35 L S M = ai_iload 2 36 (am_run (c_Nodes_addLetter s_Nodes_has) k_Nodes_addLetter J K n) K 35 L S M := rfl
theorem r_Nodes_addLetter_36 {s_Nodes_has : aS} {J : aJ} {K : aR} {n : Nat} {L : aL} {S : List Value} {M : aM} : am_run (c_Nodes_addLetter s_Nodes_has) k_Nodes_addLetter J K (n + 1) 36 L S M = ai_iast 37 (am_run (c_Nodes_addLetter s_Nodes_has) k_Nodes_addLetter J K n) K 36 L S M := rfl
theorem r_Nodes_addLetter_37 {s_Nodes_has : aS} {J : aJ} {K : aR} {n : Nat} {L : aL} {S : List Value} {M : aM} : am_run (c_Nodes_addLetter s_Nodes_has) k_Nodes_addLetter J K (n + 1) 37 L S M = ai_aload 0 38 (am_run (c_Nodes_addLetter s_Nodes_has) k_Nodes_addLetter J K n) K 37 L S M := rfl
theorem r_Nodes_addLetter_38 {s_Nodes_has : aS} {J : aJ} {K : aR} {n : Nat} {L : aL} {S : List Value} {M : aM} : am_run (c_Nodes_addLetter s_Nodes_has) k_Nodes_addLetter J K (n + 1) 38 L S M = ai_dup 39 (am_run (c_Nodes_addLetter s_Nodes_has) k_Nodes_addLetter J K n) K 38 L S M := rfl
theorem r_Nodes_addLetter_39 {s_Nodes_has : aS} {J : aJ} {K : aR} {n : Nat} {L : aL} {S : List Value} {M : aM} : am_run (c_Nodes_addLetter s_Nodes_has) k_Nodes_addLetter J K (n + 1) 39 L S M = ai_getf 0 9 42 (am_run (c_Nodes_addLetter s_Nodes_has) k_Nodes_addLetter J K n) K 39 L S M := rfl
theorem r_Nodes_addLetter_42 {s_Nodes_has : aS} {J : aJ} {K : aR} {n : Nat} {L : aL} {S : List Value} {M : aM} : am_run (c_Nodes_addLetter s_Nodes_has) k_Nodes_addLetter J K (n + 1) 42 L S M = ai_const 1 43 (am_run (c_Nodes_addLetter s_Nodes_has) k_Nodes_addLetter J K n) K 42 L S M := rfl
theorem r_Nodes_addLetter_43 {s_Nodes_has : aS} {J : aJ} {K : aR} {n : Nat} {L : aL} {S : List Value} {M : aM} : am_run (c_Nodes_addLetter s_Nodes_has) k_Nodes_addLetter J K (n + 1) 43 L S M = ai_iadd 44 (am_run (c_Nodes_addLetter s_Nodes_has) k_Nodes_addLetter J K n) K 43 L S M := rfl
theorem r_Nodes_addLetter_44 {s_Nodes_has : aS} {J : aJ} {K : aR} {n : Nat} {L : aL} {S : List Value} {M : aM} : am_run (c_Nodes_addLetter s_Nodes_has) k_Nodes_addLetter J K (n + 1) 44 L S M = ai_putf 0 9 47 (am_run (c_Nodes_addLetter s_Nodes_has) k_Nodes_addLetter J K n) K 44 L S M := rfl
theorem r_Nodes_addLetter_47 {s_Nodes_has : aS} {J : aJ} {K : aR} {n : Nat} {L : aL} {S : List Value} {M : aM} : am_run (c_Nodes_addLetter s_Nodes_has) k_Nodes_addLetter J K (n + 1) 47 L S M = ai_aload 0 48 (am_run (c_Nodes_addLetter s_Nodes_has) k_Nodes_addLetter J K n) K 47 L S M := rfl
theorem r_Nodes_addLetter_48 {s_Nodes_has : aS} {J : aJ} {K : aR} {n : Nat} {L : aL} {S : List Value} {M : aM} : am_run (c_Nodes_addLetter s_Nodes_has) k_Nodes_addLetter J K (n + 1) 48 L S M = ai_getf 0 1 51 (am_run (c_Nodes_addLetter s_Nodes_has) k_Nodes_addLetter J K n) K 48 L S M := rfl
theorem r_Nodes_addLetter_51 {s_Nodes_has : aS} {J : aJ} {K : aR} {n : Nat} {L : aL} {S : List Value} {M : aM} : am_run (c_Nodes_addLetter s_Nodes_has) k_Nodes_addLetter J K (n + 1) 51 L S M = ai_iload 1 52 (am_run (c_Nodes_addLetter s_Nodes_has) k_Nodes_addLetter J K n) K 51 L S M := rfl
theorem r_Nodes_addLetter_52 {s_Nodes_has : aS} {J : aJ} {K : aR} {n : Nat} {L : aL} {S : List Value} {M : aM} : am_run (c_Nodes_addLetter s_Nodes_has) k_Nodes_addLetter J K (n + 1) 52 L S M = ai_dup2 53 (am_run (c_Nodes_addLetter s_Nodes_has) k_Nodes_addLetter J K n) K 52 L S M := rfl
theorem r_Nodes_addLetter_53 {s_Nodes_has : aS} {J : aJ} {K : aR} {n : Nat} {L : aL} {S : List Value} {M : aM} : am_run (c_Nodes_addLetter s_Nodes_has) k_Nodes_addLetter J K (n + 1) 53 L S M = ai_iald 54 (am_run (c_Nodes_addLetter s_Nodes_has) k_Nodes_addLetter J K n) K 53 L S M := rfl
theorem r_Nodes_addLetter_54 {s_Nodes_has : aS} {J : aJ} {K : aR} {n : Nat} {L : aL} {S : List Value} {M : aM} : am_run (c_Nodes_addLetter s_Nodes_has) k_Nodes_addLetter J K (n + 1) 54 L S M = ai_const 1 55 (am_run (c_Nodes_addLetter s_Nodes_has) k_Nodes_addLetter J K n) K 54 L S M := rfl
theorem r_Nodes_addLetter_55 {s_Nodes_has : aS} {J : aJ} {K : aR} {n : Nat} {L : aL} {S : List Value} {M : aM} : am_run (c_Nodes_addLetter s_Nodes_has) k_Nodes_addLetter J K (n + 1) 55 L S M = ai_iadd 56 (am_run (c_Nodes_addLetter s_Nodes_has) k_Nodes_addLetter J K n) K 55 L S M := rfl
theorem r_Nodes_addLetter_56 {s_Nodes_has : aS} {J : aJ} {K : aR} {n : Nat} {L : aL} {S : List Value} {M : aM} : am_run (c_Nodes_addLetter s_Nodes_has) k_Nodes_addLetter J K (n + 1) 56 L S M = ai_iast 57 (am_run (c_Nodes_addLetter s_Nodes_has) k_Nodes_addLetter J K n) K 56 L S M := rfl
theorem r_Nodes_addLetter_57 {s_Nodes_has : aS} {J : aJ} {K : aR} {n : Nat} {L : aL} {S : List Value} {M : aM} : am_run (c_Nodes_addLetter s_Nodes_has) k_Nodes_addLetter J K (n + 1) 57 L S M = ai_vret (am_run (c_Nodes_addLetter s_Nodes_has) k_Nodes_addLetter J K n) K 57 L S M := rfl
def c_Nodes_nameQuote (s_Nodes_has : aS) : List (Nat × aI) := [
  (0, ai_aload 0 1),
  (1, ai_iload 1 2),
  (2, ai_callv2 0 s_Nodes_has 5),
  (5, ai_ifeq 25 8),
  (8, ai_aload 0 9),
  (9, ai_getf 0 2 12),
  (12, ai_iload 1 13),
  (13, ai_const 0 14),
  (14, ai_iast 15),
  (15, ai_aload 0 16),
  (16, ai_getf 0 1 19),
  (19, ai_iload 1 20),
  (20, ai_gets (.ref 1000) 23),
  (23, ai_xlen 1000 5 24),
  (24, ai_iast 25),
  (25, ai_vret)]
set_option maxRecDepth 100000 in
set_option maxHeartbeats 4000000 in
theorem tb_Nodes_nameQuote {G : aG} {d : Nat} {s_Nodes_has : aS} {d_Nodes_has : Nat} (h_Nodes_has : am_Sp G Y_Nodes_has d_Nodes_has s_Nodes_has) (l_Nodes_has : d_Nodes_has < d) : am_tab G Y_Nodes_nameQuote d (c_Nodes_nameQuote s_Nodes_has) := by
  intro K p e s m args below meth c C
  exact ⟨as_aload_n C (pc := 0) (q := 0) (by decide +kernel) rfl rfl,
    as_iload_n C (pc := 1) (q := 1) (by decide +kernel) rfl rfl,
    as_callv2 C (pc := 2) h_Nodes_has (T := T_Nodes) (N := 10) rfl w_341 w_72 w_340 w_21 w_338 hy_Nodes_has (am_rm_of l_Nodes_has (by decide)) (by decide +kernel) rfl,
    as_ifeq C (pc := 5) (off := 20) (by decide +kernel) (by decide) rfl,
    as_aload_n C (pc := 8) (q := 0) (by decide +kernel) rfl rfl,
    as_getf C (pc := 9) (T := T_Nodes) (N := 10) rfl in_Nodes (by decide) rfl w_120 (by decide +kernel) rfl,
    as_iload_n C (pc := 12) (q := 1) (by decide +kernel) rfl rfl,
    as_iconst C (pc := 13) (n := 0) (by decide +kernel) (by decide +kernel) rfl,
    as_iast C (pc := 14) (by decide +kernel) rfl,
    as_aload_n C (pc := 15) (q := 0) (by decide +kernel) rfl rfl,
    as_getf C (pc := 16) (T := T_Nodes) (N := 10) rfl in_Nodes (by decide) rfl w_119 (by decide +kernel) rfl,
    as_iload_n C (pc := 19) (q := 1) (by decide +kernel) rfl rfl,
    as_getsN C (pc := 20) (Cn := "DatumDesk") (f := "QUOTE") (d := "[I") List.mem_cons_self w_113 (by decide +kernel) rfl,
    as_xlen C (pc := 23) (hm_1000 G) (by decide +kernel) rfl,
    as_iast C (pc := 24) (by decide +kernel) rfl,
    as_vret C (pc := 25) rfl (by decide +kernel), trivial⟩
abbrev k_Nodes_nameQuote : List Nat := []
theorem r_Nodes_nameQuote_0 {s_Nodes_has : aS} {J : aJ} {K : aR} {n : Nat} {L : aL} {S : List Value} {M : aM} : am_run (c_Nodes_nameQuote s_Nodes_has) k_Nodes_nameQuote J K (n + 1) 0 L S M = ai_aload 0 1 (am_run (c_Nodes_nameQuote s_Nodes_has) k_Nodes_nameQuote J K n) K 0 L S M := rfl
theorem r_Nodes_nameQuote_1 {s_Nodes_has : aS} {J : aJ} {K : aR} {n : Nat} {L : aL} {S : List Value} {M : aM} : am_run (c_Nodes_nameQuote s_Nodes_has) k_Nodes_nameQuote J K (n + 1) 1 L S M = ai_iload 1 2 (am_run (c_Nodes_nameQuote s_Nodes_has) k_Nodes_nameQuote J K n) K 1 L S M := rfl
theorem r_Nodes_nameQuote_2 {s_Nodes_has : aS} {J : aJ} {K : aR} {n : Nat} {L : aL} {S : List Value} {M : aM} : am_run (c_Nodes_nameQuote s_Nodes_has) k_Nodes_nameQuote J K (n + 1) 2 L S M = ai_callv2 0 s_Nodes_has 5 (am_run (c_Nodes_nameQuote s_Nodes_has) k_Nodes_nameQuote J K n) K 2 L S M := rfl
theorem r_Nodes_nameQuote_5 {s_Nodes_has : aS} {J : aJ} {K : aR} {n : Nat} {L : aL} {S : List Value} {M : aM} : am_run (c_Nodes_nameQuote s_Nodes_has) k_Nodes_nameQuote J K (n + 1) 5 L S M = ai_ifeq 25 8 (am_run (c_Nodes_nameQuote s_Nodes_has) k_Nodes_nameQuote J K n) K 5 L S M := rfl
theorem r_Nodes_nameQuote_8 {s_Nodes_has : aS} {J : aJ} {K : aR} {n : Nat} {L : aL} {S : List Value} {M : aM} : am_run (c_Nodes_nameQuote s_Nodes_has) k_Nodes_nameQuote J K (n + 1) 8 L S M = ai_aload 0 9 (am_run (c_Nodes_nameQuote s_Nodes_has) k_Nodes_nameQuote J K n) K 8 L S M := rfl
theorem r_Nodes_nameQuote_9 {s_Nodes_has : aS} {J : aJ} {K : aR} {n : Nat} {L : aL} {S : List Value} {M : aM} : am_run (c_Nodes_nameQuote s_Nodes_has) k_Nodes_nameQuote J K (n + 1) 9 L S M = ai_getf 0 2 12 (am_run (c_Nodes_nameQuote s_Nodes_has) k_Nodes_nameQuote J K n) K 9 L S M := rfl
theorem r_Nodes_nameQuote_12 {s_Nodes_has : aS} {J : aJ} {K : aR} {n : Nat} {L : aL} {S : List Value} {M : aM} : am_run (c_Nodes_nameQuote s_Nodes_has) k_Nodes_nameQuote J K (n + 1) 12 L S M = ai_iload 1 13 (am_run (c_Nodes_nameQuote s_Nodes_has) k_Nodes_nameQuote J K n) K 12 L S M := rfl
theorem r_Nodes_nameQuote_13 {s_Nodes_has : aS} {J : aJ} {K : aR} {n : Nat} {L : aL} {S : List Value} {M : aM} : am_run (c_Nodes_nameQuote s_Nodes_has) k_Nodes_nameQuote J K (n + 1) 13 L S M = ai_const 0 14 (am_run (c_Nodes_nameQuote s_Nodes_has) k_Nodes_nameQuote J K n) K 13 L S M := rfl
theorem r_Nodes_nameQuote_14 {s_Nodes_has : aS} {J : aJ} {K : aR} {n : Nat} {L : aL} {S : List Value} {M : aM} : am_run (c_Nodes_nameQuote s_Nodes_has) k_Nodes_nameQuote J K (n + 1) 14 L S M = ai_iast 15 (am_run (c_Nodes_nameQuote s_Nodes_has) k_Nodes_nameQuote J K n) K 14 L S M := rfl
theorem r_Nodes_nameQuote_15 {s_Nodes_has : aS} {J : aJ} {K : aR} {n : Nat} {L : aL} {S : List Value} {M : aM} : am_run (c_Nodes_nameQuote s_Nodes_has) k_Nodes_nameQuote J K (n + 1) 15 L S M = ai_aload 0 16 (am_run (c_Nodes_nameQuote s_Nodes_has) k_Nodes_nameQuote J K n) K 15 L S M := rfl
theorem r_Nodes_nameQuote_16 {s_Nodes_has : aS} {J : aJ} {K : aR} {n : Nat} {L : aL} {S : List Value} {M : aM} : am_run (c_Nodes_nameQuote s_Nodes_has) k_Nodes_nameQuote J K (n + 1) 16 L S M = ai_getf 0 1 19 (am_run (c_Nodes_nameQuote s_Nodes_has) k_Nodes_nameQuote J K n) K 16 L S M := rfl
theorem r_Nodes_nameQuote_19 {s_Nodes_has : aS} {J : aJ} {K : aR} {n : Nat} {L : aL} {S : List Value} {M : aM} : am_run (c_Nodes_nameQuote s_Nodes_has) k_Nodes_nameQuote J K (n + 1) 19 L S M = ai_iload 1 20 (am_run (c_Nodes_nameQuote s_Nodes_has) k_Nodes_nameQuote J K n) K 19 L S M := rfl
theorem r_Nodes_nameQuote_20 {s_Nodes_has : aS} {J : aJ} {K : aR} {n : Nat} {L : aL} {S : List Value} {M : aM} : am_run (c_Nodes_nameQuote s_Nodes_has) k_Nodes_nameQuote J K (n + 1) 20 L S M = ai_gets (.ref 1000) 23 (am_run (c_Nodes_nameQuote s_Nodes_has) k_Nodes_nameQuote J K n) K 20 L S M := rfl
theorem r_Nodes_nameQuote_23 {s_Nodes_has : aS} {J : aJ} {K : aR} {n : Nat} {L : aL} {S : List Value} {M : aM} : am_run (c_Nodes_nameQuote s_Nodes_has) k_Nodes_nameQuote J K (n + 1) 23 L S M = ai_xlen 1000 5 24 (am_run (c_Nodes_nameQuote s_Nodes_has) k_Nodes_nameQuote J K n) K 23 L S M := rfl
theorem r_Nodes_nameQuote_24 {s_Nodes_has : aS} {J : aJ} {K : aR} {n : Nat} {L : aL} {S : List Value} {M : aM} : am_run (c_Nodes_nameQuote s_Nodes_has) k_Nodes_nameQuote J K (n + 1) 24 L S M = ai_iast 25 (am_run (c_Nodes_nameQuote s_Nodes_has) k_Nodes_nameQuote J K n) K 24 L S M := rfl
theorem r_Nodes_nameQuote_25 {s_Nodes_has : aS} {J : aJ} {K : aR} {n : Nat} {L : aL} {S : List Value} {M : aM} : am_run (c_Nodes_nameQuote s_Nodes_has) k_Nodes_nameQuote J K (n + 1) 25 L S M = ai_vret (am_run (c_Nodes_nameQuote s_Nodes_has) k_Nodes_nameQuote J K n) K 25 L S M := rfl
def c_Nodes_setAmount (s_Nodes_has : aS) : List (Nat × aI) := [
  (0, ai_aload 0 1),
  (1, ai_iload 1 2),
  (2, ai_callv2 0 s_Nodes_has 5),
  (5, ai_ifeq 15 8),
  (8, ai_aload 0 9),
  (9, ai_getf 0 1 12),
  (12, ai_iload 1 13),
  (13, ai_iload 2 14),
  (14, ai_iast 15),
  (15, ai_vret)]
set_option maxRecDepth 100000 in
set_option maxHeartbeats 4000000 in
theorem tb_Nodes_setAmount {G : aG} {d : Nat} {s_Nodes_has : aS} {d_Nodes_has : Nat} (h_Nodes_has : am_Sp G Y_Nodes_has d_Nodes_has s_Nodes_has) (l_Nodes_has : d_Nodes_has < d) : am_tab G Y_Nodes_setAmount d (c_Nodes_setAmount s_Nodes_has) := by
  intro K p e s m args below meth c C
  exact ⟨as_aload_n C (pc := 0) (q := 0) (by decide +kernel) rfl rfl,
    as_iload_n C (pc := 1) (q := 1) (by decide +kernel) rfl rfl,
    as_callv2 C (pc := 2) h_Nodes_has (T := T_Nodes) (N := 10) rfl w_341 w_72 w_340 w_21 w_338 hy_Nodes_has (am_rm_of l_Nodes_has (by decide)) (by decide +kernel) rfl,
    as_ifeq C (pc := 5) (off := 10) (by decide +kernel) (by decide) rfl,
    as_aload_n C (pc := 8) (q := 0) (by decide +kernel) rfl rfl,
    as_getf C (pc := 9) (T := T_Nodes) (N := 10) rfl in_Nodes (by decide) rfl w_119 (by decide +kernel) rfl,
    as_iload_n C (pc := 12) (q := 1) (by decide +kernel) rfl rfl,
    as_iload_n C (pc := 13) (q := 2) (by decide +kernel) rfl rfl,
    as_iast C (pc := 14) (by decide +kernel) rfl,
    as_vret C (pc := 15) rfl (by decide +kernel), trivial⟩
abbrev k_Nodes_setAmount : List Nat := []
theorem r_Nodes_setAmount_0 {s_Nodes_has : aS} {J : aJ} {K : aR} {n : Nat} {L : aL} {S : List Value} {M : aM} : am_run (c_Nodes_setAmount s_Nodes_has) k_Nodes_setAmount J K (n + 1) 0 L S M = ai_aload 0 1 (am_run (c_Nodes_setAmount s_Nodes_has) k_Nodes_setAmount J K n) K 0 L S M := rfl
theorem r_Nodes_setAmount_1 {s_Nodes_has : aS} {J : aJ} {K : aR} {n : Nat} {L : aL} {S : List Value} {M : aM} : am_run (c_Nodes_setAmount s_Nodes_has) k_Nodes_setAmount J K (n + 1) 1 L S M = ai_iload 1 2 (am_run (c_Nodes_setAmount s_Nodes_has) k_Nodes_setAmount J K n) K 1 L S M := rfl
theorem r_Nodes_setAmount_2 {s_Nodes_has : aS} {J : aJ} {K : aR} {n : Nat} {L : aL} {S : List Value} {M : aM} : am_run (c_Nodes_setAmount s_Nodes_has) k_Nodes_setAmount J K (n + 1) 2 L S M = ai_callv2 0 s_Nodes_has 5 (am_run (c_Nodes_setAmount s_Nodes_has) k_Nodes_setAmount J K n) K 2 L S M := rfl
theorem r_Nodes_setAmount_5 {s_Nodes_has : aS} {J : aJ} {K : aR} {n : Nat} {L : aL} {S : List Value} {M : aM} : am_run (c_Nodes_setAmount s_Nodes_has) k_Nodes_setAmount J K (n + 1) 5 L S M = ai_ifeq 15 8 (am_run (c_Nodes_setAmount s_Nodes_has) k_Nodes_setAmount J K n) K 5 L S M := rfl
theorem r_Nodes_setAmount_8 {s_Nodes_has : aS} {J : aJ} {K : aR} {n : Nat} {L : aL} {S : List Value} {M : aM} : am_run (c_Nodes_setAmount s_Nodes_has) k_Nodes_setAmount J K (n + 1) 8 L S M = ai_aload 0 9 (am_run (c_Nodes_setAmount s_Nodes_has) k_Nodes_setAmount J K n) K 8 L S M := rfl
theorem r_Nodes_setAmount_9 {s_Nodes_has : aS} {J : aJ} {K : aR} {n : Nat} {L : aL} {S : List Value} {M : aM} : am_run (c_Nodes_setAmount s_Nodes_has) k_Nodes_setAmount J K (n + 1) 9 L S M = ai_getf 0 1 12 (am_run (c_Nodes_setAmount s_Nodes_has) k_Nodes_setAmount J K n) K 9 L S M := rfl
theorem r_Nodes_setAmount_12 {s_Nodes_has : aS} {J : aJ} {K : aR} {n : Nat} {L : aL} {S : List Value} {M : aM} : am_run (c_Nodes_setAmount s_Nodes_has) k_Nodes_setAmount J K (n + 1) 12 L S M = ai_iload 1 13 (am_run (c_Nodes_setAmount s_Nodes_has) k_Nodes_setAmount J K n) K 12 L S M := rfl
theorem r_Nodes_setAmount_13 {s_Nodes_has : aS} {J : aJ} {K : aR} {n : Nat} {L : aL} {S : List Value} {M : aM} : am_run (c_Nodes_setAmount s_Nodes_has) k_Nodes_setAmount J K (n + 1) 13 L S M = ai_iload 2 14 (am_run (c_Nodes_setAmount s_Nodes_has) k_Nodes_setAmount J K n) K 13 L S M := rfl
theorem r_Nodes_setAmount_14 {s_Nodes_has : aS} {J : aJ} {K : aR} {n : Nat} {L : aL} {S : List Value} {M : aM} : am_run (c_Nodes_setAmount s_Nodes_has) k_Nodes_setAmount J K (n + 1) 14 L S M = ai_iast 15 (am_run (c_Nodes_setAmount s_Nodes_has) k_Nodes_setAmount J K n) K 14 L S M := rfl
theorem r_Nodes_setAmount_15 {s_Nodes_has : aS} {J : aJ} {K : aR} {n : Nat} {L : aL} {S : List Value} {M : aM} : am_run (c_Nodes_setAmount s_Nodes_has) k_Nodes_setAmount J K (n + 1) 15 L S M = ai_vret (am_run (c_Nodes_setAmount s_Nodes_has) k_Nodes_setAmount J K n) K 15 L S M := rfl
def c_Nodes_setHead (s_Nodes_has : aS) : List (Nat × aI) := [
  (0, ai_aload 0 1),
  (1, ai_iload 1 2),
  (2, ai_callv2 0 s_Nodes_has 5),
  (5, ai_ifeq 15 8),
  (8, ai_aload 0 9),
  (9, ai_getf 0 3 12),
  (12, ai_iload 1 13),
  (13, ai_iload 2 14),
  (14, ai_iast 15),
  (15, ai_vret)]
set_option maxRecDepth 100000 in
set_option maxHeartbeats 4000000 in
theorem tb_Nodes_setHead {G : aG} {d : Nat} {s_Nodes_has : aS} {d_Nodes_has : Nat} (h_Nodes_has : am_Sp G Y_Nodes_has d_Nodes_has s_Nodes_has) (l_Nodes_has : d_Nodes_has < d) : am_tab G Y_Nodes_setHead d (c_Nodes_setHead s_Nodes_has) := by
  intro K p e s m args below meth c C
  exact ⟨as_aload_n C (pc := 0) (q := 0) (by decide +kernel) rfl rfl,
    as_iload_n C (pc := 1) (q := 1) (by decide +kernel) rfl rfl,
    as_callv2 C (pc := 2) h_Nodes_has (T := T_Nodes) (N := 10) rfl w_341 w_72 w_340 w_21 w_338 hy_Nodes_has (am_rm_of l_Nodes_has (by decide)) (by decide +kernel) rfl,
    as_ifeq C (pc := 5) (off := 10) (by decide +kernel) (by decide) rfl,
    as_aload_n C (pc := 8) (q := 0) (by decide +kernel) rfl rfl,
    as_getf C (pc := 9) (T := T_Nodes) (N := 10) rfl in_Nodes (by decide) rfl w_121 (by decide +kernel) rfl,
    as_iload_n C (pc := 12) (q := 1) (by decide +kernel) rfl rfl,
    as_iload_n C (pc := 13) (q := 2) (by decide +kernel) rfl rfl,
    as_iast C (pc := 14) (by decide +kernel) rfl,
    as_vret C (pc := 15) rfl (by decide +kernel), trivial⟩
abbrev k_Nodes_setHead : List Nat := []
theorem r_Nodes_setHead_0 {s_Nodes_has : aS} {J : aJ} {K : aR} {n : Nat} {L : aL} {S : List Value} {M : aM} : am_run (c_Nodes_setHead s_Nodes_has) k_Nodes_setHead J K (n + 1) 0 L S M = ai_aload 0 1 (am_run (c_Nodes_setHead s_Nodes_has) k_Nodes_setHead J K n) K 0 L S M := rfl
theorem r_Nodes_setHead_1 {s_Nodes_has : aS} {J : aJ} {K : aR} {n : Nat} {L : aL} {S : List Value} {M : aM} : am_run (c_Nodes_setHead s_Nodes_has) k_Nodes_setHead J K (n + 1) 1 L S M = ai_iload 1 2 (am_run (c_Nodes_setHead s_Nodes_has) k_Nodes_setHead J K n) K 1 L S M := rfl
theorem r_Nodes_setHead_2 {s_Nodes_has : aS} {J : aJ} {K : aR} {n : Nat} {L : aL} {S : List Value} {M : aM} : am_run (c_Nodes_setHead s_Nodes_has) k_Nodes_setHead J K (n + 1) 2 L S M = ai_callv2 0 s_Nodes_has 5 (am_run (c_Nodes_setHead s_Nodes_has) k_Nodes_setHead J K n) K 2 L S M := rfl
theorem r_Nodes_setHead_5 {s_Nodes_has : aS} {J : aJ} {K : aR} {n : Nat} {L : aL} {S : List Value} {M : aM} : am_run (c_Nodes_setHead s_Nodes_has) k_Nodes_setHead J K (n + 1) 5 L S M = ai_ifeq 15 8 (am_run (c_Nodes_setHead s_Nodes_has) k_Nodes_setHead J K n) K 5 L S M := rfl
theorem r_Nodes_setHead_8 {s_Nodes_has : aS} {J : aJ} {K : aR} {n : Nat} {L : aL} {S : List Value} {M : aM} : am_run (c_Nodes_setHead s_Nodes_has) k_Nodes_setHead J K (n + 1) 8 L S M = ai_aload 0 9 (am_run (c_Nodes_setHead s_Nodes_has) k_Nodes_setHead J K n) K 8 L S M := rfl
theorem r_Nodes_setHead_9 {s_Nodes_has : aS} {J : aJ} {K : aR} {n : Nat} {L : aL} {S : List Value} {M : aM} : am_run (c_Nodes_setHead s_Nodes_has) k_Nodes_setHead J K (n + 1) 9 L S M = ai_getf 0 3 12 (am_run (c_Nodes_setHead s_Nodes_has) k_Nodes_setHead J K n) K 9 L S M := rfl
theorem r_Nodes_setHead_12 {s_Nodes_has : aS} {J : aJ} {K : aR} {n : Nat} {L : aL} {S : List Value} {M : aM} : am_run (c_Nodes_setHead s_Nodes_has) k_Nodes_setHead J K (n + 1) 12 L S M = ai_iload 1 13 (am_run (c_Nodes_setHead s_Nodes_has) k_Nodes_setHead J K n) K 12 L S M := rfl
theorem r_Nodes_setHead_13 {s_Nodes_has : aS} {J : aJ} {K : aR} {n : Nat} {L : aL} {S : List Value} {M : aM} : am_run (c_Nodes_setHead s_Nodes_has) k_Nodes_setHead J K (n + 1) 13 L S M = ai_iload 2 14 (am_run (c_Nodes_setHead s_Nodes_has) k_Nodes_setHead J K n) K 13 L S M := rfl
theorem r_Nodes_setHead_14 {s_Nodes_has : aS} {J : aJ} {K : aR} {n : Nat} {L : aL} {S : List Value} {M : aM} : am_run (c_Nodes_setHead s_Nodes_has) k_Nodes_setHead J K (n + 1) 14 L S M = ai_iast 15 (am_run (c_Nodes_setHead s_Nodes_has) k_Nodes_setHead J K n) K 14 L S M := rfl
theorem r_Nodes_setHead_15 {s_Nodes_has : aS} {J : aJ} {K : aR} {n : Nat} {L : aL} {S : List Value} {M : aM} : am_run (c_Nodes_setHead s_Nodes_has) k_Nodes_setHead J K (n + 1) 15 L S M = ai_vret (am_run (c_Nodes_setHead s_Nodes_has) k_Nodes_setHead J K n) K 15 L S M := rfl
def c_Nodes_setTail (s_Nodes_has : aS) : List (Nat × aI) := [
  (0, ai_aload 0 1),
  (1, ai_iload 1 2),
  (2, ai_callv2 0 s_Nodes_has 5),
  (5, ai_ifeq 15 8),
  (8, ai_aload 0 9),
  (9, ai_getf 0 4 12),
  (12, ai_iload 1 13),
  (13, ai_iload 2 14),
  (14, ai_iast 15),
  (15, ai_vret)]
set_option maxRecDepth 100000 in
set_option maxHeartbeats 4000000 in
theorem tb_Nodes_setTail {G : aG} {d : Nat} {s_Nodes_has : aS} {d_Nodes_has : Nat} (h_Nodes_has : am_Sp G Y_Nodes_has d_Nodes_has s_Nodes_has) (l_Nodes_has : d_Nodes_has < d) : am_tab G Y_Nodes_setTail d (c_Nodes_setTail s_Nodes_has) := by
  intro K p e s m args below meth c C
  exact ⟨as_aload_n C (pc := 0) (q := 0) (by decide +kernel) rfl rfl,
    as_iload_n C (pc := 1) (q := 1) (by decide +kernel) rfl rfl,
    as_callv2 C (pc := 2) h_Nodes_has (T := T_Nodes) (N := 10) rfl w_341 w_72 w_340 w_21 w_338 hy_Nodes_has (am_rm_of l_Nodes_has (by decide)) (by decide +kernel) rfl,
    as_ifeq C (pc := 5) (off := 10) (by decide +kernel) (by decide) rfl,
    as_aload_n C (pc := 8) (q := 0) (by decide +kernel) rfl rfl,
    as_getf C (pc := 9) (T := T_Nodes) (N := 10) rfl in_Nodes (by decide) rfl w_122 (by decide +kernel) rfl,
    as_iload_n C (pc := 12) (q := 1) (by decide +kernel) rfl rfl,
    as_iload_n C (pc := 13) (q := 2) (by decide +kernel) rfl rfl,
    as_iast C (pc := 14) (by decide +kernel) rfl,
    as_vret C (pc := 15) rfl (by decide +kernel), trivial⟩
abbrev k_Nodes_setTail : List Nat := []
theorem r_Nodes_setTail_0 {s_Nodes_has : aS} {J : aJ} {K : aR} {n : Nat} {L : aL} {S : List Value} {M : aM} : am_run (c_Nodes_setTail s_Nodes_has) k_Nodes_setTail J K (n + 1) 0 L S M = ai_aload 0 1 (am_run (c_Nodes_setTail s_Nodes_has) k_Nodes_setTail J K n) K 0 L S M := rfl
theorem r_Nodes_setTail_1 {s_Nodes_has : aS} {J : aJ} {K : aR} {n : Nat} {L : aL} {S : List Value} {M : aM} : am_run (c_Nodes_setTail s_Nodes_has) k_Nodes_setTail J K (n + 1) 1 L S M = ai_iload 1 2 (am_run (c_Nodes_setTail s_Nodes_has) k_Nodes_setTail J K n) K 1 L S M := rfl
theorem r_Nodes_setTail_2 {s_Nodes_has : aS} {J : aJ} {K : aR} {n : Nat} {L : aL} {S : List Value} {M : aM} : am_run (c_Nodes_setTail s_Nodes_has) k_Nodes_setTail J K (n + 1) 2 L S M = ai_callv2 0 s_Nodes_has 5 (am_run (c_Nodes_setTail s_Nodes_has) k_Nodes_setTail J K n) K 2 L S M := rfl
theorem r_Nodes_setTail_5 {s_Nodes_has : aS} {J : aJ} {K : aR} {n : Nat} {L : aL} {S : List Value} {M : aM} : am_run (c_Nodes_setTail s_Nodes_has) k_Nodes_setTail J K (n + 1) 5 L S M = ai_ifeq 15 8 (am_run (c_Nodes_setTail s_Nodes_has) k_Nodes_setTail J K n) K 5 L S M := rfl
theorem r_Nodes_setTail_8 {s_Nodes_has : aS} {J : aJ} {K : aR} {n : Nat} {L : aL} {S : List Value} {M : aM} : am_run (c_Nodes_setTail s_Nodes_has) k_Nodes_setTail J K (n + 1) 8 L S M = ai_aload 0 9 (am_run (c_Nodes_setTail s_Nodes_has) k_Nodes_setTail J K n) K 8 L S M := rfl
theorem r_Nodes_setTail_9 {s_Nodes_has : aS} {J : aJ} {K : aR} {n : Nat} {L : aL} {S : List Value} {M : aM} : am_run (c_Nodes_setTail s_Nodes_has) k_Nodes_setTail J K (n + 1) 9 L S M = ai_getf 0 4 12 (am_run (c_Nodes_setTail s_Nodes_has) k_Nodes_setTail J K n) K 9 L S M := rfl
theorem r_Nodes_setTail_12 {s_Nodes_has : aS} {J : aJ} {K : aR} {n : Nat} {L : aL} {S : List Value} {M : aM} : am_run (c_Nodes_setTail s_Nodes_has) k_Nodes_setTail J K (n + 1) 12 L S M = ai_iload 1 13 (am_run (c_Nodes_setTail s_Nodes_has) k_Nodes_setTail J K n) K 12 L S M := rfl
theorem r_Nodes_setTail_13 {s_Nodes_has : aS} {J : aJ} {K : aR} {n : Nat} {L : aL} {S : List Value} {M : aM} : am_run (c_Nodes_setTail s_Nodes_has) k_Nodes_setTail J K (n + 1) 13 L S M = ai_iload 2 14 (am_run (c_Nodes_setTail s_Nodes_has) k_Nodes_setTail J K n) K 13 L S M := rfl
theorem r_Nodes_setTail_14 {s_Nodes_has : aS} {J : aJ} {K : aR} {n : Nat} {L : aL} {S : List Value} {M : aM} : am_run (c_Nodes_setTail s_Nodes_has) k_Nodes_setTail J K (n + 1) 14 L S M = ai_iast 15 (am_run (c_Nodes_setTail s_Nodes_has) k_Nodes_setTail J K n) K 14 L S M := rfl
theorem r_Nodes_setTail_15 {s_Nodes_has : aS} {J : aJ} {K : aR} {n : Nat} {L : aL} {S : List Value} {M : aM} : am_run (c_Nodes_setTail s_Nodes_has) k_Nodes_setTail J K (n + 1) 15 L S M = ai_vret (am_run (c_Nodes_setTail s_Nodes_has) k_Nodes_setTail J K n) K 15 L S M := rfl
def c_Nodes_datumNode : List (Nat × aI) := [
  (0, ai_iload 1 1),
  (1, ai_iflt 28 4),
  (4, ai_iload 1 5),
  (5, ai_aload 0 6),
  (6, ai_getf 0 7 9),
  (9, ai_cmpge 28 12),
  (12, ai_iload 1 13),
  (13, ai_const 200 16),
  (16, ai_cmpge 28 19),
  (19, ai_aload 0 20),
  (20, ai_getf 0 6 23),
  (23, ai_iload 1 24),
  (24, ai_iald 25),
  (25, ai_goto 29),
  (28, ai_const (-1) 29),
  (29, ai_iret)]
set_option maxRecDepth 100000 in
set_option maxHeartbeats 4000000 in
theorem tb_Nodes_datumNode {G : aG} {d : Nat} : am_tab G Y_Nodes_datumNode d (c_Nodes_datumNode) := by
  intro K p e s m args below meth c C
  exact ⟨as_iload_n C (pc := 0) (q := 1) (by decide +kernel) rfl rfl,
    as_iflt C (pc := 1) (off := 27) (by decide +kernel) (by decide) rfl,
    as_iload_n C (pc := 4) (q := 1) (by decide +kernel) rfl rfl,
    as_aload_n C (pc := 5) (q := 0) (by decide +kernel) rfl rfl,
    as_getf C (pc := 6) (T := T_Nodes) (N := 10) rfl in_Nodes (by decide) rfl w_126 (by decide +kernel) rfl,
    as_cmpge C (pc := 9) (off := 19) (by decide +kernel) (by decide) rfl,
    as_iload_n C (pc := 12) (q := 1) (by decide +kernel) rfl rfl,
    as_sipush C (pc := 13) (n := 200) (by decide +kernel) (by decide +kernel) rfl,
    as_cmpge C (pc := 16) (off := 12) (by decide +kernel) (by decide) rfl,
    as_aload_n C (pc := 19) (q := 0) (by decide +kernel) rfl rfl,
    as_getf C (pc := 20) (T := T_Nodes) (N := 10) rfl in_Nodes (by decide) rfl w_125 (by decide +kernel) rfl,
    as_iload_n C (pc := 23) (q := 1) (by decide +kernel) rfl rfl,
    as_iald C (pc := 24) (by decide +kernel) rfl,
    as_goto C (pc := 25) (off := 4) (by decide +kernel) (by decide),
    as_iconst C (pc := 28) (n := (-1)) (by decide +kernel) (by decide +kernel) rfl,
    as_iret C (pc := 29) rfl (by decide +kernel), trivial⟩
abbrev k_Nodes_datumNode : List Nat := []
theorem r_Nodes_datumNode_0 {J : aJ} {K : aR} {n : Nat} {L : aL} {S : List Value} {M : aM} : am_run (c_Nodes_datumNode) k_Nodes_datumNode J K (n + 1) 0 L S M = ai_iload 1 1 (am_run (c_Nodes_datumNode) k_Nodes_datumNode J K n) K 0 L S M := rfl
theorem r_Nodes_datumNode_1 {J : aJ} {K : aR} {n : Nat} {L : aL} {S : List Value} {M : aM} : am_run (c_Nodes_datumNode) k_Nodes_datumNode J K (n + 1) 1 L S M = ai_iflt 28 4 (am_run (c_Nodes_datumNode) k_Nodes_datumNode J K n) K 1 L S M := rfl
theorem r_Nodes_datumNode_4 {J : aJ} {K : aR} {n : Nat} {L : aL} {S : List Value} {M : aM} : am_run (c_Nodes_datumNode) k_Nodes_datumNode J K (n + 1) 4 L S M = ai_iload 1 5 (am_run (c_Nodes_datumNode) k_Nodes_datumNode J K n) K 4 L S M := rfl
theorem r_Nodes_datumNode_5 {J : aJ} {K : aR} {n : Nat} {L : aL} {S : List Value} {M : aM} : am_run (c_Nodes_datumNode) k_Nodes_datumNode J K (n + 1) 5 L S M = ai_aload 0 6 (am_run (c_Nodes_datumNode) k_Nodes_datumNode J K n) K 5 L S M := rfl
theorem r_Nodes_datumNode_6 {J : aJ} {K : aR} {n : Nat} {L : aL} {S : List Value} {M : aM} : am_run (c_Nodes_datumNode) k_Nodes_datumNode J K (n + 1) 6 L S M = ai_getf 0 7 9 (am_run (c_Nodes_datumNode) k_Nodes_datumNode J K n) K 6 L S M := rfl
theorem r_Nodes_datumNode_9 {J : aJ} {K : aR} {n : Nat} {L : aL} {S : List Value} {M : aM} : am_run (c_Nodes_datumNode) k_Nodes_datumNode J K (n + 1) 9 L S M = ai_cmpge 28 12 (am_run (c_Nodes_datumNode) k_Nodes_datumNode J K n) K 9 L S M := rfl
theorem r_Nodes_datumNode_12 {J : aJ} {K : aR} {n : Nat} {L : aL} {S : List Value} {M : aM} : am_run (c_Nodes_datumNode) k_Nodes_datumNode J K (n + 1) 12 L S M = ai_iload 1 13 (am_run (c_Nodes_datumNode) k_Nodes_datumNode J K n) K 12 L S M := rfl
theorem r_Nodes_datumNode_13 {J : aJ} {K : aR} {n : Nat} {L : aL} {S : List Value} {M : aM} : am_run (c_Nodes_datumNode) k_Nodes_datumNode J K (n + 1) 13 L S M = ai_const 200 16 (am_run (c_Nodes_datumNode) k_Nodes_datumNode J K n) K 13 L S M := rfl
theorem r_Nodes_datumNode_16 {J : aJ} {K : aR} {n : Nat} {L : aL} {S : List Value} {M : aM} : am_run (c_Nodes_datumNode) k_Nodes_datumNode J K (n + 1) 16 L S M = ai_cmpge 28 19 (am_run (c_Nodes_datumNode) k_Nodes_datumNode J K n) K 16 L S M := rfl
theorem r_Nodes_datumNode_19 {J : aJ} {K : aR} {n : Nat} {L : aL} {S : List Value} {M : aM} : am_run (c_Nodes_datumNode) k_Nodes_datumNode J K (n + 1) 19 L S M = ai_aload 0 20 (am_run (c_Nodes_datumNode) k_Nodes_datumNode J K n) K 19 L S M := rfl
theorem r_Nodes_datumNode_20 {J : aJ} {K : aR} {n : Nat} {L : aL} {S : List Value} {M : aM} : am_run (c_Nodes_datumNode) k_Nodes_datumNode J K (n + 1) 20 L S M = ai_getf 0 6 23 (am_run (c_Nodes_datumNode) k_Nodes_datumNode J K n) K 20 L S M := rfl
theorem r_Nodes_datumNode_23 {J : aJ} {K : aR} {n : Nat} {L : aL} {S : List Value} {M : aM} : am_run (c_Nodes_datumNode) k_Nodes_datumNode J K (n + 1) 23 L S M = ai_iload 1 24 (am_run (c_Nodes_datumNode) k_Nodes_datumNode J K n) K 23 L S M := rfl
theorem r_Nodes_datumNode_24 {J : aJ} {K : aR} {n : Nat} {L : aL} {S : List Value} {M : aM} : am_run (c_Nodes_datumNode) k_Nodes_datumNode J K (n + 1) 24 L S M = ai_iald 25 (am_run (c_Nodes_datumNode) k_Nodes_datumNode J K n) K 24 L S M := rfl
theorem r_Nodes_datumNode_25 {J : aJ} {K : aR} {n : Nat} {L : aL} {S : List Value} {M : aM} : am_run (c_Nodes_datumNode) k_Nodes_datumNode J K (n + 1) 25 L S M = ai_goto 29 (am_run (c_Nodes_datumNode) k_Nodes_datumNode J K n) K 25 L S M := rfl
theorem r_Nodes_datumNode_28 {J : aJ} {K : aR} {n : Nat} {L : aL} {S : List Value} {M : aM} : am_run (c_Nodes_datumNode) k_Nodes_datumNode J K (n + 1) 28 L S M = ai_const (-1) 29 (am_run (c_Nodes_datumNode) k_Nodes_datumNode J K n) K 28 L S M := rfl
theorem r_Nodes_datumNode_29 {J : aJ} {K : aR} {n : Nat} {L : aL} {S : List Value} {M : aM} : am_run (c_Nodes_datumNode) k_Nodes_datumNode J K (n + 1) 29 L S M = ai_iret (am_run (c_Nodes_datumNode) k_Nodes_datumNode J K n) K 29 L S M := rfl
def c_Nodes_kindOf (s_Nodes_has : aS) : List (Nat × aI) := [
  (0, ai_aload 0 1),
  (1, ai_iload 1 2),
  (2, ai_callv2 0 s_Nodes_has 5),
  (5, ai_ifeq 17 8),
  (8, ai_aload 0 9),
  (9, ai_getf 0 0 12),
  (12, ai_iload 1 13),
  (13, ai_iald 14),
  (14, ai_goto 18),
  (17, ai_const 0 18),
  (18, ai_iret)]
set_option maxRecDepth 100000 in
set_option maxHeartbeats 4000000 in
theorem tb_Nodes_kindOf {G : aG} {d : Nat} {s_Nodes_has : aS} {d_Nodes_has : Nat} (h_Nodes_has : am_Sp G Y_Nodes_has d_Nodes_has s_Nodes_has) (l_Nodes_has : d_Nodes_has < d) : am_tab G Y_Nodes_kindOf d (c_Nodes_kindOf s_Nodes_has) := by
  intro K p e s m args below meth c C
  exact ⟨as_aload_n C (pc := 0) (q := 0) (by decide +kernel) rfl rfl,
    as_iload_n C (pc := 1) (q := 1) (by decide +kernel) rfl rfl,
    as_callv2 C (pc := 2) h_Nodes_has (T := T_Nodes) (N := 10) rfl w_341 w_72 w_340 w_21 w_338 hy_Nodes_has (am_rm_of l_Nodes_has (by decide)) (by decide +kernel) rfl,
    as_ifeq C (pc := 5) (off := 12) (by decide +kernel) (by decide) rfl,
    as_aload_n C (pc := 8) (q := 0) (by decide +kernel) rfl rfl,
    as_getf C (pc := 9) (T := T_Nodes) (N := 10) rfl in_Nodes (by decide) rfl w_118 (by decide +kernel) rfl,
    as_iload_n C (pc := 12) (q := 1) (by decide +kernel) rfl rfl,
    as_iald C (pc := 13) (by decide +kernel) rfl,
    as_goto C (pc := 14) (off := 4) (by decide +kernel) (by decide),
    as_iconst C (pc := 17) (n := 0) (by decide +kernel) (by decide +kernel) rfl,
    as_iret C (pc := 18) rfl (by decide +kernel), trivial⟩
abbrev k_Nodes_kindOf : List Nat := []
theorem r_Nodes_kindOf_0 {s_Nodes_has : aS} {J : aJ} {K : aR} {n : Nat} {L : aL} {S : List Value} {M : aM} : am_run (c_Nodes_kindOf s_Nodes_has) k_Nodes_kindOf J K (n + 1) 0 L S M = ai_aload 0 1 (am_run (c_Nodes_kindOf s_Nodes_has) k_Nodes_kindOf J K n) K 0 L S M := rfl
theorem r_Nodes_kindOf_1 {s_Nodes_has : aS} {J : aJ} {K : aR} {n : Nat} {L : aL} {S : List Value} {M : aM} : am_run (c_Nodes_kindOf s_Nodes_has) k_Nodes_kindOf J K (n + 1) 1 L S M = ai_iload 1 2 (am_run (c_Nodes_kindOf s_Nodes_has) k_Nodes_kindOf J K n) K 1 L S M := rfl
theorem r_Nodes_kindOf_2 {s_Nodes_has : aS} {J : aJ} {K : aR} {n : Nat} {L : aL} {S : List Value} {M : aM} : am_run (c_Nodes_kindOf s_Nodes_has) k_Nodes_kindOf J K (n + 1) 2 L S M = ai_callv2 0 s_Nodes_has 5 (am_run (c_Nodes_kindOf s_Nodes_has) k_Nodes_kindOf J K n) K 2 L S M := rfl
theorem r_Nodes_kindOf_5 {s_Nodes_has : aS} {J : aJ} {K : aR} {n : Nat} {L : aL} {S : List Value} {M : aM} : am_run (c_Nodes_kindOf s_Nodes_has) k_Nodes_kindOf J K (n + 1) 5 L S M = ai_ifeq 17 8 (am_run (c_Nodes_kindOf s_Nodes_has) k_Nodes_kindOf J K n) K 5 L S M := rfl
theorem r_Nodes_kindOf_8 {s_Nodes_has : aS} {J : aJ} {K : aR} {n : Nat} {L : aL} {S : List Value} {M : aM} : am_run (c_Nodes_kindOf s_Nodes_has) k_Nodes_kindOf J K (n + 1) 8 L S M = ai_aload 0 9 (am_run (c_Nodes_kindOf s_Nodes_has) k_Nodes_kindOf J K n) K 8 L S M := rfl
theorem r_Nodes_kindOf_9 {s_Nodes_has : aS} {J : aJ} {K : aR} {n : Nat} {L : aL} {S : List Value} {M : aM} : am_run (c_Nodes_kindOf s_Nodes_has) k_Nodes_kindOf J K (n + 1) 9 L S M = ai_getf 0 0 12 (am_run (c_Nodes_kindOf s_Nodes_has) k_Nodes_kindOf J K n) K 9 L S M := rfl
theorem r_Nodes_kindOf_12 {s_Nodes_has : aS} {J : aJ} {K : aR} {n : Nat} {L : aL} {S : List Value} {M : aM} : am_run (c_Nodes_kindOf s_Nodes_has) k_Nodes_kindOf J K (n + 1) 12 L S M = ai_iload 1 13 (am_run (c_Nodes_kindOf s_Nodes_has) k_Nodes_kindOf J K n) K 12 L S M := rfl
theorem r_Nodes_kindOf_13 {s_Nodes_has : aS} {J : aJ} {K : aR} {n : Nat} {L : aL} {S : List Value} {M : aM} : am_run (c_Nodes_kindOf s_Nodes_has) k_Nodes_kindOf J K (n + 1) 13 L S M = ai_iald 14 (am_run (c_Nodes_kindOf s_Nodes_has) k_Nodes_kindOf J K n) K 13 L S M := rfl
theorem r_Nodes_kindOf_14 {s_Nodes_has : aS} {J : aJ} {K : aR} {n : Nat} {L : aL} {S : List Value} {M : aM} : am_run (c_Nodes_kindOf s_Nodes_has) k_Nodes_kindOf J K (n + 1) 14 L S M = ai_goto 18 (am_run (c_Nodes_kindOf s_Nodes_has) k_Nodes_kindOf J K n) K 14 L S M := rfl
theorem r_Nodes_kindOf_17 {s_Nodes_has : aS} {J : aJ} {K : aR} {n : Nat} {L : aL} {S : List Value} {M : aM} : am_run (c_Nodes_kindOf s_Nodes_has) k_Nodes_kindOf J K (n + 1) 17 L S M = ai_const 0 18 (am_run (c_Nodes_kindOf s_Nodes_has) k_Nodes_kindOf J K n) K 17 L S M := rfl
theorem r_Nodes_kindOf_18 {s_Nodes_has : aS} {J : aJ} {K : aR} {n : Nat} {L : aL} {S : List Value} {M : aM} : am_run (c_Nodes_kindOf s_Nodes_has) k_Nodes_kindOf J K (n + 1) 18 L S M = ai_iret (am_run (c_Nodes_kindOf s_Nodes_has) k_Nodes_kindOf J K n) K 18 L S M := rfl
def c_Nodes_amountOf (s_Nodes_has : aS) : List (Nat × aI) := [
  (0, ai_aload 0 1),
  (1, ai_iload 1 2),
  (2, ai_callv2 0 s_Nodes_has 5),
  (5, ai_ifeq 17 8),
  (8, ai_aload 0 9),
  (9, ai_getf 0 1 12),
  (12, ai_iload 1 13),
  (13, ai_iald 14),
  (14, ai_goto 18),
  (17, ai_const 0 18),
  (18, ai_iret)]
set_option maxRecDepth 100000 in
set_option maxHeartbeats 4000000 in
theorem tb_Nodes_amountOf {G : aG} {d : Nat} {s_Nodes_has : aS} {d_Nodes_has : Nat} (h_Nodes_has : am_Sp G Y_Nodes_has d_Nodes_has s_Nodes_has) (l_Nodes_has : d_Nodes_has < d) : am_tab G Y_Nodes_amountOf d (c_Nodes_amountOf s_Nodes_has) := by
  intro K p e s m args below meth c C
  exact ⟨as_aload_n C (pc := 0) (q := 0) (by decide +kernel) rfl rfl,
    as_iload_n C (pc := 1) (q := 1) (by decide +kernel) rfl rfl,
    as_callv2 C (pc := 2) h_Nodes_has (T := T_Nodes) (N := 10) rfl w_341 w_72 w_340 w_21 w_338 hy_Nodes_has (am_rm_of l_Nodes_has (by decide)) (by decide +kernel) rfl,
    as_ifeq C (pc := 5) (off := 12) (by decide +kernel) (by decide) rfl,
    as_aload_n C (pc := 8) (q := 0) (by decide +kernel) rfl rfl,
    as_getf C (pc := 9) (T := T_Nodes) (N := 10) rfl in_Nodes (by decide) rfl w_119 (by decide +kernel) rfl,
    as_iload_n C (pc := 12) (q := 1) (by decide +kernel) rfl rfl,
    as_iald C (pc := 13) (by decide +kernel) rfl,
    as_goto C (pc := 14) (off := 4) (by decide +kernel) (by decide),
    as_iconst C (pc := 17) (n := 0) (by decide +kernel) (by decide +kernel) rfl,
    as_iret C (pc := 18) rfl (by decide +kernel), trivial⟩
abbrev k_Nodes_amountOf : List Nat := []
theorem r_Nodes_amountOf_0 {s_Nodes_has : aS} {J : aJ} {K : aR} {n : Nat} {L : aL} {S : List Value} {M : aM} : am_run (c_Nodes_amountOf s_Nodes_has) k_Nodes_amountOf J K (n + 1) 0 L S M = ai_aload 0 1 (am_run (c_Nodes_amountOf s_Nodes_has) k_Nodes_amountOf J K n) K 0 L S M := rfl
theorem r_Nodes_amountOf_1 {s_Nodes_has : aS} {J : aJ} {K : aR} {n : Nat} {L : aL} {S : List Value} {M : aM} : am_run (c_Nodes_amountOf s_Nodes_has) k_Nodes_amountOf J K (n + 1) 1 L S M = ai_iload 1 2 (am_run (c_Nodes_amountOf s_Nodes_has) k_Nodes_amountOf J K n) K 1 L S M := rfl
theorem r_Nodes_amountOf_2 {s_Nodes_has : aS} {J : aJ} {K : aR} {n : Nat} {L : aL} {S : List Value} {M : aM} : am_run (c_Nodes_amountOf s_Nodes_has) k_Nodes_amountOf J K (n + 1) 2 L S M = ai_callv2 0 s_Nodes_has 5 (am_run (c_Nodes_amountOf s_Nodes_has) k_Nodes_amountOf J K n) K 2 L S M := rfl
theorem r_Nodes_amountOf_5 {s_Nodes_has : aS} {J : aJ} {K : aR} {n : Nat} {L : aL} {S : List Value} {M : aM} : am_run (c_Nodes_amountOf s_Nodes_has) k_Nodes_amountOf J K (n + 1) 5 L S M = ai_ifeq 17 8 (am_run (c_Nodes_amountOf s_Nodes_has) k_Nodes_amountOf J K n) K 5 L S M := rfl
theorem r_Nodes_amountOf_8 {s_Nodes_has : aS} {J : aJ} {K : aR} {n : Nat} {L : aL} {S : List Value} {M : aM} : am_run (c_Nodes_amountOf s_Nodes_has) k_Nodes_amountOf J K (n + 1) 8 L S M = ai_aload 0 9 (am_run (c_Nodes_amountOf s_Nodes_has) k_Nodes_amountOf J K n) K 8 L S M := rfl
theorem r_Nodes_amountOf_9 {s_Nodes_has : aS} {J : aJ} {K : aR} {n : Nat} {L : aL} {S : List Value} {M : aM} : am_run (c_Nodes_amountOf s_Nodes_has) k_Nodes_amountOf J K (n + 1) 9 L S M = ai_getf 0 1 12 (am_run (c_Nodes_amountOf s_Nodes_has) k_Nodes_amountOf J K n) K 9 L S M := rfl
theorem r_Nodes_amountOf_12 {s_Nodes_has : aS} {J : aJ} {K : aR} {n : Nat} {L : aL} {S : List Value} {M : aM} : am_run (c_Nodes_amountOf s_Nodes_has) k_Nodes_amountOf J K (n + 1) 12 L S M = ai_iload 1 13 (am_run (c_Nodes_amountOf s_Nodes_has) k_Nodes_amountOf J K n) K 12 L S M := rfl
theorem r_Nodes_amountOf_13 {s_Nodes_has : aS} {J : aJ} {K : aR} {n : Nat} {L : aL} {S : List Value} {M : aM} : am_run (c_Nodes_amountOf s_Nodes_has) k_Nodes_amountOf J K (n + 1) 13 L S M = ai_iald 14 (am_run (c_Nodes_amountOf s_Nodes_has) k_Nodes_amountOf J K n) K 13 L S M := rfl
theorem r_Nodes_amountOf_14 {s_Nodes_has : aS} {J : aJ} {K : aR} {n : Nat} {L : aL} {S : List Value} {M : aM} : am_run (c_Nodes_amountOf s_Nodes_has) k_Nodes_amountOf J K (n + 1) 14 L S M = ai_goto 18 (am_run (c_Nodes_amountOf s_Nodes_has) k_Nodes_amountOf J K n) K 14 L S M := rfl
theorem r_Nodes_amountOf_17 {s_Nodes_has : aS} {J : aJ} {K : aR} {n : Nat} {L : aL} {S : List Value} {M : aM} : am_run (c_Nodes_amountOf s_Nodes_has) k_Nodes_amountOf J K (n + 1) 17 L S M = ai_const 0 18 (am_run (c_Nodes_amountOf s_Nodes_has) k_Nodes_amountOf J K n) K 17 L S M := rfl
theorem r_Nodes_amountOf_18 {s_Nodes_has : aS} {J : aJ} {K : aR} {n : Nat} {L : aL} {S : List Value} {M : aM} : am_run (c_Nodes_amountOf s_Nodes_has) k_Nodes_amountOf J K (n + 1) 18 L S M = ai_iret (am_run (c_Nodes_amountOf s_Nodes_has) k_Nodes_amountOf J K n) K 18 L S M := rfl
def c_Nodes_byteOf (s_Nodes_isOf : aS) : List (Nat × aI) := [
  (0, ai_aload 0 1),
  (1, ai_iload 1 2),
  (2, ai_const 2 3),
  (3, ai_callv3 0 s_Nodes_isOf 6),
  (6, ai_ifne 18 9),
  (9, ai_aload 0 10),
  (10, ai_iload 1 11),
  (11, ai_const 3 12),
  (12, ai_callv3 0 s_Nodes_isOf 15),
  (15, ai_ifeq 32 18),
  (18, ai_iload 2 19),
  (19, ai_iflt 32 22),
  (22, ai_iload 2 23),
  (23, ai_aload 0 24),
  (24, ai_getf 0 1 27),
  (27, ai_iload 1 28),
  (28, ai_iald 29),
  (29, ai_cmplt 34 32),
  (32, ai_const (-1) 33),
  (33, ai_iret),
  (34, ai_aload 0 35),
  (35, ai_getf 0 2 38),
  (38, ai_iload 1 39),
  (39, ai_iald 40),
  (40, ai_iload 2 41),
  (41, ai_iadd 42),
  (42, ai_istore 3 43),
  (43, ai_iload 3 44),
  (44, ai_iflt 65 47),
  (47, ai_iload 3 48),
  (48, ai_aload 0 49),
  (49, ai_getf 0 8 52),
  (52, ai_alen 53),
  (53, ai_cmpge 65 56),
  (56, ai_aload 0 57),
  (57, ai_getf 0 8 60),
  (60, ai_iload 3 61),
  (61, ai_iald 62),
  (62, ai_goto 66),
  (65, ai_const (-1) 66),
  (66, ai_iret)]
set_option maxRecDepth 100000 in
set_option maxHeartbeats 4000000 in
theorem tb_Nodes_byteOf {G : aG} {d : Nat} {s_Nodes_isOf : aS} {d_Nodes_isOf : Nat} (h_Nodes_isOf : am_Sp G Y_Nodes_isOf d_Nodes_isOf s_Nodes_isOf) (l_Nodes_isOf : d_Nodes_isOf < d) : am_tab G Y_Nodes_byteOf d (c_Nodes_byteOf s_Nodes_isOf) := by
  intro K p e s m args below meth c C
  exact ⟨as_aload_n C (pc := 0) (q := 0) (by decide +kernel) rfl rfl,
    as_iload_n C (pc := 1) (q := 1) (by decide +kernel) rfl rfl,
    as_iconst C (pc := 2) (n := 2) (by decide +kernel) (by decide +kernel) rfl,
    as_callv3 C (pc := 3) h_Nodes_isOf (T := T_Nodes) (N := 10) rfl w_421 w_72 w_420 w_36 w_418 hy_Nodes_isOf (am_rm_of l_Nodes_isOf (by decide)) (by decide +kernel) rfl,
    as_ifne C (pc := 6) (off := 12) (by decide +kernel) (by decide) rfl,
    as_aload_n C (pc := 9) (q := 0) (by decide +kernel) rfl rfl,
    as_iload_n C (pc := 10) (q := 1) (by decide +kernel) rfl rfl,
    as_iconst C (pc := 11) (n := 3) (by decide +kernel) (by decide +kernel) rfl,
    as_callv3 C (pc := 12) h_Nodes_isOf (T := T_Nodes) (N := 10) rfl w_421 w_72 w_420 w_36 w_418 hy_Nodes_isOf (am_rm_of l_Nodes_isOf (by decide)) (by decide +kernel) rfl,
    as_ifeq C (pc := 15) (off := 17) (by decide +kernel) (by decide) rfl,
    as_iload_n C (pc := 18) (q := 2) (by decide +kernel) rfl rfl,
    as_iflt C (pc := 19) (off := 13) (by decide +kernel) (by decide) rfl,
    as_iload_n C (pc := 22) (q := 2) (by decide +kernel) rfl rfl,
    as_aload_n C (pc := 23) (q := 0) (by decide +kernel) rfl rfl,
    as_getf C (pc := 24) (T := T_Nodes) (N := 10) rfl in_Nodes (by decide) rfl w_119 (by decide +kernel) rfl,
    as_iload_n C (pc := 27) (q := 1) (by decide +kernel) rfl rfl,
    as_iald C (pc := 28) (by decide +kernel) rfl,
    as_cmplt C (pc := 29) (off := 5) (by decide +kernel) (by decide) rfl,
    as_iconst C (pc := 32) (n := (-1)) (by decide +kernel) (by decide +kernel) rfl,
    as_iret C (pc := 33) rfl (by decide +kernel),
    as_aload_n C (pc := 34) (q := 0) (by decide +kernel) rfl rfl,
    as_getf C (pc := 35) (T := T_Nodes) (N := 10) rfl in_Nodes (by decide) rfl w_120 (by decide +kernel) rfl,
    as_iload_n C (pc := 38) (q := 1) (by decide +kernel) rfl rfl,
    as_iald C (pc := 39) (by decide +kernel) rfl,
    as_iload_n C (pc := 40) (q := 2) (by decide +kernel) rfl rfl,
    as_iadd C (pc := 41) (by decide +kernel) rfl,
    as_istore_n C (pc := 42) (q := 3) (by decide +kernel) rfl (by decide) rfl,
    as_iload_n C (pc := 43) (q := 3) (by decide +kernel) rfl rfl,
    as_iflt C (pc := 44) (off := 21) (by decide +kernel) (by decide) rfl,
    as_iload_n C (pc := 47) (q := 3) (by decide +kernel) rfl rfl,
    as_aload_n C (pc := 48) (q := 0) (by decide +kernel) rfl rfl,
    as_getf C (pc := 49) (T := T_Nodes) (N := 10) rfl in_Nodes (by decide) rfl w_128 (by decide +kernel) rfl,
    as_alen C (pc := 52) (by decide +kernel) rfl,
    as_cmpge C (pc := 53) (off := 12) (by decide +kernel) (by decide) rfl,
    as_aload_n C (pc := 56) (q := 0) (by decide +kernel) rfl rfl,
    as_getf C (pc := 57) (T := T_Nodes) (N := 10) rfl in_Nodes (by decide) rfl w_128 (by decide +kernel) rfl,
    as_iload_n C (pc := 60) (q := 3) (by decide +kernel) rfl rfl,
    as_iald C (pc := 61) (by decide +kernel) rfl,
    as_goto C (pc := 62) (off := 4) (by decide +kernel) (by decide),
    as_iconst C (pc := 65) (n := (-1)) (by decide +kernel) (by decide +kernel) rfl,
    as_iret C (pc := 66) rfl (by decide +kernel), trivial⟩
abbrev k_Nodes_byteOf : List Nat := []
theorem r_Nodes_byteOf_0 {s_Nodes_isOf : aS} {J : aJ} {K : aR} {n : Nat} {L : aL} {S : List Value} {M : aM} : am_run (c_Nodes_byteOf s_Nodes_isOf) k_Nodes_byteOf J K (n + 1) 0 L S M = ai_aload 0 1 (am_run (c_Nodes_byteOf s_Nodes_isOf) k_Nodes_byteOf J K n) K 0 L S M := rfl
theorem r_Nodes_byteOf_1 {s_Nodes_isOf : aS} {J : aJ} {K : aR} {n : Nat} {L : aL} {S : List Value} {M : aM} : am_run (c_Nodes_byteOf s_Nodes_isOf) k_Nodes_byteOf J K (n + 1) 1 L S M = ai_iload 1 2 (am_run (c_Nodes_byteOf s_Nodes_isOf) k_Nodes_byteOf J K n) K 1 L S M := rfl
theorem r_Nodes_byteOf_2 {s_Nodes_isOf : aS} {J : aJ} {K : aR} {n : Nat} {L : aL} {S : List Value} {M : aM} : am_run (c_Nodes_byteOf s_Nodes_isOf) k_Nodes_byteOf J K (n + 1) 2 L S M = ai_const 2 3 (am_run (c_Nodes_byteOf s_Nodes_isOf) k_Nodes_byteOf J K n) K 2 L S M := rfl
theorem r_Nodes_byteOf_3 {s_Nodes_isOf : aS} {J : aJ} {K : aR} {n : Nat} {L : aL} {S : List Value} {M : aM} : am_run (c_Nodes_byteOf s_Nodes_isOf) k_Nodes_byteOf J K (n + 1) 3 L S M = ai_callv3 0 s_Nodes_isOf 6 (am_run (c_Nodes_byteOf s_Nodes_isOf) k_Nodes_byteOf J K n) K 3 L S M := rfl
theorem r_Nodes_byteOf_6 {s_Nodes_isOf : aS} {J : aJ} {K : aR} {n : Nat} {L : aL} {S : List Value} {M : aM} : am_run (c_Nodes_byteOf s_Nodes_isOf) k_Nodes_byteOf J K (n + 1) 6 L S M = ai_ifne 18 9 (am_run (c_Nodes_byteOf s_Nodes_isOf) k_Nodes_byteOf J K n) K 6 L S M := rfl
theorem r_Nodes_byteOf_9 {s_Nodes_isOf : aS} {J : aJ} {K : aR} {n : Nat} {L : aL} {S : List Value} {M : aM} : am_run (c_Nodes_byteOf s_Nodes_isOf) k_Nodes_byteOf J K (n + 1) 9 L S M = ai_aload 0 10 (am_run (c_Nodes_byteOf s_Nodes_isOf) k_Nodes_byteOf J K n) K 9 L S M := rfl
theorem r_Nodes_byteOf_10 {s_Nodes_isOf : aS} {J : aJ} {K : aR} {n : Nat} {L : aL} {S : List Value} {M : aM} : am_run (c_Nodes_byteOf s_Nodes_isOf) k_Nodes_byteOf J K (n + 1) 10 L S M = ai_iload 1 11 (am_run (c_Nodes_byteOf s_Nodes_isOf) k_Nodes_byteOf J K n) K 10 L S M := rfl
theorem r_Nodes_byteOf_11 {s_Nodes_isOf : aS} {J : aJ} {K : aR} {n : Nat} {L : aL} {S : List Value} {M : aM} : am_run (c_Nodes_byteOf s_Nodes_isOf) k_Nodes_byteOf J K (n + 1) 11 L S M = ai_const 3 12 (am_run (c_Nodes_byteOf s_Nodes_isOf) k_Nodes_byteOf J K n) K 11 L S M := rfl
theorem r_Nodes_byteOf_12 {s_Nodes_isOf : aS} {J : aJ} {K : aR} {n : Nat} {L : aL} {S : List Value} {M : aM} : am_run (c_Nodes_byteOf s_Nodes_isOf) k_Nodes_byteOf J K (n + 1) 12 L S M = ai_callv3 0 s_Nodes_isOf 15 (am_run (c_Nodes_byteOf s_Nodes_isOf) k_Nodes_byteOf J K n) K 12 L S M := rfl
theorem r_Nodes_byteOf_15 {s_Nodes_isOf : aS} {J : aJ} {K : aR} {n : Nat} {L : aL} {S : List Value} {M : aM} : am_run (c_Nodes_byteOf s_Nodes_isOf) k_Nodes_byteOf J K (n + 1) 15 L S M = ai_ifeq 32 18 (am_run (c_Nodes_byteOf s_Nodes_isOf) k_Nodes_byteOf J K n) K 15 L S M := rfl
theorem r_Nodes_byteOf_18 {s_Nodes_isOf : aS} {J : aJ} {K : aR} {n : Nat} {L : aL} {S : List Value} {M : aM} : am_run (c_Nodes_byteOf s_Nodes_isOf) k_Nodes_byteOf J K (n + 1) 18 L S M = ai_iload 2 19 (am_run (c_Nodes_byteOf s_Nodes_isOf) k_Nodes_byteOf J K n) K 18 L S M := rfl
theorem r_Nodes_byteOf_19 {s_Nodes_isOf : aS} {J : aJ} {K : aR} {n : Nat} {L : aL} {S : List Value} {M : aM} : am_run (c_Nodes_byteOf s_Nodes_isOf) k_Nodes_byteOf J K (n + 1) 19 L S M = ai_iflt 32 22 (am_run (c_Nodes_byteOf s_Nodes_isOf) k_Nodes_byteOf J K n) K 19 L S M := rfl
theorem r_Nodes_byteOf_22 {s_Nodes_isOf : aS} {J : aJ} {K : aR} {n : Nat} {L : aL} {S : List Value} {M : aM} : am_run (c_Nodes_byteOf s_Nodes_isOf) k_Nodes_byteOf J K (n + 1) 22 L S M = ai_iload 2 23 (am_run (c_Nodes_byteOf s_Nodes_isOf) k_Nodes_byteOf J K n) K 22 L S M := rfl
theorem r_Nodes_byteOf_23 {s_Nodes_isOf : aS} {J : aJ} {K : aR} {n : Nat} {L : aL} {S : List Value} {M : aM} : am_run (c_Nodes_byteOf s_Nodes_isOf) k_Nodes_byteOf J K (n + 1) 23 L S M = ai_aload 0 24 (am_run (c_Nodes_byteOf s_Nodes_isOf) k_Nodes_byteOf J K n) K 23 L S M := rfl
theorem r_Nodes_byteOf_24 {s_Nodes_isOf : aS} {J : aJ} {K : aR} {n : Nat} {L : aL} {S : List Value} {M : aM} : am_run (c_Nodes_byteOf s_Nodes_isOf) k_Nodes_byteOf J K (n + 1) 24 L S M = ai_getf 0 1 27 (am_run (c_Nodes_byteOf s_Nodes_isOf) k_Nodes_byteOf J K n) K 24 L S M := rfl
theorem r_Nodes_byteOf_27 {s_Nodes_isOf : aS} {J : aJ} {K : aR} {n : Nat} {L : aL} {S : List Value} {M : aM} : am_run (c_Nodes_byteOf s_Nodes_isOf) k_Nodes_byteOf J K (n + 1) 27 L S M = ai_iload 1 28 (am_run (c_Nodes_byteOf s_Nodes_isOf) k_Nodes_byteOf J K n) K 27 L S M := rfl
theorem r_Nodes_byteOf_28 {s_Nodes_isOf : aS} {J : aJ} {K : aR} {n : Nat} {L : aL} {S : List Value} {M : aM} : am_run (c_Nodes_byteOf s_Nodes_isOf) k_Nodes_byteOf J K (n + 1) 28 L S M = ai_iald 29 (am_run (c_Nodes_byteOf s_Nodes_isOf) k_Nodes_byteOf J K n) K 28 L S M := rfl
theorem r_Nodes_byteOf_29 {s_Nodes_isOf : aS} {J : aJ} {K : aR} {n : Nat} {L : aL} {S : List Value} {M : aM} : am_run (c_Nodes_byteOf s_Nodes_isOf) k_Nodes_byteOf J K (n + 1) 29 L S M = ai_cmplt 34 32 (am_run (c_Nodes_byteOf s_Nodes_isOf) k_Nodes_byteOf J K n) K 29 L S M := rfl
theorem r_Nodes_byteOf_32 {s_Nodes_isOf : aS} {J : aJ} {K : aR} {n : Nat} {L : aL} {S : List Value} {M : aM} : am_run (c_Nodes_byteOf s_Nodes_isOf) k_Nodes_byteOf J K (n + 1) 32 L S M = ai_const (-1) 33 (am_run (c_Nodes_byteOf s_Nodes_isOf) k_Nodes_byteOf J K n) K 32 L S M := rfl
theorem r_Nodes_byteOf_33 {s_Nodes_isOf : aS} {J : aJ} {K : aR} {n : Nat} {L : aL} {S : List Value} {M : aM} : am_run (c_Nodes_byteOf s_Nodes_isOf) k_Nodes_byteOf J K (n + 1) 33 L S M = ai_iret (am_run (c_Nodes_byteOf s_Nodes_isOf) k_Nodes_byteOf J K n) K 33 L S M := rfl
theorem r_Nodes_byteOf_34 {s_Nodes_isOf : aS} {J : aJ} {K : aR} {n : Nat} {L : aL} {S : List Value} {M : aM} : am_run (c_Nodes_byteOf s_Nodes_isOf) k_Nodes_byteOf J K (n + 1) 34 L S M = ai_aload 0 35 (am_run (c_Nodes_byteOf s_Nodes_isOf) k_Nodes_byteOf J K n) K 34 L S M := rfl
theorem r_Nodes_byteOf_35 {s_Nodes_isOf : aS} {J : aJ} {K : aR} {n : Nat} {L : aL} {S : List Value} {M : aM} : am_run (c_Nodes_byteOf s_Nodes_isOf) k_Nodes_byteOf J K (n + 1) 35 L S M = ai_getf 0 2 38 (am_run (c_Nodes_byteOf s_Nodes_isOf) k_Nodes_byteOf J K n) K 35 L S M := rfl
theorem r_Nodes_byteOf_38 {s_Nodes_isOf : aS} {J : aJ} {K : aR} {n : Nat} {L : aL} {S : List Value} {M : aM} : am_run (c_Nodes_byteOf s_Nodes_isOf) k_Nodes_byteOf J K (n + 1) 38 L S M = ai_iload 1 39 (am_run (c_Nodes_byteOf s_Nodes_isOf) k_Nodes_byteOf J K n) K 38 L S M := rfl
theorem r_Nodes_byteOf_39 {s_Nodes_isOf : aS} {J : aJ} {K : aR} {n : Nat} {L : aL} {S : List Value} {M : aM} : am_run (c_Nodes_byteOf s_Nodes_isOf) k_Nodes_byteOf J K (n + 1) 39 L S M = ai_iald 40 (am_run (c_Nodes_byteOf s_Nodes_isOf) k_Nodes_byteOf J K n) K 39 L S M := rfl
theorem r_Nodes_byteOf_40 {s_Nodes_isOf : aS} {J : aJ} {K : aR} {n : Nat} {L : aL} {S : List Value} {M : aM} : am_run (c_Nodes_byteOf s_Nodes_isOf) k_Nodes_byteOf J K (n + 1) 40 L S M = ai_iload 2 41 (am_run (c_Nodes_byteOf s_Nodes_isOf) k_Nodes_byteOf J K n) K 40 L S M := rfl
theorem r_Nodes_byteOf_41 {s_Nodes_isOf : aS} {J : aJ} {K : aR} {n : Nat} {L : aL} {S : List Value} {M : aM} : am_run (c_Nodes_byteOf s_Nodes_isOf) k_Nodes_byteOf J K (n + 1) 41 L S M = ai_iadd 42 (am_run (c_Nodes_byteOf s_Nodes_isOf) k_Nodes_byteOf J K n) K 41 L S M := rfl
theorem r_Nodes_byteOf_42 {s_Nodes_isOf : aS} {J : aJ} {K : aR} {n : Nat} {L : aL} {S : List Value} {M : aM} : am_run (c_Nodes_byteOf s_Nodes_isOf) k_Nodes_byteOf J K (n + 1) 42 L S M = ai_istore 3 43 (am_run (c_Nodes_byteOf s_Nodes_isOf) k_Nodes_byteOf J K n) K 42 L S M := rfl
theorem r_Nodes_byteOf_43 {s_Nodes_isOf : aS} {J : aJ} {K : aR} {n : Nat} {L : aL} {S : List Value} {M : aM} : am_run (c_Nodes_byteOf s_Nodes_isOf) k_Nodes_byteOf J K (n + 1) 43 L S M = ai_iload 3 44 (am_run (c_Nodes_byteOf s_Nodes_isOf) k_Nodes_byteOf J K n) K 43 L S M := rfl
theorem r_Nodes_byteOf_44 {s_Nodes_isOf : aS} {J : aJ} {K : aR} {n : Nat} {L : aL} {S : List Value} {M : aM} : am_run (c_Nodes_byteOf s_Nodes_isOf) k_Nodes_byteOf J K (n + 1) 44 L S M = ai_iflt 65 47 (am_run (c_Nodes_byteOf s_Nodes_isOf) k_Nodes_byteOf J K n) K 44 L S M := rfl
theorem r_Nodes_byteOf_47 {s_Nodes_isOf : aS} {J : aJ} {K : aR} {n : Nat} {L : aL} {S : List Value} {M : aM} : am_run (c_Nodes_byteOf s_Nodes_isOf) k_Nodes_byteOf J K (n + 1) 47 L S M = ai_iload 3 48 (am_run (c_Nodes_byteOf s_Nodes_isOf) k_Nodes_byteOf J K n) K 47 L S M := rfl
theorem r_Nodes_byteOf_48 {s_Nodes_isOf : aS} {J : aJ} {K : aR} {n : Nat} {L : aL} {S : List Value} {M : aM} : am_run (c_Nodes_byteOf s_Nodes_isOf) k_Nodes_byteOf J K (n + 1) 48 L S M = ai_aload 0 49 (am_run (c_Nodes_byteOf s_Nodes_isOf) k_Nodes_byteOf J K n) K 48 L S M := rfl
theorem r_Nodes_byteOf_49 {s_Nodes_isOf : aS} {J : aJ} {K : aR} {n : Nat} {L : aL} {S : List Value} {M : aM} : am_run (c_Nodes_byteOf s_Nodes_isOf) k_Nodes_byteOf J K (n + 1) 49 L S M = ai_getf 0 8 52 (am_run (c_Nodes_byteOf s_Nodes_isOf) k_Nodes_byteOf J K n) K 49 L S M := rfl
theorem r_Nodes_byteOf_52 {s_Nodes_isOf : aS} {J : aJ} {K : aR} {n : Nat} {L : aL} {S : List Value} {M : aM} : am_run (c_Nodes_byteOf s_Nodes_isOf) k_Nodes_byteOf J K (n + 1) 52 L S M = ai_alen 53 (am_run (c_Nodes_byteOf s_Nodes_isOf) k_Nodes_byteOf J K n) K 52 L S M := rfl
theorem r_Nodes_byteOf_53 {s_Nodes_isOf : aS} {J : aJ} {K : aR} {n : Nat} {L : aL} {S : List Value} {M : aM} : am_run (c_Nodes_byteOf s_Nodes_isOf) k_Nodes_byteOf J K (n + 1) 53 L S M = ai_cmpge 65 56 (am_run (c_Nodes_byteOf s_Nodes_isOf) k_Nodes_byteOf J K n) K 53 L S M := rfl
theorem r_Nodes_byteOf_56 {s_Nodes_isOf : aS} {J : aJ} {K : aR} {n : Nat} {L : aL} {S : List Value} {M : aM} : am_run (c_Nodes_byteOf s_Nodes_isOf) k_Nodes_byteOf J K (n + 1) 56 L S M = ai_aload 0 57 (am_run (c_Nodes_byteOf s_Nodes_isOf) k_Nodes_byteOf J K n) K 56 L S M := rfl
theorem r_Nodes_byteOf_57 {s_Nodes_isOf : aS} {J : aJ} {K : aR} {n : Nat} {L : aL} {S : List Value} {M : aM} : am_run (c_Nodes_byteOf s_Nodes_isOf) k_Nodes_byteOf J K (n + 1) 57 L S M = ai_getf 0 8 60 (am_run (c_Nodes_byteOf s_Nodes_isOf) k_Nodes_byteOf J K n) K 57 L S M := rfl
theorem r_Nodes_byteOf_60 {s_Nodes_isOf : aS} {J : aJ} {K : aR} {n : Nat} {L : aL} {S : List Value} {M : aM} : am_run (c_Nodes_byteOf s_Nodes_isOf) k_Nodes_byteOf J K (n + 1) 60 L S M = ai_iload 3 61 (am_run (c_Nodes_byteOf s_Nodes_isOf) k_Nodes_byteOf J K n) K 60 L S M := rfl
theorem r_Nodes_byteOf_61 {s_Nodes_isOf : aS} {J : aJ} {K : aR} {n : Nat} {L : aL} {S : List Value} {M : aM} : am_run (c_Nodes_byteOf s_Nodes_isOf) k_Nodes_byteOf J K (n + 1) 61 L S M = ai_iald 62 (am_run (c_Nodes_byteOf s_Nodes_isOf) k_Nodes_byteOf J K n) K 61 L S M := rfl
theorem r_Nodes_byteOf_62 {s_Nodes_isOf : aS} {J : aJ} {K : aR} {n : Nat} {L : aL} {S : List Value} {M : aM} : am_run (c_Nodes_byteOf s_Nodes_isOf) k_Nodes_byteOf J K (n + 1) 62 L S M = ai_goto 66 (am_run (c_Nodes_byteOf s_Nodes_isOf) k_Nodes_byteOf J K n) K 62 L S M := rfl
theorem r_Nodes_byteOf_65 {s_Nodes_isOf : aS} {J : aJ} {K : aR} {n : Nat} {L : aL} {S : List Value} {M : aM} : am_run (c_Nodes_byteOf s_Nodes_isOf) k_Nodes_byteOf J K (n + 1) 65 L S M = ai_const (-1) 66 (am_run (c_Nodes_byteOf s_Nodes_isOf) k_Nodes_byteOf J K n) K 65 L S M := rfl
theorem r_Nodes_byteOf_66 {s_Nodes_isOf : aS} {J : aJ} {K : aR} {n : Nat} {L : aL} {S : List Value} {M : aM} : am_run (c_Nodes_byteOf s_Nodes_isOf) k_Nodes_byteOf J K (n + 1) 66 L S M = ai_iret (am_run (c_Nodes_byteOf s_Nodes_isOf) k_Nodes_byteOf J K n) K 66 L S M := rfl
def c_Nodes_headOf (s_Nodes_isOf : aS) : List (Nat × aI) := [
  (0, ai_aload 0 1),
  (1, ai_iload 1 2),
  (2, ai_const 4 3),
  (3, ai_callv3 0 s_Nodes_isOf 6),
  (6, ai_ifeq 18 9),
  (9, ai_aload 0 10),
  (10, ai_getf 0 3 13),
  (13, ai_iload 1 14),
  (14, ai_iald 15),
  (15, ai_goto 19),
  (18, ai_const (-1) 19),
  (19, ai_iret)]
set_option maxRecDepth 100000 in
set_option maxHeartbeats 4000000 in
theorem tb_Nodes_headOf {G : aG} {d : Nat} {s_Nodes_isOf : aS} {d_Nodes_isOf : Nat} (h_Nodes_isOf : am_Sp G Y_Nodes_isOf d_Nodes_isOf s_Nodes_isOf) (l_Nodes_isOf : d_Nodes_isOf < d) : am_tab G Y_Nodes_headOf d (c_Nodes_headOf s_Nodes_isOf) := by
  intro K p e s m args below meth c C
  exact ⟨as_aload_n C (pc := 0) (q := 0) (by decide +kernel) rfl rfl,
    as_iload_n C (pc := 1) (q := 1) (by decide +kernel) rfl rfl,
    as_iconst C (pc := 2) (n := 4) (by decide +kernel) (by decide +kernel) rfl,
    as_callv3 C (pc := 3) h_Nodes_isOf (T := T_Nodes) (N := 10) rfl w_421 w_72 w_420 w_36 w_418 hy_Nodes_isOf (am_rm_of l_Nodes_isOf (by decide)) (by decide +kernel) rfl,
    as_ifeq C (pc := 6) (off := 12) (by decide +kernel) (by decide) rfl,
    as_aload_n C (pc := 9) (q := 0) (by decide +kernel) rfl rfl,
    as_getf C (pc := 10) (T := T_Nodes) (N := 10) rfl in_Nodes (by decide) rfl w_121 (by decide +kernel) rfl,
    as_iload_n C (pc := 13) (q := 1) (by decide +kernel) rfl rfl,
    as_iald C (pc := 14) (by decide +kernel) rfl,
    as_goto C (pc := 15) (off := 4) (by decide +kernel) (by decide),
    as_iconst C (pc := 18) (n := (-1)) (by decide +kernel) (by decide +kernel) rfl,
    as_iret C (pc := 19) rfl (by decide +kernel), trivial⟩
abbrev k_Nodes_headOf : List Nat := []
theorem r_Nodes_headOf_0 {s_Nodes_isOf : aS} {J : aJ} {K : aR} {n : Nat} {L : aL} {S : List Value} {M : aM} : am_run (c_Nodes_headOf s_Nodes_isOf) k_Nodes_headOf J K (n + 1) 0 L S M = ai_aload 0 1 (am_run (c_Nodes_headOf s_Nodes_isOf) k_Nodes_headOf J K n) K 0 L S M := rfl
theorem r_Nodes_headOf_1 {s_Nodes_isOf : aS} {J : aJ} {K : aR} {n : Nat} {L : aL} {S : List Value} {M : aM} : am_run (c_Nodes_headOf s_Nodes_isOf) k_Nodes_headOf J K (n + 1) 1 L S M = ai_iload 1 2 (am_run (c_Nodes_headOf s_Nodes_isOf) k_Nodes_headOf J K n) K 1 L S M := rfl
theorem r_Nodes_headOf_2 {s_Nodes_isOf : aS} {J : aJ} {K : aR} {n : Nat} {L : aL} {S : List Value} {M : aM} : am_run (c_Nodes_headOf s_Nodes_isOf) k_Nodes_headOf J K (n + 1) 2 L S M = ai_const 4 3 (am_run (c_Nodes_headOf s_Nodes_isOf) k_Nodes_headOf J K n) K 2 L S M := rfl
theorem r_Nodes_headOf_3 {s_Nodes_isOf : aS} {J : aJ} {K : aR} {n : Nat} {L : aL} {S : List Value} {M : aM} : am_run (c_Nodes_headOf s_Nodes_isOf) k_Nodes_headOf J K (n + 1) 3 L S M = ai_callv3 0 s_Nodes_isOf 6 (am_run (c_Nodes_headOf s_Nodes_isOf) k_Nodes_headOf J K n) K 3 L S M := rfl
theorem r_Nodes_headOf_6 {s_Nodes_isOf : aS} {J : aJ} {K : aR} {n : Nat} {L : aL} {S : List Value} {M : aM} : am_run (c_Nodes_headOf s_Nodes_isOf) k_Nodes_headOf J K (n + 1) 6 L S M = ai_ifeq 18 9 (am_run (c_Nodes_headOf s_Nodes_isOf) k_Nodes_headOf J K n) K 6 L S M := rfl
theorem r_Nodes_headOf_9 {s_Nodes_isOf : aS} {J : aJ} {K : aR} {n : Nat} {L : aL} {S : List Value} {M : aM} : am_run (c_Nodes_headOf s_Nodes_isOf) k_Nodes_headOf J K (n + 1) 9 L S M = ai_aload 0 10 (am_run (c_Nodes_headOf s_Nodes_isOf) k_Nodes_headOf J K n) K 9 L S M := rfl
theorem r_Nodes_headOf_10 {s_Nodes_isOf : aS} {J : aJ} {K : aR} {n : Nat} {L : aL} {S : List Value} {M : aM} : am_run (c_Nodes_headOf s_Nodes_isOf) k_Nodes_headOf J K (n + 1) 10 L S M = ai_getf 0 3 13 (am_run (c_Nodes_headOf s_Nodes_isOf) k_Nodes_headOf J K n) K 10 L S M := rfl
theorem r_Nodes_headOf_13 {s_Nodes_isOf : aS} {J : aJ} {K : aR} {n : Nat} {L : aL} {S : List Value} {M : aM} : am_run (c_Nodes_headOf s_Nodes_isOf) k_Nodes_headOf J K (n + 1) 13 L S M = ai_iload 1 14 (am_run (c_Nodes_headOf s_Nodes_isOf) k_Nodes_headOf J K n) K 13 L S M := rfl
theorem r_Nodes_headOf_14 {s_Nodes_isOf : aS} {J : aJ} {K : aR} {n : Nat} {L : aL} {S : List Value} {M : aM} : am_run (c_Nodes_headOf s_Nodes_isOf) k_Nodes_headOf J K (n + 1) 14 L S M = ai_iald 15 (am_run (c_Nodes_headOf s_Nodes_isOf) k_Nodes_headOf J K n) K 14 L S M := rfl
theorem r_Nodes_headOf_15 {s_Nodes_isOf : aS} {J : aJ} {K : aR} {n : Nat} {L : aL} {S : List Value} {M : aM} : am_run (c_Nodes_headOf s_Nodes_isOf) k_Nodes_headOf J K (n + 1) 15 L S M = ai_goto 19 (am_run (c_Nodes_headOf s_Nodes_isOf) k_Nodes_headOf J K n) K 15 L S M := rfl
theorem r_Nodes_headOf_18 {s_Nodes_isOf : aS} {J : aJ} {K : aR} {n : Nat} {L : aL} {S : List Value} {M : aM} : am_run (c_Nodes_headOf s_Nodes_isOf) k_Nodes_headOf J K (n + 1) 18 L S M = ai_const (-1) 19 (am_run (c_Nodes_headOf s_Nodes_isOf) k_Nodes_headOf J K n) K 18 L S M := rfl
theorem r_Nodes_headOf_19 {s_Nodes_isOf : aS} {J : aJ} {K : aR} {n : Nat} {L : aL} {S : List Value} {M : aM} : am_run (c_Nodes_headOf s_Nodes_isOf) k_Nodes_headOf J K (n + 1) 19 L S M = ai_iret (am_run (c_Nodes_headOf s_Nodes_isOf) k_Nodes_headOf J K n) K 19 L S M := rfl
def c_Nodes_tailOf (s_Nodes_isOf : aS) : List (Nat × aI) := [
  (0, ai_aload 0 1),
  (1, ai_iload 1 2),
  (2, ai_const 4 3),
  (3, ai_callv3 0 s_Nodes_isOf 6),
  (6, ai_ifeq 18 9),
  (9, ai_aload 0 10),
  (10, ai_getf 0 4 13),
  (13, ai_iload 1 14),
  (14, ai_iald 15),
  (15, ai_goto 19),
  (18, ai_const (-1) 19),
  (19, ai_iret)]
set_option maxRecDepth 100000 in
set_option maxHeartbeats 4000000 in
theorem tb_Nodes_tailOf {G : aG} {d : Nat} {s_Nodes_isOf : aS} {d_Nodes_isOf : Nat} (h_Nodes_isOf : am_Sp G Y_Nodes_isOf d_Nodes_isOf s_Nodes_isOf) (l_Nodes_isOf : d_Nodes_isOf < d) : am_tab G Y_Nodes_tailOf d (c_Nodes_tailOf s_Nodes_isOf) := by
  intro K p e s m args below meth c C
  exact ⟨as_aload_n C (pc := 0) (q := 0) (by decide +kernel) rfl rfl,
    as_iload_n C (pc := 1) (q := 1) (by decide +kernel) rfl rfl,
    as_iconst C (pc := 2) (n := 4) (by decide +kernel) (by decide +kernel) rfl,
    as_callv3 C (pc := 3) h_Nodes_isOf (T := T_Nodes) (N := 10) rfl w_421 w_72 w_420 w_36 w_418 hy_Nodes_isOf (am_rm_of l_Nodes_isOf (by decide)) (by decide +kernel) rfl,
    as_ifeq C (pc := 6) (off := 12) (by decide +kernel) (by decide) rfl,
    as_aload_n C (pc := 9) (q := 0) (by decide +kernel) rfl rfl,
    as_getf C (pc := 10) (T := T_Nodes) (N := 10) rfl in_Nodes (by decide) rfl w_122 (by decide +kernel) rfl,
    as_iload_n C (pc := 13) (q := 1) (by decide +kernel) rfl rfl,
    as_iald C (pc := 14) (by decide +kernel) rfl,
    as_goto C (pc := 15) (off := 4) (by decide +kernel) (by decide),
    as_iconst C (pc := 18) (n := (-1)) (by decide +kernel) (by decide +kernel) rfl,
    as_iret C (pc := 19) rfl (by decide +kernel), trivial⟩
abbrev k_Nodes_tailOf : List Nat := []
theorem r_Nodes_tailOf_0 {s_Nodes_isOf : aS} {J : aJ} {K : aR} {n : Nat} {L : aL} {S : List Value} {M : aM} : am_run (c_Nodes_tailOf s_Nodes_isOf) k_Nodes_tailOf J K (n + 1) 0 L S M = ai_aload 0 1 (am_run (c_Nodes_tailOf s_Nodes_isOf) k_Nodes_tailOf J K n) K 0 L S M := rfl
theorem r_Nodes_tailOf_1 {s_Nodes_isOf : aS} {J : aJ} {K : aR} {n : Nat} {L : aL} {S : List Value} {M : aM} : am_run (c_Nodes_tailOf s_Nodes_isOf) k_Nodes_tailOf J K (n + 1) 1 L S M = ai_iload 1 2 (am_run (c_Nodes_tailOf s_Nodes_isOf) k_Nodes_tailOf J K n) K 1 L S M := rfl
theorem r_Nodes_tailOf_2 {s_Nodes_isOf : aS} {J : aJ} {K : aR} {n : Nat} {L : aL} {S : List Value} {M : aM} : am_run (c_Nodes_tailOf s_Nodes_isOf) k_Nodes_tailOf J K (n + 1) 2 L S M = ai_const 4 3 (am_run (c_Nodes_tailOf s_Nodes_isOf) k_Nodes_tailOf J K n) K 2 L S M := rfl
theorem r_Nodes_tailOf_3 {s_Nodes_isOf : aS} {J : aJ} {K : aR} {n : Nat} {L : aL} {S : List Value} {M : aM} : am_run (c_Nodes_tailOf s_Nodes_isOf) k_Nodes_tailOf J K (n + 1) 3 L S M = ai_callv3 0 s_Nodes_isOf 6 (am_run (c_Nodes_tailOf s_Nodes_isOf) k_Nodes_tailOf J K n) K 3 L S M := rfl
theorem r_Nodes_tailOf_6 {s_Nodes_isOf : aS} {J : aJ} {K : aR} {n : Nat} {L : aL} {S : List Value} {M : aM} : am_run (c_Nodes_tailOf s_Nodes_isOf) k_Nodes_tailOf J K (n + 1) 6 L S M = ai_ifeq 18 9 (am_run (c_Nodes_tailOf s_Nodes_isOf) k_Nodes_tailOf J K n) K 6 L S M := rfl
theorem r_Nodes_tailOf_9 {s_Nodes_isOf : aS} {J : aJ} {K : aR} {n : Nat} {L : aL} {S : List Value} {M : aM} : am_run (c_Nodes_tailOf s_Nodes_isOf) k_Nodes_tailOf J K (n + 1) 9 L S M = ai_aload 0 10 (am_run (c_Nodes_tailOf s_Nodes_isOf) k_Nodes_tailOf J K n) K 9 L S M := rfl
theorem r_Nodes_tailOf_10 {s_Nodes_isOf : aS} {J : aJ} {K : aR} {n : Nat} {L : aL} {S : List Value} {M : aM} : am_run (c_Nodes_tailOf s_Nodes_isOf) k_Nodes_tailOf J K (n + 1) 10 L S M = ai_getf 0 4 13 (am_run (c_Nodes_tailOf s_Nodes_isOf) k_Nodes_tailOf J K n) K 10 L S M := rfl
theorem r_Nodes_tailOf_13 {s_Nodes_isOf : aS} {J : aJ} {K : aR} {n : Nat} {L : aL} {S : List Value} {M : aM} : am_run (c_Nodes_tailOf s_Nodes_isOf) k_Nodes_tailOf J K (n + 1) 13 L S M = ai_iload 1 14 (am_run (c_Nodes_tailOf s_Nodes_isOf) k_Nodes_tailOf J K n) K 13 L S M := rfl
theorem r_Nodes_tailOf_14 {s_Nodes_isOf : aS} {J : aJ} {K : aR} {n : Nat} {L : aL} {S : List Value} {M : aM} : am_run (c_Nodes_tailOf s_Nodes_isOf) k_Nodes_tailOf J K (n + 1) 14 L S M = ai_iald 15 (am_run (c_Nodes_tailOf s_Nodes_isOf) k_Nodes_tailOf J K n) K 14 L S M := rfl
theorem r_Nodes_tailOf_15 {s_Nodes_isOf : aS} {J : aJ} {K : aR} {n : Nat} {L : aL} {S : List Value} {M : aM} : am_run (c_Nodes_tailOf s_Nodes_isOf) k_Nodes_tailOf J K (n + 1) 15 L S M = ai_goto 19 (am_run (c_Nodes_tailOf s_Nodes_isOf) k_Nodes_tailOf J K n) K 15 L S M := rfl
theorem r_Nodes_tailOf_18 {s_Nodes_isOf : aS} {J : aJ} {K : aR} {n : Nat} {L : aL} {S : List Value} {M : aM} : am_run (c_Nodes_tailOf s_Nodes_isOf) k_Nodes_tailOf J K (n + 1) 18 L S M = ai_const (-1) 19 (am_run (c_Nodes_tailOf s_Nodes_isOf) k_Nodes_tailOf J K n) K 18 L S M := rfl
theorem r_Nodes_tailOf_19 {s_Nodes_isOf : aS} {J : aJ} {K : aR} {n : Nat} {L : aL} {S : List Value} {M : aM} : am_run (c_Nodes_tailOf s_Nodes_isOf) k_Nodes_tailOf J K (n + 1) 19 L S M = ai_iret (am_run (c_Nodes_tailOf s_Nodes_isOf) k_Nodes_tailOf J K n) K 19 L S M := rfl
def c_Nodes_alike (s_Nodes_isOf : aS) (s_Nodes_kindOf : aS) (s_Nodes_sameContent : aS) (s_Nodes_alike : aS) : List (Nat × aI) := [
  (0, ai_iload 3 1),
  (1, ai_const 15 3),
  (3, ai_cmple 8 6),
  (6, ai_const 0 7),
  (7, ai_zret),
  (8, ai_iload 1 9),
  (9, ai_istore 4 11),
  (11, ai_iload 2 12),
  (12, ai_istore 5 14),
  (14, ai_const 0 15),
  (15, ai_istore 6 17),
  (17, ai_iload 6 19),
  (19, ai_const 200 22),
  (22, ai_cmpge 127 25),
  (25, ai_aload 0 26),
  (26, ai_iload 4 28),
  (28, ai_const 4 29),
  (29, ai_callv3 0 s_Nodes_isOf 32),
  (32, ai_ifeq 45 35),
  (35, ai_aload 0 36),
  (36, ai_iload 5 38),
  (38, ai_const 4 39),
  (39, ai_callv3 0 s_Nodes_isOf 42),
  (42, ai_ifne 77 45),
  (45, ai_aload 0 46),
  (46, ai_iload 4 48),
  (48, ai_callv2 0 s_Nodes_kindOf 51),
  (51, ai_aload 0 52),
  (52, ai_iload 5 54),
  (54, ai_callv2 0 s_Nodes_kindOf 57),
  (57, ai_cmpne 75 60),
  (60, ai_aload 0 61),
  (61, ai_iload 4 63),
  (63, ai_iload 5 65),
  (65, ai_callv3 0 s_Nodes_sameContent 68),
  (68, ai_ifeq 75 71),
  (71, ai_const 1 72),
  (72, ai_goto 76),
  (75, ai_const 0 76),
  (76, ai_zret),
  (77, ai_aload 0 78),
  (78, ai_aload 0 79),
  (79, ai_getf 0 3 82),
  (82, ai_iload 4 84),
  (84, ai_iald 85),
  (85, ai_aload 0 86),
  (86, ai_getf 0 3 89),
  (89, ai_iload 5 91),
  (91, ai_iald 92),
  (92, ai_iload 3 93),
  (93, ai_const 1 94),
  (94, ai_iadd 95),
  (95, ai_callv4 0 s_Nodes_alike 98),
  (98, ai_ifne 103 101),
  (101, ai_const 0 102),
  (102, ai_zret),
  (103, ai_aload 0 104),
  (104, ai_getf 0 4 107),
  (107, ai_iload 4 109),
  (109, ai_iald 110),
  (110, ai_istore 4 112),
  (112, ai_aload 0 113),
  (113, ai_getf 0 4 116),
  (116, ai_iload 5 118),
  (118, ai_iald 119),
  (119, ai_istore 5 121),
  (121, ai_iinc 6 1 124),
  (124, ai_goto 17),
  (127, ai_const 0 128),
  (128, ai_zret)]
set_option maxRecDepth 100000 in
set_option maxHeartbeats 4000000 in
theorem tb_Nodes_alike {G : aG} {d : Nat} {s_Nodes_isOf : aS} {d_Nodes_isOf : Nat} (h_Nodes_isOf : am_Sp G Y_Nodes_isOf d_Nodes_isOf s_Nodes_isOf) (l_Nodes_isOf : d_Nodes_isOf < d) {s_Nodes_kindOf : aS} {d_Nodes_kindOf : Nat} (h_Nodes_kindOf : am_Sp G Y_Nodes_kindOf d_Nodes_kindOf s_Nodes_kindOf) (l_Nodes_kindOf : d_Nodes_kindOf < d) {s_Nodes_sameContent : aS} {d_Nodes_sameContent : Nat} (h_Nodes_sameContent : am_Sp G Y_Nodes_sameContent d_Nodes_sameContent s_Nodes_sameContent) (l_Nodes_sameContent : d_Nodes_sameContent < d) {s_Nodes_alike : aS} {d_Nodes_alike : Nat} (h_Nodes_alike : am_Sp G Y_Nodes_alike d_Nodes_alike s_Nodes_alike) (l_Nodes_alike : d_Nodes_alike < d) : am_tab G Y_Nodes_alike d (c_Nodes_alike s_Nodes_isOf s_Nodes_kindOf s_Nodes_sameContent s_Nodes_alike) := by
  intro K p e s m args below meth c C
  exact ⟨as_iload_n C (pc := 0) (q := 3) (by decide +kernel) rfl rfl,
    as_bipush C (pc := 1) (n := 15) (by decide +kernel) (by decide +kernel) rfl,
    as_cmple C (pc := 3) (off := 5) (by decide +kernel) (by decide) rfl,
    as_iconst C (pc := 6) (n := 0) (by decide +kernel) (by decide +kernel) rfl,
    as_zret C (pc := 7) rfl (by decide +kernel),
    as_iload_n C (pc := 8) (q := 1) (by decide +kernel) rfl rfl,
    as_istore C (pc := 9) (k := 4) (by decide +kernel) (by decide) rfl,
    as_iload_n C (pc := 11) (q := 2) (by decide +kernel) rfl rfl,
    as_istore C (pc := 12) (k := 5) (by decide +kernel) (by decide) rfl,
    as_iconst C (pc := 14) (n := 0) (by decide +kernel) (by decide +kernel) rfl,
    as_istore C (pc := 15) (k := 6) (by decide +kernel) (by decide) rfl,
    as_iload C (pc := 17) (k := 6) (by decide +kernel) rfl,
    as_sipush C (pc := 19) (n := 200) (by decide +kernel) (by decide +kernel) rfl,
    as_cmpge C (pc := 22) (off := 105) (by decide +kernel) (by decide) rfl,
    as_aload_n C (pc := 25) (q := 0) (by decide +kernel) rfl rfl,
    as_iload C (pc := 26) (k := 4) (by decide +kernel) rfl,
    as_iconst C (pc := 28) (n := 4) (by decide +kernel) (by decide +kernel) rfl,
    as_callv3 C (pc := 29) h_Nodes_isOf (T := T_Nodes) (N := 10) rfl w_421 w_72 w_420 w_36 w_418 hy_Nodes_isOf (am_rm_of l_Nodes_isOf (by decide)) (by decide +kernel) rfl,
    as_ifeq C (pc := 32) (off := 13) (by decide +kernel) (by decide) rfl,
    as_aload_n C (pc := 35) (q := 0) (by decide +kernel) rfl rfl,
    as_iload C (pc := 36) (k := 5) (by decide +kernel) rfl,
    as_iconst C (pc := 38) (n := 4) (by decide +kernel) (by decide +kernel) rfl,
    as_callv3 C (pc := 39) h_Nodes_isOf (T := T_Nodes) (N := 10) rfl w_421 w_72 w_420 w_36 w_418 hy_Nodes_isOf (am_rm_of l_Nodes_isOf (by decide)) (by decide +kernel) rfl,
    as_ifne C (pc := 42) (off := 35) (by decide +kernel) (by decide) rfl,
    as_aload_n C (pc := 45) (q := 0) (by decide +kernel) rfl rfl,
    as_iload C (pc := 46) (k := 4) (by decide +kernel) rfl,
    as_callv2 C (pc := 48) h_Nodes_kindOf (T := T_Nodes) (N := 10) rfl w_401 w_72 w_400 w_33 w_443 hy_Nodes_kindOf (am_rm_of l_Nodes_kindOf (by decide)) (by decide +kernel) rfl,
    as_aload_n C (pc := 51) (q := 0) (by decide +kernel) rfl rfl,
    as_iload C (pc := 52) (k := 5) (by decide +kernel) rfl,
    as_callv2 C (pc := 54) h_Nodes_kindOf (T := T_Nodes) (N := 10) rfl w_401 w_72 w_400 w_33 w_443 hy_Nodes_kindOf (am_rm_of l_Nodes_kindOf (by decide)) (by decide +kernel) rfl,
    as_cmpne C (pc := 57) (off := 18) (by decide +kernel) (by decide) rfl,
    as_aload_n C (pc := 60) (q := 0) (by decide +kernel) rfl rfl,
    as_iload C (pc := 61) (k := 4) (by decide +kernel) rfl,
    as_iload C (pc := 63) (k := 5) (by decide +kernel) rfl,
    as_callv3 C (pc := 65) h_Nodes_sameContent (T := T_Nodes) (N := 10) rfl w_447 w_72 w_446 w_40 w_444 hy_Nodes_sameContent (am_rm_of l_Nodes_sameContent (by decide)) (by decide +kernel) rfl,
    as_ifeq C (pc := 68) (off := 7) (by decide +kernel) (by decide) rfl,
    as_iconst C (pc := 71) (n := 1) (by decide +kernel) (by decide +kernel) rfl,
    as_goto C (pc := 72) (off := 4) (by decide +kernel) (by decide),
    as_iconst C (pc := 75) (n := 0) (by decide +kernel) (by decide +kernel) rfl,
    as_zret C (pc := 76) rfl (by decide +kernel),
    as_aload_n C (pc := 77) (q := 0) (by decide +kernel) rfl rfl,
    as_aload_n C (pc := 78) (q := 0) (by decide +kernel) rfl rfl,
    as_getf C (pc := 79) (T := T_Nodes) (N := 10) rfl in_Nodes (by decide) rfl w_121 (by decide +kernel) rfl,
    as_iload C (pc := 82) (k := 4) (by decide +kernel) rfl,
    as_iald C (pc := 84) (by decide +kernel) rfl,
    as_aload_n C (pc := 85) (q := 0) (by decide +kernel) rfl rfl,
    as_getf C (pc := 86) (T := T_Nodes) (N := 10) rfl in_Nodes (by decide) rfl w_121 (by decide +kernel) rfl,
    as_iload C (pc := 89) (k := 5) (by decide +kernel) rfl,
    as_iald C (pc := 91) (by decide +kernel) rfl,
    as_iload_n C (pc := 92) (q := 3) (by decide +kernel) rfl rfl,
    as_iconst C (pc := 93) (n := 1) (by decide +kernel) (by decide +kernel) rfl,
    as_iadd C (pc := 94) (by decide +kernel) rfl,
    as_callv4 C (pc := 95) h_Nodes_alike (T := T_Nodes) (N := 10) rfl w_442 w_72 w_441 w_39 w_450 hy_Nodes_alike (am_rm_of l_Nodes_alike (by decide)) (by decide +kernel) rfl,
    as_ifne C (pc := 98) (off := 5) (by decide +kernel) (by decide) rfl,
    as_iconst C (pc := 101) (n := 0) (by decide +kernel) (by decide +kernel) rfl,
    as_zret C (pc := 102) rfl (by decide +kernel),
    as_aload_n C (pc := 103) (q := 0) (by decide +kernel) rfl rfl,
    as_getf C (pc := 104) (T := T_Nodes) (N := 10) rfl in_Nodes (by decide) rfl w_122 (by decide +kernel) rfl,
    as_iload C (pc := 107) (k := 4) (by decide +kernel) rfl,
    as_iald C (pc := 109) (by decide +kernel) rfl,
    as_istore C (pc := 110) (k := 4) (by decide +kernel) (by decide) rfl,
    as_aload_n C (pc := 112) (q := 0) (by decide +kernel) rfl rfl,
    as_getf C (pc := 113) (T := T_Nodes) (N := 10) rfl in_Nodes (by decide) rfl w_122 (by decide +kernel) rfl,
    as_iload C (pc := 116) (k := 5) (by decide +kernel) rfl,
    as_iald C (pc := 118) (by decide +kernel) rfl,
    as_istore C (pc := 119) (k := 5) (by decide +kernel) (by decide) rfl,
    as_iinc C (pc := 121) (k := 6) (n := 1) (by decide +kernel) (by decide +kernel) (by decide) rfl,
    as_goto C (pc := 124) (off := (-107)) (by decide +kernel) (by decide),
    as_iconst C (pc := 127) (n := 0) (by decide +kernel) (by decide +kernel) rfl,
    as_zret C (pc := 128) rfl (by decide +kernel), trivial⟩
abbrev k_Nodes_alike : List Nat := [17]
set_option maxRecDepth 20000 in
theorem q_Nodes_alike_17 {s_Nodes_isOf : aS} {s_Nodes_kindOf : aS} {s_Nodes_sameContent : aS} {s_Nodes_alike : aS} : am_at (c_Nodes_alike s_Nodes_isOf s_Nodes_kindOf s_Nodes_sameContent s_Nodes_alike) 17 = ai_iload 6 19 := rfl
set_option maxRecDepth 20000 in
theorem r_Nodes_alike_0 {s_Nodes_isOf : aS} {s_Nodes_kindOf : aS} {s_Nodes_sameContent : aS} {s_Nodes_alike : aS} {J : aJ} {K : aR} {n : Nat} {L : aL} {S : List Value} {M : aM} : am_run (c_Nodes_alike s_Nodes_isOf s_Nodes_kindOf s_Nodes_sameContent s_Nodes_alike) k_Nodes_alike J K (n + 1) 0 L S M = ai_iload 3 1 (am_run (c_Nodes_alike s_Nodes_isOf s_Nodes_kindOf s_Nodes_sameContent s_Nodes_alike) k_Nodes_alike J K n) K 0 L S M := rfl
set_option maxRecDepth 20000 in
theorem r_Nodes_alike_1 {s_Nodes_isOf : aS} {s_Nodes_kindOf : aS} {s_Nodes_sameContent : aS} {s_Nodes_alike : aS} {J : aJ} {K : aR} {n : Nat} {L : aL} {S : List Value} {M : aM} : am_run (c_Nodes_alike s_Nodes_isOf s_Nodes_kindOf s_Nodes_sameContent s_Nodes_alike) k_Nodes_alike J K (n + 1) 1 L S M = ai_const 15 3 (am_run (c_Nodes_alike s_Nodes_isOf s_Nodes_kindOf s_Nodes_sameContent s_Nodes_alike) k_Nodes_alike J K n) K 1 L S M := rfl
set_option maxRecDepth 20000 in
theorem r_Nodes_alike_3 {s_Nodes_isOf : aS} {s_Nodes_kindOf : aS} {s_Nodes_sameContent : aS} {s_Nodes_alike : aS} {J : aJ} {K : aR} {n : Nat} {L : aL} {S : List Value} {M : aM} : am_run (c_Nodes_alike s_Nodes_isOf s_Nodes_kindOf s_Nodes_sameContent s_Nodes_alike) k_Nodes_alike J K (n + 1) 3 L S M = ai_cmple 8 6 (am_run (c_Nodes_alike s_Nodes_isOf s_Nodes_kindOf s_Nodes_sameContent s_Nodes_alike) k_Nodes_alike J K n) K 3 L S M := rfl
set_option maxRecDepth 20000 in
theorem r_Nodes_alike_6 {s_Nodes_isOf : aS} {s_Nodes_kindOf : aS} {s_Nodes_sameContent : aS} {s_Nodes_alike : aS} {J : aJ} {K : aR} {n : Nat} {L : aL} {S : List Value} {M : aM} : am_run (c_Nodes_alike s_Nodes_isOf s_Nodes_kindOf s_Nodes_sameContent s_Nodes_alike) k_Nodes_alike J K (n + 1) 6 L S M = ai_const 0 7 (am_run (c_Nodes_alike s_Nodes_isOf s_Nodes_kindOf s_Nodes_sameContent s_Nodes_alike) k_Nodes_alike J K n) K 6 L S M := rfl
set_option maxRecDepth 20000 in
theorem r_Nodes_alike_7 {s_Nodes_isOf : aS} {s_Nodes_kindOf : aS} {s_Nodes_sameContent : aS} {s_Nodes_alike : aS} {J : aJ} {K : aR} {n : Nat} {L : aL} {S : List Value} {M : aM} : am_run (c_Nodes_alike s_Nodes_isOf s_Nodes_kindOf s_Nodes_sameContent s_Nodes_alike) k_Nodes_alike J K (n + 1) 7 L S M = ai_zret (am_run (c_Nodes_alike s_Nodes_isOf s_Nodes_kindOf s_Nodes_sameContent s_Nodes_alike) k_Nodes_alike J K n) K 7 L S M := rfl
set_option maxRecDepth 20000 in
theorem r_Nodes_alike_8 {s_Nodes_isOf : aS} {s_Nodes_kindOf : aS} {s_Nodes_sameContent : aS} {s_Nodes_alike : aS} {J : aJ} {K : aR} {n : Nat} {L : aL} {S : List Value} {M : aM} : am_run (c_Nodes_alike s_Nodes_isOf s_Nodes_kindOf s_Nodes_sameContent s_Nodes_alike) k_Nodes_alike J K (n + 1) 8 L S M = ai_iload 1 9 (am_run (c_Nodes_alike s_Nodes_isOf s_Nodes_kindOf s_Nodes_sameContent s_Nodes_alike) k_Nodes_alike J K n) K 8 L S M := rfl
set_option maxRecDepth 20000 in
theorem r_Nodes_alike_9 {s_Nodes_isOf : aS} {s_Nodes_kindOf : aS} {s_Nodes_sameContent : aS} {s_Nodes_alike : aS} {J : aJ} {K : aR} {n : Nat} {L : aL} {S : List Value} {M : aM} : am_run (c_Nodes_alike s_Nodes_isOf s_Nodes_kindOf s_Nodes_sameContent s_Nodes_alike) k_Nodes_alike J K (n + 1) 9 L S M = ai_istore 4 11 (am_run (c_Nodes_alike s_Nodes_isOf s_Nodes_kindOf s_Nodes_sameContent s_Nodes_alike) k_Nodes_alike J K n) K 9 L S M := rfl
set_option maxRecDepth 20000 in
theorem r_Nodes_alike_11 {s_Nodes_isOf : aS} {s_Nodes_kindOf : aS} {s_Nodes_sameContent : aS} {s_Nodes_alike : aS} {J : aJ} {K : aR} {n : Nat} {L : aL} {S : List Value} {M : aM} : am_run (c_Nodes_alike s_Nodes_isOf s_Nodes_kindOf s_Nodes_sameContent s_Nodes_alike) k_Nodes_alike J K (n + 1) 11 L S M = ai_iload 2 12 (am_run (c_Nodes_alike s_Nodes_isOf s_Nodes_kindOf s_Nodes_sameContent s_Nodes_alike) k_Nodes_alike J K n) K 11 L S M := rfl
set_option maxRecDepth 20000 in
theorem r_Nodes_alike_12 {s_Nodes_isOf : aS} {s_Nodes_kindOf : aS} {s_Nodes_sameContent : aS} {s_Nodes_alike : aS} {J : aJ} {K : aR} {n : Nat} {L : aL} {S : List Value} {M : aM} : am_run (c_Nodes_alike s_Nodes_isOf s_Nodes_kindOf s_Nodes_sameContent s_Nodes_alike) k_Nodes_alike J K (n + 1) 12 L S M = ai_istore 5 14 (am_run (c_Nodes_alike s_Nodes_isOf s_Nodes_kindOf s_Nodes_sameContent s_Nodes_alike) k_Nodes_alike J K n) K 12 L S M := rfl
set_option maxRecDepth 20000 in
theorem r_Nodes_alike_14 {s_Nodes_isOf : aS} {s_Nodes_kindOf : aS} {s_Nodes_sameContent : aS} {s_Nodes_alike : aS} {J : aJ} {K : aR} {n : Nat} {L : aL} {S : List Value} {M : aM} : am_run (c_Nodes_alike s_Nodes_isOf s_Nodes_kindOf s_Nodes_sameContent s_Nodes_alike) k_Nodes_alike J K (n + 1) 14 L S M = ai_const 0 15 (am_run (c_Nodes_alike s_Nodes_isOf s_Nodes_kindOf s_Nodes_sameContent s_Nodes_alike) k_Nodes_alike J K n) K 14 L S M := rfl
set_option maxRecDepth 20000 in
theorem r_Nodes_alike_15 {s_Nodes_isOf : aS} {s_Nodes_kindOf : aS} {s_Nodes_sameContent : aS} {s_Nodes_alike : aS} {J : aJ} {K : aR} {n : Nat} {L : aL} {S : List Value} {M : aM} : am_run (c_Nodes_alike s_Nodes_isOf s_Nodes_kindOf s_Nodes_sameContent s_Nodes_alike) k_Nodes_alike J K (n + 1) 15 L S M = ai_istore 6 17 (am_run (c_Nodes_alike s_Nodes_isOf s_Nodes_kindOf s_Nodes_sameContent s_Nodes_alike) k_Nodes_alike J K n) K 15 L S M := rfl
set_option maxRecDepth 20000 in
theorem r_Nodes_alike_17 {s_Nodes_isOf : aS} {s_Nodes_kindOf : aS} {s_Nodes_sameContent : aS} {s_Nodes_alike : aS} {J : aJ} {K : aR} {n : Nat} {L : aL} {S : List Value} {M : aM} : am_run (c_Nodes_alike s_Nodes_isOf s_Nodes_kindOf s_Nodes_sameContent s_Nodes_alike) k_Nodes_alike J K (n + 1) 17 L S M = J 17 L S M := rfl
set_option maxRecDepth 20000 in
theorem r_Nodes_alike_19 {s_Nodes_isOf : aS} {s_Nodes_kindOf : aS} {s_Nodes_sameContent : aS} {s_Nodes_alike : aS} {J : aJ} {K : aR} {n : Nat} {L : aL} {S : List Value} {M : aM} : am_run (c_Nodes_alike s_Nodes_isOf s_Nodes_kindOf s_Nodes_sameContent s_Nodes_alike) k_Nodes_alike J K (n + 1) 19 L S M = ai_const 200 22 (am_run (c_Nodes_alike s_Nodes_isOf s_Nodes_kindOf s_Nodes_sameContent s_Nodes_alike) k_Nodes_alike J K n) K 19 L S M := rfl
set_option maxRecDepth 20000 in
theorem r_Nodes_alike_22 {s_Nodes_isOf : aS} {s_Nodes_kindOf : aS} {s_Nodes_sameContent : aS} {s_Nodes_alike : aS} {J : aJ} {K : aR} {n : Nat} {L : aL} {S : List Value} {M : aM} : am_run (c_Nodes_alike s_Nodes_isOf s_Nodes_kindOf s_Nodes_sameContent s_Nodes_alike) k_Nodes_alike J K (n + 1) 22 L S M = ai_cmpge 127 25 (am_run (c_Nodes_alike s_Nodes_isOf s_Nodes_kindOf s_Nodes_sameContent s_Nodes_alike) k_Nodes_alike J K n) K 22 L S M := rfl
set_option maxRecDepth 20000 in
theorem r_Nodes_alike_25 {s_Nodes_isOf : aS} {s_Nodes_kindOf : aS} {s_Nodes_sameContent : aS} {s_Nodes_alike : aS} {J : aJ} {K : aR} {n : Nat} {L : aL} {S : List Value} {M : aM} : am_run (c_Nodes_alike s_Nodes_isOf s_Nodes_kindOf s_Nodes_sameContent s_Nodes_alike) k_Nodes_alike J K (n + 1) 25 L S M = ai_aload 0 26 (am_run (c_Nodes_alike s_Nodes_isOf s_Nodes_kindOf s_Nodes_sameContent s_Nodes_alike) k_Nodes_alike J K n) K 25 L S M := rfl
set_option maxRecDepth 20000 in
theorem r_Nodes_alike_26 {s_Nodes_isOf : aS} {s_Nodes_kindOf : aS} {s_Nodes_sameContent : aS} {s_Nodes_alike : aS} {J : aJ} {K : aR} {n : Nat} {L : aL} {S : List Value} {M : aM} : am_run (c_Nodes_alike s_Nodes_isOf s_Nodes_kindOf s_Nodes_sameContent s_Nodes_alike) k_Nodes_alike J K (n + 1) 26 L S M = ai_iload 4 28 (am_run (c_Nodes_alike s_Nodes_isOf s_Nodes_kindOf s_Nodes_sameContent s_Nodes_alike) k_Nodes_alike J K n) K 26 L S M := rfl
set_option maxRecDepth 20000 in
theorem r_Nodes_alike_28 {s_Nodes_isOf : aS} {s_Nodes_kindOf : aS} {s_Nodes_sameContent : aS} {s_Nodes_alike : aS} {J : aJ} {K : aR} {n : Nat} {L : aL} {S : List Value} {M : aM} : am_run (c_Nodes_alike s_Nodes_isOf s_Nodes_kindOf s_Nodes_sameContent s_Nodes_alike) k_Nodes_alike J K (n + 1) 28 L S M = ai_const 4 29 (am_run (c_Nodes_alike s_Nodes_isOf s_Nodes_kindOf s_Nodes_sameContent s_Nodes_alike) k_Nodes_alike J K n) K 28 L S M := rfl
set_option maxRecDepth 20000 in
theorem r_Nodes_alike_29 {s_Nodes_isOf : aS} {s_Nodes_kindOf : aS} {s_Nodes_sameContent : aS} {s_Nodes_alike : aS} {J : aJ} {K : aR} {n : Nat} {L : aL} {S : List Value} {M : aM} : am_run (c_Nodes_alike s_Nodes_isOf s_Nodes_kindOf s_Nodes_sameContent s_Nodes_alike) k_Nodes_alike J K (n + 1) 29 L S M = ai_callv3 0 s_Nodes_isOf 32 (am_run (c_Nodes_alike s_Nodes_isOf s_Nodes_kindOf s_Nodes_sameContent s_Nodes_alike) k_Nodes_alike J K n) K 29 L S M := rfl
set_option maxRecDepth 20000 in
theorem r_Nodes_alike_32 {s_Nodes_isOf : aS} {s_Nodes_kindOf : aS} {s_Nodes_sameContent : aS} {s_Nodes_alike : aS} {J : aJ} {K : aR} {n : Nat} {L : aL} {S : List Value} {M : aM} : am_run (c_Nodes_alike s_Nodes_isOf s_Nodes_kindOf s_Nodes_sameContent s_Nodes_alike) k_Nodes_alike J K (n + 1) 32 L S M = ai_ifeq 45 35 (am_run (c_Nodes_alike s_Nodes_isOf s_Nodes_kindOf s_Nodes_sameContent s_Nodes_alike) k_Nodes_alike J K n) K 32 L S M := rfl
set_option maxRecDepth 20000 in
theorem r_Nodes_alike_35 {s_Nodes_isOf : aS} {s_Nodes_kindOf : aS} {s_Nodes_sameContent : aS} {s_Nodes_alike : aS} {J : aJ} {K : aR} {n : Nat} {L : aL} {S : List Value} {M : aM} : am_run (c_Nodes_alike s_Nodes_isOf s_Nodes_kindOf s_Nodes_sameContent s_Nodes_alike) k_Nodes_alike J K (n + 1) 35 L S M = ai_aload 0 36 (am_run (c_Nodes_alike s_Nodes_isOf s_Nodes_kindOf s_Nodes_sameContent s_Nodes_alike) k_Nodes_alike J K n) K 35 L S M := rfl
set_option maxRecDepth 20000 in
theorem r_Nodes_alike_36 {s_Nodes_isOf : aS} {s_Nodes_kindOf : aS} {s_Nodes_sameContent : aS} {s_Nodes_alike : aS} {J : aJ} {K : aR} {n : Nat} {L : aL} {S : List Value} {M : aM} : am_run (c_Nodes_alike s_Nodes_isOf s_Nodes_kindOf s_Nodes_sameContent s_Nodes_alike) k_Nodes_alike J K (n + 1) 36 L S M = ai_iload 5 38 (am_run (c_Nodes_alike s_Nodes_isOf s_Nodes_kindOf s_Nodes_sameContent s_Nodes_alike) k_Nodes_alike J K n) K 36 L S M := rfl
set_option maxRecDepth 20000 in
theorem r_Nodes_alike_38 {s_Nodes_isOf : aS} {s_Nodes_kindOf : aS} {s_Nodes_sameContent : aS} {s_Nodes_alike : aS} {J : aJ} {K : aR} {n : Nat} {L : aL} {S : List Value} {M : aM} : am_run (c_Nodes_alike s_Nodes_isOf s_Nodes_kindOf s_Nodes_sameContent s_Nodes_alike) k_Nodes_alike J K (n + 1) 38 L S M = ai_const 4 39 (am_run (c_Nodes_alike s_Nodes_isOf s_Nodes_kindOf s_Nodes_sameContent s_Nodes_alike) k_Nodes_alike J K n) K 38 L S M := rfl
set_option maxRecDepth 20000 in
theorem r_Nodes_alike_39 {s_Nodes_isOf : aS} {s_Nodes_kindOf : aS} {s_Nodes_sameContent : aS} {s_Nodes_alike : aS} {J : aJ} {K : aR} {n : Nat} {L : aL} {S : List Value} {M : aM} : am_run (c_Nodes_alike s_Nodes_isOf s_Nodes_kindOf s_Nodes_sameContent s_Nodes_alike) k_Nodes_alike J K (n + 1) 39 L S M = ai_callv3 0 s_Nodes_isOf 42 (am_run (c_Nodes_alike s_Nodes_isOf s_Nodes_kindOf s_Nodes_sameContent s_Nodes_alike) k_Nodes_alike J K n) K 39 L S M := rfl
set_option maxRecDepth 20000 in
theorem r_Nodes_alike_42 {s_Nodes_isOf : aS} {s_Nodes_kindOf : aS} {s_Nodes_sameContent : aS} {s_Nodes_alike : aS} {J : aJ} {K : aR} {n : Nat} {L : aL} {S : List Value} {M : aM} : am_run (c_Nodes_alike s_Nodes_isOf s_Nodes_kindOf s_Nodes_sameContent s_Nodes_alike) k_Nodes_alike J K (n + 1) 42 L S M = ai_ifne 77 45 (am_run (c_Nodes_alike s_Nodes_isOf s_Nodes_kindOf s_Nodes_sameContent s_Nodes_alike) k_Nodes_alike J K n) K 42 L S M := rfl
set_option maxRecDepth 20000 in
theorem r_Nodes_alike_45 {s_Nodes_isOf : aS} {s_Nodes_kindOf : aS} {s_Nodes_sameContent : aS} {s_Nodes_alike : aS} {J : aJ} {K : aR} {n : Nat} {L : aL} {S : List Value} {M : aM} : am_run (c_Nodes_alike s_Nodes_isOf s_Nodes_kindOf s_Nodes_sameContent s_Nodes_alike) k_Nodes_alike J K (n + 1) 45 L S M = ai_aload 0 46 (am_run (c_Nodes_alike s_Nodes_isOf s_Nodes_kindOf s_Nodes_sameContent s_Nodes_alike) k_Nodes_alike J K n) K 45 L S M := rfl
set_option maxRecDepth 20000 in
theorem r_Nodes_alike_46 {s_Nodes_isOf : aS} {s_Nodes_kindOf : aS} {s_Nodes_sameContent : aS} {s_Nodes_alike : aS} {J : aJ} {K : aR} {n : Nat} {L : aL} {S : List Value} {M : aM} : am_run (c_Nodes_alike s_Nodes_isOf s_Nodes_kindOf s_Nodes_sameContent s_Nodes_alike) k_Nodes_alike J K (n + 1) 46 L S M = ai_iload 4 48 (am_run (c_Nodes_alike s_Nodes_isOf s_Nodes_kindOf s_Nodes_sameContent s_Nodes_alike) k_Nodes_alike J K n) K 46 L S M := rfl
set_option maxRecDepth 20000 in
theorem r_Nodes_alike_48 {s_Nodes_isOf : aS} {s_Nodes_kindOf : aS} {s_Nodes_sameContent : aS} {s_Nodes_alike : aS} {J : aJ} {K : aR} {n : Nat} {L : aL} {S : List Value} {M : aM} : am_run (c_Nodes_alike s_Nodes_isOf s_Nodes_kindOf s_Nodes_sameContent s_Nodes_alike) k_Nodes_alike J K (n + 1) 48 L S M = ai_callv2 0 s_Nodes_kindOf 51 (am_run (c_Nodes_alike s_Nodes_isOf s_Nodes_kindOf s_Nodes_sameContent s_Nodes_alike) k_Nodes_alike J K n) K 48 L S M := rfl
set_option maxRecDepth 20000 in
theorem r_Nodes_alike_51 {s_Nodes_isOf : aS} {s_Nodes_kindOf : aS} {s_Nodes_sameContent : aS} {s_Nodes_alike : aS} {J : aJ} {K : aR} {n : Nat} {L : aL} {S : List Value} {M : aM} : am_run (c_Nodes_alike s_Nodes_isOf s_Nodes_kindOf s_Nodes_sameContent s_Nodes_alike) k_Nodes_alike J K (n + 1) 51 L S M = ai_aload 0 52 (am_run (c_Nodes_alike s_Nodes_isOf s_Nodes_kindOf s_Nodes_sameContent s_Nodes_alike) k_Nodes_alike J K n) K 51 L S M := rfl
set_option maxRecDepth 20000 in
theorem r_Nodes_alike_52 {s_Nodes_isOf : aS} {s_Nodes_kindOf : aS} {s_Nodes_sameContent : aS} {s_Nodes_alike : aS} {J : aJ} {K : aR} {n : Nat} {L : aL} {S : List Value} {M : aM} : am_run (c_Nodes_alike s_Nodes_isOf s_Nodes_kindOf s_Nodes_sameContent s_Nodes_alike) k_Nodes_alike J K (n + 1) 52 L S M = ai_iload 5 54 (am_run (c_Nodes_alike s_Nodes_isOf s_Nodes_kindOf s_Nodes_sameContent s_Nodes_alike) k_Nodes_alike J K n) K 52 L S M := rfl
set_option maxRecDepth 20000 in
theorem r_Nodes_alike_54 {s_Nodes_isOf : aS} {s_Nodes_kindOf : aS} {s_Nodes_sameContent : aS} {s_Nodes_alike : aS} {J : aJ} {K : aR} {n : Nat} {L : aL} {S : List Value} {M : aM} : am_run (c_Nodes_alike s_Nodes_isOf s_Nodes_kindOf s_Nodes_sameContent s_Nodes_alike) k_Nodes_alike J K (n + 1) 54 L S M = ai_callv2 0 s_Nodes_kindOf 57 (am_run (c_Nodes_alike s_Nodes_isOf s_Nodes_kindOf s_Nodes_sameContent s_Nodes_alike) k_Nodes_alike J K n) K 54 L S M := rfl
set_option maxRecDepth 20000 in
theorem r_Nodes_alike_57 {s_Nodes_isOf : aS} {s_Nodes_kindOf : aS} {s_Nodes_sameContent : aS} {s_Nodes_alike : aS} {J : aJ} {K : aR} {n : Nat} {L : aL} {S : List Value} {M : aM} : am_run (c_Nodes_alike s_Nodes_isOf s_Nodes_kindOf s_Nodes_sameContent s_Nodes_alike) k_Nodes_alike J K (n + 1) 57 L S M = ai_cmpne 75 60 (am_run (c_Nodes_alike s_Nodes_isOf s_Nodes_kindOf s_Nodes_sameContent s_Nodes_alike) k_Nodes_alike J K n) K 57 L S M := rfl
set_option maxRecDepth 20000 in
theorem r_Nodes_alike_60 {s_Nodes_isOf : aS} {s_Nodes_kindOf : aS} {s_Nodes_sameContent : aS} {s_Nodes_alike : aS} {J : aJ} {K : aR} {n : Nat} {L : aL} {S : List Value} {M : aM} : am_run (c_Nodes_alike s_Nodes_isOf s_Nodes_kindOf s_Nodes_sameContent s_Nodes_alike) k_Nodes_alike J K (n + 1) 60 L S M = ai_aload 0 61 (am_run (c_Nodes_alike s_Nodes_isOf s_Nodes_kindOf s_Nodes_sameContent s_Nodes_alike) k_Nodes_alike J K n) K 60 L S M := rfl
set_option maxRecDepth 20000 in
theorem r_Nodes_alike_61 {s_Nodes_isOf : aS} {s_Nodes_kindOf : aS} {s_Nodes_sameContent : aS} {s_Nodes_alike : aS} {J : aJ} {K : aR} {n : Nat} {L : aL} {S : List Value} {M : aM} : am_run (c_Nodes_alike s_Nodes_isOf s_Nodes_kindOf s_Nodes_sameContent s_Nodes_alike) k_Nodes_alike J K (n + 1) 61 L S M = ai_iload 4 63 (am_run (c_Nodes_alike s_Nodes_isOf s_Nodes_kindOf s_Nodes_sameContent s_Nodes_alike) k_Nodes_alike J K n) K 61 L S M := rfl
set_option maxRecDepth 20000 in
theorem r_Nodes_alike_63 {s_Nodes_isOf : aS} {s_Nodes_kindOf : aS} {s_Nodes_sameContent : aS} {s_Nodes_alike : aS} {J : aJ} {K : aR} {n : Nat} {L : aL} {S : List Value} {M : aM} : am_run (c_Nodes_alike s_Nodes_isOf s_Nodes_kindOf s_Nodes_sameContent s_Nodes_alike) k_Nodes_alike J K (n + 1) 63 L S M = ai_iload 5 65 (am_run (c_Nodes_alike s_Nodes_isOf s_Nodes_kindOf s_Nodes_sameContent s_Nodes_alike) k_Nodes_alike J K n) K 63 L S M := rfl
set_option maxRecDepth 20000 in
theorem r_Nodes_alike_65 {s_Nodes_isOf : aS} {s_Nodes_kindOf : aS} {s_Nodes_sameContent : aS} {s_Nodes_alike : aS} {J : aJ} {K : aR} {n : Nat} {L : aL} {S : List Value} {M : aM} : am_run (c_Nodes_alike s_Nodes_isOf s_Nodes_kindOf s_Nodes_sameContent s_Nodes_alike) k_Nodes_alike J K (n + 1) 65 L S M = ai_callv3 0 s_Nodes_sameContent 68 (am_run (c_Nodes_alike s_Nodes_isOf s_Nodes_kindOf s_Nodes_sameContent s_Nodes_alike) k_Nodes_alike J K n) K 65 L S M := rfl
set_option maxRecDepth 20000 in
theorem r_Nodes_alike_68 {s_Nodes_isOf : aS} {s_Nodes_kindOf : aS} {s_Nodes_sameContent : aS} {s_Nodes_alike : aS} {J : aJ} {K : aR} {n : Nat} {L : aL} {S : List Value} {M : aM} : am_run (c_Nodes_alike s_Nodes_isOf s_Nodes_kindOf s_Nodes_sameContent s_Nodes_alike) k_Nodes_alike J K (n + 1) 68 L S M = ai_ifeq 75 71 (am_run (c_Nodes_alike s_Nodes_isOf s_Nodes_kindOf s_Nodes_sameContent s_Nodes_alike) k_Nodes_alike J K n) K 68 L S M := rfl
set_option maxRecDepth 20000 in
theorem r_Nodes_alike_71 {s_Nodes_isOf : aS} {s_Nodes_kindOf : aS} {s_Nodes_sameContent : aS} {s_Nodes_alike : aS} {J : aJ} {K : aR} {n : Nat} {L : aL} {S : List Value} {M : aM} : am_run (c_Nodes_alike s_Nodes_isOf s_Nodes_kindOf s_Nodes_sameContent s_Nodes_alike) k_Nodes_alike J K (n + 1) 71 L S M = ai_const 1 72 (am_run (c_Nodes_alike s_Nodes_isOf s_Nodes_kindOf s_Nodes_sameContent s_Nodes_alike) k_Nodes_alike J K n) K 71 L S M := rfl
set_option maxRecDepth 20000 in
theorem r_Nodes_alike_72 {s_Nodes_isOf : aS} {s_Nodes_kindOf : aS} {s_Nodes_sameContent : aS} {s_Nodes_alike : aS} {J : aJ} {K : aR} {n : Nat} {L : aL} {S : List Value} {M : aM} : am_run (c_Nodes_alike s_Nodes_isOf s_Nodes_kindOf s_Nodes_sameContent s_Nodes_alike) k_Nodes_alike J K (n + 1) 72 L S M = ai_goto 76 (am_run (c_Nodes_alike s_Nodes_isOf s_Nodes_kindOf s_Nodes_sameContent s_Nodes_alike) k_Nodes_alike J K n) K 72 L S M := rfl
set_option maxRecDepth 20000 in
theorem r_Nodes_alike_75 {s_Nodes_isOf : aS} {s_Nodes_kindOf : aS} {s_Nodes_sameContent : aS} {s_Nodes_alike : aS} {J : aJ} {K : aR} {n : Nat} {L : aL} {S : List Value} {M : aM} : am_run (c_Nodes_alike s_Nodes_isOf s_Nodes_kindOf s_Nodes_sameContent s_Nodes_alike) k_Nodes_alike J K (n + 1) 75 L S M = ai_const 0 76 (am_run (c_Nodes_alike s_Nodes_isOf s_Nodes_kindOf s_Nodes_sameContent s_Nodes_alike) k_Nodes_alike J K n) K 75 L S M := rfl
set_option maxRecDepth 20000 in
theorem r_Nodes_alike_76 {s_Nodes_isOf : aS} {s_Nodes_kindOf : aS} {s_Nodes_sameContent : aS} {s_Nodes_alike : aS} {J : aJ} {K : aR} {n : Nat} {L : aL} {S : List Value} {M : aM} : am_run (c_Nodes_alike s_Nodes_isOf s_Nodes_kindOf s_Nodes_sameContent s_Nodes_alike) k_Nodes_alike J K (n + 1) 76 L S M = ai_zret (am_run (c_Nodes_alike s_Nodes_isOf s_Nodes_kindOf s_Nodes_sameContent s_Nodes_alike) k_Nodes_alike J K n) K 76 L S M := rfl
set_option maxRecDepth 20000 in
theorem r_Nodes_alike_77 {s_Nodes_isOf : aS} {s_Nodes_kindOf : aS} {s_Nodes_sameContent : aS} {s_Nodes_alike : aS} {J : aJ} {K : aR} {n : Nat} {L : aL} {S : List Value} {M : aM} : am_run (c_Nodes_alike s_Nodes_isOf s_Nodes_kindOf s_Nodes_sameContent s_Nodes_alike) k_Nodes_alike J K (n + 1) 77 L S M = ai_aload 0 78 (am_run (c_Nodes_alike s_Nodes_isOf s_Nodes_kindOf s_Nodes_sameContent s_Nodes_alike) k_Nodes_alike J K n) K 77 L S M := rfl
set_option maxRecDepth 20000 in
theorem r_Nodes_alike_78 {s_Nodes_isOf : aS} {s_Nodes_kindOf : aS} {s_Nodes_sameContent : aS} {s_Nodes_alike : aS} {J : aJ} {K : aR} {n : Nat} {L : aL} {S : List Value} {M : aM} : am_run (c_Nodes_alike s_Nodes_isOf s_Nodes_kindOf s_Nodes_sameContent s_Nodes_alike) k_Nodes_alike J K (n + 1) 78 L S M = ai_aload 0 79 (am_run (c_Nodes_alike s_Nodes_isOf s_Nodes_kindOf s_Nodes_sameContent s_Nodes_alike) k_Nodes_alike J K n) K 78 L S M := rfl
set_option maxRecDepth 20000 in
theorem r_Nodes_alike_79 {s_Nodes_isOf : aS} {s_Nodes_kindOf : aS} {s_Nodes_sameContent : aS} {s_Nodes_alike : aS} {J : aJ} {K : aR} {n : Nat} {L : aL} {S : List Value} {M : aM} : am_run (c_Nodes_alike s_Nodes_isOf s_Nodes_kindOf s_Nodes_sameContent s_Nodes_alike) k_Nodes_alike J K (n + 1) 79 L S M = ai_getf 0 3 82 (am_run (c_Nodes_alike s_Nodes_isOf s_Nodes_kindOf s_Nodes_sameContent s_Nodes_alike) k_Nodes_alike J K n) K 79 L S M := rfl
set_option maxRecDepth 20000 in
theorem r_Nodes_alike_82 {s_Nodes_isOf : aS} {s_Nodes_kindOf : aS} {s_Nodes_sameContent : aS} {s_Nodes_alike : aS} {J : aJ} {K : aR} {n : Nat} {L : aL} {S : List Value} {M : aM} : am_run (c_Nodes_alike s_Nodes_isOf s_Nodes_kindOf s_Nodes_sameContent s_Nodes_alike) k_Nodes_alike J K (n + 1) 82 L S M = ai_iload 4 84 (am_run (c_Nodes_alike s_Nodes_isOf s_Nodes_kindOf s_Nodes_sameContent s_Nodes_alike) k_Nodes_alike J K n) K 82 L S M := rfl
set_option maxRecDepth 20000 in
theorem r_Nodes_alike_84 {s_Nodes_isOf : aS} {s_Nodes_kindOf : aS} {s_Nodes_sameContent : aS} {s_Nodes_alike : aS} {J : aJ} {K : aR} {n : Nat} {L : aL} {S : List Value} {M : aM} : am_run (c_Nodes_alike s_Nodes_isOf s_Nodes_kindOf s_Nodes_sameContent s_Nodes_alike) k_Nodes_alike J K (n + 1) 84 L S M = ai_iald 85 (am_run (c_Nodes_alike s_Nodes_isOf s_Nodes_kindOf s_Nodes_sameContent s_Nodes_alike) k_Nodes_alike J K n) K 84 L S M := rfl
set_option maxRecDepth 20000 in
theorem r_Nodes_alike_85 {s_Nodes_isOf : aS} {s_Nodes_kindOf : aS} {s_Nodes_sameContent : aS} {s_Nodes_alike : aS} {J : aJ} {K : aR} {n : Nat} {L : aL} {S : List Value} {M : aM} : am_run (c_Nodes_alike s_Nodes_isOf s_Nodes_kindOf s_Nodes_sameContent s_Nodes_alike) k_Nodes_alike J K (n + 1) 85 L S M = ai_aload 0 86 (am_run (c_Nodes_alike s_Nodes_isOf s_Nodes_kindOf s_Nodes_sameContent s_Nodes_alike) k_Nodes_alike J K n) K 85 L S M := rfl
set_option maxRecDepth 20000 in
theorem r_Nodes_alike_86 {s_Nodes_isOf : aS} {s_Nodes_kindOf : aS} {s_Nodes_sameContent : aS} {s_Nodes_alike : aS} {J : aJ} {K : aR} {n : Nat} {L : aL} {S : List Value} {M : aM} : am_run (c_Nodes_alike s_Nodes_isOf s_Nodes_kindOf s_Nodes_sameContent s_Nodes_alike) k_Nodes_alike J K (n + 1) 86 L S M = ai_getf 0 3 89 (am_run (c_Nodes_alike s_Nodes_isOf s_Nodes_kindOf s_Nodes_sameContent s_Nodes_alike) k_Nodes_alike J K n) K 86 L S M := rfl
set_option maxRecDepth 20000 in
theorem r_Nodes_alike_89 {s_Nodes_isOf : aS} {s_Nodes_kindOf : aS} {s_Nodes_sameContent : aS} {s_Nodes_alike : aS} {J : aJ} {K : aR} {n : Nat} {L : aL} {S : List Value} {M : aM} : am_run (c_Nodes_alike s_Nodes_isOf s_Nodes_kindOf s_Nodes_sameContent s_Nodes_alike) k_Nodes_alike J K (n + 1) 89 L S M = ai_iload 5 91 (am_run (c_Nodes_alike s_Nodes_isOf s_Nodes_kindOf s_Nodes_sameContent s_Nodes_alike) k_Nodes_alike J K n) K 89 L S M := rfl
set_option maxRecDepth 20000 in
theorem r_Nodes_alike_91 {s_Nodes_isOf : aS} {s_Nodes_kindOf : aS} {s_Nodes_sameContent : aS} {s_Nodes_alike : aS} {J : aJ} {K : aR} {n : Nat} {L : aL} {S : List Value} {M : aM} : am_run (c_Nodes_alike s_Nodes_isOf s_Nodes_kindOf s_Nodes_sameContent s_Nodes_alike) k_Nodes_alike J K (n + 1) 91 L S M = ai_iald 92 (am_run (c_Nodes_alike s_Nodes_isOf s_Nodes_kindOf s_Nodes_sameContent s_Nodes_alike) k_Nodes_alike J K n) K 91 L S M := rfl
set_option maxRecDepth 20000 in
theorem r_Nodes_alike_92 {s_Nodes_isOf : aS} {s_Nodes_kindOf : aS} {s_Nodes_sameContent : aS} {s_Nodes_alike : aS} {J : aJ} {K : aR} {n : Nat} {L : aL} {S : List Value} {M : aM} : am_run (c_Nodes_alike s_Nodes_isOf s_Nodes_kindOf s_Nodes_sameContent s_Nodes_alike) k_Nodes_alike J K (n + 1) 92 L S M = ai_iload 3 93 (am_run (c_Nodes_alike s_Nodes_isOf s_Nodes_kindOf s_Nodes_sameContent s_Nodes_alike) k_Nodes_alike J K n) K 92 L S M := rfl
set_option maxRecDepth 20000 in
theorem r_Nodes_alike_93 {s_Nodes_isOf : aS} {s_Nodes_kindOf : aS} {s_Nodes_sameContent : aS} {s_Nodes_alike : aS} {J : aJ} {K : aR} {n : Nat} {L : aL} {S : List Value} {M : aM} : am_run (c_Nodes_alike s_Nodes_isOf s_Nodes_kindOf s_Nodes_sameContent s_Nodes_alike) k_Nodes_alike J K (n + 1) 93 L S M = ai_const 1 94 (am_run (c_Nodes_alike s_Nodes_isOf s_Nodes_kindOf s_Nodes_sameContent s_Nodes_alike) k_Nodes_alike J K n) K 93 L S M := rfl
set_option maxRecDepth 20000 in
theorem r_Nodes_alike_94 {s_Nodes_isOf : aS} {s_Nodes_kindOf : aS} {s_Nodes_sameContent : aS} {s_Nodes_alike : aS} {J : aJ} {K : aR} {n : Nat} {L : aL} {S : List Value} {M : aM} : am_run (c_Nodes_alike s_Nodes_isOf s_Nodes_kindOf s_Nodes_sameContent s_Nodes_alike) k_Nodes_alike J K (n + 1) 94 L S M = ai_iadd 95 (am_run (c_Nodes_alike s_Nodes_isOf s_Nodes_kindOf s_Nodes_sameContent s_Nodes_alike) k_Nodes_alike J K n) K 94 L S M := rfl
set_option maxRecDepth 20000 in
theorem r_Nodes_alike_95 {s_Nodes_isOf : aS} {s_Nodes_kindOf : aS} {s_Nodes_sameContent : aS} {s_Nodes_alike : aS} {J : aJ} {K : aR} {n : Nat} {L : aL} {S : List Value} {M : aM} : am_run (c_Nodes_alike s_Nodes_isOf s_Nodes_kindOf s_Nodes_sameContent s_Nodes_alike) k_Nodes_alike J K (n + 1) 95 L S M = ai_callv4 0 s_Nodes_alike 98 (am_run (c_Nodes_alike s_Nodes_isOf s_Nodes_kindOf s_Nodes_sameContent s_Nodes_alike) k_Nodes_alike J K n) K 95 L S M := rfl
set_option maxRecDepth 20000 in
theorem r_Nodes_alike_98 {s_Nodes_isOf : aS} {s_Nodes_kindOf : aS} {s_Nodes_sameContent : aS} {s_Nodes_alike : aS} {J : aJ} {K : aR} {n : Nat} {L : aL} {S : List Value} {M : aM} : am_run (c_Nodes_alike s_Nodes_isOf s_Nodes_kindOf s_Nodes_sameContent s_Nodes_alike) k_Nodes_alike J K (n + 1) 98 L S M = ai_ifne 103 101 (am_run (c_Nodes_alike s_Nodes_isOf s_Nodes_kindOf s_Nodes_sameContent s_Nodes_alike) k_Nodes_alike J K n) K 98 L S M := rfl
set_option maxRecDepth 20000 in
theorem r_Nodes_alike_101 {s_Nodes_isOf : aS} {s_Nodes_kindOf : aS} {s_Nodes_sameContent : aS} {s_Nodes_alike : aS} {J : aJ} {K : aR} {n : Nat} {L : aL} {S : List Value} {M : aM} : am_run (c_Nodes_alike s_Nodes_isOf s_Nodes_kindOf s_Nodes_sameContent s_Nodes_alike) k_Nodes_alike J K (n + 1) 101 L S M = ai_const 0 102 (am_run (c_Nodes_alike s_Nodes_isOf s_Nodes_kindOf s_Nodes_sameContent s_Nodes_alike) k_Nodes_alike J K n) K 101 L S M := rfl
set_option maxRecDepth 20000 in
theorem r_Nodes_alike_102 {s_Nodes_isOf : aS} {s_Nodes_kindOf : aS} {s_Nodes_sameContent : aS} {s_Nodes_alike : aS} {J : aJ} {K : aR} {n : Nat} {L : aL} {S : List Value} {M : aM} : am_run (c_Nodes_alike s_Nodes_isOf s_Nodes_kindOf s_Nodes_sameContent s_Nodes_alike) k_Nodes_alike J K (n + 1) 102 L S M = ai_zret (am_run (c_Nodes_alike s_Nodes_isOf s_Nodes_kindOf s_Nodes_sameContent s_Nodes_alike) k_Nodes_alike J K n) K 102 L S M := rfl
set_option maxRecDepth 20000 in
theorem r_Nodes_alike_103 {s_Nodes_isOf : aS} {s_Nodes_kindOf : aS} {s_Nodes_sameContent : aS} {s_Nodes_alike : aS} {J : aJ} {K : aR} {n : Nat} {L : aL} {S : List Value} {M : aM} : am_run (c_Nodes_alike s_Nodes_isOf s_Nodes_kindOf s_Nodes_sameContent s_Nodes_alike) k_Nodes_alike J K (n + 1) 103 L S M = ai_aload 0 104 (am_run (c_Nodes_alike s_Nodes_isOf s_Nodes_kindOf s_Nodes_sameContent s_Nodes_alike) k_Nodes_alike J K n) K 103 L S M := rfl
set_option maxRecDepth 20000 in
theorem r_Nodes_alike_104 {s_Nodes_isOf : aS} {s_Nodes_kindOf : aS} {s_Nodes_sameContent : aS} {s_Nodes_alike : aS} {J : aJ} {K : aR} {n : Nat} {L : aL} {S : List Value} {M : aM} : am_run (c_Nodes_alike s_Nodes_isOf s_Nodes_kindOf s_Nodes_sameContent s_Nodes_alike) k_Nodes_alike J K (n + 1) 104 L S M = ai_getf 0 4 107 (am_run (c_Nodes_alike s_Nodes_isOf s_Nodes_kindOf s_Nodes_sameContent s_Nodes_alike) k_Nodes_alike J K n) K 104 L S M := rfl
set_option maxRecDepth 20000 in
theorem r_Nodes_alike_107 {s_Nodes_isOf : aS} {s_Nodes_kindOf : aS} {s_Nodes_sameContent : aS} {s_Nodes_alike : aS} {J : aJ} {K : aR} {n : Nat} {L : aL} {S : List Value} {M : aM} : am_run (c_Nodes_alike s_Nodes_isOf s_Nodes_kindOf s_Nodes_sameContent s_Nodes_alike) k_Nodes_alike J K (n + 1) 107 L S M = ai_iload 4 109 (am_run (c_Nodes_alike s_Nodes_isOf s_Nodes_kindOf s_Nodes_sameContent s_Nodes_alike) k_Nodes_alike J K n) K 107 L S M := rfl
set_option maxRecDepth 20000 in
theorem r_Nodes_alike_109 {s_Nodes_isOf : aS} {s_Nodes_kindOf : aS} {s_Nodes_sameContent : aS} {s_Nodes_alike : aS} {J : aJ} {K : aR} {n : Nat} {L : aL} {S : List Value} {M : aM} : am_run (c_Nodes_alike s_Nodes_isOf s_Nodes_kindOf s_Nodes_sameContent s_Nodes_alike) k_Nodes_alike J K (n + 1) 109 L S M = ai_iald 110 (am_run (c_Nodes_alike s_Nodes_isOf s_Nodes_kindOf s_Nodes_sameContent s_Nodes_alike) k_Nodes_alike J K n) K 109 L S M := rfl
set_option maxRecDepth 20000 in
theorem r_Nodes_alike_110 {s_Nodes_isOf : aS} {s_Nodes_kindOf : aS} {s_Nodes_sameContent : aS} {s_Nodes_alike : aS} {J : aJ} {K : aR} {n : Nat} {L : aL} {S : List Value} {M : aM} : am_run (c_Nodes_alike s_Nodes_isOf s_Nodes_kindOf s_Nodes_sameContent s_Nodes_alike) k_Nodes_alike J K (n + 1) 110 L S M = ai_istore 4 112 (am_run (c_Nodes_alike s_Nodes_isOf s_Nodes_kindOf s_Nodes_sameContent s_Nodes_alike) k_Nodes_alike J K n) K 110 L S M := rfl
set_option maxRecDepth 20000 in
theorem r_Nodes_alike_112 {s_Nodes_isOf : aS} {s_Nodes_kindOf : aS} {s_Nodes_sameContent : aS} {s_Nodes_alike : aS} {J : aJ} {K : aR} {n : Nat} {L : aL} {S : List Value} {M : aM} : am_run (c_Nodes_alike s_Nodes_isOf s_Nodes_kindOf s_Nodes_sameContent s_Nodes_alike) k_Nodes_alike J K (n + 1) 112 L S M = ai_aload 0 113 (am_run (c_Nodes_alike s_Nodes_isOf s_Nodes_kindOf s_Nodes_sameContent s_Nodes_alike) k_Nodes_alike J K n) K 112 L S M := rfl
set_option maxRecDepth 20000 in
theorem r_Nodes_alike_113 {s_Nodes_isOf : aS} {s_Nodes_kindOf : aS} {s_Nodes_sameContent : aS} {s_Nodes_alike : aS} {J : aJ} {K : aR} {n : Nat} {L : aL} {S : List Value} {M : aM} : am_run (c_Nodes_alike s_Nodes_isOf s_Nodes_kindOf s_Nodes_sameContent s_Nodes_alike) k_Nodes_alike J K (n + 1) 113 L S M = ai_getf 0 4 116 (am_run (c_Nodes_alike s_Nodes_isOf s_Nodes_kindOf s_Nodes_sameContent s_Nodes_alike) k_Nodes_alike J K n) K 113 L S M := rfl
set_option maxRecDepth 20000 in
theorem r_Nodes_alike_116 {s_Nodes_isOf : aS} {s_Nodes_kindOf : aS} {s_Nodes_sameContent : aS} {s_Nodes_alike : aS} {J : aJ} {K : aR} {n : Nat} {L : aL} {S : List Value} {M : aM} : am_run (c_Nodes_alike s_Nodes_isOf s_Nodes_kindOf s_Nodes_sameContent s_Nodes_alike) k_Nodes_alike J K (n + 1) 116 L S M = ai_iload 5 118 (am_run (c_Nodes_alike s_Nodes_isOf s_Nodes_kindOf s_Nodes_sameContent s_Nodes_alike) k_Nodes_alike J K n) K 116 L S M := rfl
set_option maxRecDepth 20000 in
theorem r_Nodes_alike_118 {s_Nodes_isOf : aS} {s_Nodes_kindOf : aS} {s_Nodes_sameContent : aS} {s_Nodes_alike : aS} {J : aJ} {K : aR} {n : Nat} {L : aL} {S : List Value} {M : aM} : am_run (c_Nodes_alike s_Nodes_isOf s_Nodes_kindOf s_Nodes_sameContent s_Nodes_alike) k_Nodes_alike J K (n + 1) 118 L S M = ai_iald 119 (am_run (c_Nodes_alike s_Nodes_isOf s_Nodes_kindOf s_Nodes_sameContent s_Nodes_alike) k_Nodes_alike J K n) K 118 L S M := rfl
set_option maxRecDepth 20000 in
theorem r_Nodes_alike_119 {s_Nodes_isOf : aS} {s_Nodes_kindOf : aS} {s_Nodes_sameContent : aS} {s_Nodes_alike : aS} {J : aJ} {K : aR} {n : Nat} {L : aL} {S : List Value} {M : aM} : am_run (c_Nodes_alike s_Nodes_isOf s_Nodes_kindOf s_Nodes_sameContent s_Nodes_alike) k_Nodes_alike J K (n + 1) 119 L S M = ai_istore 5 121 (am_run (c_Nodes_alike s_Nodes_isOf s_Nodes_kindOf s_Nodes_sameContent s_Nodes_alike) k_Nodes_alike J K n) K 119 L S M := rfl
set_option maxRecDepth 20000 in
theorem r_Nodes_alike_121 {s_Nodes_isOf : aS} {s_Nodes_kindOf : aS} {s_Nodes_sameContent : aS} {s_Nodes_alike : aS} {J : aJ} {K : aR} {n : Nat} {L : aL} {S : List Value} {M : aM} : am_run (c_Nodes_alike s_Nodes_isOf s_Nodes_kindOf s_Nodes_sameContent s_Nodes_alike) k_Nodes_alike J K (n + 1) 121 L S M = ai_iinc 6 1 124 (am_run (c_Nodes_alike s_Nodes_isOf s_Nodes_kindOf s_Nodes_sameContent s_Nodes_alike) k_Nodes_alike J K n) K 121 L S M := rfl
set_option maxRecDepth 20000 in
theorem r_Nodes_alike_124 {s_Nodes_isOf : aS} {s_Nodes_kindOf : aS} {s_Nodes_sameContent : aS} {s_Nodes_alike : aS} {J : aJ} {K : aR} {n : Nat} {L : aL} {S : List Value} {M : aM} : am_run (c_Nodes_alike s_Nodes_isOf s_Nodes_kindOf s_Nodes_sameContent s_Nodes_alike) k_Nodes_alike J K (n + 1) 124 L S M = ai_goto 17 (am_run (c_Nodes_alike s_Nodes_isOf s_Nodes_kindOf s_Nodes_sameContent s_Nodes_alike) k_Nodes_alike J K n) K 124 L S M := rfl
set_option maxRecDepth 20000 in
theorem r_Nodes_alike_127 {s_Nodes_isOf : aS} {s_Nodes_kindOf : aS} {s_Nodes_sameContent : aS} {s_Nodes_alike : aS} {J : aJ} {K : aR} {n : Nat} {L : aL} {S : List Value} {M : aM} : am_run (c_Nodes_alike s_Nodes_isOf s_Nodes_kindOf s_Nodes_sameContent s_Nodes_alike) k_Nodes_alike J K (n + 1) 127 L S M = ai_const 0 128 (am_run (c_Nodes_alike s_Nodes_isOf s_Nodes_kindOf s_Nodes_sameContent s_Nodes_alike) k_Nodes_alike J K n) K 127 L S M := rfl
set_option maxRecDepth 20000 in
theorem r_Nodes_alike_128 {s_Nodes_isOf : aS} {s_Nodes_kindOf : aS} {s_Nodes_sameContent : aS} {s_Nodes_alike : aS} {J : aJ} {K : aR} {n : Nat} {L : aL} {S : List Value} {M : aM} : am_run (c_Nodes_alike s_Nodes_isOf s_Nodes_kindOf s_Nodes_sameContent s_Nodes_alike) k_Nodes_alike J K (n + 1) 128 L S M = ai_zret (am_run (c_Nodes_alike s_Nodes_isOf s_Nodes_kindOf s_Nodes_sameContent s_Nodes_alike) k_Nodes_alike J K n) K 128 L S M := rfl
def c_Nodes_sameContent (s_Nodes_amountOf : aS) (s_Nodes_isOf : aS) (s_Nodes_byteOf : aS) : List (Nat × aI) := [
  (0, ai_aload 0 1),
  (1, ai_iload 1 2),
  (2, ai_callv2 0 s_Nodes_amountOf 5),
  (5, ai_istore 3 6),
  (6, ai_iload 3 7),
  (7, ai_aload 0 8),
  (8, ai_iload 2 9),
  (9, ai_callv2 0 s_Nodes_amountOf 12),
  (12, ai_cmpeq 17 15),
  (15, ai_const 0 16),
  (16, ai_zret),
  (17, ai_aload 0 18),
  (18, ai_iload 1 19),
  (19, ai_const 1 20),
  (20, ai_callv3 0 s_Nodes_isOf 23),
  (23, ai_ifeq 28 26),
  (26, ai_const 1 27),
  (27, ai_zret),
  (28, ai_const 0 29),
  (29, ai_istore 4 31),
  (31, ai_iload 4 33),
  (33, ai_iload 3 34),
  (34, ai_cmpge 62 37),
  (37, ai_aload 0 38),
  (38, ai_iload 1 39),
  (39, ai_iload 4 41),
  (41, ai_callv3 0 s_Nodes_byteOf 44),
  (44, ai_aload 0 45),
  (45, ai_iload 2 46),
  (46, ai_iload 4 48),
  (48, ai_callv3 0 s_Nodes_byteOf 51),
  (51, ai_cmpeq 56 54),
  (54, ai_const 0 55),
  (55, ai_zret),
  (56, ai_iinc 4 1 59),
  (59, ai_goto 31),
  (62, ai_const 1 63),
  (63, ai_zret)]
set_option maxRecDepth 100000 in
set_option maxHeartbeats 4000000 in
theorem tb_Nodes_sameContent {G : aG} {d : Nat} {s_Nodes_amountOf : aS} {d_Nodes_amountOf : Nat} (h_Nodes_amountOf : am_Sp G Y_Nodes_amountOf d_Nodes_amountOf s_Nodes_amountOf) (l_Nodes_amountOf : d_Nodes_amountOf < d) {s_Nodes_isOf : aS} {d_Nodes_isOf : Nat} (h_Nodes_isOf : am_Sp G Y_Nodes_isOf d_Nodes_isOf s_Nodes_isOf) (l_Nodes_isOf : d_Nodes_isOf < d) {s_Nodes_byteOf : aS} {d_Nodes_byteOf : Nat} (h_Nodes_byteOf : am_Sp G Y_Nodes_byteOf d_Nodes_byteOf s_Nodes_byteOf) (l_Nodes_byteOf : d_Nodes_byteOf < d) : am_tab G Y_Nodes_sameContent d (c_Nodes_sameContent s_Nodes_amountOf s_Nodes_isOf s_Nodes_byteOf) := by
  intro K p e s m args below meth c C
  exact ⟨as_aload_n C (pc := 0) (q := 0) (by decide +kernel) rfl rfl,
    as_iload_n C (pc := 1) (q := 1) (by decide +kernel) rfl rfl,
    as_callv2 C (pc := 2) h_Nodes_amountOf (T := T_Nodes) (N := 10) rfl w_409 w_72 w_408 w_34 w_448 hy_Nodes_amountOf (am_rm_of l_Nodes_amountOf (by decide)) (by decide +kernel) rfl,
    as_istore_n C (pc := 5) (q := 3) (by decide +kernel) rfl (by decide) rfl,
    as_iload_n C (pc := 6) (q := 3) (by decide +kernel) rfl rfl,
    as_aload_n C (pc := 7) (q := 0) (by decide +kernel) rfl rfl,
    as_iload_n C (pc := 8) (q := 2) (by decide +kernel) rfl rfl,
    as_callv2 C (pc := 9) h_Nodes_amountOf (T := T_Nodes) (N := 10) rfl w_409 w_72 w_408 w_34 w_448 hy_Nodes_amountOf (am_rm_of l_Nodes_amountOf (by decide)) (by decide +kernel) rfl,
    as_cmpeq C (pc := 12) (off := 5) (by decide +kernel) (by decide) rfl,
    as_iconst C (pc := 15) (n := 0) (by decide +kernel) (by decide +kernel) rfl,
    as_zret C (pc := 16) rfl (by decide +kernel),
    as_aload_n C (pc := 17) (q := 0) (by decide +kernel) rfl rfl,
    as_iload_n C (pc := 18) (q := 1) (by decide +kernel) rfl rfl,
    as_iconst C (pc := 19) (n := 1) (by decide +kernel) (by decide +kernel) rfl,
    as_callv3 C (pc := 20) h_Nodes_isOf (T := T_Nodes) (N := 10) rfl w_421 w_72 w_420 w_36 w_418 hy_Nodes_isOf (am_rm_of l_Nodes_isOf (by decide)) (by decide +kernel) rfl,
    as_ifeq C (pc := 23) (off := 5) (by decide +kernel) (by decide) rfl,
    as_iconst C (pc := 26) (n := 1) (by decide +kernel) (by decide +kernel) rfl,
    as_zret C (pc := 27) rfl (by decide +kernel),
    as_iconst C (pc := 28) (n := 0) (by decide +kernel) (by decide +kernel) rfl,
    as_istore C (pc := 29) (k := 4) (by decide +kernel) (by decide) rfl,
    as_iload C (pc := 31) (k := 4) (by decide +kernel) rfl,
    as_iload_n C (pc := 33) (q := 3) (by decide +kernel) rfl rfl,
    as_cmpge C (pc := 34) (off := 28) (by decide +kernel) (by decide) rfl,
    as_aload_n C (pc := 37) (q := 0) (by decide +kernel) rfl rfl,
    as_iload_n C (pc := 38) (q := 1) (by decide +kernel) rfl rfl,
    as_iload C (pc := 39) (k := 4) (by decide +kernel) rfl,
    as_callv3 C (pc := 41) h_Nodes_byteOf (T := T_Nodes) (N := 10) rfl w_417 w_72 w_416 w_35 w_449 hy_Nodes_byteOf (am_rm_of l_Nodes_byteOf (by decide)) (by decide +kernel) rfl,
    as_aload_n C (pc := 44) (q := 0) (by decide +kernel) rfl rfl,
    as_iload_n C (pc := 45) (q := 2) (by decide +kernel) rfl rfl,
    as_iload C (pc := 46) (k := 4) (by decide +kernel) rfl,
    as_callv3 C (pc := 48) h_Nodes_byteOf (T := T_Nodes) (N := 10) rfl w_417 w_72 w_416 w_35 w_449 hy_Nodes_byteOf (am_rm_of l_Nodes_byteOf (by decide)) (by decide +kernel) rfl,
    as_cmpeq C (pc := 51) (off := 5) (by decide +kernel) (by decide) rfl,
    as_iconst C (pc := 54) (n := 0) (by decide +kernel) (by decide +kernel) rfl,
    as_zret C (pc := 55) rfl (by decide +kernel),
    as_iinc C (pc := 56) (k := 4) (n := 1) (by decide +kernel) (by decide +kernel) (by decide) rfl,
    as_goto C (pc := 59) (off := (-28)) (by decide +kernel) (by decide),
    as_iconst C (pc := 62) (n := 1) (by decide +kernel) (by decide +kernel) rfl,
    as_zret C (pc := 63) rfl (by decide +kernel), trivial⟩
abbrev k_Nodes_sameContent : List Nat := [31]
theorem q_Nodes_sameContent_31 {s_Nodes_amountOf : aS} {s_Nodes_isOf : aS} {s_Nodes_byteOf : aS} : am_at (c_Nodes_sameContent s_Nodes_amountOf s_Nodes_isOf s_Nodes_byteOf) 31 = ai_iload 4 33 := rfl
theorem r_Nodes_sameContent_0 {s_Nodes_amountOf : aS} {s_Nodes_isOf : aS} {s_Nodes_byteOf : aS} {J : aJ} {K : aR} {n : Nat} {L : aL} {S : List Value} {M : aM} : am_run (c_Nodes_sameContent s_Nodes_amountOf s_Nodes_isOf s_Nodes_byteOf) k_Nodes_sameContent J K (n + 1) 0 L S M = ai_aload 0 1 (am_run (c_Nodes_sameContent s_Nodes_amountOf s_Nodes_isOf s_Nodes_byteOf) k_Nodes_sameContent J K n) K 0 L S M := rfl
theorem r_Nodes_sameContent_1 {s_Nodes_amountOf : aS} {s_Nodes_isOf : aS} {s_Nodes_byteOf : aS} {J : aJ} {K : aR} {n : Nat} {L : aL} {S : List Value} {M : aM} : am_run (c_Nodes_sameContent s_Nodes_amountOf s_Nodes_isOf s_Nodes_byteOf) k_Nodes_sameContent J K (n + 1) 1 L S M = ai_iload 1 2 (am_run (c_Nodes_sameContent s_Nodes_amountOf s_Nodes_isOf s_Nodes_byteOf) k_Nodes_sameContent J K n) K 1 L S M := rfl
theorem r_Nodes_sameContent_2 {s_Nodes_amountOf : aS} {s_Nodes_isOf : aS} {s_Nodes_byteOf : aS} {J : aJ} {K : aR} {n : Nat} {L : aL} {S : List Value} {M : aM} : am_run (c_Nodes_sameContent s_Nodes_amountOf s_Nodes_isOf s_Nodes_byteOf) k_Nodes_sameContent J K (n + 1) 2 L S M = ai_callv2 0 s_Nodes_amountOf 5 (am_run (c_Nodes_sameContent s_Nodes_amountOf s_Nodes_isOf s_Nodes_byteOf) k_Nodes_sameContent J K n) K 2 L S M := rfl
theorem r_Nodes_sameContent_5 {s_Nodes_amountOf : aS} {s_Nodes_isOf : aS} {s_Nodes_byteOf : aS} {J : aJ} {K : aR} {n : Nat} {L : aL} {S : List Value} {M : aM} : am_run (c_Nodes_sameContent s_Nodes_amountOf s_Nodes_isOf s_Nodes_byteOf) k_Nodes_sameContent J K (n + 1) 5 L S M = ai_istore 3 6 (am_run (c_Nodes_sameContent s_Nodes_amountOf s_Nodes_isOf s_Nodes_byteOf) k_Nodes_sameContent J K n) K 5 L S M := rfl
theorem r_Nodes_sameContent_6 {s_Nodes_amountOf : aS} {s_Nodes_isOf : aS} {s_Nodes_byteOf : aS} {J : aJ} {K : aR} {n : Nat} {L : aL} {S : List Value} {M : aM} : am_run (c_Nodes_sameContent s_Nodes_amountOf s_Nodes_isOf s_Nodes_byteOf) k_Nodes_sameContent J K (n + 1) 6 L S M = ai_iload 3 7 (am_run (c_Nodes_sameContent s_Nodes_amountOf s_Nodes_isOf s_Nodes_byteOf) k_Nodes_sameContent J K n) K 6 L S M := rfl
theorem r_Nodes_sameContent_7 {s_Nodes_amountOf : aS} {s_Nodes_isOf : aS} {s_Nodes_byteOf : aS} {J : aJ} {K : aR} {n : Nat} {L : aL} {S : List Value} {M : aM} : am_run (c_Nodes_sameContent s_Nodes_amountOf s_Nodes_isOf s_Nodes_byteOf) k_Nodes_sameContent J K (n + 1) 7 L S M = ai_aload 0 8 (am_run (c_Nodes_sameContent s_Nodes_amountOf s_Nodes_isOf s_Nodes_byteOf) k_Nodes_sameContent J K n) K 7 L S M := rfl
theorem r_Nodes_sameContent_8 {s_Nodes_amountOf : aS} {s_Nodes_isOf : aS} {s_Nodes_byteOf : aS} {J : aJ} {K : aR} {n : Nat} {L : aL} {S : List Value} {M : aM} : am_run (c_Nodes_sameContent s_Nodes_amountOf s_Nodes_isOf s_Nodes_byteOf) k_Nodes_sameContent J K (n + 1) 8 L S M = ai_iload 2 9 (am_run (c_Nodes_sameContent s_Nodes_amountOf s_Nodes_isOf s_Nodes_byteOf) k_Nodes_sameContent J K n) K 8 L S M := rfl
theorem r_Nodes_sameContent_9 {s_Nodes_amountOf : aS} {s_Nodes_isOf : aS} {s_Nodes_byteOf : aS} {J : aJ} {K : aR} {n : Nat} {L : aL} {S : List Value} {M : aM} : am_run (c_Nodes_sameContent s_Nodes_amountOf s_Nodes_isOf s_Nodes_byteOf) k_Nodes_sameContent J K (n + 1) 9 L S M = ai_callv2 0 s_Nodes_amountOf 12 (am_run (c_Nodes_sameContent s_Nodes_amountOf s_Nodes_isOf s_Nodes_byteOf) k_Nodes_sameContent J K n) K 9 L S M := rfl
theorem r_Nodes_sameContent_12 {s_Nodes_amountOf : aS} {s_Nodes_isOf : aS} {s_Nodes_byteOf : aS} {J : aJ} {K : aR} {n : Nat} {L : aL} {S : List Value} {M : aM} : am_run (c_Nodes_sameContent s_Nodes_amountOf s_Nodes_isOf s_Nodes_byteOf) k_Nodes_sameContent J K (n + 1) 12 L S M = ai_cmpeq 17 15 (am_run (c_Nodes_sameContent s_Nodes_amountOf s_Nodes_isOf s_Nodes_byteOf) k_Nodes_sameContent J K n) K 12 L S M := rfl
theorem r_Nodes_sameContent_15 {s_Nodes_amountOf : aS} {s_Nodes_isOf : aS} {s_Nodes_byteOf : aS} {J : aJ} {K : aR} {n : Nat} {L : aL} {S : List Value} {M : aM} : am_run (c_Nodes_sameContent s_Nodes_amountOf s_Nodes_isOf s_Nodes_byteOf) k_Nodes_sameContent J K (n + 1) 15 L S M = ai_const 0 16 (am_run (c_Nodes_sameContent s_Nodes_amountOf s_Nodes_isOf s_Nodes_byteOf) k_Nodes_sameContent J K n) K 15 L S M := rfl
theorem r_Nodes_sameContent_16 {s_Nodes_amountOf : aS} {s_Nodes_isOf : aS} {s_Nodes_byteOf : aS} {J : aJ} {K : aR} {n : Nat} {L : aL} {S : List Value} {M : aM} : am_run (c_Nodes_sameContent s_Nodes_amountOf s_Nodes_isOf s_Nodes_byteOf) k_Nodes_sameContent J K (n + 1) 16 L S M = ai_zret (am_run (c_Nodes_sameContent s_Nodes_amountOf s_Nodes_isOf s_Nodes_byteOf) k_Nodes_sameContent J K n) K 16 L S M := rfl
theorem r_Nodes_sameContent_17 {s_Nodes_amountOf : aS} {s_Nodes_isOf : aS} {s_Nodes_byteOf : aS} {J : aJ} {K : aR} {n : Nat} {L : aL} {S : List Value} {M : aM} : am_run (c_Nodes_sameContent s_Nodes_amountOf s_Nodes_isOf s_Nodes_byteOf) k_Nodes_sameContent J K (n + 1) 17 L S M = ai_aload 0 18 (am_run (c_Nodes_sameContent s_Nodes_amountOf s_Nodes_isOf s_Nodes_byteOf) k_Nodes_sameContent J K n) K 17 L S M := rfl
theorem r_Nodes_sameContent_18 {s_Nodes_amountOf : aS} {s_Nodes_isOf : aS} {s_Nodes_byteOf : aS} {J : aJ} {K : aR} {n : Nat} {L : aL} {S : List Value} {M : aM} : am_run (c_Nodes_sameContent s_Nodes_amountOf s_Nodes_isOf s_Nodes_byteOf) k_Nodes_sameContent J K (n + 1) 18 L S M = ai_iload 1 19 (am_run (c_Nodes_sameContent s_Nodes_amountOf s_Nodes_isOf s_Nodes_byteOf) k_Nodes_sameContent J K n) K 18 L S M := rfl
theorem r_Nodes_sameContent_19 {s_Nodes_amountOf : aS} {s_Nodes_isOf : aS} {s_Nodes_byteOf : aS} {J : aJ} {K : aR} {n : Nat} {L : aL} {S : List Value} {M : aM} : am_run (c_Nodes_sameContent s_Nodes_amountOf s_Nodes_isOf s_Nodes_byteOf) k_Nodes_sameContent J K (n + 1) 19 L S M = ai_const 1 20 (am_run (c_Nodes_sameContent s_Nodes_amountOf s_Nodes_isOf s_Nodes_byteOf) k_Nodes_sameContent J K n) K 19 L S M := rfl
theorem r_Nodes_sameContent_20 {s_Nodes_amountOf : aS} {s_Nodes_isOf : aS} {s_Nodes_byteOf : aS} {J : aJ} {K : aR} {n : Nat} {L : aL} {S : List Value} {M : aM} : am_run (c_Nodes_sameContent s_Nodes_amountOf s_Nodes_isOf s_Nodes_byteOf) k_Nodes_sameContent J K (n + 1) 20 L S M = ai_callv3 0 s_Nodes_isOf 23 (am_run (c_Nodes_sameContent s_Nodes_amountOf s_Nodes_isOf s_Nodes_byteOf) k_Nodes_sameContent J K n) K 20 L S M := rfl
theorem r_Nodes_sameContent_23 {s_Nodes_amountOf : aS} {s_Nodes_isOf : aS} {s_Nodes_byteOf : aS} {J : aJ} {K : aR} {n : Nat} {L : aL} {S : List Value} {M : aM} : am_run (c_Nodes_sameContent s_Nodes_amountOf s_Nodes_isOf s_Nodes_byteOf) k_Nodes_sameContent J K (n + 1) 23 L S M = ai_ifeq 28 26 (am_run (c_Nodes_sameContent s_Nodes_amountOf s_Nodes_isOf s_Nodes_byteOf) k_Nodes_sameContent J K n) K 23 L S M := rfl
theorem r_Nodes_sameContent_26 {s_Nodes_amountOf : aS} {s_Nodes_isOf : aS} {s_Nodes_byteOf : aS} {J : aJ} {K : aR} {n : Nat} {L : aL} {S : List Value} {M : aM} : am_run (c_Nodes_sameContent s_Nodes_amountOf s_Nodes_isOf s_Nodes_byteOf) k_Nodes_sameContent J K (n + 1) 26 L S M = ai_const 1 27 (am_run (c_Nodes_sameContent s_Nodes_amountOf s_Nodes_isOf s_Nodes_byteOf) k_Nodes_sameContent J K n) K 26 L S M := rfl
theorem r_Nodes_sameContent_27 {s_Nodes_amountOf : aS} {s_Nodes_isOf : aS} {s_Nodes_byteOf : aS} {J : aJ} {K : aR} {n : Nat} {L : aL} {S : List Value} {M : aM} : am_run (c_Nodes_sameContent s_Nodes_amountOf s_Nodes_isOf s_Nodes_byteOf) k_Nodes_sameContent J K (n + 1) 27 L S M = ai_zret (am_run (c_Nodes_sameContent s_Nodes_amountOf s_Nodes_isOf s_Nodes_byteOf) k_Nodes_sameContent J K n) K 27 L S M := rfl
theorem r_Nodes_sameContent_28 {s_Nodes_amountOf : aS} {s_Nodes_isOf : aS} {s_Nodes_byteOf : aS} {J : aJ} {K : aR} {n : Nat} {L : aL} {S : List Value} {M : aM} : am_run (c_Nodes_sameContent s_Nodes_amountOf s_Nodes_isOf s_Nodes_byteOf) k_Nodes_sameContent J K (n + 1) 28 L S M = ai_const 0 29 (am_run (c_Nodes_sameContent s_Nodes_amountOf s_Nodes_isOf s_Nodes_byteOf) k_Nodes_sameContent J K n) K 28 L S M := rfl
theorem r_Nodes_sameContent_29 {s_Nodes_amountOf : aS} {s_Nodes_isOf : aS} {s_Nodes_byteOf : aS} {J : aJ} {K : aR} {n : Nat} {L : aL} {S : List Value} {M : aM} : am_run (c_Nodes_sameContent s_Nodes_amountOf s_Nodes_isOf s_Nodes_byteOf) k_Nodes_sameContent J K (n + 1) 29 L S M = ai_istore 4 31 (am_run (c_Nodes_sameContent s_Nodes_amountOf s_Nodes_isOf s_Nodes_byteOf) k_Nodes_sameContent J K n) K 29 L S M := rfl
theorem r_Nodes_sameContent_31 {s_Nodes_amountOf : aS} {s_Nodes_isOf : aS} {s_Nodes_byteOf : aS} {J : aJ} {K : aR} {n : Nat} {L : aL} {S : List Value} {M : aM} : am_run (c_Nodes_sameContent s_Nodes_amountOf s_Nodes_isOf s_Nodes_byteOf) k_Nodes_sameContent J K (n + 1) 31 L S M = J 31 L S M := rfl
theorem r_Nodes_sameContent_33 {s_Nodes_amountOf : aS} {s_Nodes_isOf : aS} {s_Nodes_byteOf : aS} {J : aJ} {K : aR} {n : Nat} {L : aL} {S : List Value} {M : aM} : am_run (c_Nodes_sameContent s_Nodes_amountOf s_Nodes_isOf s_Nodes_byteOf) k_Nodes_sameContent J K (n + 1) 33 L S M = ai_iload 3 34 (am_run (c_Nodes_sameContent s_Nodes_amountOf s_Nodes_isOf s_Nodes_byteOf) k_Nodes_sameContent J K n) K 33 L S M := rfl
theorem r_Nodes_sameContent_34 {s_Nodes_amountOf : aS} {s_Nodes_isOf : aS} {s_Nodes_byteOf : aS} {J : aJ} {K : aR} {n : Nat} {L : aL} {S : List Value} {M : aM} : am_run (c_Nodes_sameContent s_Nodes_amountOf s_Nodes_isOf s_Nodes_byteOf) k_Nodes_sameContent J K (n + 1) 34 L S M = ai_cmpge 62 37 (am_run (c_Nodes_sameContent s_Nodes_amountOf s_Nodes_isOf s_Nodes_byteOf) k_Nodes_sameContent J K n) K 34 L S M := rfl
theorem r_Nodes_sameContent_37 {s_Nodes_amountOf : aS} {s_Nodes_isOf : aS} {s_Nodes_byteOf : aS} {J : aJ} {K : aR} {n : Nat} {L : aL} {S : List Value} {M : aM} : am_run (c_Nodes_sameContent s_Nodes_amountOf s_Nodes_isOf s_Nodes_byteOf) k_Nodes_sameContent J K (n + 1) 37 L S M = ai_aload 0 38 (am_run (c_Nodes_sameContent s_Nodes_amountOf s_Nodes_isOf s_Nodes_byteOf) k_Nodes_sameContent J K n) K 37 L S M := rfl
theorem r_Nodes_sameContent_38 {s_Nodes_amountOf : aS} {s_Nodes_isOf : aS} {s_Nodes_byteOf : aS} {J : aJ} {K : aR} {n : Nat} {L : aL} {S : List Value} {M : aM} : am_run (c_Nodes_sameContent s_Nodes_amountOf s_Nodes_isOf s_Nodes_byteOf) k_Nodes_sameContent J K (n + 1) 38 L S M = ai_iload 1 39 (am_run (c_Nodes_sameContent s_Nodes_amountOf s_Nodes_isOf s_Nodes_byteOf) k_Nodes_sameContent J K n) K 38 L S M := rfl
theorem r_Nodes_sameContent_39 {s_Nodes_amountOf : aS} {s_Nodes_isOf : aS} {s_Nodes_byteOf : aS} {J : aJ} {K : aR} {n : Nat} {L : aL} {S : List Value} {M : aM} : am_run (c_Nodes_sameContent s_Nodes_amountOf s_Nodes_isOf s_Nodes_byteOf) k_Nodes_sameContent J K (n + 1) 39 L S M = ai_iload 4 41 (am_run (c_Nodes_sameContent s_Nodes_amountOf s_Nodes_isOf s_Nodes_byteOf) k_Nodes_sameContent J K n) K 39 L S M := rfl
theorem r_Nodes_sameContent_41 {s_Nodes_amountOf : aS} {s_Nodes_isOf : aS} {s_Nodes_byteOf : aS} {J : aJ} {K : aR} {n : Nat} {L : aL} {S : List Value} {M : aM} : am_run (c_Nodes_sameContent s_Nodes_amountOf s_Nodes_isOf s_Nodes_byteOf) k_Nodes_sameContent J K (n + 1) 41 L S M = ai_callv3 0 s_Nodes_byteOf 44 (am_run (c_Nodes_sameContent s_Nodes_amountOf s_Nodes_isOf s_Nodes_byteOf) k_Nodes_sameContent J K n) K 41 L S M := rfl
theorem r_Nodes_sameContent_44 {s_Nodes_amountOf : aS} {s_Nodes_isOf : aS} {s_Nodes_byteOf : aS} {J : aJ} {K : aR} {n : Nat} {L : aL} {S : List Value} {M : aM} : am_run (c_Nodes_sameContent s_Nodes_amountOf s_Nodes_isOf s_Nodes_byteOf) k_Nodes_sameContent J K (n + 1) 44 L S M = ai_aload 0 45 (am_run (c_Nodes_sameContent s_Nodes_amountOf s_Nodes_isOf s_Nodes_byteOf) k_Nodes_sameContent J K n) K 44 L S M := rfl
theorem r_Nodes_sameContent_45 {s_Nodes_amountOf : aS} {s_Nodes_isOf : aS} {s_Nodes_byteOf : aS} {J : aJ} {K : aR} {n : Nat} {L : aL} {S : List Value} {M : aM} : am_run (c_Nodes_sameContent s_Nodes_amountOf s_Nodes_isOf s_Nodes_byteOf) k_Nodes_sameContent J K (n + 1) 45 L S M = ai_iload 2 46 (am_run (c_Nodes_sameContent s_Nodes_amountOf s_Nodes_isOf s_Nodes_byteOf) k_Nodes_sameContent J K n) K 45 L S M := rfl
theorem r_Nodes_sameContent_46 {s_Nodes_amountOf : aS} {s_Nodes_isOf : aS} {s_Nodes_byteOf : aS} {J : aJ} {K : aR} {n : Nat} {L : aL} {S : List Value} {M : aM} : am_run (c_Nodes_sameContent s_Nodes_amountOf s_Nodes_isOf s_Nodes_byteOf) k_Nodes_sameContent J K (n + 1) 46 L S M = ai_iload 4 48 (am_run (c_Nodes_sameContent s_Nodes_amountOf s_Nodes_isOf s_Nodes_byteOf) k_Nodes_sameContent J K n) K 46 L S M := rfl
theorem r_Nodes_sameContent_48 {s_Nodes_amountOf : aS} {s_Nodes_isOf : aS} {s_Nodes_byteOf : aS} {J : aJ} {K : aR} {n : Nat} {L : aL} {S : List Value} {M : aM} : am_run (c_Nodes_sameContent s_Nodes_amountOf s_Nodes_isOf s_Nodes_byteOf) k_Nodes_sameContent J K (n + 1) 48 L S M = ai_callv3 0 s_Nodes_byteOf 51 (am_run (c_Nodes_sameContent s_Nodes_amountOf s_Nodes_isOf s_Nodes_byteOf) k_Nodes_sameContent J K n) K 48 L S M := rfl
theorem r_Nodes_sameContent_51 {s_Nodes_amountOf : aS} {s_Nodes_isOf : aS} {s_Nodes_byteOf : aS} {J : aJ} {K : aR} {n : Nat} {L : aL} {S : List Value} {M : aM} : am_run (c_Nodes_sameContent s_Nodes_amountOf s_Nodes_isOf s_Nodes_byteOf) k_Nodes_sameContent J K (n + 1) 51 L S M = ai_cmpeq 56 54 (am_run (c_Nodes_sameContent s_Nodes_amountOf s_Nodes_isOf s_Nodes_byteOf) k_Nodes_sameContent J K n) K 51 L S M := rfl
theorem r_Nodes_sameContent_54 {s_Nodes_amountOf : aS} {s_Nodes_isOf : aS} {s_Nodes_byteOf : aS} {J : aJ} {K : aR} {n : Nat} {L : aL} {S : List Value} {M : aM} : am_run (c_Nodes_sameContent s_Nodes_amountOf s_Nodes_isOf s_Nodes_byteOf) k_Nodes_sameContent J K (n + 1) 54 L S M = ai_const 0 55 (am_run (c_Nodes_sameContent s_Nodes_amountOf s_Nodes_isOf s_Nodes_byteOf) k_Nodes_sameContent J K n) K 54 L S M := rfl
theorem r_Nodes_sameContent_55 {s_Nodes_amountOf : aS} {s_Nodes_isOf : aS} {s_Nodes_byteOf : aS} {J : aJ} {K : aR} {n : Nat} {L : aL} {S : List Value} {M : aM} : am_run (c_Nodes_sameContent s_Nodes_amountOf s_Nodes_isOf s_Nodes_byteOf) k_Nodes_sameContent J K (n + 1) 55 L S M = ai_zret (am_run (c_Nodes_sameContent s_Nodes_amountOf s_Nodes_isOf s_Nodes_byteOf) k_Nodes_sameContent J K n) K 55 L S M := rfl
theorem r_Nodes_sameContent_56 {s_Nodes_amountOf : aS} {s_Nodes_isOf : aS} {s_Nodes_byteOf : aS} {J : aJ} {K : aR} {n : Nat} {L : aL} {S : List Value} {M : aM} : am_run (c_Nodes_sameContent s_Nodes_amountOf s_Nodes_isOf s_Nodes_byteOf) k_Nodes_sameContent J K (n + 1) 56 L S M = ai_iinc 4 1 59 (am_run (c_Nodes_sameContent s_Nodes_amountOf s_Nodes_isOf s_Nodes_byteOf) k_Nodes_sameContent J K n) K 56 L S M := rfl
theorem r_Nodes_sameContent_59 {s_Nodes_amountOf : aS} {s_Nodes_isOf : aS} {s_Nodes_byteOf : aS} {J : aJ} {K : aR} {n : Nat} {L : aL} {S : List Value} {M : aM} : am_run (c_Nodes_sameContent s_Nodes_amountOf s_Nodes_isOf s_Nodes_byteOf) k_Nodes_sameContent J K (n + 1) 59 L S M = ai_goto 31 (am_run (c_Nodes_sameContent s_Nodes_amountOf s_Nodes_isOf s_Nodes_byteOf) k_Nodes_sameContent J K n) K 59 L S M := rfl
theorem r_Nodes_sameContent_62 {s_Nodes_amountOf : aS} {s_Nodes_isOf : aS} {s_Nodes_byteOf : aS} {J : aJ} {K : aR} {n : Nat} {L : aL} {S : List Value} {M : aM} : am_run (c_Nodes_sameContent s_Nodes_amountOf s_Nodes_isOf s_Nodes_byteOf) k_Nodes_sameContent J K (n + 1) 62 L S M = ai_const 1 63 (am_run (c_Nodes_sameContent s_Nodes_amountOf s_Nodes_isOf s_Nodes_byteOf) k_Nodes_sameContent J K n) K 62 L S M := rfl
theorem r_Nodes_sameContent_63 {s_Nodes_amountOf : aS} {s_Nodes_isOf : aS} {s_Nodes_byteOf : aS} {J : aJ} {K : aR} {n : Nat} {L : aL} {S : List Value} {M : aM} : am_run (c_Nodes_sameContent s_Nodes_amountOf s_Nodes_isOf s_Nodes_byteOf) k_Nodes_sameContent J K (n + 1) 63 L S M = ai_zret (am_run (c_Nodes_sameContent s_Nodes_amountOf s_Nodes_isOf s_Nodes_byteOf) k_Nodes_sameContent J K n) K 63 L S M := rfl
def c_Nodes_quotedIn (s_Nodes_tailOf : aS) (s_Nodes_headOf : aS) (s_Nodes_isQuoteName : aS) (s_Nodes_isOf : aS) : List (Nat × aI) := [
  (0, ai_aload 0 1),
  (1, ai_iload 1 2),
  (2, ai_callv2 0 s_Nodes_tailOf 5),
  (5, ai_istore 2 6),
  (6, ai_aload 0 7),
  (7, ai_aload 0 8),
  (8, ai_iload 1 9),
  (9, ai_callv2 0 s_Nodes_headOf 12),
  (12, ai_callv2 0 s_Nodes_isQuoteName 15),
  (15, ai_ifeq 31 18),
  (18, ai_aload 0 19),
  (19, ai_aload 0 20),
  (20, ai_iload 2 21),
  (21, ai_callv2 0 s_Nodes_tailOf 24),
  (24, ai_const 5 25),
  (25, ai_callv3 0 s_Nodes_isOf 28),
  (28, ai_ifne 33 31),
  (31, ai_const (-1) 32),
  (32, ai_iret),
  (33, ai_aload 0 34),
  (34, ai_iload 2 35),
  (35, ai_callv2 0 s_Nodes_headOf 38),
  (38, ai_iret)]
set_option maxRecDepth 100000 in
set_option maxHeartbeats 4000000 in
theorem tb_Nodes_quotedIn {G : aG} {d : Nat} {s_Nodes_tailOf : aS} {d_Nodes_tailOf : Nat} (h_Nodes_tailOf : am_Sp G Y_Nodes_tailOf d_Nodes_tailOf s_Nodes_tailOf) (l_Nodes_tailOf : d_Nodes_tailOf < d) {s_Nodes_headOf : aS} {d_Nodes_headOf : Nat} (h_Nodes_headOf : am_Sp G Y_Nodes_headOf d_Nodes_headOf s_Nodes_headOf) (l_Nodes_headOf : d_Nodes_headOf < d) {s_Nodes_isQuoteName : aS} {d_Nodes_isQuoteName : Nat} (h_Nodes_isQuoteName : am_Sp G Y_Nodes_isQuoteName d_Nodes_isQuoteName s_Nodes_isQuoteName) (l_Nodes_isQuoteName : d_Nodes_isQuoteName < d) {s_Nodes_isOf : aS} {d_Nodes_isOf : Nat} (h_Nodes_isOf : am_Sp G Y_Nodes_isOf d_Nodes_isOf s_Nodes_isOf) (l_Nodes_isOf : d_Nodes_isOf < d) : am_tab G Y_Nodes_quotedIn d (c_Nodes_quotedIn s_Nodes_tailOf s_Nodes_headOf s_Nodes_isQuoteName s_Nodes_isOf) := by
  intro K p e s m args below meth c C
  exact ⟨as_aload_n C (pc := 0) (q := 0) (by decide +kernel) rfl rfl,
    as_iload_n C (pc := 1) (q := 1) (by decide +kernel) rfl rfl,
    as_callv2 C (pc := 2) h_Nodes_tailOf (T := T_Nodes) (N := 10) rfl w_433 w_72 w_432 w_38 w_487 hy_Nodes_tailOf (am_rm_of l_Nodes_tailOf (by decide)) (by decide +kernel) rfl,
    as_istore_n C (pc := 5) (q := 2) (by decide +kernel) rfl (by decide) rfl,
    as_aload_n C (pc := 6) (q := 0) (by decide +kernel) rfl rfl,
    as_aload_n C (pc := 7) (q := 0) (by decide +kernel) rfl rfl,
    as_iload_n C (pc := 8) (q := 1) (by decide +kernel) rfl rfl,
    as_callv2 C (pc := 9) h_Nodes_headOf (T := T_Nodes) (N := 10) rfl w_429 w_72 w_428 w_37 w_488 hy_Nodes_headOf (am_rm_of l_Nodes_headOf (by decide)) (by decide +kernel) rfl,
    as_callv2 C (pc := 12) h_Nodes_isQuoteName (T := T_Nodes) (N := 10) rfl w_492 w_72 w_491 w_48 w_489 hy_Nodes_isQuoteName (am_rm_of l_Nodes_isQuoteName (by decide)) (by decide +kernel) rfl,
    as_ifeq C (pc := 15) (off := 16) (by decide +kernel) (by decide) rfl,
    as_aload_n C (pc := 18) (q := 0) (by decide +kernel) rfl rfl,
    as_aload_n C (pc := 19) (q := 0) (by decide +kernel) rfl rfl,
    as_iload_n C (pc := 20) (q := 2) (by decide +kernel) rfl rfl,
    as_callv2 C (pc := 21) h_Nodes_tailOf (T := T_Nodes) (N := 10) rfl w_433 w_72 w_432 w_38 w_487 hy_Nodes_tailOf (am_rm_of l_Nodes_tailOf (by decide)) (by decide +kernel) rfl,
    as_iconst C (pc := 24) (n := 5) (by decide +kernel) (by decide +kernel) rfl,
    as_callv3 C (pc := 25) h_Nodes_isOf (T := T_Nodes) (N := 10) rfl w_421 w_72 w_420 w_36 w_418 hy_Nodes_isOf (am_rm_of l_Nodes_isOf (by decide)) (by decide +kernel) rfl,
    as_ifne C (pc := 28) (off := 5) (by decide +kernel) (by decide) rfl,
    as_iconst C (pc := 31) (n := (-1)) (by decide +kernel) (by decide +kernel) rfl,
    as_iret C (pc := 32) rfl (by decide +kernel),
    as_aload_n C (pc := 33) (q := 0) (by decide +kernel) rfl rfl,
    as_iload_n C (pc := 34) (q := 2) (by decide +kernel) rfl rfl,
    as_callv2 C (pc := 35) h_Nodes_headOf (T := T_Nodes) (N := 10) rfl w_429 w_72 w_428 w_37 w_488 hy_Nodes_headOf (am_rm_of l_Nodes_headOf (by decide)) (by decide +kernel) rfl,
    as_iret C (pc := 38) rfl (by decide +kernel), trivial⟩
abbrev k_Nodes_quotedIn : List Nat := []
theorem r_Nodes_quotedIn_0 {s_Nodes_tailOf : aS} {s_Nodes_headOf : aS} {s_Nodes_isQuoteName : aS} {s_Nodes_isOf : aS} {J : aJ} {K : aR} {n : Nat} {L : aL} {S : List Value} {M : aM} : am_run (c_Nodes_quotedIn s_Nodes_tailOf s_Nodes_headOf s_Nodes_isQuoteName s_Nodes_isOf) k_Nodes_quotedIn J K (n + 1) 0 L S M = ai_aload 0 1 (am_run (c_Nodes_quotedIn s_Nodes_tailOf s_Nodes_headOf s_Nodes_isQuoteName s_Nodes_isOf) k_Nodes_quotedIn J K n) K 0 L S M := rfl
theorem r_Nodes_quotedIn_1 {s_Nodes_tailOf : aS} {s_Nodes_headOf : aS} {s_Nodes_isQuoteName : aS} {s_Nodes_isOf : aS} {J : aJ} {K : aR} {n : Nat} {L : aL} {S : List Value} {M : aM} : am_run (c_Nodes_quotedIn s_Nodes_tailOf s_Nodes_headOf s_Nodes_isQuoteName s_Nodes_isOf) k_Nodes_quotedIn J K (n + 1) 1 L S M = ai_iload 1 2 (am_run (c_Nodes_quotedIn s_Nodes_tailOf s_Nodes_headOf s_Nodes_isQuoteName s_Nodes_isOf) k_Nodes_quotedIn J K n) K 1 L S M := rfl
theorem r_Nodes_quotedIn_2 {s_Nodes_tailOf : aS} {s_Nodes_headOf : aS} {s_Nodes_isQuoteName : aS} {s_Nodes_isOf : aS} {J : aJ} {K : aR} {n : Nat} {L : aL} {S : List Value} {M : aM} : am_run (c_Nodes_quotedIn s_Nodes_tailOf s_Nodes_headOf s_Nodes_isQuoteName s_Nodes_isOf) k_Nodes_quotedIn J K (n + 1) 2 L S M = ai_callv2 0 s_Nodes_tailOf 5 (am_run (c_Nodes_quotedIn s_Nodes_tailOf s_Nodes_headOf s_Nodes_isQuoteName s_Nodes_isOf) k_Nodes_quotedIn J K n) K 2 L S M := rfl
theorem r_Nodes_quotedIn_5 {s_Nodes_tailOf : aS} {s_Nodes_headOf : aS} {s_Nodes_isQuoteName : aS} {s_Nodes_isOf : aS} {J : aJ} {K : aR} {n : Nat} {L : aL} {S : List Value} {M : aM} : am_run (c_Nodes_quotedIn s_Nodes_tailOf s_Nodes_headOf s_Nodes_isQuoteName s_Nodes_isOf) k_Nodes_quotedIn J K (n + 1) 5 L S M = ai_istore 2 6 (am_run (c_Nodes_quotedIn s_Nodes_tailOf s_Nodes_headOf s_Nodes_isQuoteName s_Nodes_isOf) k_Nodes_quotedIn J K n) K 5 L S M := rfl
theorem r_Nodes_quotedIn_6 {s_Nodes_tailOf : aS} {s_Nodes_headOf : aS} {s_Nodes_isQuoteName : aS} {s_Nodes_isOf : aS} {J : aJ} {K : aR} {n : Nat} {L : aL} {S : List Value} {M : aM} : am_run (c_Nodes_quotedIn s_Nodes_tailOf s_Nodes_headOf s_Nodes_isQuoteName s_Nodes_isOf) k_Nodes_quotedIn J K (n + 1) 6 L S M = ai_aload 0 7 (am_run (c_Nodes_quotedIn s_Nodes_tailOf s_Nodes_headOf s_Nodes_isQuoteName s_Nodes_isOf) k_Nodes_quotedIn J K n) K 6 L S M := rfl
theorem r_Nodes_quotedIn_7 {s_Nodes_tailOf : aS} {s_Nodes_headOf : aS} {s_Nodes_isQuoteName : aS} {s_Nodes_isOf : aS} {J : aJ} {K : aR} {n : Nat} {L : aL} {S : List Value} {M : aM} : am_run (c_Nodes_quotedIn s_Nodes_tailOf s_Nodes_headOf s_Nodes_isQuoteName s_Nodes_isOf) k_Nodes_quotedIn J K (n + 1) 7 L S M = ai_aload 0 8 (am_run (c_Nodes_quotedIn s_Nodes_tailOf s_Nodes_headOf s_Nodes_isQuoteName s_Nodes_isOf) k_Nodes_quotedIn J K n) K 7 L S M := rfl
theorem r_Nodes_quotedIn_8 {s_Nodes_tailOf : aS} {s_Nodes_headOf : aS} {s_Nodes_isQuoteName : aS} {s_Nodes_isOf : aS} {J : aJ} {K : aR} {n : Nat} {L : aL} {S : List Value} {M : aM} : am_run (c_Nodes_quotedIn s_Nodes_tailOf s_Nodes_headOf s_Nodes_isQuoteName s_Nodes_isOf) k_Nodes_quotedIn J K (n + 1) 8 L S M = ai_iload 1 9 (am_run (c_Nodes_quotedIn s_Nodes_tailOf s_Nodes_headOf s_Nodes_isQuoteName s_Nodes_isOf) k_Nodes_quotedIn J K n) K 8 L S M := rfl
theorem r_Nodes_quotedIn_9 {s_Nodes_tailOf : aS} {s_Nodes_headOf : aS} {s_Nodes_isQuoteName : aS} {s_Nodes_isOf : aS} {J : aJ} {K : aR} {n : Nat} {L : aL} {S : List Value} {M : aM} : am_run (c_Nodes_quotedIn s_Nodes_tailOf s_Nodes_headOf s_Nodes_isQuoteName s_Nodes_isOf) k_Nodes_quotedIn J K (n + 1) 9 L S M = ai_callv2 0 s_Nodes_headOf 12 (am_run (c_Nodes_quotedIn s_Nodes_tailOf s_Nodes_headOf s_Nodes_isQuoteName s_Nodes_isOf) k_Nodes_quotedIn J K n) K 9 L S M := rfl
theorem r_Nodes_quotedIn_12 {s_Nodes_tailOf : aS} {s_Nodes_headOf : aS} {s_Nodes_isQuoteName : aS} {s_Nodes_isOf : aS} {J : aJ} {K : aR} {n : Nat} {L : aL} {S : List Value} {M : aM} : am_run (c_Nodes_quotedIn s_Nodes_tailOf s_Nodes_headOf s_Nodes_isQuoteName s_Nodes_isOf) k_Nodes_quotedIn J K (n + 1) 12 L S M = ai_callv2 0 s_Nodes_isQuoteName 15 (am_run (c_Nodes_quotedIn s_Nodes_tailOf s_Nodes_headOf s_Nodes_isQuoteName s_Nodes_isOf) k_Nodes_quotedIn J K n) K 12 L S M := rfl
theorem r_Nodes_quotedIn_15 {s_Nodes_tailOf : aS} {s_Nodes_headOf : aS} {s_Nodes_isQuoteName : aS} {s_Nodes_isOf : aS} {J : aJ} {K : aR} {n : Nat} {L : aL} {S : List Value} {M : aM} : am_run (c_Nodes_quotedIn s_Nodes_tailOf s_Nodes_headOf s_Nodes_isQuoteName s_Nodes_isOf) k_Nodes_quotedIn J K (n + 1) 15 L S M = ai_ifeq 31 18 (am_run (c_Nodes_quotedIn s_Nodes_tailOf s_Nodes_headOf s_Nodes_isQuoteName s_Nodes_isOf) k_Nodes_quotedIn J K n) K 15 L S M := rfl
theorem r_Nodes_quotedIn_18 {s_Nodes_tailOf : aS} {s_Nodes_headOf : aS} {s_Nodes_isQuoteName : aS} {s_Nodes_isOf : aS} {J : aJ} {K : aR} {n : Nat} {L : aL} {S : List Value} {M : aM} : am_run (c_Nodes_quotedIn s_Nodes_tailOf s_Nodes_headOf s_Nodes_isQuoteName s_Nodes_isOf) k_Nodes_quotedIn J K (n + 1) 18 L S M = ai_aload 0 19 (am_run (c_Nodes_quotedIn s_Nodes_tailOf s_Nodes_headOf s_Nodes_isQuoteName s_Nodes_isOf) k_Nodes_quotedIn J K n) K 18 L S M := rfl
theorem r_Nodes_quotedIn_19 {s_Nodes_tailOf : aS} {s_Nodes_headOf : aS} {s_Nodes_isQuoteName : aS} {s_Nodes_isOf : aS} {J : aJ} {K : aR} {n : Nat} {L : aL} {S : List Value} {M : aM} : am_run (c_Nodes_quotedIn s_Nodes_tailOf s_Nodes_headOf s_Nodes_isQuoteName s_Nodes_isOf) k_Nodes_quotedIn J K (n + 1) 19 L S M = ai_aload 0 20 (am_run (c_Nodes_quotedIn s_Nodes_tailOf s_Nodes_headOf s_Nodes_isQuoteName s_Nodes_isOf) k_Nodes_quotedIn J K n) K 19 L S M := rfl
theorem r_Nodes_quotedIn_20 {s_Nodes_tailOf : aS} {s_Nodes_headOf : aS} {s_Nodes_isQuoteName : aS} {s_Nodes_isOf : aS} {J : aJ} {K : aR} {n : Nat} {L : aL} {S : List Value} {M : aM} : am_run (c_Nodes_quotedIn s_Nodes_tailOf s_Nodes_headOf s_Nodes_isQuoteName s_Nodes_isOf) k_Nodes_quotedIn J K (n + 1) 20 L S M = ai_iload 2 21 (am_run (c_Nodes_quotedIn s_Nodes_tailOf s_Nodes_headOf s_Nodes_isQuoteName s_Nodes_isOf) k_Nodes_quotedIn J K n) K 20 L S M := rfl
theorem r_Nodes_quotedIn_21 {s_Nodes_tailOf : aS} {s_Nodes_headOf : aS} {s_Nodes_isQuoteName : aS} {s_Nodes_isOf : aS} {J : aJ} {K : aR} {n : Nat} {L : aL} {S : List Value} {M : aM} : am_run (c_Nodes_quotedIn s_Nodes_tailOf s_Nodes_headOf s_Nodes_isQuoteName s_Nodes_isOf) k_Nodes_quotedIn J K (n + 1) 21 L S M = ai_callv2 0 s_Nodes_tailOf 24 (am_run (c_Nodes_quotedIn s_Nodes_tailOf s_Nodes_headOf s_Nodes_isQuoteName s_Nodes_isOf) k_Nodes_quotedIn J K n) K 21 L S M := rfl
theorem r_Nodes_quotedIn_24 {s_Nodes_tailOf : aS} {s_Nodes_headOf : aS} {s_Nodes_isQuoteName : aS} {s_Nodes_isOf : aS} {J : aJ} {K : aR} {n : Nat} {L : aL} {S : List Value} {M : aM} : am_run (c_Nodes_quotedIn s_Nodes_tailOf s_Nodes_headOf s_Nodes_isQuoteName s_Nodes_isOf) k_Nodes_quotedIn J K (n + 1) 24 L S M = ai_const 5 25 (am_run (c_Nodes_quotedIn s_Nodes_tailOf s_Nodes_headOf s_Nodes_isQuoteName s_Nodes_isOf) k_Nodes_quotedIn J K n) K 24 L S M := rfl
theorem r_Nodes_quotedIn_25 {s_Nodes_tailOf : aS} {s_Nodes_headOf : aS} {s_Nodes_isQuoteName : aS} {s_Nodes_isOf : aS} {J : aJ} {K : aR} {n : Nat} {L : aL} {S : List Value} {M : aM} : am_run (c_Nodes_quotedIn s_Nodes_tailOf s_Nodes_headOf s_Nodes_isQuoteName s_Nodes_isOf) k_Nodes_quotedIn J K (n + 1) 25 L S M = ai_callv3 0 s_Nodes_isOf 28 (am_run (c_Nodes_quotedIn s_Nodes_tailOf s_Nodes_headOf s_Nodes_isQuoteName s_Nodes_isOf) k_Nodes_quotedIn J K n) K 25 L S M := rfl
theorem r_Nodes_quotedIn_28 {s_Nodes_tailOf : aS} {s_Nodes_headOf : aS} {s_Nodes_isQuoteName : aS} {s_Nodes_isOf : aS} {J : aJ} {K : aR} {n : Nat} {L : aL} {S : List Value} {M : aM} : am_run (c_Nodes_quotedIn s_Nodes_tailOf s_Nodes_headOf s_Nodes_isQuoteName s_Nodes_isOf) k_Nodes_quotedIn J K (n + 1) 28 L S M = ai_ifne 33 31 (am_run (c_Nodes_quotedIn s_Nodes_tailOf s_Nodes_headOf s_Nodes_isQuoteName s_Nodes_isOf) k_Nodes_quotedIn J K n) K 28 L S M := rfl
theorem r_Nodes_quotedIn_31 {s_Nodes_tailOf : aS} {s_Nodes_headOf : aS} {s_Nodes_isQuoteName : aS} {s_Nodes_isOf : aS} {J : aJ} {K : aR} {n : Nat} {L : aL} {S : List Value} {M : aM} : am_run (c_Nodes_quotedIn s_Nodes_tailOf s_Nodes_headOf s_Nodes_isQuoteName s_Nodes_isOf) k_Nodes_quotedIn J K (n + 1) 31 L S M = ai_const (-1) 32 (am_run (c_Nodes_quotedIn s_Nodes_tailOf s_Nodes_headOf s_Nodes_isQuoteName s_Nodes_isOf) k_Nodes_quotedIn J K n) K 31 L S M := rfl
theorem r_Nodes_quotedIn_32 {s_Nodes_tailOf : aS} {s_Nodes_headOf : aS} {s_Nodes_isQuoteName : aS} {s_Nodes_isOf : aS} {J : aJ} {K : aR} {n : Nat} {L : aL} {S : List Value} {M : aM} : am_run (c_Nodes_quotedIn s_Nodes_tailOf s_Nodes_headOf s_Nodes_isQuoteName s_Nodes_isOf) k_Nodes_quotedIn J K (n + 1) 32 L S M = ai_iret (am_run (c_Nodes_quotedIn s_Nodes_tailOf s_Nodes_headOf s_Nodes_isQuoteName s_Nodes_isOf) k_Nodes_quotedIn J K n) K 32 L S M := rfl
theorem r_Nodes_quotedIn_33 {s_Nodes_tailOf : aS} {s_Nodes_headOf : aS} {s_Nodes_isQuoteName : aS} {s_Nodes_isOf : aS} {J : aJ} {K : aR} {n : Nat} {L : aL} {S : List Value} {M : aM} : am_run (c_Nodes_quotedIn s_Nodes_tailOf s_Nodes_headOf s_Nodes_isQuoteName s_Nodes_isOf) k_Nodes_quotedIn J K (n + 1) 33 L S M = ai_aload 0 34 (am_run (c_Nodes_quotedIn s_Nodes_tailOf s_Nodes_headOf s_Nodes_isQuoteName s_Nodes_isOf) k_Nodes_quotedIn J K n) K 33 L S M := rfl
theorem r_Nodes_quotedIn_34 {s_Nodes_tailOf : aS} {s_Nodes_headOf : aS} {s_Nodes_isQuoteName : aS} {s_Nodes_isOf : aS} {J : aJ} {K : aR} {n : Nat} {L : aL} {S : List Value} {M : aM} : am_run (c_Nodes_quotedIn s_Nodes_tailOf s_Nodes_headOf s_Nodes_isQuoteName s_Nodes_isOf) k_Nodes_quotedIn J K (n + 1) 34 L S M = ai_iload 2 35 (am_run (c_Nodes_quotedIn s_Nodes_tailOf s_Nodes_headOf s_Nodes_isQuoteName s_Nodes_isOf) k_Nodes_quotedIn J K n) K 34 L S M := rfl
theorem r_Nodes_quotedIn_35 {s_Nodes_tailOf : aS} {s_Nodes_headOf : aS} {s_Nodes_isQuoteName : aS} {s_Nodes_isOf : aS} {J : aJ} {K : aR} {n : Nat} {L : aL} {S : List Value} {M : aM} : am_run (c_Nodes_quotedIn s_Nodes_tailOf s_Nodes_headOf s_Nodes_isQuoteName s_Nodes_isOf) k_Nodes_quotedIn J K (n + 1) 35 L S M = ai_callv2 0 s_Nodes_headOf 38 (am_run (c_Nodes_quotedIn s_Nodes_tailOf s_Nodes_headOf s_Nodes_isQuoteName s_Nodes_isOf) k_Nodes_quotedIn J K n) K 35 L S M := rfl
theorem r_Nodes_quotedIn_38 {s_Nodes_tailOf : aS} {s_Nodes_headOf : aS} {s_Nodes_isQuoteName : aS} {s_Nodes_isOf : aS} {J : aJ} {K : aR} {n : Nat} {L : aL} {S : List Value} {M : aM} : am_run (c_Nodes_quotedIn s_Nodes_tailOf s_Nodes_headOf s_Nodes_isQuoteName s_Nodes_isOf) k_Nodes_quotedIn J K (n + 1) 38 L S M = ai_iret (am_run (c_Nodes_quotedIn s_Nodes_tailOf s_Nodes_headOf s_Nodes_isQuoteName s_Nodes_isOf) k_Nodes_quotedIn J K n) K 38 L S M := rfl
def c_Nodes_isQuoteName (s_Nodes_isOf : aS) (s_Nodes_byteOf : aS) : List (Nat × aI) := [
  (0, ai_aload 0 1),
  (1, ai_iload 1 2),
  (2, ai_const 2 3),
  (3, ai_callv3 0 s_Nodes_isOf 6),
  (6, ai_ifeq 22 9),
  (9, ai_aload 0 10),
  (10, ai_getf 0 1 13),
  (13, ai_iload 1 14),
  (14, ai_iald 15),
  (15, ai_gets (.ref 1000) 18),
  (18, ai_xlen 1000 5 19),
  (19, ai_cmpeq 24 22),
  (22, ai_const 0 23),
  (23, ai_zret),
  (24, ai_const 0 25),
  (25, ai_istore 2 26),
  (26, ai_iload 2 27),
  (27, ai_gets (.ref 1000) 30),
  (30, ai_xlen 1000 5 31),
  (31, ai_cmpge 56 34),
  (34, ai_aload 0 35),
  (35, ai_iload 1 36),
  (36, ai_iload 2 37),
  (37, ai_callv3 0 s_Nodes_byteOf 40),
  (40, ai_gets (.ref 1000) 43),
  (43, ai_iload 2 44),
  (44, ai_xald 1000 5 QF 45),
  (45, ai_cmpeq 50 48),
  (48, ai_const 0 49),
  (49, ai_zret),
  (50, ai_iinc 2 1 53),
  (53, ai_goto 26),
  (56, ai_const 1 57),
  (57, ai_zret)]
set_option maxRecDepth 100000 in
set_option maxHeartbeats 4000000 in
theorem tb_Nodes_isQuoteName {G : aG} {d : Nat} {s_Nodes_isOf : aS} {d_Nodes_isOf : Nat} (h_Nodes_isOf : am_Sp G Y_Nodes_isOf d_Nodes_isOf s_Nodes_isOf) (l_Nodes_isOf : d_Nodes_isOf < d) {s_Nodes_byteOf : aS} {d_Nodes_byteOf : Nat} (h_Nodes_byteOf : am_Sp G Y_Nodes_byteOf d_Nodes_byteOf s_Nodes_byteOf) (l_Nodes_byteOf : d_Nodes_byteOf < d) : am_tab G Y_Nodes_isQuoteName d (c_Nodes_isQuoteName s_Nodes_isOf s_Nodes_byteOf) := by
  intro K p e s m args below meth c C
  exact ⟨as_aload_n C (pc := 0) (q := 0) (by decide +kernel) rfl rfl,
    as_iload_n C (pc := 1) (q := 1) (by decide +kernel) rfl rfl,
    as_iconst C (pc := 2) (n := 2) (by decide +kernel) (by decide +kernel) rfl,
    as_callv3 C (pc := 3) h_Nodes_isOf (T := T_Nodes) (N := 10) rfl w_421 w_72 w_420 w_36 w_418 hy_Nodes_isOf (am_rm_of l_Nodes_isOf (by decide)) (by decide +kernel) rfl,
    as_ifeq C (pc := 6) (off := 16) (by decide +kernel) (by decide) rfl,
    as_aload_n C (pc := 9) (q := 0) (by decide +kernel) rfl rfl,
    as_getf C (pc := 10) (T := T_Nodes) (N := 10) rfl in_Nodes (by decide) rfl w_119 (by decide +kernel) rfl,
    as_iload_n C (pc := 13) (q := 1) (by decide +kernel) rfl rfl,
    as_iald C (pc := 14) (by decide +kernel) rfl,
    as_getsN C (pc := 15) (Cn := "DatumDesk") (f := "QUOTE") (d := "[I") List.mem_cons_self w_113 (by decide +kernel) rfl,
    as_xlen C (pc := 18) (hm_1000 G) (by decide +kernel) rfl,
    as_cmpeq C (pc := 19) (off := 5) (by decide +kernel) (by decide) rfl,
    as_iconst C (pc := 22) (n := 0) (by decide +kernel) (by decide +kernel) rfl,
    as_zret C (pc := 23) rfl (by decide +kernel),
    as_iconst C (pc := 24) (n := 0) (by decide +kernel) (by decide +kernel) rfl,
    as_istore_n C (pc := 25) (q := 2) (by decide +kernel) rfl (by decide) rfl,
    as_iload_n C (pc := 26) (q := 2) (by decide +kernel) rfl rfl,
    as_getsN C (pc := 27) (Cn := "DatumDesk") (f := "QUOTE") (d := "[I") List.mem_cons_self w_113 (by decide +kernel) rfl,
    as_xlen C (pc := 30) (hm_1000 G) (by decide +kernel) rfl,
    as_cmpge C (pc := 31) (off := 25) (by decide +kernel) (by decide) rfl,
    as_aload_n C (pc := 34) (q := 0) (by decide +kernel) rfl rfl,
    as_iload_n C (pc := 35) (q := 1) (by decide +kernel) rfl rfl,
    as_iload_n C (pc := 36) (q := 2) (by decide +kernel) rfl rfl,
    as_callv3 C (pc := 37) h_Nodes_byteOf (T := T_Nodes) (N := 10) rfl w_417 w_72 w_416 w_35 w_449 hy_Nodes_byteOf (am_rm_of l_Nodes_byteOf (by decide)) (by decide +kernel) rfl,
    as_getsN C (pc := 40) (Cn := "DatumDesk") (f := "QUOTE") (d := "[I") List.mem_cons_self w_113 (by decide +kernel) rfl,
    as_iload_n C (pc := 43) (q := 2) (by decide +kernel) rfl rfl,
    as_xald C (pc := 44) (hm_1000 G) (by decide +kernel) rfl,
    as_cmpeq C (pc := 45) (off := 5) (by decide +kernel) (by decide) rfl,
    as_iconst C (pc := 48) (n := 0) (by decide +kernel) (by decide +kernel) rfl,
    as_zret C (pc := 49) rfl (by decide +kernel),
    as_iinc C (pc := 50) (k := 2) (n := 1) (by decide +kernel) (by decide +kernel) (by decide) rfl,
    as_goto C (pc := 53) (off := (-27)) (by decide +kernel) (by decide),
    as_iconst C (pc := 56) (n := 1) (by decide +kernel) (by decide +kernel) rfl,
    as_zret C (pc := 57) rfl (by decide +kernel), trivial⟩
abbrev k_Nodes_isQuoteName : List Nat := [26]
theorem q_Nodes_isQuoteName_26 {s_Nodes_isOf : aS} {s_Nodes_byteOf : aS} : am_at (c_Nodes_isQuoteName s_Nodes_isOf s_Nodes_byteOf) 26 = ai_iload 2 27 := rfl
theorem r_Nodes_isQuoteName_0 {s_Nodes_isOf : aS} {s_Nodes_byteOf : aS} {J : aJ} {K : aR} {n : Nat} {L : aL} {S : List Value} {M : aM} : am_run (c_Nodes_isQuoteName s_Nodes_isOf s_Nodes_byteOf) k_Nodes_isQuoteName J K (n + 1) 0 L S M = ai_aload 0 1 (am_run (c_Nodes_isQuoteName s_Nodes_isOf s_Nodes_byteOf) k_Nodes_isQuoteName J K n) K 0 L S M := rfl
theorem r_Nodes_isQuoteName_1 {s_Nodes_isOf : aS} {s_Nodes_byteOf : aS} {J : aJ} {K : aR} {n : Nat} {L : aL} {S : List Value} {M : aM} : am_run (c_Nodes_isQuoteName s_Nodes_isOf s_Nodes_byteOf) k_Nodes_isQuoteName J K (n + 1) 1 L S M = ai_iload 1 2 (am_run (c_Nodes_isQuoteName s_Nodes_isOf s_Nodes_byteOf) k_Nodes_isQuoteName J K n) K 1 L S M := rfl
theorem r_Nodes_isQuoteName_2 {s_Nodes_isOf : aS} {s_Nodes_byteOf : aS} {J : aJ} {K : aR} {n : Nat} {L : aL} {S : List Value} {M : aM} : am_run (c_Nodes_isQuoteName s_Nodes_isOf s_Nodes_byteOf) k_Nodes_isQuoteName J K (n + 1) 2 L S M = ai_const 2 3 (am_run (c_Nodes_isQuoteName s_Nodes_isOf s_Nodes_byteOf) k_Nodes_isQuoteName J K n) K 2 L S M := rfl
theorem r_Nodes_isQuoteName_3 {s_Nodes_isOf : aS} {s_Nodes_byteOf : aS} {J : aJ} {K : aR} {n : Nat} {L : aL} {S : List Value} {M : aM} : am_run (c_Nodes_isQuoteName s_Nodes_isOf s_Nodes_byteOf) k_Nodes_isQuoteName J K (n + 1) 3 L S M = ai_callv3 0 s_Nodes_isOf 6 (am_run (c_Nodes_isQuoteName s_Nodes_isOf s_Nodes_byteOf) k_Nodes_isQuoteName J K n) K 3 L S M := rfl
theorem r_Nodes_isQuoteName_6 {s_Nodes_isOf : aS} {s_Nodes_byteOf : aS} {J : aJ} {K : aR} {n : Nat} {L : aL} {S : List Value} {M : aM} : am_run (c_Nodes_isQuoteName s_Nodes_isOf s_Nodes_byteOf) k_Nodes_isQuoteName J K (n + 1) 6 L S M = ai_ifeq 22 9 (am_run (c_Nodes_isQuoteName s_Nodes_isOf s_Nodes_byteOf) k_Nodes_isQuoteName J K n) K 6 L S M := rfl
theorem r_Nodes_isQuoteName_9 {s_Nodes_isOf : aS} {s_Nodes_byteOf : aS} {J : aJ} {K : aR} {n : Nat} {L : aL} {S : List Value} {M : aM} : am_run (c_Nodes_isQuoteName s_Nodes_isOf s_Nodes_byteOf) k_Nodes_isQuoteName J K (n + 1) 9 L S M = ai_aload 0 10 (am_run (c_Nodes_isQuoteName s_Nodes_isOf s_Nodes_byteOf) k_Nodes_isQuoteName J K n) K 9 L S M := rfl
theorem r_Nodes_isQuoteName_10 {s_Nodes_isOf : aS} {s_Nodes_byteOf : aS} {J : aJ} {K : aR} {n : Nat} {L : aL} {S : List Value} {M : aM} : am_run (c_Nodes_isQuoteName s_Nodes_isOf s_Nodes_byteOf) k_Nodes_isQuoteName J K (n + 1) 10 L S M = ai_getf 0 1 13 (am_run (c_Nodes_isQuoteName s_Nodes_isOf s_Nodes_byteOf) k_Nodes_isQuoteName J K n) K 10 L S M := rfl
theorem r_Nodes_isQuoteName_13 {s_Nodes_isOf : aS} {s_Nodes_byteOf : aS} {J : aJ} {K : aR} {n : Nat} {L : aL} {S : List Value} {M : aM} : am_run (c_Nodes_isQuoteName s_Nodes_isOf s_Nodes_byteOf) k_Nodes_isQuoteName J K (n + 1) 13 L S M = ai_iload 1 14 (am_run (c_Nodes_isQuoteName s_Nodes_isOf s_Nodes_byteOf) k_Nodes_isQuoteName J K n) K 13 L S M := rfl
theorem r_Nodes_isQuoteName_14 {s_Nodes_isOf : aS} {s_Nodes_byteOf : aS} {J : aJ} {K : aR} {n : Nat} {L : aL} {S : List Value} {M : aM} : am_run (c_Nodes_isQuoteName s_Nodes_isOf s_Nodes_byteOf) k_Nodes_isQuoteName J K (n + 1) 14 L S M = ai_iald 15 (am_run (c_Nodes_isQuoteName s_Nodes_isOf s_Nodes_byteOf) k_Nodes_isQuoteName J K n) K 14 L S M := rfl
theorem r_Nodes_isQuoteName_15 {s_Nodes_isOf : aS} {s_Nodes_byteOf : aS} {J : aJ} {K : aR} {n : Nat} {L : aL} {S : List Value} {M : aM} : am_run (c_Nodes_isQuoteName s_Nodes_isOf s_Nodes_byteOf) k_Nodes_isQuoteName J K (n + 1) 15 L S M = ai_gets (.ref 1000) 18 (am_run (c_Nodes_isQuoteName s_Nodes_isOf s_Nodes_byteOf) k_Nodes_isQuoteName J K n) K 15 L S M := rfl
theorem r_Nodes_isQuoteName_18 {s_Nodes_isOf : aS} {s_Nodes_byteOf : aS} {J : aJ} {K : aR} {n : Nat} {L : aL} {S : List Value} {M : aM} : am_run (c_Nodes_isQuoteName s_Nodes_isOf s_Nodes_byteOf) k_Nodes_isQuoteName J K (n + 1) 18 L S M = ai_xlen 1000 5 19 (am_run (c_Nodes_isQuoteName s_Nodes_isOf s_Nodes_byteOf) k_Nodes_isQuoteName J K n) K 18 L S M := rfl
theorem r_Nodes_isQuoteName_19 {s_Nodes_isOf : aS} {s_Nodes_byteOf : aS} {J : aJ} {K : aR} {n : Nat} {L : aL} {S : List Value} {M : aM} : am_run (c_Nodes_isQuoteName s_Nodes_isOf s_Nodes_byteOf) k_Nodes_isQuoteName J K (n + 1) 19 L S M = ai_cmpeq 24 22 (am_run (c_Nodes_isQuoteName s_Nodes_isOf s_Nodes_byteOf) k_Nodes_isQuoteName J K n) K 19 L S M := rfl
theorem r_Nodes_isQuoteName_22 {s_Nodes_isOf : aS} {s_Nodes_byteOf : aS} {J : aJ} {K : aR} {n : Nat} {L : aL} {S : List Value} {M : aM} : am_run (c_Nodes_isQuoteName s_Nodes_isOf s_Nodes_byteOf) k_Nodes_isQuoteName J K (n + 1) 22 L S M = ai_const 0 23 (am_run (c_Nodes_isQuoteName s_Nodes_isOf s_Nodes_byteOf) k_Nodes_isQuoteName J K n) K 22 L S M := rfl
theorem r_Nodes_isQuoteName_23 {s_Nodes_isOf : aS} {s_Nodes_byteOf : aS} {J : aJ} {K : aR} {n : Nat} {L : aL} {S : List Value} {M : aM} : am_run (c_Nodes_isQuoteName s_Nodes_isOf s_Nodes_byteOf) k_Nodes_isQuoteName J K (n + 1) 23 L S M = ai_zret (am_run (c_Nodes_isQuoteName s_Nodes_isOf s_Nodes_byteOf) k_Nodes_isQuoteName J K n) K 23 L S M := rfl
theorem r_Nodes_isQuoteName_24 {s_Nodes_isOf : aS} {s_Nodes_byteOf : aS} {J : aJ} {K : aR} {n : Nat} {L : aL} {S : List Value} {M : aM} : am_run (c_Nodes_isQuoteName s_Nodes_isOf s_Nodes_byteOf) k_Nodes_isQuoteName J K (n + 1) 24 L S M = ai_const 0 25 (am_run (c_Nodes_isQuoteName s_Nodes_isOf s_Nodes_byteOf) k_Nodes_isQuoteName J K n) K 24 L S M := rfl
theorem r_Nodes_isQuoteName_25 {s_Nodes_isOf : aS} {s_Nodes_byteOf : aS} {J : aJ} {K : aR} {n : Nat} {L : aL} {S : List Value} {M : aM} : am_run (c_Nodes_isQuoteName s_Nodes_isOf s_Nodes_byteOf) k_Nodes_isQuoteName J K (n + 1) 25 L S M = ai_istore 2 26 (am_run (c_Nodes_isQuoteName s_Nodes_isOf s_Nodes_byteOf) k_Nodes_isQuoteName J K n) K 25 L S M := rfl
theorem r_Nodes_isQuoteName_26 {s_Nodes_isOf : aS} {s_Nodes_byteOf : aS} {J : aJ} {K : aR} {n : Nat} {L : aL} {S : List Value} {M : aM} : am_run (c_Nodes_isQuoteName s_Nodes_isOf s_Nodes_byteOf) k_Nodes_isQuoteName J K (n + 1) 26 L S M = J 26 L S M := rfl
theorem r_Nodes_isQuoteName_27 {s_Nodes_isOf : aS} {s_Nodes_byteOf : aS} {J : aJ} {K : aR} {n : Nat} {L : aL} {S : List Value} {M : aM} : am_run (c_Nodes_isQuoteName s_Nodes_isOf s_Nodes_byteOf) k_Nodes_isQuoteName J K (n + 1) 27 L S M = ai_gets (.ref 1000) 30 (am_run (c_Nodes_isQuoteName s_Nodes_isOf s_Nodes_byteOf) k_Nodes_isQuoteName J K n) K 27 L S M := rfl
theorem r_Nodes_isQuoteName_30 {s_Nodes_isOf : aS} {s_Nodes_byteOf : aS} {J : aJ} {K : aR} {n : Nat} {L : aL} {S : List Value} {M : aM} : am_run (c_Nodes_isQuoteName s_Nodes_isOf s_Nodes_byteOf) k_Nodes_isQuoteName J K (n + 1) 30 L S M = ai_xlen 1000 5 31 (am_run (c_Nodes_isQuoteName s_Nodes_isOf s_Nodes_byteOf) k_Nodes_isQuoteName J K n) K 30 L S M := rfl
theorem r_Nodes_isQuoteName_31 {s_Nodes_isOf : aS} {s_Nodes_byteOf : aS} {J : aJ} {K : aR} {n : Nat} {L : aL} {S : List Value} {M : aM} : am_run (c_Nodes_isQuoteName s_Nodes_isOf s_Nodes_byteOf) k_Nodes_isQuoteName J K (n + 1) 31 L S M = ai_cmpge 56 34 (am_run (c_Nodes_isQuoteName s_Nodes_isOf s_Nodes_byteOf) k_Nodes_isQuoteName J K n) K 31 L S M := rfl
theorem r_Nodes_isQuoteName_34 {s_Nodes_isOf : aS} {s_Nodes_byteOf : aS} {J : aJ} {K : aR} {n : Nat} {L : aL} {S : List Value} {M : aM} : am_run (c_Nodes_isQuoteName s_Nodes_isOf s_Nodes_byteOf) k_Nodes_isQuoteName J K (n + 1) 34 L S M = ai_aload 0 35 (am_run (c_Nodes_isQuoteName s_Nodes_isOf s_Nodes_byteOf) k_Nodes_isQuoteName J K n) K 34 L S M := rfl
theorem r_Nodes_isQuoteName_35 {s_Nodes_isOf : aS} {s_Nodes_byteOf : aS} {J : aJ} {K : aR} {n : Nat} {L : aL} {S : List Value} {M : aM} : am_run (c_Nodes_isQuoteName s_Nodes_isOf s_Nodes_byteOf) k_Nodes_isQuoteName J K (n + 1) 35 L S M = ai_iload 1 36 (am_run (c_Nodes_isQuoteName s_Nodes_isOf s_Nodes_byteOf) k_Nodes_isQuoteName J K n) K 35 L S M := rfl
theorem r_Nodes_isQuoteName_36 {s_Nodes_isOf : aS} {s_Nodes_byteOf : aS} {J : aJ} {K : aR} {n : Nat} {L : aL} {S : List Value} {M : aM} : am_run (c_Nodes_isQuoteName s_Nodes_isOf s_Nodes_byteOf) k_Nodes_isQuoteName J K (n + 1) 36 L S M = ai_iload 2 37 (am_run (c_Nodes_isQuoteName s_Nodes_isOf s_Nodes_byteOf) k_Nodes_isQuoteName J K n) K 36 L S M := rfl
theorem r_Nodes_isQuoteName_37 {s_Nodes_isOf : aS} {s_Nodes_byteOf : aS} {J : aJ} {K : aR} {n : Nat} {L : aL} {S : List Value} {M : aM} : am_run (c_Nodes_isQuoteName s_Nodes_isOf s_Nodes_byteOf) k_Nodes_isQuoteName J K (n + 1) 37 L S M = ai_callv3 0 s_Nodes_byteOf 40 (am_run (c_Nodes_isQuoteName s_Nodes_isOf s_Nodes_byteOf) k_Nodes_isQuoteName J K n) K 37 L S M := rfl
theorem r_Nodes_isQuoteName_40 {s_Nodes_isOf : aS} {s_Nodes_byteOf : aS} {J : aJ} {K : aR} {n : Nat} {L : aL} {S : List Value} {M : aM} : am_run (c_Nodes_isQuoteName s_Nodes_isOf s_Nodes_byteOf) k_Nodes_isQuoteName J K (n + 1) 40 L S M = ai_gets (.ref 1000) 43 (am_run (c_Nodes_isQuoteName s_Nodes_isOf s_Nodes_byteOf) k_Nodes_isQuoteName J K n) K 40 L S M := rfl
theorem r_Nodes_isQuoteName_43 {s_Nodes_isOf : aS} {s_Nodes_byteOf : aS} {J : aJ} {K : aR} {n : Nat} {L : aL} {S : List Value} {M : aM} : am_run (c_Nodes_isQuoteName s_Nodes_isOf s_Nodes_byteOf) k_Nodes_isQuoteName J K (n + 1) 43 L S M = ai_iload 2 44 (am_run (c_Nodes_isQuoteName s_Nodes_isOf s_Nodes_byteOf) k_Nodes_isQuoteName J K n) K 43 L S M := rfl
theorem r_Nodes_isQuoteName_44 {s_Nodes_isOf : aS} {s_Nodes_byteOf : aS} {J : aJ} {K : aR} {n : Nat} {L : aL} {S : List Value} {M : aM} : am_run (c_Nodes_isQuoteName s_Nodes_isOf s_Nodes_byteOf) k_Nodes_isQuoteName J K (n + 1) 44 L S M = ai_xald 1000 5 QF 45 (am_run (c_Nodes_isQuoteName s_Nodes_isOf s_Nodes_byteOf) k_Nodes_isQuoteName J K n) K 44 L S M := rfl
theorem r_Nodes_isQuoteName_45 {s_Nodes_isOf : aS} {s_Nodes_byteOf : aS} {J : aJ} {K : aR} {n : Nat} {L : aL} {S : List Value} {M : aM} : am_run (c_Nodes_isQuoteName s_Nodes_isOf s_Nodes_byteOf) k_Nodes_isQuoteName J K (n + 1) 45 L S M = ai_cmpeq 50 48 (am_run (c_Nodes_isQuoteName s_Nodes_isOf s_Nodes_byteOf) k_Nodes_isQuoteName J K n) K 45 L S M := rfl
theorem r_Nodes_isQuoteName_48 {s_Nodes_isOf : aS} {s_Nodes_byteOf : aS} {J : aJ} {K : aR} {n : Nat} {L : aL} {S : List Value} {M : aM} : am_run (c_Nodes_isQuoteName s_Nodes_isOf s_Nodes_byteOf) k_Nodes_isQuoteName J K (n + 1) 48 L S M = ai_const 0 49 (am_run (c_Nodes_isQuoteName s_Nodes_isOf s_Nodes_byteOf) k_Nodes_isQuoteName J K n) K 48 L S M := rfl
theorem r_Nodes_isQuoteName_49 {s_Nodes_isOf : aS} {s_Nodes_byteOf : aS} {J : aJ} {K : aR} {n : Nat} {L : aL} {S : List Value} {M : aM} : am_run (c_Nodes_isQuoteName s_Nodes_isOf s_Nodes_byteOf) k_Nodes_isQuoteName J K (n + 1) 49 L S M = ai_zret (am_run (c_Nodes_isQuoteName s_Nodes_isOf s_Nodes_byteOf) k_Nodes_isQuoteName J K n) K 49 L S M := rfl
theorem r_Nodes_isQuoteName_50 {s_Nodes_isOf : aS} {s_Nodes_byteOf : aS} {J : aJ} {K : aR} {n : Nat} {L : aL} {S : List Value} {M : aM} : am_run (c_Nodes_isQuoteName s_Nodes_isOf s_Nodes_byteOf) k_Nodes_isQuoteName J K (n + 1) 50 L S M = ai_iinc 2 1 53 (am_run (c_Nodes_isQuoteName s_Nodes_isOf s_Nodes_byteOf) k_Nodes_isQuoteName J K n) K 50 L S M := rfl
theorem r_Nodes_isQuoteName_53 {s_Nodes_isOf : aS} {s_Nodes_byteOf : aS} {J : aJ} {K : aR} {n : Nat} {L : aL} {S : List Value} {M : aM} : am_run (c_Nodes_isQuoteName s_Nodes_isOf s_Nodes_byteOf) k_Nodes_isQuoteName J K (n + 1) 53 L S M = ai_goto 26 (am_run (c_Nodes_isQuoteName s_Nodes_isOf s_Nodes_byteOf) k_Nodes_isQuoteName J K n) K 53 L S M := rfl
theorem r_Nodes_isQuoteName_56 {s_Nodes_isOf : aS} {s_Nodes_byteOf : aS} {J : aJ} {K : aR} {n : Nat} {L : aL} {S : List Value} {M : aM} : am_run (c_Nodes_isQuoteName s_Nodes_isOf s_Nodes_byteOf) k_Nodes_isQuoteName J K (n + 1) 56 L S M = ai_const 1 57 (am_run (c_Nodes_isQuoteName s_Nodes_isOf s_Nodes_byteOf) k_Nodes_isQuoteName J K n) K 56 L S M := rfl
theorem r_Nodes_isQuoteName_57 {s_Nodes_isOf : aS} {s_Nodes_byteOf : aS} {J : aJ} {K : aR} {n : Nat} {L : aL} {S : List Value} {M : aM} : am_run (c_Nodes_isQuoteName s_Nodes_isOf s_Nodes_byteOf) k_Nodes_isQuoteName J K (n + 1) 57 L S M = ai_zret (am_run (c_Nodes_isQuoteName s_Nodes_isOf s_Nodes_byteOf) k_Nodes_isQuoteName J K n) K 57 L S M := rfl
end
section
def c_Tokens_scan (s_Text_skipBlanks : aS) (s_Text_sortAt : aS) (s_Text_tokenEnd : aS) : List (Nat × aI) := [
  (0, ai_aload 0 1),
  (1, ai_const 0 2),
  (2, ai_putf 3 3 5),
  (5, ai_const 0 6),
  (6, ai_istore 2 7),
  (7, ai_const 0 8),
  (8, ai_istore 3 9),
  (9, ai_iload 3 10),
  (10, ai_const 400 13),
  (13, ai_cmpgt 106 16),
  (16, ai_aload 1 17),
  (17, ai_iload 2 18),
  (18, ai_callv2 2 s_Text_skipBlanks 21),
  (21, ai_istore 4 23),
  (23, ai_aload 1 24),
  (24, ai_iload 4 26),
  (26, ai_callv2 2 s_Text_sortAt 29),
  (29, ai_istore 5 31),
  (31, ai_aload 1 32),
  (32, ai_iload 4 34),
  (34, ai_iload 5 36),
  (36, ai_callv3 2 s_Text_tokenEnd 39),
  (39, ai_istore 6 41),
  (41, ai_aload 0 42),
  (42, ai_getf 3 0 45),
  (45, ai_iload 3 46),
  (46, ai_iload 6 48),
  (48, ai_const (-1) 49),
  (49, ai_cmpne 57 52),
  (52, ai_const 11 54),
  (54, ai_goto 59),
  (57, ai_iload 5 59),
  (59, ai_iast 60),
  (60, ai_aload 0 61),
  (61, ai_getf 3 1 64),
  (64, ai_iload 3 65),
  (65, ai_iload 4 67),
  (67, ai_iast 68),
  (68, ai_aload 0 69),
  (69, ai_getf 3 2 72),
  (72, ai_iload 3 73),
  (73, ai_iload 6 75),
  (75, ai_iast 76),
  (76, ai_aload 0 77),
  (77, ai_iload 3 78),
  (78, ai_const 1 79),
  (79, ai_iadd 80),
  (80, ai_putf 3 3 83),
  (83, ai_iload 6 85),
  (85, ai_const (-1) 86),
  (86, ai_cmpeq 96 89),
  (89, ai_iload 5 91),
  (91, ai_const 10 93),
  (93, ai_cmpne 97 96),
  (96, ai_vret),
  (97, ai_iload 6 99),
  (99, ai_istore 2 100),
  (100, ai_iinc 3 1 103),
  (103, ai_goto 9),
  (106, ai_vret)]
set_option maxRecDepth 100000 in
set_option maxHeartbeats 4000000 in
theorem tb_Tokens_scan {G : aG} {d : Nat} {s_Text_skipBlanks : aS} {d_Text_skipBlanks : Nat} (h_Text_skipBlanks : am_Sp G Y_Text_skipBlanks d_Text_skipBlanks s_Text_skipBlanks) (l_Text_skipBlanks : d_Text_skipBlanks < d) {s_Text_sortAt : aS} {d_Text_sortAt : Nat} (h_Text_sortAt : am_Sp G Y_Text_sortAt d_Text_sortAt s_Text_sortAt) (l_Text_sortAt : d_Text_sortAt < d) {s_Text_tokenEnd : aS} {d_Text_tokenEnd : Nat} (h_Text_tokenEnd : am_Sp G Y_Text_tokenEnd d_Text_tokenEnd s_Text_tokenEnd) (l_Text_tokenEnd : d_Text_tokenEnd < d) : am_tab G Y_Tokens_scan d (c_Tokens_scan s_Text_skipBlanks s_Text_sortAt s_Text_tokenEnd) := by
  intro K p e s m args below meth c C
  exact ⟨as_aload_n C (pc := 0) (q := 0) (by decide +kernel) rfl rfl,
    as_iconst C (pc := 1) (n := 0) (by decide +kernel) (by decide +kernel) rfl,
    as_putf C (pc := 2) t_Tokens (T := T_Tokens) (N := 4) rfl in_Tokens tok_Tokens nm_Tokens (by decide) rfl rfl (by decide +kernel) w_166 (by decide +kernel) rfl,
    as_iconst C (pc := 5) (n := 0) (by decide +kernel) (by decide +kernel) rfl,
    as_istore_n C (pc := 6) (q := 2) (by decide +kernel) rfl (by decide) rfl,
    as_iconst C (pc := 7) (n := 0) (by decide +kernel) (by decide +kernel) rfl,
    as_istore_n C (pc := 8) (q := 3) (by decide +kernel) rfl (by decide) rfl,
    as_iload_n C (pc := 9) (q := 3) (by decide +kernel) rfl rfl,
    as_sipush C (pc := 10) (n := 400) (by decide +kernel) (by decide +kernel) rfl,
    as_cmpgt C (pc := 13) (off := 93) (by decide +kernel) (by decide) rfl,
    as_aload_n C (pc := 16) (q := 1) (by decide +kernel) rfl rfl,
    as_iload_n C (pc := 17) (q := 2) (by decide +kernel) rfl rfl,
    as_callv2N C (pc := 18) h_Text_skipBlanks (T := T_Text) (N := 2) rfl w_266 w_71 w_265 w_4 w_263 hy_Text_skipBlanks (am_rm_of l_Text_skipBlanks (by decide)) (by decide +kernel) rfl,
    as_istore C (pc := 21) (k := 4) (by decide +kernel) (by decide) rfl,
    as_aload_n C (pc := 23) (q := 1) (by decide +kernel) rfl rfl,
    as_iload C (pc := 24) (k := 4) (by decide +kernel) rfl,
    as_callv2N C (pc := 26) h_Text_sortAt (T := T_Text) (N := 2) rfl w_274 w_71 w_273 w_6 w_271 hy_Text_sortAt (am_rm_of l_Text_sortAt (by decide)) (by decide +kernel) rfl,
    as_istore C (pc := 29) (k := 5) (by decide +kernel) (by decide) rfl,
    as_aload_n C (pc := 31) (q := 1) (by decide +kernel) rfl rfl,
    as_iload C (pc := 32) (k := 4) (by decide +kernel) rfl,
    as_iload C (pc := 34) (k := 5) (by decide +kernel) rfl,
    as_callv3N C (pc := 36) h_Text_tokenEnd (T := T_Text) (N := 2) rfl w_284 w_71 w_283 w_7 w_281 hy_Text_tokenEnd (am_rm_of l_Text_tokenEnd (by decide)) (by decide +kernel) rfl,
    as_istore C (pc := 39) (k := 6) (by decide +kernel) (by decide) rfl,
    as_aload_n C (pc := 41) (q := 0) (by decide +kernel) rfl rfl,
    as_getf C (pc := 42) (T := T_Tokens) (N := 4) rfl in_Tokens (by decide) rfl w_163 (by decide +kernel) rfl,
    as_iload_n C (pc := 45) (q := 3) (by decide +kernel) rfl rfl,
    as_iload C (pc := 46) (k := 6) (by decide +kernel) rfl,
    as_iconst C (pc := 48) (n := (-1)) (by decide +kernel) (by decide +kernel) rfl,
    as_cmpne C (pc := 49) (off := 8) (by decide +kernel) (by decide) rfl,
    as_bipush C (pc := 52) (n := 11) (by decide +kernel) (by decide +kernel) rfl,
    as_goto C (pc := 54) (off := 5) (by decide +kernel) (by decide),
    as_iload C (pc := 57) (k := 5) (by decide +kernel) rfl,
    as_iast C (pc := 59) (by decide +kernel) rfl,
    as_aload_n C (pc := 60) (q := 0) (by decide +kernel) rfl rfl,
    as_getf C (pc := 61) (T := T_Tokens) (N := 4) rfl in_Tokens (by decide) rfl w_164 (by decide +kernel) rfl,
    as_iload_n C (pc := 64) (q := 3) (by decide +kernel) rfl rfl,
    as_iload C (pc := 65) (k := 4) (by decide +kernel) rfl,
    as_iast C (pc := 67) (by decide +kernel) rfl,
    as_aload_n C (pc := 68) (q := 0) (by decide +kernel) rfl rfl,
    as_getf C (pc := 69) (T := T_Tokens) (N := 4) rfl in_Tokens (by decide) rfl w_165 (by decide +kernel) rfl,
    as_iload_n C (pc := 72) (q := 3) (by decide +kernel) rfl rfl,
    as_iload C (pc := 73) (k := 6) (by decide +kernel) rfl,
    as_iast C (pc := 75) (by decide +kernel) rfl,
    as_aload_n C (pc := 76) (q := 0) (by decide +kernel) rfl rfl,
    as_iload_n C (pc := 77) (q := 3) (by decide +kernel) rfl rfl,
    as_iconst C (pc := 78) (n := 1) (by decide +kernel) (by decide +kernel) rfl,
    as_iadd C (pc := 79) (by decide +kernel) rfl,
    as_putf C (pc := 80) t_Tokens (T := T_Tokens) (N := 4) rfl in_Tokens tok_Tokens nm_Tokens (by decide) rfl rfl (by decide +kernel) w_166 (by decide +kernel) rfl,
    as_iload C (pc := 83) (k := 6) (by decide +kernel) rfl,
    as_iconst C (pc := 85) (n := (-1)) (by decide +kernel) (by decide +kernel) rfl,
    as_cmpeq C (pc := 86) (off := 10) (by decide +kernel) (by decide) rfl,
    as_iload C (pc := 89) (k := 5) (by decide +kernel) rfl,
    as_bipush C (pc := 91) (n := 10) (by decide +kernel) (by decide +kernel) rfl,
    as_cmpne C (pc := 93) (off := 4) (by decide +kernel) (by decide) rfl,
    as_vret C (pc := 96) rfl (by decide +kernel),
    as_iload C (pc := 97) (k := 6) (by decide +kernel) rfl,
    as_istore_n C (pc := 99) (q := 2) (by decide +kernel) rfl (by decide) rfl,
    as_iinc C (pc := 100) (k := 3) (n := 1) (by decide +kernel) (by decide +kernel) (by decide) rfl,
    as_goto C (pc := 103) (off := (-94)) (by decide +kernel) (by decide),
    as_vret C (pc := 106) rfl (by decide +kernel), trivial⟩
abbrev k_Tokens_scan : List Nat := [9]
set_option maxRecDepth 20000 in
theorem q_Tokens_scan_9 {s_Text_skipBlanks : aS} {s_Text_sortAt : aS} {s_Text_tokenEnd : aS} : am_at (c_Tokens_scan s_Text_skipBlanks s_Text_sortAt s_Text_tokenEnd) 9 = ai_iload 3 10 := rfl
set_option maxRecDepth 20000 in
theorem r_Tokens_scan_0 {s_Text_skipBlanks : aS} {s_Text_sortAt : aS} {s_Text_tokenEnd : aS} {J : aJ} {K : aR} {n : Nat} {L : aL} {S : List Value} {M : aM} : am_run (c_Tokens_scan s_Text_skipBlanks s_Text_sortAt s_Text_tokenEnd) k_Tokens_scan J K (n + 1) 0 L S M = ai_aload 0 1 (am_run (c_Tokens_scan s_Text_skipBlanks s_Text_sortAt s_Text_tokenEnd) k_Tokens_scan J K n) K 0 L S M := rfl
set_option maxRecDepth 20000 in
theorem r_Tokens_scan_1 {s_Text_skipBlanks : aS} {s_Text_sortAt : aS} {s_Text_tokenEnd : aS} {J : aJ} {K : aR} {n : Nat} {L : aL} {S : List Value} {M : aM} : am_run (c_Tokens_scan s_Text_skipBlanks s_Text_sortAt s_Text_tokenEnd) k_Tokens_scan J K (n + 1) 1 L S M = ai_const 0 2 (am_run (c_Tokens_scan s_Text_skipBlanks s_Text_sortAt s_Text_tokenEnd) k_Tokens_scan J K n) K 1 L S M := rfl
set_option maxRecDepth 20000 in
theorem r_Tokens_scan_2 {s_Text_skipBlanks : aS} {s_Text_sortAt : aS} {s_Text_tokenEnd : aS} {J : aJ} {K : aR} {n : Nat} {L : aL} {S : List Value} {M : aM} : am_run (c_Tokens_scan s_Text_skipBlanks s_Text_sortAt s_Text_tokenEnd) k_Tokens_scan J K (n + 1) 2 L S M = ai_putf 3 3 5 (am_run (c_Tokens_scan s_Text_skipBlanks s_Text_sortAt s_Text_tokenEnd) k_Tokens_scan J K n) K 2 L S M := rfl
set_option maxRecDepth 20000 in
theorem r_Tokens_scan_5 {s_Text_skipBlanks : aS} {s_Text_sortAt : aS} {s_Text_tokenEnd : aS} {J : aJ} {K : aR} {n : Nat} {L : aL} {S : List Value} {M : aM} : am_run (c_Tokens_scan s_Text_skipBlanks s_Text_sortAt s_Text_tokenEnd) k_Tokens_scan J K (n + 1) 5 L S M = ai_const 0 6 (am_run (c_Tokens_scan s_Text_skipBlanks s_Text_sortAt s_Text_tokenEnd) k_Tokens_scan J K n) K 5 L S M := rfl
set_option maxRecDepth 20000 in
theorem r_Tokens_scan_6 {s_Text_skipBlanks : aS} {s_Text_sortAt : aS} {s_Text_tokenEnd : aS} {J : aJ} {K : aR} {n : Nat} {L : aL} {S : List Value} {M : aM} : am_run (c_Tokens_scan s_Text_skipBlanks s_Text_sortAt s_Text_tokenEnd) k_Tokens_scan J K (n + 1) 6 L S M = ai_istore 2 7 (am_run (c_Tokens_scan s_Text_skipBlanks s_Text_sortAt s_Text_tokenEnd) k_Tokens_scan J K n) K 6 L S M := rfl
set_option maxRecDepth 20000 in
theorem r_Tokens_scan_7 {s_Text_skipBlanks : aS} {s_Text_sortAt : aS} {s_Text_tokenEnd : aS} {J : aJ} {K : aR} {n : Nat} {L : aL} {S : List Value} {M : aM} : am_run (c_Tokens_scan s_Text_skipBlanks s_Text_sortAt s_Text_tokenEnd) k_Tokens_scan J K (n + 1) 7 L S M = ai_const 0 8 (am_run (c_Tokens_scan s_Text_skipBlanks s_Text_sortAt s_Text_tokenEnd) k_Tokens_scan J K n) K 7 L S M := rfl
set_option maxRecDepth 20000 in
theorem r_Tokens_scan_8 {s_Text_skipBlanks : aS} {s_Text_sortAt : aS} {s_Text_tokenEnd : aS} {J : aJ} {K : aR} {n : Nat} {L : aL} {S : List Value} {M : aM} : am_run (c_Tokens_scan s_Text_skipBlanks s_Text_sortAt s_Text_tokenEnd) k_Tokens_scan J K (n + 1) 8 L S M = ai_istore 3 9 (am_run (c_Tokens_scan s_Text_skipBlanks s_Text_sortAt s_Text_tokenEnd) k_Tokens_scan J K n) K 8 L S M := rfl
set_option maxRecDepth 20000 in
theorem r_Tokens_scan_9 {s_Text_skipBlanks : aS} {s_Text_sortAt : aS} {s_Text_tokenEnd : aS} {J : aJ} {K : aR} {n : Nat} {L : aL} {S : List Value} {M : aM} : am_run (c_Tokens_scan s_Text_skipBlanks s_Text_sortAt s_Text_tokenEnd) k_Tokens_scan J K (n + 1) 9 L S M = J 9 L S M := rfl
set_option maxRecDepth 20000 in
theorem r_Tokens_scan_10 {s_Text_skipBlanks : aS} {s_Text_sortAt : aS} {s_Text_tokenEnd : aS} {J : aJ} {K : aR} {n : Nat} {L : aL} {S : List Value} {M : aM} : am_run (c_Tokens_scan s_Text_skipBlanks s_Text_sortAt s_Text_tokenEnd) k_Tokens_scan J K (n + 1) 10 L S M = ai_const 400 13 (am_run (c_Tokens_scan s_Text_skipBlanks s_Text_sortAt s_Text_tokenEnd) k_Tokens_scan J K n) K 10 L S M := rfl
set_option maxRecDepth 20000 in
theorem r_Tokens_scan_13 {s_Text_skipBlanks : aS} {s_Text_sortAt : aS} {s_Text_tokenEnd : aS} {J : aJ} {K : aR} {n : Nat} {L : aL} {S : List Value} {M : aM} : am_run (c_Tokens_scan s_Text_skipBlanks s_Text_sortAt s_Text_tokenEnd) k_Tokens_scan J K (n + 1) 13 L S M = ai_cmpgt 106 16 (am_run (c_Tokens_scan s_Text_skipBlanks s_Text_sortAt s_Text_tokenEnd) k_Tokens_scan J K n) K 13 L S M := rfl
set_option maxRecDepth 20000 in
theorem r_Tokens_scan_16 {s_Text_skipBlanks : aS} {s_Text_sortAt : aS} {s_Text_tokenEnd : aS} {J : aJ} {K : aR} {n : Nat} {L : aL} {S : List Value} {M : aM} : am_run (c_Tokens_scan s_Text_skipBlanks s_Text_sortAt s_Text_tokenEnd) k_Tokens_scan J K (n + 1) 16 L S M = ai_aload 1 17 (am_run (c_Tokens_scan s_Text_skipBlanks s_Text_sortAt s_Text_tokenEnd) k_Tokens_scan J K n) K 16 L S M := rfl
set_option maxRecDepth 20000 in
theorem r_Tokens_scan_17 {s_Text_skipBlanks : aS} {s_Text_sortAt : aS} {s_Text_tokenEnd : aS} {J : aJ} {K : aR} {n : Nat} {L : aL} {S : List Value} {M : aM} : am_run (c_Tokens_scan s_Text_skipBlanks s_Text_sortAt s_Text_tokenEnd) k_Tokens_scan J K (n + 1) 17 L S M = ai_iload 2 18 (am_run (c_Tokens_scan s_Text_skipBlanks s_Text_sortAt s_Text_tokenEnd) k_Tokens_scan J K n) K 17 L S M := rfl
set_option maxRecDepth 20000 in
theorem r_Tokens_scan_18 {s_Text_skipBlanks : aS} {s_Text_sortAt : aS} {s_Text_tokenEnd : aS} {J : aJ} {K : aR} {n : Nat} {L : aL} {S : List Value} {M : aM} : am_run (c_Tokens_scan s_Text_skipBlanks s_Text_sortAt s_Text_tokenEnd) k_Tokens_scan J K (n + 1) 18 L S M = ai_callv2 2 s_Text_skipBlanks 21 (am_run (c_Tokens_scan s_Text_skipBlanks s_Text_sortAt s_Text_tokenEnd) k_Tokens_scan J K n) K 18 L S M := rfl
set_option maxRecDepth 20000 in
theorem r_Tokens_scan_21 {s_Text_skipBlanks : aS} {s_Text_sortAt : aS} {s_Text_tokenEnd : aS} {J : aJ} {K : aR} {n : Nat} {L : aL} {S : List Value} {M : aM} : am_run (c_Tokens_scan s_Text_skipBlanks s_Text_sortAt s_Text_tokenEnd) k_Tokens_scan J K (n + 1) 21 L S M = ai_istore 4 23 (am_run (c_Tokens_scan s_Text_skipBlanks s_Text_sortAt s_Text_tokenEnd) k_Tokens_scan J K n) K 21 L S M := rfl
set_option maxRecDepth 20000 in
theorem r_Tokens_scan_23 {s_Text_skipBlanks : aS} {s_Text_sortAt : aS} {s_Text_tokenEnd : aS} {J : aJ} {K : aR} {n : Nat} {L : aL} {S : List Value} {M : aM} : am_run (c_Tokens_scan s_Text_skipBlanks s_Text_sortAt s_Text_tokenEnd) k_Tokens_scan J K (n + 1) 23 L S M = ai_aload 1 24 (am_run (c_Tokens_scan s_Text_skipBlanks s_Text_sortAt s_Text_tokenEnd) k_Tokens_scan J K n) K 23 L S M := rfl
set_option maxRecDepth 20000 in
theorem r_Tokens_scan_24 {s_Text_skipBlanks : aS} {s_Text_sortAt : aS} {s_Text_tokenEnd : aS} {J : aJ} {K : aR} {n : Nat} {L : aL} {S : List Value} {M : aM} : am_run (c_Tokens_scan s_Text_skipBlanks s_Text_sortAt s_Text_tokenEnd) k_Tokens_scan J K (n + 1) 24 L S M = ai_iload 4 26 (am_run (c_Tokens_scan s_Text_skipBlanks s_Text_sortAt s_Text_tokenEnd) k_Tokens_scan J K n) K 24 L S M := rfl
set_option maxRecDepth 20000 in
theorem r_Tokens_scan_26 {s_Text_skipBlanks : aS} {s_Text_sortAt : aS} {s_Text_tokenEnd : aS} {J : aJ} {K : aR} {n : Nat} {L : aL} {S : List Value} {M : aM} : am_run (c_Tokens_scan s_Text_skipBlanks s_Text_sortAt s_Text_tokenEnd) k_Tokens_scan J K (n + 1) 26 L S M = ai_callv2 2 s_Text_sortAt 29 (am_run (c_Tokens_scan s_Text_skipBlanks s_Text_sortAt s_Text_tokenEnd) k_Tokens_scan J K n) K 26 L S M := rfl
set_option maxRecDepth 20000 in
theorem r_Tokens_scan_29 {s_Text_skipBlanks : aS} {s_Text_sortAt : aS} {s_Text_tokenEnd : aS} {J : aJ} {K : aR} {n : Nat} {L : aL} {S : List Value} {M : aM} : am_run (c_Tokens_scan s_Text_skipBlanks s_Text_sortAt s_Text_tokenEnd) k_Tokens_scan J K (n + 1) 29 L S M = ai_istore 5 31 (am_run (c_Tokens_scan s_Text_skipBlanks s_Text_sortAt s_Text_tokenEnd) k_Tokens_scan J K n) K 29 L S M := rfl
set_option maxRecDepth 20000 in
theorem r_Tokens_scan_31 {s_Text_skipBlanks : aS} {s_Text_sortAt : aS} {s_Text_tokenEnd : aS} {J : aJ} {K : aR} {n : Nat} {L : aL} {S : List Value} {M : aM} : am_run (c_Tokens_scan s_Text_skipBlanks s_Text_sortAt s_Text_tokenEnd) k_Tokens_scan J K (n + 1) 31 L S M = ai_aload 1 32 (am_run (c_Tokens_scan s_Text_skipBlanks s_Text_sortAt s_Text_tokenEnd) k_Tokens_scan J K n) K 31 L S M := rfl
set_option maxRecDepth 20000 in
theorem r_Tokens_scan_32 {s_Text_skipBlanks : aS} {s_Text_sortAt : aS} {s_Text_tokenEnd : aS} {J : aJ} {K : aR} {n : Nat} {L : aL} {S : List Value} {M : aM} : am_run (c_Tokens_scan s_Text_skipBlanks s_Text_sortAt s_Text_tokenEnd) k_Tokens_scan J K (n + 1) 32 L S M = ai_iload 4 34 (am_run (c_Tokens_scan s_Text_skipBlanks s_Text_sortAt s_Text_tokenEnd) k_Tokens_scan J K n) K 32 L S M := rfl
set_option maxRecDepth 20000 in
theorem r_Tokens_scan_34 {s_Text_skipBlanks : aS} {s_Text_sortAt : aS} {s_Text_tokenEnd : aS} {J : aJ} {K : aR} {n : Nat} {L : aL} {S : List Value} {M : aM} : am_run (c_Tokens_scan s_Text_skipBlanks s_Text_sortAt s_Text_tokenEnd) k_Tokens_scan J K (n + 1) 34 L S M = ai_iload 5 36 (am_run (c_Tokens_scan s_Text_skipBlanks s_Text_sortAt s_Text_tokenEnd) k_Tokens_scan J K n) K 34 L S M := rfl
set_option maxRecDepth 20000 in
theorem r_Tokens_scan_36 {s_Text_skipBlanks : aS} {s_Text_sortAt : aS} {s_Text_tokenEnd : aS} {J : aJ} {K : aR} {n : Nat} {L : aL} {S : List Value} {M : aM} : am_run (c_Tokens_scan s_Text_skipBlanks s_Text_sortAt s_Text_tokenEnd) k_Tokens_scan J K (n + 1) 36 L S M = ai_callv3 2 s_Text_tokenEnd 39 (am_run (c_Tokens_scan s_Text_skipBlanks s_Text_sortAt s_Text_tokenEnd) k_Tokens_scan J K n) K 36 L S M := rfl
set_option maxRecDepth 20000 in
theorem r_Tokens_scan_39 {s_Text_skipBlanks : aS} {s_Text_sortAt : aS} {s_Text_tokenEnd : aS} {J : aJ} {K : aR} {n : Nat} {L : aL} {S : List Value} {M : aM} : am_run (c_Tokens_scan s_Text_skipBlanks s_Text_sortAt s_Text_tokenEnd) k_Tokens_scan J K (n + 1) 39 L S M = ai_istore 6 41 (am_run (c_Tokens_scan s_Text_skipBlanks s_Text_sortAt s_Text_tokenEnd) k_Tokens_scan J K n) K 39 L S M := rfl
set_option maxRecDepth 20000 in
theorem r_Tokens_scan_41 {s_Text_skipBlanks : aS} {s_Text_sortAt : aS} {s_Text_tokenEnd : aS} {J : aJ} {K : aR} {n : Nat} {L : aL} {S : List Value} {M : aM} : am_run (c_Tokens_scan s_Text_skipBlanks s_Text_sortAt s_Text_tokenEnd) k_Tokens_scan J K (n + 1) 41 L S M = ai_aload 0 42 (am_run (c_Tokens_scan s_Text_skipBlanks s_Text_sortAt s_Text_tokenEnd) k_Tokens_scan J K n) K 41 L S M := rfl
set_option maxRecDepth 20000 in
theorem r_Tokens_scan_42 {s_Text_skipBlanks : aS} {s_Text_sortAt : aS} {s_Text_tokenEnd : aS} {J : aJ} {K : aR} {n : Nat} {L : aL} {S : List Value} {M : aM} : am_run (c_Tokens_scan s_Text_skipBlanks s_Text_sortAt s_Text_tokenEnd) k_Tokens_scan J K (n + 1) 42 L S M = ai_getf 3 0 45 (am_run (c_Tokens_scan s_Text_skipBlanks s_Text_sortAt s_Text_tokenEnd) k_Tokens_scan J K n) K 42 L S M := rfl
set_option maxRecDepth 20000 in
theorem r_Tokens_scan_45 {s_Text_skipBlanks : aS} {s_Text_sortAt : aS} {s_Text_tokenEnd : aS} {J : aJ} {K : aR} {n : Nat} {L : aL} {S : List Value} {M : aM} : am_run (c_Tokens_scan s_Text_skipBlanks s_Text_sortAt s_Text_tokenEnd) k_Tokens_scan J K (n + 1) 45 L S M = ai_iload 3 46 (am_run (c_Tokens_scan s_Text_skipBlanks s_Text_sortAt s_Text_tokenEnd) k_Tokens_scan J K n) K 45 L S M := rfl
set_option maxRecDepth 20000 in
theorem r_Tokens_scan_46 {s_Text_skipBlanks : aS} {s_Text_sortAt : aS} {s_Text_tokenEnd : aS} {J : aJ} {K : aR} {n : Nat} {L : aL} {S : List Value} {M : aM} : am_run (c_Tokens_scan s_Text_skipBlanks s_Text_sortAt s_Text_tokenEnd) k_Tokens_scan J K (n + 1) 46 L S M = ai_iload 6 48 (am_run (c_Tokens_scan s_Text_skipBlanks s_Text_sortAt s_Text_tokenEnd) k_Tokens_scan J K n) K 46 L S M := rfl
set_option maxRecDepth 20000 in
theorem r_Tokens_scan_48 {s_Text_skipBlanks : aS} {s_Text_sortAt : aS} {s_Text_tokenEnd : aS} {J : aJ} {K : aR} {n : Nat} {L : aL} {S : List Value} {M : aM} : am_run (c_Tokens_scan s_Text_skipBlanks s_Text_sortAt s_Text_tokenEnd) k_Tokens_scan J K (n + 1) 48 L S M = ai_const (-1) 49 (am_run (c_Tokens_scan s_Text_skipBlanks s_Text_sortAt s_Text_tokenEnd) k_Tokens_scan J K n) K 48 L S M := rfl
set_option maxRecDepth 20000 in
theorem r_Tokens_scan_49 {s_Text_skipBlanks : aS} {s_Text_sortAt : aS} {s_Text_tokenEnd : aS} {J : aJ} {K : aR} {n : Nat} {L : aL} {S : List Value} {M : aM} : am_run (c_Tokens_scan s_Text_skipBlanks s_Text_sortAt s_Text_tokenEnd) k_Tokens_scan J K (n + 1) 49 L S M = ai_cmpne 57 52 (am_run (c_Tokens_scan s_Text_skipBlanks s_Text_sortAt s_Text_tokenEnd) k_Tokens_scan J K n) K 49 L S M := rfl
set_option maxRecDepth 20000 in
theorem r_Tokens_scan_52 {s_Text_skipBlanks : aS} {s_Text_sortAt : aS} {s_Text_tokenEnd : aS} {J : aJ} {K : aR} {n : Nat} {L : aL} {S : List Value} {M : aM} : am_run (c_Tokens_scan s_Text_skipBlanks s_Text_sortAt s_Text_tokenEnd) k_Tokens_scan J K (n + 1) 52 L S M = ai_const 11 54 (am_run (c_Tokens_scan s_Text_skipBlanks s_Text_sortAt s_Text_tokenEnd) k_Tokens_scan J K n) K 52 L S M := rfl
set_option maxRecDepth 20000 in
theorem r_Tokens_scan_54 {s_Text_skipBlanks : aS} {s_Text_sortAt : aS} {s_Text_tokenEnd : aS} {J : aJ} {K : aR} {n : Nat} {L : aL} {S : List Value} {M : aM} : am_run (c_Tokens_scan s_Text_skipBlanks s_Text_sortAt s_Text_tokenEnd) k_Tokens_scan J K (n + 1) 54 L S M = ai_goto 59 (am_run (c_Tokens_scan s_Text_skipBlanks s_Text_sortAt s_Text_tokenEnd) k_Tokens_scan J K n) K 54 L S M := rfl
set_option maxRecDepth 20000 in
theorem r_Tokens_scan_57 {s_Text_skipBlanks : aS} {s_Text_sortAt : aS} {s_Text_tokenEnd : aS} {J : aJ} {K : aR} {n : Nat} {L : aL} {S : List Value} {M : aM} : am_run (c_Tokens_scan s_Text_skipBlanks s_Text_sortAt s_Text_tokenEnd) k_Tokens_scan J K (n + 1) 57 L S M = ai_iload 5 59 (am_run (c_Tokens_scan s_Text_skipBlanks s_Text_sortAt s_Text_tokenEnd) k_Tokens_scan J K n) K 57 L S M := rfl
set_option maxRecDepth 20000 in
theorem r_Tokens_scan_59 {s_Text_skipBlanks : aS} {s_Text_sortAt : aS} {s_Text_tokenEnd : aS} {J : aJ} {K : aR} {n : Nat} {L : aL} {S : List Value} {M : aM} : am_run (c_Tokens_scan s_Text_skipBlanks s_Text_sortAt s_Text_tokenEnd) k_Tokens_scan J K (n + 1) 59 L S M = ai_iast 60 (am_run (c_Tokens_scan s_Text_skipBlanks s_Text_sortAt s_Text_tokenEnd) k_Tokens_scan J K n) K 59 L S M := rfl
set_option maxRecDepth 20000 in
theorem r_Tokens_scan_60 {s_Text_skipBlanks : aS} {s_Text_sortAt : aS} {s_Text_tokenEnd : aS} {J : aJ} {K : aR} {n : Nat} {L : aL} {S : List Value} {M : aM} : am_run (c_Tokens_scan s_Text_skipBlanks s_Text_sortAt s_Text_tokenEnd) k_Tokens_scan J K (n + 1) 60 L S M = ai_aload 0 61 (am_run (c_Tokens_scan s_Text_skipBlanks s_Text_sortAt s_Text_tokenEnd) k_Tokens_scan J K n) K 60 L S M := rfl
set_option maxRecDepth 20000 in
theorem r_Tokens_scan_61 {s_Text_skipBlanks : aS} {s_Text_sortAt : aS} {s_Text_tokenEnd : aS} {J : aJ} {K : aR} {n : Nat} {L : aL} {S : List Value} {M : aM} : am_run (c_Tokens_scan s_Text_skipBlanks s_Text_sortAt s_Text_tokenEnd) k_Tokens_scan J K (n + 1) 61 L S M = ai_getf 3 1 64 (am_run (c_Tokens_scan s_Text_skipBlanks s_Text_sortAt s_Text_tokenEnd) k_Tokens_scan J K n) K 61 L S M := rfl
set_option maxRecDepth 20000 in
theorem r_Tokens_scan_64 {s_Text_skipBlanks : aS} {s_Text_sortAt : aS} {s_Text_tokenEnd : aS} {J : aJ} {K : aR} {n : Nat} {L : aL} {S : List Value} {M : aM} : am_run (c_Tokens_scan s_Text_skipBlanks s_Text_sortAt s_Text_tokenEnd) k_Tokens_scan J K (n + 1) 64 L S M = ai_iload 3 65 (am_run (c_Tokens_scan s_Text_skipBlanks s_Text_sortAt s_Text_tokenEnd) k_Tokens_scan J K n) K 64 L S M := rfl
set_option maxRecDepth 20000 in
theorem r_Tokens_scan_65 {s_Text_skipBlanks : aS} {s_Text_sortAt : aS} {s_Text_tokenEnd : aS} {J : aJ} {K : aR} {n : Nat} {L : aL} {S : List Value} {M : aM} : am_run (c_Tokens_scan s_Text_skipBlanks s_Text_sortAt s_Text_tokenEnd) k_Tokens_scan J K (n + 1) 65 L S M = ai_iload 4 67 (am_run (c_Tokens_scan s_Text_skipBlanks s_Text_sortAt s_Text_tokenEnd) k_Tokens_scan J K n) K 65 L S M := rfl
set_option maxRecDepth 20000 in
theorem r_Tokens_scan_67 {s_Text_skipBlanks : aS} {s_Text_sortAt : aS} {s_Text_tokenEnd : aS} {J : aJ} {K : aR} {n : Nat} {L : aL} {S : List Value} {M : aM} : am_run (c_Tokens_scan s_Text_skipBlanks s_Text_sortAt s_Text_tokenEnd) k_Tokens_scan J K (n + 1) 67 L S M = ai_iast 68 (am_run (c_Tokens_scan s_Text_skipBlanks s_Text_sortAt s_Text_tokenEnd) k_Tokens_scan J K n) K 67 L S M := rfl
set_option maxRecDepth 20000 in
theorem r_Tokens_scan_68 {s_Text_skipBlanks : aS} {s_Text_sortAt : aS} {s_Text_tokenEnd : aS} {J : aJ} {K : aR} {n : Nat} {L : aL} {S : List Value} {M : aM} : am_run (c_Tokens_scan s_Text_skipBlanks s_Text_sortAt s_Text_tokenEnd) k_Tokens_scan J K (n + 1) 68 L S M = ai_aload 0 69 (am_run (c_Tokens_scan s_Text_skipBlanks s_Text_sortAt s_Text_tokenEnd) k_Tokens_scan J K n) K 68 L S M := rfl
set_option maxRecDepth 20000 in
theorem r_Tokens_scan_69 {s_Text_skipBlanks : aS} {s_Text_sortAt : aS} {s_Text_tokenEnd : aS} {J : aJ} {K : aR} {n : Nat} {L : aL} {S : List Value} {M : aM} : am_run (c_Tokens_scan s_Text_skipBlanks s_Text_sortAt s_Text_tokenEnd) k_Tokens_scan J K (n + 1) 69 L S M = ai_getf 3 2 72 (am_run (c_Tokens_scan s_Text_skipBlanks s_Text_sortAt s_Text_tokenEnd) k_Tokens_scan J K n) K 69 L S M := rfl
set_option maxRecDepth 20000 in
theorem r_Tokens_scan_72 {s_Text_skipBlanks : aS} {s_Text_sortAt : aS} {s_Text_tokenEnd : aS} {J : aJ} {K : aR} {n : Nat} {L : aL} {S : List Value} {M : aM} : am_run (c_Tokens_scan s_Text_skipBlanks s_Text_sortAt s_Text_tokenEnd) k_Tokens_scan J K (n + 1) 72 L S M = ai_iload 3 73 (am_run (c_Tokens_scan s_Text_skipBlanks s_Text_sortAt s_Text_tokenEnd) k_Tokens_scan J K n) K 72 L S M := rfl
set_option maxRecDepth 20000 in
theorem r_Tokens_scan_73 {s_Text_skipBlanks : aS} {s_Text_sortAt : aS} {s_Text_tokenEnd : aS} {J : aJ} {K : aR} {n : Nat} {L : aL} {S : List Value} {M : aM} : am_run (c_Tokens_scan s_Text_skipBlanks s_Text_sortAt s_Text_tokenEnd) k_Tokens_scan J K (n + 1) 73 L S M = ai_iload 6 75 (am_run (c_Tokens_scan s_Text_skipBlanks s_Text_sortAt s_Text_tokenEnd) k_Tokens_scan J K n) K 73 L S M := rfl
set_option maxRecDepth 20000 in
theorem r_Tokens_scan_75 {s_Text_skipBlanks : aS} {s_Text_sortAt : aS} {s_Text_tokenEnd : aS} {J : aJ} {K : aR} {n : Nat} {L : aL} {S : List Value} {M : aM} : am_run (c_Tokens_scan s_Text_skipBlanks s_Text_sortAt s_Text_tokenEnd) k_Tokens_scan J K (n + 1) 75 L S M = ai_iast 76 (am_run (c_Tokens_scan s_Text_skipBlanks s_Text_sortAt s_Text_tokenEnd) k_Tokens_scan J K n) K 75 L S M := rfl
set_option maxRecDepth 20000 in
theorem r_Tokens_scan_76 {s_Text_skipBlanks : aS} {s_Text_sortAt : aS} {s_Text_tokenEnd : aS} {J : aJ} {K : aR} {n : Nat} {L : aL} {S : List Value} {M : aM} : am_run (c_Tokens_scan s_Text_skipBlanks s_Text_sortAt s_Text_tokenEnd) k_Tokens_scan J K (n + 1) 76 L S M = ai_aload 0 77 (am_run (c_Tokens_scan s_Text_skipBlanks s_Text_sortAt s_Text_tokenEnd) k_Tokens_scan J K n) K 76 L S M := rfl
set_option maxRecDepth 20000 in
theorem r_Tokens_scan_77 {s_Text_skipBlanks : aS} {s_Text_sortAt : aS} {s_Text_tokenEnd : aS} {J : aJ} {K : aR} {n : Nat} {L : aL} {S : List Value} {M : aM} : am_run (c_Tokens_scan s_Text_skipBlanks s_Text_sortAt s_Text_tokenEnd) k_Tokens_scan J K (n + 1) 77 L S M = ai_iload 3 78 (am_run (c_Tokens_scan s_Text_skipBlanks s_Text_sortAt s_Text_tokenEnd) k_Tokens_scan J K n) K 77 L S M := rfl
set_option maxRecDepth 20000 in
theorem r_Tokens_scan_78 {s_Text_skipBlanks : aS} {s_Text_sortAt : aS} {s_Text_tokenEnd : aS} {J : aJ} {K : aR} {n : Nat} {L : aL} {S : List Value} {M : aM} : am_run (c_Tokens_scan s_Text_skipBlanks s_Text_sortAt s_Text_tokenEnd) k_Tokens_scan J K (n + 1) 78 L S M = ai_const 1 79 (am_run (c_Tokens_scan s_Text_skipBlanks s_Text_sortAt s_Text_tokenEnd) k_Tokens_scan J K n) K 78 L S M := rfl
set_option maxRecDepth 20000 in
theorem r_Tokens_scan_79 {s_Text_skipBlanks : aS} {s_Text_sortAt : aS} {s_Text_tokenEnd : aS} {J : aJ} {K : aR} {n : Nat} {L : aL} {S : List Value} {M : aM} : am_run (c_Tokens_scan s_Text_skipBlanks s_Text_sortAt s_Text_tokenEnd) k_Tokens_scan J K (n + 1) 79 L S M = ai_iadd 80 (am_run (c_Tokens_scan s_Text_skipBlanks s_Text_sortAt s_Text_tokenEnd) k_Tokens_scan J K n) K 79 L S M := rfl
set_option maxRecDepth 20000 in
theorem r_Tokens_scan_80 {s_Text_skipBlanks : aS} {s_Text_sortAt : aS} {s_Text_tokenEnd : aS} {J : aJ} {K : aR} {n : Nat} {L : aL} {S : List Value} {M : aM} : am_run (c_Tokens_scan s_Text_skipBlanks s_Text_sortAt s_Text_tokenEnd) k_Tokens_scan J K (n + 1) 80 L S M = ai_putf 3 3 83 (am_run (c_Tokens_scan s_Text_skipBlanks s_Text_sortAt s_Text_tokenEnd) k_Tokens_scan J K n) K 80 L S M := rfl
set_option maxRecDepth 20000 in
theorem r_Tokens_scan_83 {s_Text_skipBlanks : aS} {s_Text_sortAt : aS} {s_Text_tokenEnd : aS} {J : aJ} {K : aR} {n : Nat} {L : aL} {S : List Value} {M : aM} : am_run (c_Tokens_scan s_Text_skipBlanks s_Text_sortAt s_Text_tokenEnd) k_Tokens_scan J K (n + 1) 83 L S M = ai_iload 6 85 (am_run (c_Tokens_scan s_Text_skipBlanks s_Text_sortAt s_Text_tokenEnd) k_Tokens_scan J K n) K 83 L S M := rfl
set_option maxRecDepth 20000 in
theorem r_Tokens_scan_85 {s_Text_skipBlanks : aS} {s_Text_sortAt : aS} {s_Text_tokenEnd : aS} {J : aJ} {K : aR} {n : Nat} {L : aL} {S : List Value} {M : aM} : am_run (c_Tokens_scan s_Text_skipBlanks s_Text_sortAt s_Text_tokenEnd) k_Tokens_scan J K (n + 1) 85 L S M = ai_const (-1) 86 (am_run (c_Tokens_scan s_Text_skipBlanks s_Text_sortAt s_Text_tokenEnd) k_Tokens_scan J K n) K 85 L S M := rfl
set_option maxRecDepth 20000 in
theorem r_Tokens_scan_86 {s_Text_skipBlanks : aS} {s_Text_sortAt : aS} {s_Text_tokenEnd : aS} {J : aJ} {K : aR} {n : Nat} {L : aL} {S : List Value} {M : aM} : am_run (c_Tokens_scan s_Text_skipBlanks s_Text_sortAt s_Text_tokenEnd) k_Tokens_scan J K (n + 1) 86 L S M = ai_cmpeq 96 89 (am_run (c_Tokens_scan s_Text_skipBlanks s_Text_sortAt s_Text_tokenEnd) k_Tokens_scan J K n) K 86 L S M := rfl
set_option maxRecDepth 20000 in
theorem r_Tokens_scan_89 {s_Text_skipBlanks : aS} {s_Text_sortAt : aS} {s_Text_tokenEnd : aS} {J : aJ} {K : aR} {n : Nat} {L : aL} {S : List Value} {M : aM} : am_run (c_Tokens_scan s_Text_skipBlanks s_Text_sortAt s_Text_tokenEnd) k_Tokens_scan J K (n + 1) 89 L S M = ai_iload 5 91 (am_run (c_Tokens_scan s_Text_skipBlanks s_Text_sortAt s_Text_tokenEnd) k_Tokens_scan J K n) K 89 L S M := rfl
set_option maxRecDepth 20000 in
theorem r_Tokens_scan_91 {s_Text_skipBlanks : aS} {s_Text_sortAt : aS} {s_Text_tokenEnd : aS} {J : aJ} {K : aR} {n : Nat} {L : aL} {S : List Value} {M : aM} : am_run (c_Tokens_scan s_Text_skipBlanks s_Text_sortAt s_Text_tokenEnd) k_Tokens_scan J K (n + 1) 91 L S M = ai_const 10 93 (am_run (c_Tokens_scan s_Text_skipBlanks s_Text_sortAt s_Text_tokenEnd) k_Tokens_scan J K n) K 91 L S M := rfl
set_option maxRecDepth 20000 in
theorem r_Tokens_scan_93 {s_Text_skipBlanks : aS} {s_Text_sortAt : aS} {s_Text_tokenEnd : aS} {J : aJ} {K : aR} {n : Nat} {L : aL} {S : List Value} {M : aM} : am_run (c_Tokens_scan s_Text_skipBlanks s_Text_sortAt s_Text_tokenEnd) k_Tokens_scan J K (n + 1) 93 L S M = ai_cmpne 97 96 (am_run (c_Tokens_scan s_Text_skipBlanks s_Text_sortAt s_Text_tokenEnd) k_Tokens_scan J K n) K 93 L S M := rfl
set_option maxRecDepth 20000 in
theorem r_Tokens_scan_96 {s_Text_skipBlanks : aS} {s_Text_sortAt : aS} {s_Text_tokenEnd : aS} {J : aJ} {K : aR} {n : Nat} {L : aL} {S : List Value} {M : aM} : am_run (c_Tokens_scan s_Text_skipBlanks s_Text_sortAt s_Text_tokenEnd) k_Tokens_scan J K (n + 1) 96 L S M = ai_vret (am_run (c_Tokens_scan s_Text_skipBlanks s_Text_sortAt s_Text_tokenEnd) k_Tokens_scan J K n) K 96 L S M := rfl
set_option maxRecDepth 20000 in
theorem r_Tokens_scan_97 {s_Text_skipBlanks : aS} {s_Text_sortAt : aS} {s_Text_tokenEnd : aS} {J : aJ} {K : aR} {n : Nat} {L : aL} {S : List Value} {M : aM} : am_run (c_Tokens_scan s_Text_skipBlanks s_Text_sortAt s_Text_tokenEnd) k_Tokens_scan J K (n + 1) 97 L S M = ai_iload 6 99 (am_run (c_Tokens_scan s_Text_skipBlanks s_Text_sortAt s_Text_tokenEnd) k_Tokens_scan J K n) K 97 L S M := rfl
set_option maxRecDepth 20000 in
theorem r_Tokens_scan_99 {s_Text_skipBlanks : aS} {s_Text_sortAt : aS} {s_Text_tokenEnd : aS} {J : aJ} {K : aR} {n : Nat} {L : aL} {S : List Value} {M : aM} : am_run (c_Tokens_scan s_Text_skipBlanks s_Text_sortAt s_Text_tokenEnd) k_Tokens_scan J K (n + 1) 99 L S M = ai_istore 2 100 (am_run (c_Tokens_scan s_Text_skipBlanks s_Text_sortAt s_Text_tokenEnd) k_Tokens_scan J K n) K 99 L S M := rfl
set_option maxRecDepth 20000 in
theorem r_Tokens_scan_100 {s_Text_skipBlanks : aS} {s_Text_sortAt : aS} {s_Text_tokenEnd : aS} {J : aJ} {K : aR} {n : Nat} {L : aL} {S : List Value} {M : aM} : am_run (c_Tokens_scan s_Text_skipBlanks s_Text_sortAt s_Text_tokenEnd) k_Tokens_scan J K (n + 1) 100 L S M = ai_iinc 3 1 103 (am_run (c_Tokens_scan s_Text_skipBlanks s_Text_sortAt s_Text_tokenEnd) k_Tokens_scan J K n) K 100 L S M := rfl
set_option maxRecDepth 20000 in
theorem r_Tokens_scan_103 {s_Text_skipBlanks : aS} {s_Text_sortAt : aS} {s_Text_tokenEnd : aS} {J : aJ} {K : aR} {n : Nat} {L : aL} {S : List Value} {M : aM} : am_run (c_Tokens_scan s_Text_skipBlanks s_Text_sortAt s_Text_tokenEnd) k_Tokens_scan J K (n + 1) 103 L S M = ai_goto 9 (am_run (c_Tokens_scan s_Text_skipBlanks s_Text_sortAt s_Text_tokenEnd) k_Tokens_scan J K n) K 103 L S M := rfl
set_option maxRecDepth 20000 in
theorem r_Tokens_scan_106 {s_Text_skipBlanks : aS} {s_Text_sortAt : aS} {s_Text_tokenEnd : aS} {J : aJ} {K : aR} {n : Nat} {L : aL} {S : List Value} {M : aM} : am_run (c_Tokens_scan s_Text_skipBlanks s_Text_sortAt s_Text_tokenEnd) k_Tokens_scan J K (n + 1) 106 L S M = ai_vret (am_run (c_Tokens_scan s_Text_skipBlanks s_Text_sortAt s_Text_tokenEnd) k_Tokens_scan J K n) K 106 L S M := rfl
def c_Tokens_sortOf : List (Nat × aI) := [
  (0, ai_iload 1 1),
  (1, ai_iflt 30 4),
  (4, ai_iload 1 5),
  (5, ai_aload 0 6),
  (6, ai_getf 3 3 9),
  (9, ai_cmpge 30 12),
  (12, ai_iload 1 13),
  (13, ai_aload 0 14),
  (14, ai_getf 3 0 17),
  (17, ai_alen 18),
  (18, ai_cmpge 30 21),
  (21, ai_aload 0 22),
  (22, ai_getf 3 0 25),
  (25, ai_iload 1 26),
  (26, ai_iald 27),
  (27, ai_goto 32),
  (30, ai_const 11 32),
  (32, ai_iret)]
set_option maxRecDepth 100000 in
set_option maxHeartbeats 4000000 in
theorem tb_Tokens_sortOf {G : aG} {d : Nat} : am_tab G Y_Tokens_sortOf d (c_Tokens_sortOf) := by
  intro K p e s m args below meth c C
  exact ⟨as_iload_n C (pc := 0) (q := 1) (by decide +kernel) rfl rfl,
    as_iflt C (pc := 1) (off := 29) (by decide +kernel) (by decide) rfl,
    as_iload_n C (pc := 4) (q := 1) (by decide +kernel) rfl rfl,
    as_aload_n C (pc := 5) (q := 0) (by decide +kernel) rfl rfl,
    as_getf C (pc := 6) (T := T_Tokens) (N := 4) rfl in_Tokens (by decide) rfl w_166 (by decide +kernel) rfl,
    as_cmpge C (pc := 9) (off := 21) (by decide +kernel) (by decide) rfl,
    as_iload_n C (pc := 12) (q := 1) (by decide +kernel) rfl rfl,
    as_aload_n C (pc := 13) (q := 0) (by decide +kernel) rfl rfl,
    as_getf C (pc := 14) (T := T_Tokens) (N := 4) rfl in_Tokens (by decide) rfl w_163 (by decide +kernel) rfl,
    as_alen C (pc := 17) (by decide +kernel) rfl,
    as_cmpge C (pc := 18) (off := 12) (by decide +kernel) (by decide) rfl,
    as_aload_n C (pc := 21) (q := 0) (by decide +kernel) rfl rfl,
    as_getf C (pc := 22) (T := T_Tokens) (N := 4) rfl in_Tokens (by decide) rfl w_163 (by decide +kernel) rfl,
    as_iload_n C (pc := 25) (q := 1) (by decide +kernel) rfl rfl,
    as_iald C (pc := 26) (by decide +kernel) rfl,
    as_goto C (pc := 27) (off := 5) (by decide +kernel) (by decide),
    as_bipush C (pc := 30) (n := 11) (by decide +kernel) (by decide +kernel) rfl,
    as_iret C (pc := 32) rfl (by decide +kernel), trivial⟩
abbrev k_Tokens_sortOf : List Nat := []
theorem r_Tokens_sortOf_0 {J : aJ} {K : aR} {n : Nat} {L : aL} {S : List Value} {M : aM} : am_run (c_Tokens_sortOf) k_Tokens_sortOf J K (n + 1) 0 L S M = ai_iload 1 1 (am_run (c_Tokens_sortOf) k_Tokens_sortOf J K n) K 0 L S M := rfl
theorem r_Tokens_sortOf_1 {J : aJ} {K : aR} {n : Nat} {L : aL} {S : List Value} {M : aM} : am_run (c_Tokens_sortOf) k_Tokens_sortOf J K (n + 1) 1 L S M = ai_iflt 30 4 (am_run (c_Tokens_sortOf) k_Tokens_sortOf J K n) K 1 L S M := rfl
theorem r_Tokens_sortOf_4 {J : aJ} {K : aR} {n : Nat} {L : aL} {S : List Value} {M : aM} : am_run (c_Tokens_sortOf) k_Tokens_sortOf J K (n + 1) 4 L S M = ai_iload 1 5 (am_run (c_Tokens_sortOf) k_Tokens_sortOf J K n) K 4 L S M := rfl
theorem r_Tokens_sortOf_5 {J : aJ} {K : aR} {n : Nat} {L : aL} {S : List Value} {M : aM} : am_run (c_Tokens_sortOf) k_Tokens_sortOf J K (n + 1) 5 L S M = ai_aload 0 6 (am_run (c_Tokens_sortOf) k_Tokens_sortOf J K n) K 5 L S M := rfl
theorem r_Tokens_sortOf_6 {J : aJ} {K : aR} {n : Nat} {L : aL} {S : List Value} {M : aM} : am_run (c_Tokens_sortOf) k_Tokens_sortOf J K (n + 1) 6 L S M = ai_getf 3 3 9 (am_run (c_Tokens_sortOf) k_Tokens_sortOf J K n) K 6 L S M := rfl
theorem r_Tokens_sortOf_9 {J : aJ} {K : aR} {n : Nat} {L : aL} {S : List Value} {M : aM} : am_run (c_Tokens_sortOf) k_Tokens_sortOf J K (n + 1) 9 L S M = ai_cmpge 30 12 (am_run (c_Tokens_sortOf) k_Tokens_sortOf J K n) K 9 L S M := rfl
theorem r_Tokens_sortOf_12 {J : aJ} {K : aR} {n : Nat} {L : aL} {S : List Value} {M : aM} : am_run (c_Tokens_sortOf) k_Tokens_sortOf J K (n + 1) 12 L S M = ai_iload 1 13 (am_run (c_Tokens_sortOf) k_Tokens_sortOf J K n) K 12 L S M := rfl
theorem r_Tokens_sortOf_13 {J : aJ} {K : aR} {n : Nat} {L : aL} {S : List Value} {M : aM} : am_run (c_Tokens_sortOf) k_Tokens_sortOf J K (n + 1) 13 L S M = ai_aload 0 14 (am_run (c_Tokens_sortOf) k_Tokens_sortOf J K n) K 13 L S M := rfl
theorem r_Tokens_sortOf_14 {J : aJ} {K : aR} {n : Nat} {L : aL} {S : List Value} {M : aM} : am_run (c_Tokens_sortOf) k_Tokens_sortOf J K (n + 1) 14 L S M = ai_getf 3 0 17 (am_run (c_Tokens_sortOf) k_Tokens_sortOf J K n) K 14 L S M := rfl
theorem r_Tokens_sortOf_17 {J : aJ} {K : aR} {n : Nat} {L : aL} {S : List Value} {M : aM} : am_run (c_Tokens_sortOf) k_Tokens_sortOf J K (n + 1) 17 L S M = ai_alen 18 (am_run (c_Tokens_sortOf) k_Tokens_sortOf J K n) K 17 L S M := rfl
theorem r_Tokens_sortOf_18 {J : aJ} {K : aR} {n : Nat} {L : aL} {S : List Value} {M : aM} : am_run (c_Tokens_sortOf) k_Tokens_sortOf J K (n + 1) 18 L S M = ai_cmpge 30 21 (am_run (c_Tokens_sortOf) k_Tokens_sortOf J K n) K 18 L S M := rfl
theorem r_Tokens_sortOf_21 {J : aJ} {K : aR} {n : Nat} {L : aL} {S : List Value} {M : aM} : am_run (c_Tokens_sortOf) k_Tokens_sortOf J K (n + 1) 21 L S M = ai_aload 0 22 (am_run (c_Tokens_sortOf) k_Tokens_sortOf J K n) K 21 L S M := rfl
theorem r_Tokens_sortOf_22 {J : aJ} {K : aR} {n : Nat} {L : aL} {S : List Value} {M : aM} : am_run (c_Tokens_sortOf) k_Tokens_sortOf J K (n + 1) 22 L S M = ai_getf 3 0 25 (am_run (c_Tokens_sortOf) k_Tokens_sortOf J K n) K 22 L S M := rfl
theorem r_Tokens_sortOf_25 {J : aJ} {K : aR} {n : Nat} {L : aL} {S : List Value} {M : aM} : am_run (c_Tokens_sortOf) k_Tokens_sortOf J K (n + 1) 25 L S M = ai_iload 1 26 (am_run (c_Tokens_sortOf) k_Tokens_sortOf J K n) K 25 L S M := rfl
theorem r_Tokens_sortOf_26 {J : aJ} {K : aR} {n : Nat} {L : aL} {S : List Value} {M : aM} : am_run (c_Tokens_sortOf) k_Tokens_sortOf J K (n + 1) 26 L S M = ai_iald 27 (am_run (c_Tokens_sortOf) k_Tokens_sortOf J K n) K 26 L S M := rfl
theorem r_Tokens_sortOf_27 {J : aJ} {K : aR} {n : Nat} {L : aL} {S : List Value} {M : aM} : am_run (c_Tokens_sortOf) k_Tokens_sortOf J K (n + 1) 27 L S M = ai_goto 32 (am_run (c_Tokens_sortOf) k_Tokens_sortOf J K n) K 27 L S M := rfl
theorem r_Tokens_sortOf_30 {J : aJ} {K : aR} {n : Nat} {L : aL} {S : List Value} {M : aM} : am_run (c_Tokens_sortOf) k_Tokens_sortOf J K (n + 1) 30 L S M = ai_const 11 32 (am_run (c_Tokens_sortOf) k_Tokens_sortOf J K n) K 30 L S M := rfl
theorem r_Tokens_sortOf_32 {J : aJ} {K : aR} {n : Nat} {L : aL} {S : List Value} {M : aM} : am_run (c_Tokens_sortOf) k_Tokens_sortOf J K (n + 1) 32 L S M = ai_iret (am_run (c_Tokens_sortOf) k_Tokens_sortOf J K n) K 32 L S M := rfl
def c_Tokens_startOf : List (Nat × aI) := [
  (0, ai_iload 1 1),
  (1, ai_iflt 30 4),
  (4, ai_iload 1 5),
  (5, ai_aload 0 6),
  (6, ai_getf 3 3 9),
  (9, ai_cmpge 30 12),
  (12, ai_iload 1 13),
  (13, ai_aload 0 14),
  (14, ai_getf 3 1 17),
  (17, ai_alen 18),
  (18, ai_cmpge 30 21),
  (21, ai_aload 0 22),
  (22, ai_getf 3 1 25),
  (25, ai_iload 1 26),
  (26, ai_iald 27),
  (27, ai_goto 31),
  (30, ai_const (-1) 31),
  (31, ai_iret)]
set_option maxRecDepth 100000 in
set_option maxHeartbeats 4000000 in
theorem tb_Tokens_startOf {G : aG} {d : Nat} : am_tab G Y_Tokens_startOf d (c_Tokens_startOf) := by
  intro K p e s m args below meth c C
  exact ⟨as_iload_n C (pc := 0) (q := 1) (by decide +kernel) rfl rfl,
    as_iflt C (pc := 1) (off := 29) (by decide +kernel) (by decide) rfl,
    as_iload_n C (pc := 4) (q := 1) (by decide +kernel) rfl rfl,
    as_aload_n C (pc := 5) (q := 0) (by decide +kernel) rfl rfl,
    as_getf C (pc := 6) (T := T_Tokens) (N := 4) rfl in_Tokens (by decide) rfl w_166 (by decide +kernel) rfl,
    as_cmpge C (pc := 9) (off := 21) (by decide +kernel) (by decide) rfl,
    as_iload_n C (pc := 12) (q := 1) (by decide +kernel) rfl rfl,
    as_aload_n C (pc := 13) (q := 0) (by decide +kernel) rfl rfl,
    as_getf C (pc := 14) (T := T_Tokens) (N := 4) rfl in_Tokens (by decide) rfl w_164 (by decide +kernel) rfl,
    as_alen C (pc := 17) (by decide +kernel) rfl,
    as_cmpge C (pc := 18) (off := 12) (by decide +kernel) (by decide) rfl,
    as_aload_n C (pc := 21) (q := 0) (by decide +kernel) rfl rfl,
    as_getf C (pc := 22) (T := T_Tokens) (N := 4) rfl in_Tokens (by decide) rfl w_164 (by decide +kernel) rfl,
    as_iload_n C (pc := 25) (q := 1) (by decide +kernel) rfl rfl,
    as_iald C (pc := 26) (by decide +kernel) rfl,
    as_goto C (pc := 27) (off := 4) (by decide +kernel) (by decide),
    as_iconst C (pc := 30) (n := (-1)) (by decide +kernel) (by decide +kernel) rfl,
    as_iret C (pc := 31) rfl (by decide +kernel), trivial⟩
abbrev k_Tokens_startOf : List Nat := []
theorem r_Tokens_startOf_0 {J : aJ} {K : aR} {n : Nat} {L : aL} {S : List Value} {M : aM} : am_run (c_Tokens_startOf) k_Tokens_startOf J K (n + 1) 0 L S M = ai_iload 1 1 (am_run (c_Tokens_startOf) k_Tokens_startOf J K n) K 0 L S M := rfl
theorem r_Tokens_startOf_1 {J : aJ} {K : aR} {n : Nat} {L : aL} {S : List Value} {M : aM} : am_run (c_Tokens_startOf) k_Tokens_startOf J K (n + 1) 1 L S M = ai_iflt 30 4 (am_run (c_Tokens_startOf) k_Tokens_startOf J K n) K 1 L S M := rfl
theorem r_Tokens_startOf_4 {J : aJ} {K : aR} {n : Nat} {L : aL} {S : List Value} {M : aM} : am_run (c_Tokens_startOf) k_Tokens_startOf J K (n + 1) 4 L S M = ai_iload 1 5 (am_run (c_Tokens_startOf) k_Tokens_startOf J K n) K 4 L S M := rfl
theorem r_Tokens_startOf_5 {J : aJ} {K : aR} {n : Nat} {L : aL} {S : List Value} {M : aM} : am_run (c_Tokens_startOf) k_Tokens_startOf J K (n + 1) 5 L S M = ai_aload 0 6 (am_run (c_Tokens_startOf) k_Tokens_startOf J K n) K 5 L S M := rfl
theorem r_Tokens_startOf_6 {J : aJ} {K : aR} {n : Nat} {L : aL} {S : List Value} {M : aM} : am_run (c_Tokens_startOf) k_Tokens_startOf J K (n + 1) 6 L S M = ai_getf 3 3 9 (am_run (c_Tokens_startOf) k_Tokens_startOf J K n) K 6 L S M := rfl
theorem r_Tokens_startOf_9 {J : aJ} {K : aR} {n : Nat} {L : aL} {S : List Value} {M : aM} : am_run (c_Tokens_startOf) k_Tokens_startOf J K (n + 1) 9 L S M = ai_cmpge 30 12 (am_run (c_Tokens_startOf) k_Tokens_startOf J K n) K 9 L S M := rfl
theorem r_Tokens_startOf_12 {J : aJ} {K : aR} {n : Nat} {L : aL} {S : List Value} {M : aM} : am_run (c_Tokens_startOf) k_Tokens_startOf J K (n + 1) 12 L S M = ai_iload 1 13 (am_run (c_Tokens_startOf) k_Tokens_startOf J K n) K 12 L S M := rfl
theorem r_Tokens_startOf_13 {J : aJ} {K : aR} {n : Nat} {L : aL} {S : List Value} {M : aM} : am_run (c_Tokens_startOf) k_Tokens_startOf J K (n + 1) 13 L S M = ai_aload 0 14 (am_run (c_Tokens_startOf) k_Tokens_startOf J K n) K 13 L S M := rfl
theorem r_Tokens_startOf_14 {J : aJ} {K : aR} {n : Nat} {L : aL} {S : List Value} {M : aM} : am_run (c_Tokens_startOf) k_Tokens_startOf J K (n + 1) 14 L S M = ai_getf 3 1 17 (am_run (c_Tokens_startOf) k_Tokens_startOf J K n) K 14 L S M := rfl
theorem r_Tokens_startOf_17 {J : aJ} {K : aR} {n : Nat} {L : aL} {S : List Value} {M : aM} : am_run (c_Tokens_startOf) k_Tokens_startOf J K (n + 1) 17 L S M = ai_alen 18 (am_run (c_Tokens_startOf) k_Tokens_startOf J K n) K 17 L S M := rfl
theorem r_Tokens_startOf_18 {J : aJ} {K : aR} {n : Nat} {L : aL} {S : List Value} {M : aM} : am_run (c_Tokens_startOf) k_Tokens_startOf J K (n + 1) 18 L S M = ai_cmpge 30 21 (am_run (c_Tokens_startOf) k_Tokens_startOf J K n) K 18 L S M := rfl
theorem r_Tokens_startOf_21 {J : aJ} {K : aR} {n : Nat} {L : aL} {S : List Value} {M : aM} : am_run (c_Tokens_startOf) k_Tokens_startOf J K (n + 1) 21 L S M = ai_aload 0 22 (am_run (c_Tokens_startOf) k_Tokens_startOf J K n) K 21 L S M := rfl
theorem r_Tokens_startOf_22 {J : aJ} {K : aR} {n : Nat} {L : aL} {S : List Value} {M : aM} : am_run (c_Tokens_startOf) k_Tokens_startOf J K (n + 1) 22 L S M = ai_getf 3 1 25 (am_run (c_Tokens_startOf) k_Tokens_startOf J K n) K 22 L S M := rfl
theorem r_Tokens_startOf_25 {J : aJ} {K : aR} {n : Nat} {L : aL} {S : List Value} {M : aM} : am_run (c_Tokens_startOf) k_Tokens_startOf J K (n + 1) 25 L S M = ai_iload 1 26 (am_run (c_Tokens_startOf) k_Tokens_startOf J K n) K 25 L S M := rfl
theorem r_Tokens_startOf_26 {J : aJ} {K : aR} {n : Nat} {L : aL} {S : List Value} {M : aM} : am_run (c_Tokens_startOf) k_Tokens_startOf J K (n + 1) 26 L S M = ai_iald 27 (am_run (c_Tokens_startOf) k_Tokens_startOf J K n) K 26 L S M := rfl
theorem r_Tokens_startOf_27 {J : aJ} {K : aR} {n : Nat} {L : aL} {S : List Value} {M : aM} : am_run (c_Tokens_startOf) k_Tokens_startOf J K (n + 1) 27 L S M = ai_goto 31 (am_run (c_Tokens_startOf) k_Tokens_startOf J K n) K 27 L S M := rfl
theorem r_Tokens_startOf_30 {J : aJ} {K : aR} {n : Nat} {L : aL} {S : List Value} {M : aM} : am_run (c_Tokens_startOf) k_Tokens_startOf J K (n + 1) 30 L S M = ai_const (-1) 31 (am_run (c_Tokens_startOf) k_Tokens_startOf J K n) K 30 L S M := rfl
theorem r_Tokens_startOf_31 {J : aJ} {K : aR} {n : Nat} {L : aL} {S : List Value} {M : aM} : am_run (c_Tokens_startOf) k_Tokens_startOf J K (n + 1) 31 L S M = ai_iret (am_run (c_Tokens_startOf) k_Tokens_startOf J K n) K 31 L S M := rfl
def c_Tokens_endOf : List (Nat × aI) := [
  (0, ai_iload 1 1),
  (1, ai_iflt 30 4),
  (4, ai_iload 1 5),
  (5, ai_aload 0 6),
  (6, ai_getf 3 3 9),
  (9, ai_cmpge 30 12),
  (12, ai_iload 1 13),
  (13, ai_aload 0 14),
  (14, ai_getf 3 2 17),
  (17, ai_alen 18),
  (18, ai_cmpge 30 21),
  (21, ai_aload 0 22),
  (22, ai_getf 3 2 25),
  (25, ai_iload 1 26),
  (26, ai_iald 27),
  (27, ai_goto 31),
  (30, ai_const (-1) 31),
  (31, ai_iret)]
set_option maxRecDepth 100000 in
set_option maxHeartbeats 4000000 in
theorem tb_Tokens_endOf {G : aG} {d : Nat} : am_tab G Y_Tokens_endOf d (c_Tokens_endOf) := by
  intro K p e s m args below meth c C
  exact ⟨as_iload_n C (pc := 0) (q := 1) (by decide +kernel) rfl rfl,
    as_iflt C (pc := 1) (off := 29) (by decide +kernel) (by decide) rfl,
    as_iload_n C (pc := 4) (q := 1) (by decide +kernel) rfl rfl,
    as_aload_n C (pc := 5) (q := 0) (by decide +kernel) rfl rfl,
    as_getf C (pc := 6) (T := T_Tokens) (N := 4) rfl in_Tokens (by decide) rfl w_166 (by decide +kernel) rfl,
    as_cmpge C (pc := 9) (off := 21) (by decide +kernel) (by decide) rfl,
    as_iload_n C (pc := 12) (q := 1) (by decide +kernel) rfl rfl,
    as_aload_n C (pc := 13) (q := 0) (by decide +kernel) rfl rfl,
    as_getf C (pc := 14) (T := T_Tokens) (N := 4) rfl in_Tokens (by decide) rfl w_165 (by decide +kernel) rfl,
    as_alen C (pc := 17) (by decide +kernel) rfl,
    as_cmpge C (pc := 18) (off := 12) (by decide +kernel) (by decide) rfl,
    as_aload_n C (pc := 21) (q := 0) (by decide +kernel) rfl rfl,
    as_getf C (pc := 22) (T := T_Tokens) (N := 4) rfl in_Tokens (by decide) rfl w_165 (by decide +kernel) rfl,
    as_iload_n C (pc := 25) (q := 1) (by decide +kernel) rfl rfl,
    as_iald C (pc := 26) (by decide +kernel) rfl,
    as_goto C (pc := 27) (off := 4) (by decide +kernel) (by decide),
    as_iconst C (pc := 30) (n := (-1)) (by decide +kernel) (by decide +kernel) rfl,
    as_iret C (pc := 31) rfl (by decide +kernel), trivial⟩
abbrev k_Tokens_endOf : List Nat := []
theorem r_Tokens_endOf_0 {J : aJ} {K : aR} {n : Nat} {L : aL} {S : List Value} {M : aM} : am_run (c_Tokens_endOf) k_Tokens_endOf J K (n + 1) 0 L S M = ai_iload 1 1 (am_run (c_Tokens_endOf) k_Tokens_endOf J K n) K 0 L S M := rfl
theorem r_Tokens_endOf_1 {J : aJ} {K : aR} {n : Nat} {L : aL} {S : List Value} {M : aM} : am_run (c_Tokens_endOf) k_Tokens_endOf J K (n + 1) 1 L S M = ai_iflt 30 4 (am_run (c_Tokens_endOf) k_Tokens_endOf J K n) K 1 L S M := rfl
theorem r_Tokens_endOf_4 {J : aJ} {K : aR} {n : Nat} {L : aL} {S : List Value} {M : aM} : am_run (c_Tokens_endOf) k_Tokens_endOf J K (n + 1) 4 L S M = ai_iload 1 5 (am_run (c_Tokens_endOf) k_Tokens_endOf J K n) K 4 L S M := rfl
theorem r_Tokens_endOf_5 {J : aJ} {K : aR} {n : Nat} {L : aL} {S : List Value} {M : aM} : am_run (c_Tokens_endOf) k_Tokens_endOf J K (n + 1) 5 L S M = ai_aload 0 6 (am_run (c_Tokens_endOf) k_Tokens_endOf J K n) K 5 L S M := rfl
theorem r_Tokens_endOf_6 {J : aJ} {K : aR} {n : Nat} {L : aL} {S : List Value} {M : aM} : am_run (c_Tokens_endOf) k_Tokens_endOf J K (n + 1) 6 L S M = ai_getf 3 3 9 (am_run (c_Tokens_endOf) k_Tokens_endOf J K n) K 6 L S M := rfl
theorem r_Tokens_endOf_9 {J : aJ} {K : aR} {n : Nat} {L : aL} {S : List Value} {M : aM} : am_run (c_Tokens_endOf) k_Tokens_endOf J K (n + 1) 9 L S M = ai_cmpge 30 12 (am_run (c_Tokens_endOf) k_Tokens_endOf J K n) K 9 L S M := rfl
theorem r_Tokens_endOf_12 {J : aJ} {K : aR} {n : Nat} {L : aL} {S : List Value} {M : aM} : am_run (c_Tokens_endOf) k_Tokens_endOf J K (n + 1) 12 L S M = ai_iload 1 13 (am_run (c_Tokens_endOf) k_Tokens_endOf J K n) K 12 L S M := rfl
theorem r_Tokens_endOf_13 {J : aJ} {K : aR} {n : Nat} {L : aL} {S : List Value} {M : aM} : am_run (c_Tokens_endOf) k_Tokens_endOf J K (n + 1) 13 L S M = ai_aload 0 14 (am_run (c_Tokens_endOf) k_Tokens_endOf J K n) K 13 L S M := rfl
theorem r_Tokens_endOf_14 {J : aJ} {K : aR} {n : Nat} {L : aL} {S : List Value} {M : aM} : am_run (c_Tokens_endOf) k_Tokens_endOf J K (n + 1) 14 L S M = ai_getf 3 2 17 (am_run (c_Tokens_endOf) k_Tokens_endOf J K n) K 14 L S M := rfl
theorem r_Tokens_endOf_17 {J : aJ} {K : aR} {n : Nat} {L : aL} {S : List Value} {M : aM} : am_run (c_Tokens_endOf) k_Tokens_endOf J K (n + 1) 17 L S M = ai_alen 18 (am_run (c_Tokens_endOf) k_Tokens_endOf J K n) K 17 L S M := rfl
theorem r_Tokens_endOf_18 {J : aJ} {K : aR} {n : Nat} {L : aL} {S : List Value} {M : aM} : am_run (c_Tokens_endOf) k_Tokens_endOf J K (n + 1) 18 L S M = ai_cmpge 30 21 (am_run (c_Tokens_endOf) k_Tokens_endOf J K n) K 18 L S M := rfl
theorem r_Tokens_endOf_21 {J : aJ} {K : aR} {n : Nat} {L : aL} {S : List Value} {M : aM} : am_run (c_Tokens_endOf) k_Tokens_endOf J K (n + 1) 21 L S M = ai_aload 0 22 (am_run (c_Tokens_endOf) k_Tokens_endOf J K n) K 21 L S M := rfl
theorem r_Tokens_endOf_22 {J : aJ} {K : aR} {n : Nat} {L : aL} {S : List Value} {M : aM} : am_run (c_Tokens_endOf) k_Tokens_endOf J K (n + 1) 22 L S M = ai_getf 3 2 25 (am_run (c_Tokens_endOf) k_Tokens_endOf J K n) K 22 L S M := rfl
theorem r_Tokens_endOf_25 {J : aJ} {K : aR} {n : Nat} {L : aL} {S : List Value} {M : aM} : am_run (c_Tokens_endOf) k_Tokens_endOf J K (n + 1) 25 L S M = ai_iload 1 26 (am_run (c_Tokens_endOf) k_Tokens_endOf J K n) K 25 L S M := rfl
theorem r_Tokens_endOf_26 {J : aJ} {K : aR} {n : Nat} {L : aL} {S : List Value} {M : aM} : am_run (c_Tokens_endOf) k_Tokens_endOf J K (n + 1) 26 L S M = ai_iald 27 (am_run (c_Tokens_endOf) k_Tokens_endOf J K n) K 26 L S M := rfl
theorem r_Tokens_endOf_27 {J : aJ} {K : aR} {n : Nat} {L : aL} {S : List Value} {M : aM} : am_run (c_Tokens_endOf) k_Tokens_endOf J K (n + 1) 27 L S M = ai_goto 31 (am_run (c_Tokens_endOf) k_Tokens_endOf J K n) K 27 L S M := rfl
theorem r_Tokens_endOf_30 {J : aJ} {K : aR} {n : Nat} {L : aL} {S : List Value} {M : aM} : am_run (c_Tokens_endOf) k_Tokens_endOf J K (n + 1) 30 L S M = ai_const (-1) 31 (am_run (c_Tokens_endOf) k_Tokens_endOf J K n) K 30 L S M := rfl
theorem r_Tokens_endOf_31 {J : aJ} {K : aR} {n : Nat} {L : aL} {S : List Value} {M : aM} : am_run (c_Tokens_endOf) k_Tokens_endOf J K (n + 1) 31 L S M = ai_iret (am_run (c_Tokens_endOf) k_Tokens_endOf J K n) K 31 L S M := rfl
end
section
def c_Waiting_append : List (Nat × aI) := [
  (0, ai_aload 0 1),
  (1, ai_getf 4 2 4),
  (4, ai_const 500 7),
  (7, ai_cmplt 11 10),
  (10, ai_vret),
  (11, ai_aload 0 12),
  (12, ai_getf 4 1 15),
  (15, ai_aload 0 16),
  (16, ai_getf 4 2 19),
  (19, ai_iadd 20),
  (20, ai_const 500 23),
  (23, ai_cmpge 38 26),
  (26, ai_aload 0 27),
  (27, ai_getf 4 1 30),
  (30, ai_aload 0 31),
  (31, ai_getf 4 2 34),
  (34, ai_iadd 35),
  (35, ai_goto 51),
  (38, ai_aload 0 39),
  (39, ai_getf 4 1 42),
  (42, ai_aload 0 43),
  (43, ai_getf 4 2 46),
  (46, ai_iadd 47),
  (47, ai_const 500 50),
  (50, ai_isub 51),
  (51, ai_istore 2 52),
  (52, ai_iload 2 53),
  (53, ai_iflt 80 56),
  (56, ai_iload 2 57),
  (57, ai_const 500 60),
  (60, ai_cmpge 80 63),
  (63, ai_aload 0 64),
  (64, ai_getf 4 0 67),
  (67, ai_iload 2 68),
  (68, ai_iload 1 69),
  (69, ai_iast 70),
  (70, ai_aload 0 71),
  (71, ai_dup 72),
  (72, ai_getf 4 2 75),
  (75, ai_const 1 76),
  (76, ai_iadd 77),
  (77, ai_putf 4 2 80),
  (80, ai_vret)]
set_option maxRecDepth 100000 in
set_option maxHeartbeats 4000000 in
theorem tb_Waiting_append {G : aG} {d : Nat} : am_tab G Y_Waiting_append d (c_Waiting_append) := by
  intro K p e s m args below meth c C
  exact ⟨as_aload_n C (pc := 0) (q := 0) (by decide +kernel) rfl rfl,
    as_getf C (pc := 1) (T := T_Waiting) (N := 3) rfl in_Waiting (by decide) rfl w_201 (by decide +kernel) rfl,
    as_sipush C (pc := 4) (n := 500) (by decide +kernel) (by decide +kernel) rfl,
    as_cmplt C (pc := 7) (off := 4) (by decide +kernel) (by decide) rfl,
    as_vret C (pc := 10) rfl (by decide +kernel),
    as_aload_n C (pc := 11) (q := 0) (by decide +kernel) rfl rfl,
    as_getf C (pc := 12) (T := T_Waiting) (N := 3) rfl in_Waiting (by decide) rfl w_200 (by decide +kernel) rfl,
    as_aload_n C (pc := 15) (q := 0) (by decide +kernel) rfl rfl,
    as_getf C (pc := 16) (T := T_Waiting) (N := 3) rfl in_Waiting (by decide) rfl w_201 (by decide +kernel) rfl,
    as_iadd C (pc := 19) (by decide +kernel) rfl,
    as_sipush C (pc := 20) (n := 500) (by decide +kernel) (by decide +kernel) rfl,
    as_cmpge C (pc := 23) (off := 15) (by decide +kernel) (by decide) rfl,
    as_aload_n C (pc := 26) (q := 0) (by decide +kernel) rfl rfl,
    as_getf C (pc := 27) (T := T_Waiting) (N := 3) rfl in_Waiting (by decide) rfl w_200 (by decide +kernel) rfl,
    as_aload_n C (pc := 30) (q := 0) (by decide +kernel) rfl rfl,
    as_getf C (pc := 31) (T := T_Waiting) (N := 3) rfl in_Waiting (by decide) rfl w_201 (by decide +kernel) rfl,
    as_iadd C (pc := 34) (by decide +kernel) rfl,
    as_goto C (pc := 35) (off := 16) (by decide +kernel) (by decide),
    as_aload_n C (pc := 38) (q := 0) (by decide +kernel) rfl rfl,
    as_getf C (pc := 39) (T := T_Waiting) (N := 3) rfl in_Waiting (by decide) rfl w_200 (by decide +kernel) rfl,
    as_aload_n C (pc := 42) (q := 0) (by decide +kernel) rfl rfl,
    as_getf C (pc := 43) (T := T_Waiting) (N := 3) rfl in_Waiting (by decide) rfl w_201 (by decide +kernel) rfl,
    as_iadd C (pc := 46) (by decide +kernel) rfl,
    as_sipush C (pc := 47) (n := 500) (by decide +kernel) (by decide +kernel) rfl,
    as_isub C (pc := 50) (by decide +kernel) rfl,
    as_istore_n C (pc := 51) (q := 2) (by decide +kernel) rfl (by decide) rfl,
    as_iload_n C (pc := 52) (q := 2) (by decide +kernel) rfl rfl,
    as_iflt C (pc := 53) (off := 27) (by decide +kernel) (by decide) rfl,
    as_iload_n C (pc := 56) (q := 2) (by decide +kernel) rfl rfl,
    as_sipush C (pc := 57) (n := 500) (by decide +kernel) (by decide +kernel) rfl,
    as_cmpge C (pc := 60) (off := 20) (by decide +kernel) (by decide) rfl,
    as_aload_n C (pc := 63) (q := 0) (by decide +kernel) rfl rfl,
    as_getf C (pc := 64) (T := T_Waiting) (N := 3) rfl in_Waiting (by decide) rfl w_199 (by decide +kernel) rfl,
    as_iload_n C (pc := 67) (q := 2) (by decide +kernel) rfl rfl,
    as_iload_n C (pc := 68) (q := 1) (by decide +kernel) rfl rfl,
    as_iast C (pc := 69) (by decide +kernel) rfl,
    as_aload_n C (pc := 70) (q := 0) (by decide +kernel) rfl rfl,
    as_dup C (pc := 71) (by decide +kernel) rfl,
    as_getf C (pc := 72) (T := T_Waiting) (N := 3) rfl in_Waiting (by decide) rfl w_201 (by decide +kernel) rfl,
    as_iconst C (pc := 75) (n := 1) (by decide +kernel) (by decide +kernel) rfl,
    as_iadd C (pc := 76) (by decide +kernel) rfl,
    as_putf C (pc := 77) t_Waiting (T := T_Waiting) (N := 3) rfl in_Waiting tok_Waiting nm_Waiting (by decide) rfl rfl (by decide +kernel) w_201 (by decide +kernel) rfl,
    as_vret C (pc := 80) rfl (by decide +kernel), trivial⟩
abbrev k_Waiting_append : List Nat := []
theorem r_Waiting_append_0 {J : aJ} {K : aR} {n : Nat} {L : aL} {S : List Value} {M : aM} : am_run (c_Waiting_append) k_Waiting_append J K (n + 1) 0 L S M = ai_aload 0 1 (am_run (c_Waiting_append) k_Waiting_append J K n) K 0 L S M := rfl
theorem r_Waiting_append_1 {J : aJ} {K : aR} {n : Nat} {L : aL} {S : List Value} {M : aM} : am_run (c_Waiting_append) k_Waiting_append J K (n + 1) 1 L S M = ai_getf 4 2 4 (am_run (c_Waiting_append) k_Waiting_append J K n) K 1 L S M := rfl
theorem r_Waiting_append_4 {J : aJ} {K : aR} {n : Nat} {L : aL} {S : List Value} {M : aM} : am_run (c_Waiting_append) k_Waiting_append J K (n + 1) 4 L S M = ai_const 500 7 (am_run (c_Waiting_append) k_Waiting_append J K n) K 4 L S M := rfl
theorem r_Waiting_append_7 {J : aJ} {K : aR} {n : Nat} {L : aL} {S : List Value} {M : aM} : am_run (c_Waiting_append) k_Waiting_append J K (n + 1) 7 L S M = ai_cmplt 11 10 (am_run (c_Waiting_append) k_Waiting_append J K n) K 7 L S M := rfl
theorem r_Waiting_append_10 {J : aJ} {K : aR} {n : Nat} {L : aL} {S : List Value} {M : aM} : am_run (c_Waiting_append) k_Waiting_append J K (n + 1) 10 L S M = ai_vret (am_run (c_Waiting_append) k_Waiting_append J K n) K 10 L S M := rfl
theorem r_Waiting_append_11 {J : aJ} {K : aR} {n : Nat} {L : aL} {S : List Value} {M : aM} : am_run (c_Waiting_append) k_Waiting_append J K (n + 1) 11 L S M = ai_aload 0 12 (am_run (c_Waiting_append) k_Waiting_append J K n) K 11 L S M := rfl
theorem r_Waiting_append_12 {J : aJ} {K : aR} {n : Nat} {L : aL} {S : List Value} {M : aM} : am_run (c_Waiting_append) k_Waiting_append J K (n + 1) 12 L S M = ai_getf 4 1 15 (am_run (c_Waiting_append) k_Waiting_append J K n) K 12 L S M := rfl
theorem r_Waiting_append_15 {J : aJ} {K : aR} {n : Nat} {L : aL} {S : List Value} {M : aM} : am_run (c_Waiting_append) k_Waiting_append J K (n + 1) 15 L S M = ai_aload 0 16 (am_run (c_Waiting_append) k_Waiting_append J K n) K 15 L S M := rfl
theorem r_Waiting_append_16 {J : aJ} {K : aR} {n : Nat} {L : aL} {S : List Value} {M : aM} : am_run (c_Waiting_append) k_Waiting_append J K (n + 1) 16 L S M = ai_getf 4 2 19 (am_run (c_Waiting_append) k_Waiting_append J K n) K 16 L S M := rfl
theorem r_Waiting_append_19 {J : aJ} {K : aR} {n : Nat} {L : aL} {S : List Value} {M : aM} : am_run (c_Waiting_append) k_Waiting_append J K (n + 1) 19 L S M = ai_iadd 20 (am_run (c_Waiting_append) k_Waiting_append J K n) K 19 L S M := rfl
theorem r_Waiting_append_20 {J : aJ} {K : aR} {n : Nat} {L : aL} {S : List Value} {M : aM} : am_run (c_Waiting_append) k_Waiting_append J K (n + 1) 20 L S M = ai_const 500 23 (am_run (c_Waiting_append) k_Waiting_append J K n) K 20 L S M := rfl
theorem r_Waiting_append_23 {J : aJ} {K : aR} {n : Nat} {L : aL} {S : List Value} {M : aM} : am_run (c_Waiting_append) k_Waiting_append J K (n + 1) 23 L S M = ai_cmpge 38 26 (am_run (c_Waiting_append) k_Waiting_append J K n) K 23 L S M := rfl
theorem r_Waiting_append_26 {J : aJ} {K : aR} {n : Nat} {L : aL} {S : List Value} {M : aM} : am_run (c_Waiting_append) k_Waiting_append J K (n + 1) 26 L S M = ai_aload 0 27 (am_run (c_Waiting_append) k_Waiting_append J K n) K 26 L S M := rfl
theorem r_Waiting_append_27 {J : aJ} {K : aR} {n : Nat} {L : aL} {S : List Value} {M : aM} : am_run (c_Waiting_append) k_Waiting_append J K (n + 1) 27 L S M = ai_getf 4 1 30 (am_run (c_Waiting_append) k_Waiting_append J K n) K 27 L S M := rfl
theorem r_Waiting_append_30 {J : aJ} {K : aR} {n : Nat} {L : aL} {S : List Value} {M : aM} : am_run (c_Waiting_append) k_Waiting_append J K (n + 1) 30 L S M = ai_aload 0 31 (am_run (c_Waiting_append) k_Waiting_append J K n) K 30 L S M := rfl
theorem r_Waiting_append_31 {J : aJ} {K : aR} {n : Nat} {L : aL} {S : List Value} {M : aM} : am_run (c_Waiting_append) k_Waiting_append J K (n + 1) 31 L S M = ai_getf 4 2 34 (am_run (c_Waiting_append) k_Waiting_append J K n) K 31 L S M := rfl
theorem r_Waiting_append_34 {J : aJ} {K : aR} {n : Nat} {L : aL} {S : List Value} {M : aM} : am_run (c_Waiting_append) k_Waiting_append J K (n + 1) 34 L S M = ai_iadd 35 (am_run (c_Waiting_append) k_Waiting_append J K n) K 34 L S M := rfl
theorem r_Waiting_append_35 {J : aJ} {K : aR} {n : Nat} {L : aL} {S : List Value} {M : aM} : am_run (c_Waiting_append) k_Waiting_append J K (n + 1) 35 L S M = ai_goto 51 (am_run (c_Waiting_append) k_Waiting_append J K n) K 35 L S M := rfl
theorem r_Waiting_append_38 {J : aJ} {K : aR} {n : Nat} {L : aL} {S : List Value} {M : aM} : am_run (c_Waiting_append) k_Waiting_append J K (n + 1) 38 L S M = ai_aload 0 39 (am_run (c_Waiting_append) k_Waiting_append J K n) K 38 L S M := rfl
theorem r_Waiting_append_39 {J : aJ} {K : aR} {n : Nat} {L : aL} {S : List Value} {M : aM} : am_run (c_Waiting_append) k_Waiting_append J K (n + 1) 39 L S M = ai_getf 4 1 42 (am_run (c_Waiting_append) k_Waiting_append J K n) K 39 L S M := rfl
theorem r_Waiting_append_42 {J : aJ} {K : aR} {n : Nat} {L : aL} {S : List Value} {M : aM} : am_run (c_Waiting_append) k_Waiting_append J K (n + 1) 42 L S M = ai_aload 0 43 (am_run (c_Waiting_append) k_Waiting_append J K n) K 42 L S M := rfl
theorem r_Waiting_append_43 {J : aJ} {K : aR} {n : Nat} {L : aL} {S : List Value} {M : aM} : am_run (c_Waiting_append) k_Waiting_append J K (n + 1) 43 L S M = ai_getf 4 2 46 (am_run (c_Waiting_append) k_Waiting_append J K n) K 43 L S M := rfl
theorem r_Waiting_append_46 {J : aJ} {K : aR} {n : Nat} {L : aL} {S : List Value} {M : aM} : am_run (c_Waiting_append) k_Waiting_append J K (n + 1) 46 L S M = ai_iadd 47 (am_run (c_Waiting_append) k_Waiting_append J K n) K 46 L S M := rfl
theorem r_Waiting_append_47 {J : aJ} {K : aR} {n : Nat} {L : aL} {S : List Value} {M : aM} : am_run (c_Waiting_append) k_Waiting_append J K (n + 1) 47 L S M = ai_const 500 50 (am_run (c_Waiting_append) k_Waiting_append J K n) K 47 L S M := rfl
theorem r_Waiting_append_50 {J : aJ} {K : aR} {n : Nat} {L : aL} {S : List Value} {M : aM} : am_run (c_Waiting_append) k_Waiting_append J K (n + 1) 50 L S M = ai_isub 51 (am_run (c_Waiting_append) k_Waiting_append J K n) K 50 L S M := rfl
theorem r_Waiting_append_51 {J : aJ} {K : aR} {n : Nat} {L : aL} {S : List Value} {M : aM} : am_run (c_Waiting_append) k_Waiting_append J K (n + 1) 51 L S M = ai_istore 2 52 (am_run (c_Waiting_append) k_Waiting_append J K n) K 51 L S M := rfl
theorem r_Waiting_append_52 {J : aJ} {K : aR} {n : Nat} {L : aL} {S : List Value} {M : aM} : am_run (c_Waiting_append) k_Waiting_append J K (n + 1) 52 L S M = ai_iload 2 53 (am_run (c_Waiting_append) k_Waiting_append J K n) K 52 L S M := rfl
theorem r_Waiting_append_53 {J : aJ} {K : aR} {n : Nat} {L : aL} {S : List Value} {M : aM} : am_run (c_Waiting_append) k_Waiting_append J K (n + 1) 53 L S M = ai_iflt 80 56 (am_run (c_Waiting_append) k_Waiting_append J K n) K 53 L S M := rfl
theorem r_Waiting_append_56 {J : aJ} {K : aR} {n : Nat} {L : aL} {S : List Value} {M : aM} : am_run (c_Waiting_append) k_Waiting_append J K (n + 1) 56 L S M = ai_iload 2 57 (am_run (c_Waiting_append) k_Waiting_append J K n) K 56 L S M := rfl
theorem r_Waiting_append_57 {J : aJ} {K : aR} {n : Nat} {L : aL} {S : List Value} {M : aM} : am_run (c_Waiting_append) k_Waiting_append J K (n + 1) 57 L S M = ai_const 500 60 (am_run (c_Waiting_append) k_Waiting_append J K n) K 57 L S M := rfl
theorem r_Waiting_append_60 {J : aJ} {K : aR} {n : Nat} {L : aL} {S : List Value} {M : aM} : am_run (c_Waiting_append) k_Waiting_append J K (n + 1) 60 L S M = ai_cmpge 80 63 (am_run (c_Waiting_append) k_Waiting_append J K n) K 60 L S M := rfl
theorem r_Waiting_append_63 {J : aJ} {K : aR} {n : Nat} {L : aL} {S : List Value} {M : aM} : am_run (c_Waiting_append) k_Waiting_append J K (n + 1) 63 L S M = ai_aload 0 64 (am_run (c_Waiting_append) k_Waiting_append J K n) K 63 L S M := rfl
theorem r_Waiting_append_64 {J : aJ} {K : aR} {n : Nat} {L : aL} {S : List Value} {M : aM} : am_run (c_Waiting_append) k_Waiting_append J K (n + 1) 64 L S M = ai_getf 4 0 67 (am_run (c_Waiting_append) k_Waiting_append J K n) K 64 L S M := rfl
theorem r_Waiting_append_67 {J : aJ} {K : aR} {n : Nat} {L : aL} {S : List Value} {M : aM} : am_run (c_Waiting_append) k_Waiting_append J K (n + 1) 67 L S M = ai_iload 2 68 (am_run (c_Waiting_append) k_Waiting_append J K n) K 67 L S M := rfl
theorem r_Waiting_append_68 {J : aJ} {K : aR} {n : Nat} {L : aL} {S : List Value} {M : aM} : am_run (c_Waiting_append) k_Waiting_append J K (n + 1) 68 L S M = ai_iload 1 69 (am_run (c_Waiting_append) k_Waiting_append J K n) K 68 L S M := rfl
theorem r_Waiting_append_69 {J : aJ} {K : aR} {n : Nat} {L : aL} {S : List Value} {M : aM} : am_run (c_Waiting_append) k_Waiting_append J K (n + 1) 69 L S M = ai_iast 70 (am_run (c_Waiting_append) k_Waiting_append J K n) K 69 L S M := rfl
theorem r_Waiting_append_70 {J : aJ} {K : aR} {n : Nat} {L : aL} {S : List Value} {M : aM} : am_run (c_Waiting_append) k_Waiting_append J K (n + 1) 70 L S M = ai_aload 0 71 (am_run (c_Waiting_append) k_Waiting_append J K n) K 70 L S M := rfl
theorem r_Waiting_append_71 {J : aJ} {K : aR} {n : Nat} {L : aL} {S : List Value} {M : aM} : am_run (c_Waiting_append) k_Waiting_append J K (n + 1) 71 L S M = ai_dup 72 (am_run (c_Waiting_append) k_Waiting_append J K n) K 71 L S M := rfl
theorem r_Waiting_append_72 {J : aJ} {K : aR} {n : Nat} {L : aL} {S : List Value} {M : aM} : am_run (c_Waiting_append) k_Waiting_append J K (n + 1) 72 L S M = ai_getf 4 2 75 (am_run (c_Waiting_append) k_Waiting_append J K n) K 72 L S M := rfl
theorem r_Waiting_append_75 {J : aJ} {K : aR} {n : Nat} {L : aL} {S : List Value} {M : aM} : am_run (c_Waiting_append) k_Waiting_append J K (n + 1) 75 L S M = ai_const 1 76 (am_run (c_Waiting_append) k_Waiting_append J K n) K 75 L S M := rfl
theorem r_Waiting_append_76 {J : aJ} {K : aR} {n : Nat} {L : aL} {S : List Value} {M : aM} : am_run (c_Waiting_append) k_Waiting_append J K (n + 1) 76 L S M = ai_iadd 77 (am_run (c_Waiting_append) k_Waiting_append J K n) K 76 L S M := rfl
theorem r_Waiting_append_77 {J : aJ} {K : aR} {n : Nat} {L : aL} {S : List Value} {M : aM} : am_run (c_Waiting_append) k_Waiting_append J K (n + 1) 77 L S M = ai_putf 4 2 80 (am_run (c_Waiting_append) k_Waiting_append J K n) K 77 L S M := rfl
theorem r_Waiting_append_80 {J : aJ} {K : aR} {n : Nat} {L : aL} {S : List Value} {M : aM} : am_run (c_Waiting_append) k_Waiting_append J K (n + 1) 80 L S M = ai_vret (am_run (c_Waiting_append) k_Waiting_append J K n) K 80 L S M := rfl
def c_Waiting_take : List (Nat × aI) := [
  (0, ai_aload 0 1),
  (1, ai_getf 4 2 4),
  (4, ai_ifle 24 7),
  (7, ai_aload 0 8),
  (8, ai_getf 4 1 11),
  (11, ai_iflt 24 14),
  (14, ai_aload 0 15),
  (15, ai_getf 4 1 18),
  (18, ai_const 500 21),
  (21, ai_cmplt 26 24),
  (24, ai_const 0 25),
  (25, ai_iret),
  (26, ai_aload 0 27),
  (27, ai_getf 4 0 30),
  (30, ai_aload 0 31),
  (31, ai_getf 4 1 34),
  (34, ai_iald 35),
  (35, ai_istore 1 36),
  (36, ai_aload 0 37),
  (37, ai_aload 0 38),
  (38, ai_getf 4 1 41),
  (41, ai_const 1 42),
  (42, ai_iadd 43),
  (43, ai_const 500 46),
  (46, ai_cmpge 58 49),
  (49, ai_aload 0 50),
  (50, ai_getf 4 1 53),
  (53, ai_const 1 54),
  (54, ai_iadd 55),
  (55, ai_goto 59),
  (58, ai_const 0 59),
  (59, ai_putf 4 1 62),
  (62, ai_aload 0 63),
  (63, ai_dup 64),
  (64, ai_getf 4 2 67),
  (67, ai_const 1 68),
  (68, ai_isub 69),
  (69, ai_putf 4 2 72),
  (72, ai_iload 1 73),
  (73, ai_iret)]
set_option maxRecDepth 100000 in
set_option maxHeartbeats 4000000 in
theorem tb_Waiting_take {G : aG} {d : Nat} : am_tab G Y_Waiting_take d (c_Waiting_take) := by
  intro K p e s m args below meth c C
  exact ⟨as_aload_n C (pc := 0) (q := 0) (by decide +kernel) rfl rfl,
    as_getf C (pc := 1) (T := T_Waiting) (N := 3) rfl in_Waiting (by decide) rfl w_201 (by decide +kernel) rfl,
    as_ifle C (pc := 4) (off := 20) (by decide +kernel) (by decide) rfl,
    as_aload_n C (pc := 7) (q := 0) (by decide +kernel) rfl rfl,
    as_getf C (pc := 8) (T := T_Waiting) (N := 3) rfl in_Waiting (by decide) rfl w_200 (by decide +kernel) rfl,
    as_iflt C (pc := 11) (off := 13) (by decide +kernel) (by decide) rfl,
    as_aload_n C (pc := 14) (q := 0) (by decide +kernel) rfl rfl,
    as_getf C (pc := 15) (T := T_Waiting) (N := 3) rfl in_Waiting (by decide) rfl w_200 (by decide +kernel) rfl,
    as_sipush C (pc := 18) (n := 500) (by decide +kernel) (by decide +kernel) rfl,
    as_cmplt C (pc := 21) (off := 5) (by decide +kernel) (by decide) rfl,
    as_iconst C (pc := 24) (n := 0) (by decide +kernel) (by decide +kernel) rfl,
    as_iret C (pc := 25) rfl (by decide +kernel),
    as_aload_n C (pc := 26) (q := 0) (by decide +kernel) rfl rfl,
    as_getf C (pc := 27) (T := T_Waiting) (N := 3) rfl in_Waiting (by decide) rfl w_199 (by decide +kernel) rfl,
    as_aload_n C (pc := 30) (q := 0) (by decide +kernel) rfl rfl,
    as_getf C (pc := 31) (T := T_Waiting) (N := 3) rfl in_Waiting (by decide) rfl w_200 (by decide +kernel) rfl,
    as_iald C (pc := 34) (by decide +kernel) rfl,
    as_istore_n C (pc := 35) (q := 1) (by decide +kernel) rfl (by decide) rfl,
    as_aload_n C (pc := 36) (q := 0) (by decide +kernel) rfl rfl,
    as_aload_n C (pc := 37) (q := 0) (by decide +kernel) rfl rfl,
    as_getf C (pc := 38) (T := T_Waiting) (N := 3) rfl in_Waiting (by decide) rfl w_200 (by decide +kernel) rfl,
    as_iconst C (pc := 41) (n := 1) (by decide +kernel) (by decide +kernel) rfl,
    as_iadd C (pc := 42) (by decide +kernel) rfl,
    as_sipush C (pc := 43) (n := 500) (by decide +kernel) (by decide +kernel) rfl,
    as_cmpge C (pc := 46) (off := 12) (by decide +kernel) (by decide) rfl,
    as_aload_n C (pc := 49) (q := 0) (by decide +kernel) rfl rfl,
    as_getf C (pc := 50) (T := T_Waiting) (N := 3) rfl in_Waiting (by decide) rfl w_200 (by decide +kernel) rfl,
    as_iconst C (pc := 53) (n := 1) (by decide +kernel) (by decide +kernel) rfl,
    as_iadd C (pc := 54) (by decide +kernel) rfl,
    as_goto C (pc := 55) (off := 4) (by decide +kernel) (by decide),
    as_iconst C (pc := 58) (n := 0) (by decide +kernel) (by decide +kernel) rfl,
    as_putf C (pc := 59) t_Waiting (T := T_Waiting) (N := 3) rfl in_Waiting tok_Waiting nm_Waiting (by decide) rfl rfl (by decide +kernel) w_200 (by decide +kernel) rfl,
    as_aload_n C (pc := 62) (q := 0) (by decide +kernel) rfl rfl,
    as_dup C (pc := 63) (by decide +kernel) rfl,
    as_getf C (pc := 64) (T := T_Waiting) (N := 3) rfl in_Waiting (by decide) rfl w_201 (by decide +kernel) rfl,
    as_iconst C (pc := 67) (n := 1) (by decide +kernel) (by decide +kernel) rfl,
    as_isub C (pc := 68) (by decide +kernel) rfl,
    as_putf C (pc := 69) t_Waiting (T := T_Waiting) (N := 3) rfl in_Waiting tok_Waiting nm_Waiting (by decide) rfl rfl (by decide +kernel) w_201 (by decide +kernel) rfl,
    as_iload_n C (pc := 72) (q := 1) (by decide +kernel) rfl rfl,
    as_iret C (pc := 73) rfl (by decide +kernel), trivial⟩
abbrev k_Waiting_take : List Nat := []
theorem r_Waiting_take_0 {J : aJ} {K : aR} {n : Nat} {L : aL} {S : List Value} {M : aM} : am_run (c_Waiting_take) k_Waiting_take J K (n + 1) 0 L S M = ai_aload 0 1 (am_run (c_Waiting_take) k_Waiting_take J K n) K 0 L S M := rfl
theorem r_Waiting_take_1 {J : aJ} {K : aR} {n : Nat} {L : aL} {S : List Value} {M : aM} : am_run (c_Waiting_take) k_Waiting_take J K (n + 1) 1 L S M = ai_getf 4 2 4 (am_run (c_Waiting_take) k_Waiting_take J K n) K 1 L S M := rfl
theorem r_Waiting_take_4 {J : aJ} {K : aR} {n : Nat} {L : aL} {S : List Value} {M : aM} : am_run (c_Waiting_take) k_Waiting_take J K (n + 1) 4 L S M = ai_ifle 24 7 (am_run (c_Waiting_take) k_Waiting_take J K n) K 4 L S M := rfl
theorem r_Waiting_take_7 {J : aJ} {K : aR} {n : Nat} {L : aL} {S : List Value} {M : aM} : am_run (c_Waiting_take) k_Waiting_take J K (n + 1) 7 L S M = ai_aload 0 8 (am_run (c_Waiting_take) k_Waiting_take J K n) K 7 L S M := rfl
theorem r_Waiting_take_8 {J : aJ} {K : aR} {n : Nat} {L : aL} {S : List Value} {M : aM} : am_run (c_Waiting_take) k_Waiting_take J K (n + 1) 8 L S M = ai_getf 4 1 11 (am_run (c_Waiting_take) k_Waiting_take J K n) K 8 L S M := rfl
theorem r_Waiting_take_11 {J : aJ} {K : aR} {n : Nat} {L : aL} {S : List Value} {M : aM} : am_run (c_Waiting_take) k_Waiting_take J K (n + 1) 11 L S M = ai_iflt 24 14 (am_run (c_Waiting_take) k_Waiting_take J K n) K 11 L S M := rfl
theorem r_Waiting_take_14 {J : aJ} {K : aR} {n : Nat} {L : aL} {S : List Value} {M : aM} : am_run (c_Waiting_take) k_Waiting_take J K (n + 1) 14 L S M = ai_aload 0 15 (am_run (c_Waiting_take) k_Waiting_take J K n) K 14 L S M := rfl
theorem r_Waiting_take_15 {J : aJ} {K : aR} {n : Nat} {L : aL} {S : List Value} {M : aM} : am_run (c_Waiting_take) k_Waiting_take J K (n + 1) 15 L S M = ai_getf 4 1 18 (am_run (c_Waiting_take) k_Waiting_take J K n) K 15 L S M := rfl
theorem r_Waiting_take_18 {J : aJ} {K : aR} {n : Nat} {L : aL} {S : List Value} {M : aM} : am_run (c_Waiting_take) k_Waiting_take J K (n + 1) 18 L S M = ai_const 500 21 (am_run (c_Waiting_take) k_Waiting_take J K n) K 18 L S M := rfl
theorem r_Waiting_take_21 {J : aJ} {K : aR} {n : Nat} {L : aL} {S : List Value} {M : aM} : am_run (c_Waiting_take) k_Waiting_take J K (n + 1) 21 L S M = ai_cmplt 26 24 (am_run (c_Waiting_take) k_Waiting_take J K n) K 21 L S M := rfl
theorem r_Waiting_take_24 {J : aJ} {K : aR} {n : Nat} {L : aL} {S : List Value} {M : aM} : am_run (c_Waiting_take) k_Waiting_take J K (n + 1) 24 L S M = ai_const 0 25 (am_run (c_Waiting_take) k_Waiting_take J K n) K 24 L S M := rfl
theorem r_Waiting_take_25 {J : aJ} {K : aR} {n : Nat} {L : aL} {S : List Value} {M : aM} : am_run (c_Waiting_take) k_Waiting_take J K (n + 1) 25 L S M = ai_iret (am_run (c_Waiting_take) k_Waiting_take J K n) K 25 L S M := rfl
theorem r_Waiting_take_26 {J : aJ} {K : aR} {n : Nat} {L : aL} {S : List Value} {M : aM} : am_run (c_Waiting_take) k_Waiting_take J K (n + 1) 26 L S M = ai_aload 0 27 (am_run (c_Waiting_take) k_Waiting_take J K n) K 26 L S M := rfl
theorem r_Waiting_take_27 {J : aJ} {K : aR} {n : Nat} {L : aL} {S : List Value} {M : aM} : am_run (c_Waiting_take) k_Waiting_take J K (n + 1) 27 L S M = ai_getf 4 0 30 (am_run (c_Waiting_take) k_Waiting_take J K n) K 27 L S M := rfl
theorem r_Waiting_take_30 {J : aJ} {K : aR} {n : Nat} {L : aL} {S : List Value} {M : aM} : am_run (c_Waiting_take) k_Waiting_take J K (n + 1) 30 L S M = ai_aload 0 31 (am_run (c_Waiting_take) k_Waiting_take J K n) K 30 L S M := rfl
theorem r_Waiting_take_31 {J : aJ} {K : aR} {n : Nat} {L : aL} {S : List Value} {M : aM} : am_run (c_Waiting_take) k_Waiting_take J K (n + 1) 31 L S M = ai_getf 4 1 34 (am_run (c_Waiting_take) k_Waiting_take J K n) K 31 L S M := rfl
theorem r_Waiting_take_34 {J : aJ} {K : aR} {n : Nat} {L : aL} {S : List Value} {M : aM} : am_run (c_Waiting_take) k_Waiting_take J K (n + 1) 34 L S M = ai_iald 35 (am_run (c_Waiting_take) k_Waiting_take J K n) K 34 L S M := rfl
theorem r_Waiting_take_35 {J : aJ} {K : aR} {n : Nat} {L : aL} {S : List Value} {M : aM} : am_run (c_Waiting_take) k_Waiting_take J K (n + 1) 35 L S M = ai_istore 1 36 (am_run (c_Waiting_take) k_Waiting_take J K n) K 35 L S M := rfl
theorem r_Waiting_take_36 {J : aJ} {K : aR} {n : Nat} {L : aL} {S : List Value} {M : aM} : am_run (c_Waiting_take) k_Waiting_take J K (n + 1) 36 L S M = ai_aload 0 37 (am_run (c_Waiting_take) k_Waiting_take J K n) K 36 L S M := rfl
theorem r_Waiting_take_37 {J : aJ} {K : aR} {n : Nat} {L : aL} {S : List Value} {M : aM} : am_run (c_Waiting_take) k_Waiting_take J K (n + 1) 37 L S M = ai_aload 0 38 (am_run (c_Waiting_take) k_Waiting_take J K n) K 37 L S M := rfl
theorem r_Waiting_take_38 {J : aJ} {K : aR} {n : Nat} {L : aL} {S : List Value} {M : aM} : am_run (c_Waiting_take) k_Waiting_take J K (n + 1) 38 L S M = ai_getf 4 1 41 (am_run (c_Waiting_take) k_Waiting_take J K n) K 38 L S M := rfl
theorem r_Waiting_take_41 {J : aJ} {K : aR} {n : Nat} {L : aL} {S : List Value} {M : aM} : am_run (c_Waiting_take) k_Waiting_take J K (n + 1) 41 L S M = ai_const 1 42 (am_run (c_Waiting_take) k_Waiting_take J K n) K 41 L S M := rfl
theorem r_Waiting_take_42 {J : aJ} {K : aR} {n : Nat} {L : aL} {S : List Value} {M : aM} : am_run (c_Waiting_take) k_Waiting_take J K (n + 1) 42 L S M = ai_iadd 43 (am_run (c_Waiting_take) k_Waiting_take J K n) K 42 L S M := rfl
theorem r_Waiting_take_43 {J : aJ} {K : aR} {n : Nat} {L : aL} {S : List Value} {M : aM} : am_run (c_Waiting_take) k_Waiting_take J K (n + 1) 43 L S M = ai_const 500 46 (am_run (c_Waiting_take) k_Waiting_take J K n) K 43 L S M := rfl
theorem r_Waiting_take_46 {J : aJ} {K : aR} {n : Nat} {L : aL} {S : List Value} {M : aM} : am_run (c_Waiting_take) k_Waiting_take J K (n + 1) 46 L S M = ai_cmpge 58 49 (am_run (c_Waiting_take) k_Waiting_take J K n) K 46 L S M := rfl
theorem r_Waiting_take_49 {J : aJ} {K : aR} {n : Nat} {L : aL} {S : List Value} {M : aM} : am_run (c_Waiting_take) k_Waiting_take J K (n + 1) 49 L S M = ai_aload 0 50 (am_run (c_Waiting_take) k_Waiting_take J K n) K 49 L S M := rfl
theorem r_Waiting_take_50 {J : aJ} {K : aR} {n : Nat} {L : aL} {S : List Value} {M : aM} : am_run (c_Waiting_take) k_Waiting_take J K (n + 1) 50 L S M = ai_getf 4 1 53 (am_run (c_Waiting_take) k_Waiting_take J K n) K 50 L S M := rfl
theorem r_Waiting_take_53 {J : aJ} {K : aR} {n : Nat} {L : aL} {S : List Value} {M : aM} : am_run (c_Waiting_take) k_Waiting_take J K (n + 1) 53 L S M = ai_const 1 54 (am_run (c_Waiting_take) k_Waiting_take J K n) K 53 L S M := rfl
theorem r_Waiting_take_54 {J : aJ} {K : aR} {n : Nat} {L : aL} {S : List Value} {M : aM} : am_run (c_Waiting_take) k_Waiting_take J K (n + 1) 54 L S M = ai_iadd 55 (am_run (c_Waiting_take) k_Waiting_take J K n) K 54 L S M := rfl
theorem r_Waiting_take_55 {J : aJ} {K : aR} {n : Nat} {L : aL} {S : List Value} {M : aM} : am_run (c_Waiting_take) k_Waiting_take J K (n + 1) 55 L S M = ai_goto 59 (am_run (c_Waiting_take) k_Waiting_take J K n) K 55 L S M := rfl
theorem r_Waiting_take_58 {J : aJ} {K : aR} {n : Nat} {L : aL} {S : List Value} {M : aM} : am_run (c_Waiting_take) k_Waiting_take J K (n + 1) 58 L S M = ai_const 0 59 (am_run (c_Waiting_take) k_Waiting_take J K n) K 58 L S M := rfl
theorem r_Waiting_take_59 {J : aJ} {K : aR} {n : Nat} {L : aL} {S : List Value} {M : aM} : am_run (c_Waiting_take) k_Waiting_take J K (n + 1) 59 L S M = ai_putf 4 1 62 (am_run (c_Waiting_take) k_Waiting_take J K n) K 59 L S M := rfl
theorem r_Waiting_take_62 {J : aJ} {K : aR} {n : Nat} {L : aL} {S : List Value} {M : aM} : am_run (c_Waiting_take) k_Waiting_take J K (n + 1) 62 L S M = ai_aload 0 63 (am_run (c_Waiting_take) k_Waiting_take J K n) K 62 L S M := rfl
theorem r_Waiting_take_63 {J : aJ} {K : aR} {n : Nat} {L : aL} {S : List Value} {M : aM} : am_run (c_Waiting_take) k_Waiting_take J K (n + 1) 63 L S M = ai_dup 64 (am_run (c_Waiting_take) k_Waiting_take J K n) K 63 L S M := rfl
theorem r_Waiting_take_64 {J : aJ} {K : aR} {n : Nat} {L : aL} {S : List Value} {M : aM} : am_run (c_Waiting_take) k_Waiting_take J K (n + 1) 64 L S M = ai_getf 4 2 67 (am_run (c_Waiting_take) k_Waiting_take J K n) K 64 L S M := rfl
theorem r_Waiting_take_67 {J : aJ} {K : aR} {n : Nat} {L : aL} {S : List Value} {M : aM} : am_run (c_Waiting_take) k_Waiting_take J K (n + 1) 67 L S M = ai_const 1 68 (am_run (c_Waiting_take) k_Waiting_take J K n) K 67 L S M := rfl
theorem r_Waiting_take_68 {J : aJ} {K : aR} {n : Nat} {L : aL} {S : List Value} {M : aM} : am_run (c_Waiting_take) k_Waiting_take J K (n + 1) 68 L S M = ai_isub 69 (am_run (c_Waiting_take) k_Waiting_take J K n) K 68 L S M := rfl
theorem r_Waiting_take_69 {J : aJ} {K : aR} {n : Nat} {L : aL} {S : List Value} {M : aM} : am_run (c_Waiting_take) k_Waiting_take J K (n + 1) 69 L S M = ai_putf 4 2 72 (am_run (c_Waiting_take) k_Waiting_take J K n) K 69 L S M := rfl
theorem r_Waiting_take_72 {J : aJ} {K : aR} {n : Nat} {L : aL} {S : List Value} {M : aM} : am_run (c_Waiting_take) k_Waiting_take J K (n + 1) 72 L S M = ai_iload 1 73 (am_run (c_Waiting_take) k_Waiting_take J K n) K 72 L S M := rfl
theorem r_Waiting_take_73 {J : aJ} {K : aR} {n : Nat} {L : aL} {S : List Value} {M : aM} : am_run (c_Waiting_take) k_Waiting_take J K (n + 1) 73 L S M = ai_iret (am_run (c_Waiting_take) k_Waiting_take J K n) K 73 L S M := rfl
end
section
/-! THE TEXT: its methods -/
def b2 (p : Bool) : Int32 := if p = true then 1 else 0
abbrev cl (x : Int32) : Nat := x.toNatClampNeg
def dgB (b : Int32) : Bool := !(decide (b < 48)) && !(decide (57 < b))
def wB (b : Int32) : Bool := (!(decide (b < 97)) && !(decide (122 < b))) || (!(decide (b < 48)) && !(decide (57 < b))) || decide (b = 33) || decide (b = 42) || decide (b = 43) || decide (b = 45) || decide (b = 47) || decide (b = 60) || decide (b = 61) || decide (b = 62) || decide (b = 63)
theorem vin_lt {p : Int32} {n : Nat} (h0 : ¬ p < 0) (h : p < nI n) (hn : n < 2 ^ 31) : vp_in p n := by
  obtain ⟨j, hj, rfl⟩ := nI_of h0
  exact vp_in_nI ((nI_ltI hj hn).mp h) hn
theorem iLT {x y : Int32} (a b : Nat) (ha : a < 2 ^ 31) (hb : b < 2 ^ 31) (hx : x = nI a := by rfl) (hy : y = nI b := by rfl) : (x < y) = (a < b) := by
  subst hx; subst hy; exact propext (nI_ltI ha hb)
theorem iLE {x y : Int32} (a b : Nat) (ha : a < 2 ^ 31) (hb : b < 2 ^ 31) (hx : x = nI a := by rfl) (hy : y = nI b := by rfl) : (x ≤ y) = (a ≤ b) := by
  subst hx; subst hy; exact propext (nI_leI ha hb)
theorem iEQ {x y : Int32} (a b : Nat) (ha : a < 2 ^ 31) (hb : b < 2 ^ 31) (hx : x = nI a := by rfl) (hy : y = nI b := by rfl) : (x = y) = (a = b) := by
  subst hx; subst hy; exact propext (nI_eq ha hb)
/-- the length of the text, as a number; it is one -/
def tl (M : aM) : Nat := cl (M 1 1)
def tx_ok (M : aM) : Prop := M 1 1 = nI (tl M) ∧ tl M ≤ 400
/-- an int that is a small number -/
def sm (x : Int32) (n : Nat) : Prop := x = nI (cl x) ∧ cl x ≤ n
theorem sm_nI {i n : Nat} (h : i ≤ n) (hn : n < 2 ^ 31) : sm (nI i) n := ⟨by rw [show cl (nI i) = i from nI_clamp (by omega)], by rw [show cl (nI i) = i from nI_clamp (by omega)]; exact h⟩
def f_at (M : aM) (p : Int32) : Int32 := if p < 0 then -1 else if p < M 1 1 then (if p < 400 then M 2 p.toNatClampNeg else -1) else -1
def sp_Text_at : aS := fun as M K => match as with
  | [.ref a, .int p] => a = 1 ∧ K (some (.int (f_at M p))) M
  | _ => False
set_option maxRecDepth 100000 in
set_option maxHeartbeats 4000000 in
theorem ok_Text_at {G : aG} (hG : am_ok G) : am_Sp G Y_Text_at 0 sp_Text_at := by
  intro as M K h
  unfold sp_Text_at at h
  split at h
  · next a p =>
    obtain ⟨rfl, h⟩ := h
    refine am_entry hG (by decide +kernel) (Nat.le_of_ble_eq_true rfl) ?_
    refine am_go (cuts := k_Text_at) tb_Text_at 400 _ _ _ _ ?_
    change am_run _ _ _ _ _ _ [some (.ref 1), some (.int p)] [] _
    simp only [r_Text_at_0, r_Text_at_1, r_Text_at_4, r_Text_at_5, r_Text_at_6, r_Text_at_9, r_Text_at_12, r_Text_at_13, r_Text_at_16, r_Text_at_19, r_Text_at_20, r_Text_at_23, r_Text_at_24, r_Text_at_25, r_Text_at_28, r_Text_at_29, ai_iload, ai_iflt, ai_aload, ai_getf, ai_cmpge, ai_const, ai_iald, ai_goto, ai_iret, kd_0, fd_0_0, fd_0_1, fd_0_2, fd_0_3, fd_0_4, kd_1, fd_1_0, fd_1_1, ln_2, kd_3, fd_3_0, fd_3_1, fd_3_2, fd_3_3, fd_3_4, fd_3_5, fd_3_6, fd_3_7, fd_3_8, fd_3_9, ln_4, ln_5, ln_6, ln_7, ln_8, ln_9, ln_10, kd_11, fd_11_0, fd_11_1, fd_11_2, fd_11_3, fd_11_4, kd_12, fd_12_0, fd_12_1, fd_12_2, fd_12_3, ln_13, ln_14, ln_15, kd_16, fd_16_0, fd_16_1, fd_16_2, ln_17, kd_18, fd_18_0, fd_18_1, kd_19, fd_19_0, fd_19_1, fd_19_2, fd_19_3, fd_19_4, fd_19_5, fd_19_6, fd_19_7, fd_19_8, fd_19_9, fd_19_10, fd_19_11, fd_19_12, fd_19_13, fd_19_14, fd_19_15, fd_19_16, fd_19_17, fd_19_18, fd_19_19, fd_19_20, ln_20, ln_21, ln_22, ln_23, ln_24, ln_25, ln_26, ln_27, ln_28, ln_29, ln_30, ln_31, ln_32, List.getElem?_cons_zero, List.getElem?_cons_succ, List.set_cons_zero, List.set_cons_succ, true_and, and_true, ↓reduceIte, Int32.reduceLT, Int32.reduceLE, li_10, or_true, true_or]
    unfold f_at at h
    split
    · next h1 => rw [if_pos h1] at h; exact h
    · next h1 =>
      rw [if_neg h1] at h
      split
      · next h2 =>
        rw [if_pos h2] at h
        split
        · next h3 => rw [if_pos h3] at h; exact ⟨vin_lt h1 h3 (by decide), h⟩
        · next h3 => rw [if_neg h3] at h; exact h
      · next h2 => rw [if_neg h2] at h; exact h
  · cases h
def sp_Text_isDigit : aS := fun as M K => match as with
  | [.int b] => K (some (.int (b2 (dgB b)))) M
  | _ => False
set_option maxRecDepth 100000 in
set_option maxHeartbeats 4000000 in
theorem ok_Text_isDigit {G : aG} (hG : am_ok G) : am_Sp G Y_Text_isDigit 0 sp_Text_isDigit := by
  intro as M K h
  unfold sp_Text_isDigit at h
  split at h
  · next b =>
    refine am_entry hG (by decide +kernel) (Nat.le_of_ble_eq_true rfl) ?_
    refine am_go (cuts := k_Text_isDigit) tb_Text_isDigit 400 _ _ _ _ ?_
    change am_run _ _ _ _ _ _ [some (.int b)] [] _
    simp only [r_Text_isDigit_0, r_Text_isDigit_1, r_Text_isDigit_3, r_Text_isDigit_6, r_Text_isDigit_7, r_Text_isDigit_9, r_Text_isDigit_12, r_Text_isDigit_13, r_Text_isDigit_16, r_Text_isDigit_17, ai_iload, ai_const, ai_cmplt, ai_cmpgt, ai_goto, ai_zret, List.getElem?_cons_zero, List.getElem?_cons_succ, List.set_cons_zero, List.set_cons_succ, true_and, and_true, ↓reduceIte, Int32.reduceLT, Int32.reduceLE, li_10, or_true, true_or]
    unfold dgB at h
    (repeat' split) <;> simp_all [b2]
  · cases h
def sp_Text_isWordByte : aS := fun as M K => match as with
  | [.int b] => K (some (.int (b2 (wB b)))) M
  | _ => False
set_option maxRecDepth 100000 in
set_option maxHeartbeats 4000000 in
theorem ok_Text_isWordByte {G : aG} (hG : am_ok G) : am_Sp G Y_Text_isWordByte 0 sp_Text_isWordByte := by
  intro as M K h
  unfold sp_Text_isWordByte at h
  split at h
  · next b =>
    refine am_entry hG (by decide +kernel) (Nat.le_of_ble_eq_true rfl) ?_
    refine am_go (cuts := k_Text_isWordByte) tb_Text_isWordByte 400 _ _ _ _ ?_
    change am_run _ _ _ _ _ _ [some (.int b)] [] _
    simp only [r_Text_isWordByte_0, r_Text_isWordByte_1, r_Text_isWordByte_3, r_Text_isWordByte_6, r_Text_isWordByte_7, r_Text_isWordByte_9, r_Text_isWordByte_12, r_Text_isWordByte_13, r_Text_isWordByte_15, r_Text_isWordByte_18, r_Text_isWordByte_19, r_Text_isWordByte_21, r_Text_isWordByte_24, r_Text_isWordByte_25, r_Text_isWordByte_26, r_Text_isWordByte_27, r_Text_isWordByte_164, r_Text_isWordByte_165, r_Text_isWordByte_166, r_Text_isWordByte_167, ai_iload, ai_const, ai_cmplt, ai_cmple, ai_cmpgt, ai_zret, ai_switch, am_sw, List.getElem?_cons_zero, List.getElem?_cons_succ, List.set_cons_zero, List.set_cons_succ, true_and, and_true, ↓reduceIte, Int32.reduceLT, Int32.reduceLE, li_10, or_true, true_or]
    by_cases s : b = 33 ∨ b = 42 ∨ b = 43 ∨ b = 45 ∨ b = 47 ∨ b = 60 ∨ b = 61 ∨ b = 62 ∨ b = 63
    · rcases s with rfl | rfl | rfl | rfl | rfl | rfl | rfl | rfl | rfl <;> exact h
    · simp only [not_or] at s
      obtain ⟨s1, s2, s3, s4, s5, s6, s7, s8, s9⟩ := s
      simp only [s1, s2, s3, s4, s5, s6, s7, s8, s9, ↓reduceIte, ite_self]
      by_cases c1 : b < 97
      · by_cases c2 : b < 48
        · rw [show wB b = false by simp only [wB, c1, c2, s1, s2, s3, s4, s5, s6, s7, s8, s9]; rfl] at h
          rw [if_pos c1, if_pos c2]; exact h
        · by_cases c3 : 57 < b
          · rw [show wB b = false by simp only [wB, c1, c2, c3, s1, s2, s3, s4, s5, s6, s7, s8, s9]; rfl] at h
            rw [if_pos c1, if_neg c2, if_pos c3]; exact h
          · rw [show wB b = true by simp only [wB, c1, c2, c3, s1, s2, s3, s4, s5, s6, s7, s8, s9]; rfl] at h
            rw [if_pos c1, if_neg c2, if_neg c3]; exact h
      · by_cases c0 : 122 < b
        · by_cases c2 : b < 48
          · rw [show wB b = false by simp only [wB, c0, c1, c2, s1, s2, s3, s4, s5, s6, s7, s8, s9]; rfl] at h
            rw [if_neg c1, if_pos c0, if_pos c2]; exact h
          · by_cases c3 : 57 < b
            · rw [show wB b = false by simp only [wB, c0, c1, c2, c3, s1, s2, s3, s4, s5, s6, s7, s8, s9]; rfl] at h
              rw [if_neg c1, if_pos c0, if_neg c2, if_pos c3]; exact h
            · rw [show wB b = true by simp only [wB, c0, c1, c2, c3, s1, s2, s3, s4, s5, s6, s7, s8, s9]; rfl] at h
              rw [if_neg c1, if_pos c0, if_neg c2, if_neg c3]; exact h
        · rw [show wB b = true by simp only [wB, c0, c1]; rfl] at h
          rw [if_neg c1, if_neg c0]; exact h
  · cases h
/-- where the blanks and remarks from i on end; k: how many bytes are left; cm: in a remark -/
def skB (t : Nat → Int32) : Nat → Bool → Nat → Nat
  | 0, _, i => i
  | k + 1, cm, i => if (decide (t i = 59) || (cm && !decide (t i = 10))) = true then skB t k true (i + 1) else if t i = 10 ∨ t i = 32 then skB t k false (i + 1) else i
theorem skB_le (t : Nat → Int32) : ∀ (k : Nat) (cm : Bool) (i : Nat), i ≤ skB t k cm i ∧ skB t k cm i ≤ i + k
  | 0, _, i => ⟨Nat.le_refl i, Nat.le_refl i⟩
  | k + 1, cm, i => by
    have h1 := skB_le t k true (i + 1)
    have h2 := skB_le t k false (i + 1)
    simp only [skB]
    split
    · omega
    · split <;> omega
theorem f_at_nI {M : aM} {i : Nat} (h : tx_ok M) (hi : i < 2 ^ 31) : f_at M (nI i) = if i < tl M then M 2 i else -1 := by
  obtain ⟨h1, h2⟩ := h
  unfold f_at
  rw [if_neg (nI_pos hi), h1]
  by_cases q : i < tl M
  · rw [if_pos ((nI_ltI hi (by omega)).mpr q), if_pos q, if_pos (show nI i < 400 from (nI_ltI (b := 400) hi (by decide)).mpr (by omega)), nI_clamp hi]
  · rw [if_neg (fun z => q ((nI_ltI hi (by omega)).mp z)), if_neg q]
def f_skip (M : aM) (i : Nat) : Nat := skB (M 2) (tl M - i) false i
def sp_Text_skipBlanks : aS := fun as M K => match as with
  | [.ref a, .int p] => a = 1 ∧ (tx_ok M ∧ sm p (tl M)) ∧ K (some (.int (nI (f_skip M (cl p))))) M
  | _ => False
set_option maxRecDepth 100000 in
set_option maxHeartbeats 4000000 in
theorem lp_Text_skipBlanks {G : aG} (hG : am_ok G) {K : aR} {M : aM} (hn : tx_ok M) {p : Int32} : ∀ (k i : Nat) (cm : Bool) (o : Option Value), i + k = tl M → K (some (.int (nI (skB (M 2) k cm i)))) M → am_X G Y_Text_skipBlanks 1 K 4 [some (.ref 1), some (.int p), some (.int (b2 cm)), some (.int (nI i)), o] [] M := by
  intro k
  have hn2 := hn.2
  induction k with
  | zero =>
    intro i cm o hk h
    have e1 : ¬ nI i < M 1 1 := by rw [hn.1]; exact nI_nlt (by omega) (by omega)
    refine am_from (tb_Text_skipBlanks (ok_Text_at hG) (by decide)) k_Text_skipBlanks 400 ?_
    simp only [q_Text_skipBlanks_4, r_Text_skipBlanks_0, r_Text_skipBlanks_1, r_Text_skipBlanks_2, r_Text_skipBlanks_3, r_Text_skipBlanks_4, r_Text_skipBlanks_5, r_Text_skipBlanks_6, r_Text_skipBlanks_9, r_Text_skipBlanks_12, r_Text_skipBlanks_13, r_Text_skipBlanks_14, r_Text_skipBlanks_17, r_Text_skipBlanks_19, r_Text_skipBlanks_21, r_Text_skipBlanks_23, r_Text_skipBlanks_26, r_Text_skipBlanks_27, r_Text_skipBlanks_30, r_Text_skipBlanks_32, r_Text_skipBlanks_34, r_Text_skipBlanks_37, r_Text_skipBlanks_38, r_Text_skipBlanks_41, r_Text_skipBlanks_42, r_Text_skipBlanks_43, r_Text_skipBlanks_44, r_Text_skipBlanks_47, r_Text_skipBlanks_49, r_Text_skipBlanks_51, r_Text_skipBlanks_54, r_Text_skipBlanks_56, r_Text_skipBlanks_58, r_Text_skipBlanks_61, r_Text_skipBlanks_62, r_Text_skipBlanks_63, r_Text_skipBlanks_66, r_Text_skipBlanks_69, r_Text_skipBlanks_70, ai_const, ai_istore, am_cut_0, am_cut_s, am_c1, ai_iload, ai_aload, ai_getf, ai_cmpge, ai_callv2, am_push, am_few, ai_cmpeq, ai_ifeq, ai_goto, ai_ifne, ai_iret, ai_iinc, kd_0, fd_0_0, fd_0_1, fd_0_2, fd_0_3, fd_0_4, kd_1, fd_1_0, fd_1_1, ln_2, kd_3, fd_3_0, fd_3_1, fd_3_2, fd_3_3, fd_3_4, fd_3_5, fd_3_6, fd_3_7, fd_3_8, fd_3_9, ln_4, ln_5, ln_6, ln_7, ln_8, ln_9, ln_10, kd_11, fd_11_0, fd_11_1, fd_11_2, fd_11_3, fd_11_4, kd_12, fd_12_0, fd_12_1, fd_12_2, fd_12_3, ln_13, ln_14, ln_15, kd_16, fd_16_0, fd_16_1, fd_16_2, ln_17, kd_18, fd_18_0, fd_18_1, kd_19, fd_19_0, fd_19_1, fd_19_2, fd_19_3, fd_19_4, fd_19_5, fd_19_6, fd_19_7, fd_19_8, fd_19_9, fd_19_10, fd_19_11, fd_19_12, fd_19_13, fd_19_14, fd_19_15, fd_19_16, fd_19_17, fd_19_18, fd_19_19, fd_19_20, ln_20, ln_21, ln_22, ln_23, ln_24, ln_25, ln_26, ln_27, ln_28, ln_29, ln_30, ln_31, ln_32, List.getElem?_cons_zero, List.getElem?_cons_succ, List.set_cons_zero, List.set_cons_succ, true_and, and_true, ↓reduceIte, Int32.reduceLT, Int32.reduceLE, li_10, or_true, true_or, ↓sp_Text_at, e1]
    exact h
  | succ k ih =>
    intro i cm o hk h
    have e1 : nI i < M 1 1 := by rw [hn.1]; exact nI_lt (by omega) (by omega)
    have e2 : f_at M (nI i) = M 2 i := by rw [f_at_nI hn (by omega), if_pos (by omega)]
    refine am_from (tb_Text_skipBlanks (ok_Text_at hG) (by decide)) k_Text_skipBlanks 400 ?_
    simp only [q_Text_skipBlanks_4, r_Text_skipBlanks_0, r_Text_skipBlanks_1, r_Text_skipBlanks_2, r_Text_skipBlanks_3, r_Text_skipBlanks_4, r_Text_skipBlanks_5, r_Text_skipBlanks_6, r_Text_skipBlanks_9, r_Text_skipBlanks_12, r_Text_skipBlanks_13, r_Text_skipBlanks_14, r_Text_skipBlanks_17, r_Text_skipBlanks_19, r_Text_skipBlanks_21, r_Text_skipBlanks_23, r_Text_skipBlanks_26, r_Text_skipBlanks_27, r_Text_skipBlanks_30, r_Text_skipBlanks_32, r_Text_skipBlanks_34, r_Text_skipBlanks_37, r_Text_skipBlanks_38, r_Text_skipBlanks_41, r_Text_skipBlanks_42, r_Text_skipBlanks_43, r_Text_skipBlanks_44, r_Text_skipBlanks_47, r_Text_skipBlanks_49, r_Text_skipBlanks_51, r_Text_skipBlanks_54, r_Text_skipBlanks_56, r_Text_skipBlanks_58, r_Text_skipBlanks_61, r_Text_skipBlanks_62, r_Text_skipBlanks_63, r_Text_skipBlanks_66, r_Text_skipBlanks_69, r_Text_skipBlanks_70, ai_const, ai_istore, am_cut_0, am_cut_s, am_c1, ai_iload, ai_aload, ai_getf, ai_cmpge, ai_callv2, am_push, am_few, ai_cmpeq, ai_ifeq, ai_goto, ai_ifne, ai_iret, ai_iinc, kd_0, fd_0_0, fd_0_1, fd_0_2, fd_0_3, fd_0_4, kd_1, fd_1_0, fd_1_1, ln_2, kd_3, fd_3_0, fd_3_1, fd_3_2, fd_3_3, fd_3_4, fd_3_5, fd_3_6, fd_3_7, fd_3_8, fd_3_9, ln_4, ln_5, ln_6, ln_7, ln_8, ln_9, ln_10, kd_11, fd_11_0, fd_11_1, fd_11_2, fd_11_3, fd_11_4, kd_12, fd_12_0, fd_12_1, fd_12_2, fd_12_3, ln_13, ln_14, ln_15, kd_16, fd_16_0, fd_16_1, fd_16_2, ln_17, kd_18, fd_18_0, fd_18_1, kd_19, fd_19_0, fd_19_1, fd_19_2, fd_19_3, fd_19_4, fd_19_5, fd_19_6, fd_19_7, fd_19_8, fd_19_9, fd_19_10, fd_19_11, fd_19_12, fd_19_13, fd_19_14, fd_19_15, fd_19_16, fd_19_17, fd_19_18, fd_19_19, fd_19_20, ln_20, ln_21, ln_22, ln_23, ln_24, ln_25, ln_26, ln_27, ln_28, ln_29, ln_30, ln_31, ln_32, List.getElem?_cons_zero, List.getElem?_cons_succ, List.set_cons_zero, List.set_cons_succ, true_and, and_true, ↓reduceIte, Int32.reduceLT, Int32.reduceLE, li_10, or_true, true_or, ↓sp_Text_at, e1, e2, nI_1]
    simp only [skB] at h
    have g1 := ih (i + 1) true (some (.int (M 2 i))) (by omega)
    have g2 := ih (i + 1) false (some (.int (M 2 i))) (by omega)
    cases cm <;> by_cases c1 : M 2 i = 59 <;> by_cases c2 : M 2 i = 10 <;> by_cases c3 : M 2 i = 32 <;> simp [c1, c2, c3, b2] at h g1 g2 ⊢ <;> first | exact h | exact g1 h | exact g2 h
set_option maxRecDepth 100000 in
set_option maxHeartbeats 4000000 in
theorem ok_Text_skipBlanks {G : aG} (hG : am_ok G) : am_Sp G Y_Text_skipBlanks 1 sp_Text_skipBlanks := by
  intro as M K h
  unfold sp_Text_skipBlanks at h
  split at h
  · next a p =>
    obtain ⟨rfl, ⟨hn, hp⟩, h⟩ := h
    refine am_entry hG (by decide +kernel) (Nat.le_of_ble_eq_true rfl) ?_
    refine am_go (cuts := k_Text_skipBlanks) (tb_Text_skipBlanks (ok_Text_at hG) (by decide)) 400 _ _ _ _ ?_
    change am_run _ _ _ _ _ _ [some (.ref 1), some (.int p), none, none, none] [] _
    simp only [q_Text_skipBlanks_4, r_Text_skipBlanks_0, r_Text_skipBlanks_1, r_Text_skipBlanks_2, r_Text_skipBlanks_3, r_Text_skipBlanks_4, r_Text_skipBlanks_5, r_Text_skipBlanks_6, r_Text_skipBlanks_9, r_Text_skipBlanks_12, r_Text_skipBlanks_13, r_Text_skipBlanks_14, r_Text_skipBlanks_17, r_Text_skipBlanks_19, r_Text_skipBlanks_21, r_Text_skipBlanks_23, r_Text_skipBlanks_26, r_Text_skipBlanks_27, r_Text_skipBlanks_30, r_Text_skipBlanks_32, r_Text_skipBlanks_34, r_Text_skipBlanks_37, r_Text_skipBlanks_38, r_Text_skipBlanks_41, r_Text_skipBlanks_42, r_Text_skipBlanks_43, r_Text_skipBlanks_44, r_Text_skipBlanks_47, r_Text_skipBlanks_49, r_Text_skipBlanks_51, r_Text_skipBlanks_54, r_Text_skipBlanks_56, r_Text_skipBlanks_58, r_Text_skipBlanks_61, r_Text_skipBlanks_62, r_Text_skipBlanks_63, r_Text_skipBlanks_66, r_Text_skipBlanks_69, r_Text_skipBlanks_70, ai_const, ai_istore, am_cut_0, am_cut_s, am_c1, ai_iload, ai_aload, ai_getf, ai_cmpge, ai_callv2, am_push, am_few, ai_cmpeq, ai_ifeq, ai_goto, ai_ifne, ai_iret, ai_iinc, kd_0, fd_0_0, fd_0_1, fd_0_2, fd_0_3, fd_0_4, kd_1, fd_1_0, fd_1_1, ln_2, kd_3, fd_3_0, fd_3_1, fd_3_2, fd_3_3, fd_3_4, fd_3_5, fd_3_6, fd_3_7, fd_3_8, fd_3_9, ln_4, ln_5, ln_6, ln_7, ln_8, ln_9, ln_10, kd_11, fd_11_0, fd_11_1, fd_11_2, fd_11_3, fd_11_4, kd_12, fd_12_0, fd_12_1, fd_12_2, fd_12_3, ln_13, ln_14, ln_15, kd_16, fd_16_0, fd_16_1, fd_16_2, ln_17, kd_18, fd_18_0, fd_18_1, kd_19, fd_19_0, fd_19_1, fd_19_2, fd_19_3, fd_19_4, fd_19_5, fd_19_6, fd_19_7, fd_19_8, fd_19_9, fd_19_10, fd_19_11, fd_19_12, fd_19_13, fd_19_14, fd_19_15, fd_19_16, fd_19_17, fd_19_18, fd_19_19, fd_19_20, ln_20, ln_21, ln_22, ln_23, ln_24, ln_25, ln_26, ln_27, ln_28, ln_29, ln_30, ln_31, ln_32, List.getElem?_cons_zero, List.getElem?_cons_succ, List.set_cons_zero, List.set_cons_succ, true_and, and_true, ↓reduceIte, Int32.reduceLT, Int32.reduceLE, li_10, or_true, true_or]
    rw [hp.1]
    have := hp.2
    exact lp_Text_skipBlanks hG hn (tl M - cl p) (cl p) false none (by omega) h
  · cases h
/-- where the word from i on ends -/
def wE (t : Nat → Int32) : Nat → Nat → Nat
  | 0, i => i
  | k + 1, i => if wB (t i) = true then wE t k (i + 1) else i
theorem wE_le (t : Nat → Int32) : ∀ (k i : Nat), i ≤ wE t k i ∧ wE t k i ≤ i + k
  | 0, i => ⟨Nat.le_refl i, Nat.le_refl i⟩
  | k + 1, i => by
    have h1 := wE_le t k (i + 1)
    simp only [wE]
    split <;> omega
def f_word (M : aM) (i : Nat) : Nat := wE (M 2) (tl M - i) i
theorem f_word_le {M : aM} (hn : tx_ok M) {i : Nat} (hi : i ≤ 401) : i ≤ f_word M i ∧ f_word M i ≤ 401 := by
  have h := wE_le (M 2) (tl M - i) i
  have := hn.2
  unfold f_word
  omega
def sp_Text_wordEnd : aS := fun as M K => match as with
  | [.ref a, .int p] => a = 1 ∧ (tx_ok M ∧ sm p 401) ∧ K (some (.int (nI (f_word M (cl p))))) M
  | _ => False
set_option maxRecDepth 100000 in
set_option maxHeartbeats 4000000 in
theorem lp_Text_wordEnd {G : aG} (hG : am_ok G) {K : aR} {M : aM} (hn : tx_ok M) {p : Int32} : ∀ (k i : Nat), tl M - i = k → i ≤ 401 → K (some (.int (nI (wE (M 2) k i)))) M → am_X G Y_Text_wordEnd 1 K 2 [some (.ref 1), some (.int p), some (.int (nI i))] [] M := by
  intro k
  have hn2 := hn.2
  induction k with
  | zero =>
    intro i hk hi h
    have e1 : ¬ nI i < M 1 1 := by rw [hn.1]; exact nI_nlt (by omega) (by omega)
    refine am_from (tb_Text_wordEnd (ok_Text_at hG) (by decide) (ok_Text_isWordByte hG) (by decide)) k_Text_wordEnd 400 ?_
    simp only [q_Text_wordEnd_2, r_Text_wordEnd_0, r_Text_wordEnd_1, r_Text_wordEnd_2, r_Text_wordEnd_3, r_Text_wordEnd_4, r_Text_wordEnd_7, r_Text_wordEnd_10, r_Text_wordEnd_11, r_Text_wordEnd_12, r_Text_wordEnd_15, r_Text_wordEnd_18, r_Text_wordEnd_21, r_Text_wordEnd_24, r_Text_wordEnd_27, r_Text_wordEnd_28, ai_iload, ai_istore, am_cut_0, am_cut_s, am_c1, ai_aload, ai_getf, ai_cmpge, ai_callv2, am_push, am_few, ai_calls1, ai_ifeq, ai_iinc, ai_goto, ai_iret, kd_0, fd_0_0, fd_0_1, fd_0_2, fd_0_3, fd_0_4, kd_1, fd_1_0, fd_1_1, ln_2, kd_3, fd_3_0, fd_3_1, fd_3_2, fd_3_3, fd_3_4, fd_3_5, fd_3_6, fd_3_7, fd_3_8, fd_3_9, ln_4, ln_5, ln_6, ln_7, ln_8, ln_9, ln_10, kd_11, fd_11_0, fd_11_1, fd_11_2, fd_11_3, fd_11_4, kd_12, fd_12_0, fd_12_1, fd_12_2, fd_12_3, ln_13, ln_14, ln_15, kd_16, fd_16_0, fd_16_1, fd_16_2, ln_17, kd_18, fd_18_0, fd_18_1, kd_19, fd_19_0, fd_19_1, fd_19_2, fd_19_3, fd_19_4, fd_19_5, fd_19_6, fd_19_7, fd_19_8, fd_19_9, fd_19_10, fd_19_11, fd_19_12, fd_19_13, fd_19_14, fd_19_15, fd_19_16, fd_19_17, fd_19_18, fd_19_19, fd_19_20, ln_20, ln_21, ln_22, ln_23, ln_24, ln_25, ln_26, ln_27, ln_28, ln_29, ln_30, ln_31, ln_32, List.getElem?_cons_zero, List.getElem?_cons_succ, List.set_cons_zero, List.set_cons_succ, true_and, and_true, ↓reduceIte, Int32.reduceLT, Int32.reduceLE, li_10, or_true, true_or, e1]
    exact h
  | succ k ih =>
    intro i hk hi h
    have e1 : nI i < M 1 1 := by rw [hn.1]; exact nI_lt (by omega) (by omega)
    have e2 : f_at M (nI i) = M 2 i := by rw [f_at_nI hn (by omega), if_pos (by omega)]
    refine am_from (tb_Text_wordEnd (ok_Text_at hG) (by decide) (ok_Text_isWordByte hG) (by decide)) k_Text_wordEnd 400 ?_
    simp only [q_Text_wordEnd_2, r_Text_wordEnd_0, r_Text_wordEnd_1, r_Text_wordEnd_2, r_Text_wordEnd_3, r_Text_wordEnd_4, r_Text_wordEnd_7, r_Text_wordEnd_10, r_Text_wordEnd_11, r_Text_wordEnd_12, r_Text_wordEnd_15, r_Text_wordEnd_18, r_Text_wordEnd_21, r_Text_wordEnd_24, r_Text_wordEnd_27, r_Text_wordEnd_28, ai_iload, ai_istore, am_cut_0, am_cut_s, am_c1, ai_aload, ai_getf, ai_cmpge, ai_callv2, am_push, am_few, ai_calls1, ai_ifeq, ai_iinc, ai_goto, ai_iret, kd_0, fd_0_0, fd_0_1, fd_0_2, fd_0_3, fd_0_4, kd_1, fd_1_0, fd_1_1, ln_2, kd_3, fd_3_0, fd_3_1, fd_3_2, fd_3_3, fd_3_4, fd_3_5, fd_3_6, fd_3_7, fd_3_8, fd_3_9, ln_4, ln_5, ln_6, ln_7, ln_8, ln_9, ln_10, kd_11, fd_11_0, fd_11_1, fd_11_2, fd_11_3, fd_11_4, kd_12, fd_12_0, fd_12_1, fd_12_2, fd_12_3, ln_13, ln_14, ln_15, kd_16, fd_16_0, fd_16_1, fd_16_2, ln_17, kd_18, fd_18_0, fd_18_1, kd_19, fd_19_0, fd_19_1, fd_19_2, fd_19_3, fd_19_4, fd_19_5, fd_19_6, fd_19_7, fd_19_8, fd_19_9, fd_19_10, fd_19_11, fd_19_12, fd_19_13, fd_19_14, fd_19_15, fd_19_16, fd_19_17, fd_19_18, fd_19_19, fd_19_20, ln_20, ln_21, ln_22, ln_23, ln_24, ln_25, ln_26, ln_27, ln_28, ln_29, ln_30, ln_31, ln_32, List.getElem?_cons_zero, List.getElem?_cons_succ, List.set_cons_zero, List.set_cons_succ, true_and, and_true, ↓reduceIte, Int32.reduceLT, Int32.reduceLE, li_10, or_true, true_or, ↓sp_Text_at, ↓sp_Text_isWordByte, e1, e2, nI_1]
    simp only [wE] at h
    have g1 := ih (i + 1) (by omega) (by omega)
    cases c1 : wB (M 2 i) <;> simp only [c1, b2, ↓reduceIte, li_10, Bool.false_eq_true] at h ⊢
    · exact h
    · exact g1 h
set_option maxRecDepth 100000 in
set_option maxHeartbeats 4000000 in
theorem ok_Text_wordEnd {G : aG} (hG : am_ok G) : am_Sp G Y_Text_wordEnd 1 sp_Text_wordEnd := by
  intro as M K h
  unfold sp_Text_wordEnd at h
  split at h
  · next a p =>
    obtain ⟨rfl, ⟨hn, hp⟩, h⟩ := h
    refine am_entry hG (by decide +kernel) (Nat.le_of_ble_eq_true rfl) ?_
    refine am_go (cuts := k_Text_wordEnd) (tb_Text_wordEnd (ok_Text_at hG) (by decide) (ok_Text_isWordByte hG) (by decide)) 400 _ _ _ _ ?_
    change am_run _ _ _ _ _ _ [some (.ref 1), some (.int p), none] [] _
    simp only [q_Text_wordEnd_2, r_Text_wordEnd_0, r_Text_wordEnd_1, r_Text_wordEnd_2, r_Text_wordEnd_3, r_Text_wordEnd_4, r_Text_wordEnd_7, r_Text_wordEnd_10, r_Text_wordEnd_11, r_Text_wordEnd_12, r_Text_wordEnd_15, r_Text_wordEnd_18, r_Text_wordEnd_21, r_Text_wordEnd_24, r_Text_wordEnd_27, r_Text_wordEnd_28, ai_iload, ai_istore, am_cut_0, am_cut_s, am_c1, ai_aload, ai_getf, ai_cmpge, ai_callv2, am_push, am_few, ai_calls1, ai_ifeq, ai_iinc, ai_goto, ai_iret, kd_0, fd_0_0, fd_0_1, fd_0_2, fd_0_3, fd_0_4, kd_1, fd_1_0, fd_1_1, ln_2, kd_3, fd_3_0, fd_3_1, fd_3_2, fd_3_3, fd_3_4, fd_3_5, fd_3_6, fd_3_7, fd_3_8, fd_3_9, ln_4, ln_5, ln_6, ln_7, ln_8, ln_9, ln_10, kd_11, fd_11_0, fd_11_1, fd_11_2, fd_11_3, fd_11_4, kd_12, fd_12_0, fd_12_1, fd_12_2, fd_12_3, ln_13, ln_14, ln_15, kd_16, fd_16_0, fd_16_1, fd_16_2, ln_17, kd_18, fd_18_0, fd_18_1, kd_19, fd_19_0, fd_19_1, fd_19_2, fd_19_3, fd_19_4, fd_19_5, fd_19_6, fd_19_7, fd_19_8, fd_19_9, fd_19_10, fd_19_11, fd_19_12, fd_19_13, fd_19_14, fd_19_15, fd_19_16, fd_19_17, fd_19_18, fd_19_19, fd_19_20, ln_20, ln_21, ln_22, ln_23, ln_24, ln_25, ln_26, ln_27, ln_28, ln_29, ln_30, ln_31, ln_32, List.getElem?_cons_zero, List.getElem?_cons_succ, List.set_cons_zero, List.set_cons_succ, true_and, and_true, ↓reduceIte, Int32.reduceLT, Int32.reduceLE, li_10, or_true, true_or]
    rw [hp.1]
    exact lp_Text_wordEnd hG hn (tl M - cl p) (cl p) rfl hp.2 h
  · cases h
/-- names -/
def f_name (M : aM) (i : Nat) : Int32 := if 12 < f_word M i - i then -1 else nI (f_word M i)
def sp_Text_nameEnd : aS := fun as M K => match as with
  | [.ref a, .int p] => a = 1 ∧ (tx_ok M ∧ sm p 401) ∧ K (some (.int (f_name M (cl p)))) M
  | _ => False
set_option maxRecDepth 100000 in
set_option maxHeartbeats 4000000 in
theorem ok_Text_nameEnd {G : aG} (hG : am_ok G) : am_Sp G Y_Text_nameEnd 2 sp_Text_nameEnd := by
  intro as M K h
  unfold sp_Text_nameEnd at h
  split at h
  · next a p =>
    obtain ⟨rfl, ⟨hn, hp⟩, h⟩ := h
    have hle := f_word_le hn hp.2
    have hp2 := hp.2
    refine am_entry hG (by decide +kernel) (Nat.le_of_ble_eq_true rfl) ?_
    refine am_go (cuts := k_Text_nameEnd) (tb_Text_nameEnd (ok_Text_wordEnd hG) (by decide)) 400 _ _ _ _ ?_
    change am_run _ _ _ _ _ _ [some (.ref 1), some (.int p), none] [] _
    simp only [r_Text_nameEnd_0, r_Text_nameEnd_1, r_Text_nameEnd_2, r_Text_nameEnd_5, r_Text_nameEnd_6, r_Text_nameEnd_7, r_Text_nameEnd_8, r_Text_nameEnd_9, r_Text_nameEnd_11, r_Text_nameEnd_14, r_Text_nameEnd_15, r_Text_nameEnd_18, r_Text_nameEnd_19, ai_aload, ai_iload, ai_callv2, am_push, am_few, ai_istore, am_cut_0, am_cut_s, am_c1, ai_isub, ai_bin, ai_const, ai_cmpgt, ai_goto, ai_iret, kd_0, fd_0_0, fd_0_1, fd_0_2, fd_0_3, fd_0_4, kd_1, fd_1_0, fd_1_1, ln_2, kd_3, fd_3_0, fd_3_1, fd_3_2, fd_3_3, fd_3_4, fd_3_5, fd_3_6, fd_3_7, fd_3_8, fd_3_9, ln_4, ln_5, ln_6, ln_7, ln_8, ln_9, ln_10, kd_11, fd_11_0, fd_11_1, fd_11_2, fd_11_3, fd_11_4, kd_12, fd_12_0, fd_12_1, fd_12_2, fd_12_3, ln_13, ln_14, ln_15, kd_16, fd_16_0, fd_16_1, fd_16_2, ln_17, kd_18, fd_18_0, fd_18_1, kd_19, fd_19_0, fd_19_1, fd_19_2, fd_19_3, fd_19_4, fd_19_5, fd_19_6, fd_19_7, fd_19_8, fd_19_9, fd_19_10, fd_19_11, fd_19_12, fd_19_13, fd_19_14, fd_19_15, fd_19_16, fd_19_17, fd_19_18, fd_19_19, fd_19_20, ln_20, ln_21, ln_22, ln_23, ln_24, ln_25, ln_26, ln_27, ln_28, ln_29, ln_30, ln_31, ln_32, List.getElem?_cons_zero, List.getElem?_cons_succ, List.set_cons_zero, List.set_cons_succ, true_and, and_true, ↓reduceIte, Int32.reduceLT, Int32.reduceLE, li_10, or_true, true_or, ↓sp_Text_wordEnd]
    refine ⟨⟨hn, hp⟩, ?_⟩
    have e1 : nI (f_word M (cl p)) - p = nI (f_word M (cl p) - cl p) := by rw [congrArg (nI (f_word M (cl p)) - ·) hp.1]; exact pk_sub hle.1
    rw [e1]
    simp only [iLT (x := 12) 12 (f_word M (cl p) - cl p) (by decide) (by omega)]
    unfold f_name at h
    split <;> simp_all
  · cases h
/-- numbers -/
def allD (t : Nat → Int32) : Nat → Nat → Bool
  | 0, _ => true
  | k + 1, i => dgB (t i) && allD t k (i + 1)
def nmF (t : Nat → Int32) (i : Nat) : Nat := if t i = 45 then i + 1 else i
def f_num (M : aM) (i : Nat) : Int32 := if f_word M (nmF (M 2) i) - nmF (M 2) i < 1 then -1 else if 9 < f_word M (nmF (M 2) i) - nmF (M 2) i then -1 else if allD (M 2) (f_word M (nmF (M 2) i) - nmF (M 2) i) (nmF (M 2) i) = true then nI (f_word M (nmF (M 2) i)) else -1
def sp_Text_numberEnd : aS := fun as M K => match as with
  | [.ref a, .int p] => a = 1 ∧ (tx_ok M ∧ sm p 400 ∧ cl p < tl M) ∧ K (some (.int (f_num M (cl p)))) M
  | _ => False
set_option maxRecDepth 100000 in
set_option maxHeartbeats 4000000 in
theorem lp_Text_numberEnd {G : aG} (hG : am_ok G) {K : aR} {M : aM} (hn : tx_ok M) {p f : Int32} {e : Nat} (he : e ≤ tl M) : ∀ (k i : Nat), i + k = e → K (some (.int (if allD (M 2) k i = true then nI e else -1))) M → am_X G Y_Text_numberEnd 2 K 44 [some (.ref 1), some (.int p), some (.int f), some (.int (nI e)), some (.int (nI i))] [] M := by
  intro k
  have hn2 := hn.2
  induction k with
  | zero =>
    intro i hk h
    have e1 : ¬ nI i < nI e := nI_nlt (by omega) (by omega)
    refine am_from (tb_Text_numberEnd (ok_Text_at hG) (by decide) (ok_Text_wordEnd hG) (by decide) (ok_Text_isDigit hG) (by decide)) k_Text_numberEnd 400 ?_
    simp only [q_Text_numberEnd_44, r_Text_numberEnd_0, r_Text_numberEnd_1, r_Text_numberEnd_2, r_Text_numberEnd_5, r_Text_numberEnd_7, r_Text_numberEnd_10, r_Text_numberEnd_11, r_Text_numberEnd_12, r_Text_numberEnd_13, r_Text_numberEnd_16, r_Text_numberEnd_17, r_Text_numberEnd_18, r_Text_numberEnd_19, r_Text_numberEnd_20, r_Text_numberEnd_23, r_Text_numberEnd_24, r_Text_numberEnd_25, r_Text_numberEnd_26, r_Text_numberEnd_27, r_Text_numberEnd_28, r_Text_numberEnd_31, r_Text_numberEnd_32, r_Text_numberEnd_33, r_Text_numberEnd_34, r_Text_numberEnd_36, r_Text_numberEnd_39, r_Text_numberEnd_40, r_Text_numberEnd_41, r_Text_numberEnd_42, r_Text_numberEnd_44, r_Text_numberEnd_46, r_Text_numberEnd_47, r_Text_numberEnd_50, r_Text_numberEnd_51, r_Text_numberEnd_53, r_Text_numberEnd_56, r_Text_numberEnd_59, r_Text_numberEnd_62, r_Text_numberEnd_63, r_Text_numberEnd_64, r_Text_numberEnd_67, r_Text_numberEnd_70, r_Text_numberEnd_71, ai_aload, ai_iload, ai_callv2, am_push, am_few, ai_const, ai_cmpne, ai_iadd, ai_bin, ai_goto, ai_istore, am_cut_0, am_cut_s, am_c1, ai_isub, ai_cmplt, ai_cmple, ai_iret, ai_cmpge, ai_calls1, ai_ifne, ai_iinc, kd_0, fd_0_0, fd_0_1, fd_0_2, fd_0_3, fd_0_4, kd_1, fd_1_0, fd_1_1, ln_2, kd_3, fd_3_0, fd_3_1, fd_3_2, fd_3_3, fd_3_4, fd_3_5, fd_3_6, fd_3_7, fd_3_8, fd_3_9, ln_4, ln_5, ln_6, ln_7, ln_8, ln_9, ln_10, kd_11, fd_11_0, fd_11_1, fd_11_2, fd_11_3, fd_11_4, kd_12, fd_12_0, fd_12_1, fd_12_2, fd_12_3, ln_13, ln_14, ln_15, kd_16, fd_16_0, fd_16_1, fd_16_2, ln_17, kd_18, fd_18_0, fd_18_1, kd_19, fd_19_0, fd_19_1, fd_19_2, fd_19_3, fd_19_4, fd_19_5, fd_19_6, fd_19_7, fd_19_8, fd_19_9, fd_19_10, fd_19_11, fd_19_12, fd_19_13, fd_19_14, fd_19_15, fd_19_16, fd_19_17, fd_19_18, fd_19_19, fd_19_20, ln_20, ln_21, ln_22, ln_23, ln_24, ln_25, ln_26, ln_27, ln_28, ln_29, ln_30, ln_31, ln_32, List.getElem?_cons_zero, List.getElem?_cons_succ, List.set_cons_zero, List.set_cons_succ, true_and, and_true, ↓reduceIte, Int32.reduceLT, Int32.reduceLE, li_10, or_true, true_or, e1]
    exact h
  | succ k ih =>
    intro i hk h
    have e1 : nI i < nI e := nI_lt (by omega) (by omega)
    have e2 : f_at M (nI i) = M 2 i := by rw [f_at_nI hn (by omega), if_pos (by omega)]
    refine am_from (tb_Text_numberEnd (ok_Text_at hG) (by decide) (ok_Text_wordEnd hG) (by decide) (ok_Text_isDigit hG) (by decide)) k_Text_numberEnd 400 ?_
    simp only [q_Text_numberEnd_44, r_Text_numberEnd_0, r_Text_numberEnd_1, r_Text_numberEnd_2, r_Text_numberEnd_5, r_Text_numberEnd_7, r_Text_numberEnd_10, r_Text_numberEnd_11, r_Text_numberEnd_12, r_Text_numberEnd_13, r_Text_numberEnd_16, r_Text_numberEnd_17, r_Text_numberEnd_18, r_Text_numberEnd_19, r_Text_numberEnd_20, r_Text_numberEnd_23, r_Text_numberEnd_24, r_Text_numberEnd_25, r_Text_numberEnd_26, r_Text_numberEnd_27, r_Text_numberEnd_28, r_Text_numberEnd_31, r_Text_numberEnd_32, r_Text_numberEnd_33, r_Text_numberEnd_34, r_Text_numberEnd_36, r_Text_numberEnd_39, r_Text_numberEnd_40, r_Text_numberEnd_41, r_Text_numberEnd_42, r_Text_numberEnd_44, r_Text_numberEnd_46, r_Text_numberEnd_47, r_Text_numberEnd_50, r_Text_numberEnd_51, r_Text_numberEnd_53, r_Text_numberEnd_56, r_Text_numberEnd_59, r_Text_numberEnd_62, r_Text_numberEnd_63, r_Text_numberEnd_64, r_Text_numberEnd_67, r_Text_numberEnd_70, r_Text_numberEnd_71, ai_aload, ai_iload, ai_callv2, am_push, am_few, ai_const, ai_cmpne, ai_iadd, ai_bin, ai_goto, ai_istore, am_cut_0, am_cut_s, am_c1, ai_isub, ai_cmplt, ai_cmple, ai_iret, ai_cmpge, ai_calls1, ai_ifne, ai_iinc, kd_0, fd_0_0, fd_0_1, fd_0_2, fd_0_3, fd_0_4, kd_1, fd_1_0, fd_1_1, ln_2, kd_3, fd_3_0, fd_3_1, fd_3_2, fd_3_3, fd_3_4, fd_3_5, fd_3_6, fd_3_7, fd_3_8, fd_3_9, ln_4, ln_5, ln_6, ln_7, ln_8, ln_9, ln_10, kd_11, fd_11_0, fd_11_1, fd_11_2, fd_11_3, fd_11_4, kd_12, fd_12_0, fd_12_1, fd_12_2, fd_12_3, ln_13, ln_14, ln_15, kd_16, fd_16_0, fd_16_1, fd_16_2, ln_17, kd_18, fd_18_0, fd_18_1, kd_19, fd_19_0, fd_19_1, fd_19_2, fd_19_3, fd_19_4, fd_19_5, fd_19_6, fd_19_7, fd_19_8, fd_19_9, fd_19_10, fd_19_11, fd_19_12, fd_19_13, fd_19_14, fd_19_15, fd_19_16, fd_19_17, fd_19_18, fd_19_19, fd_19_20, ln_20, ln_21, ln_22, ln_23, ln_24, ln_25, ln_26, ln_27, ln_28, ln_29, ln_30, ln_31, ln_32, List.getElem?_cons_zero, List.getElem?_cons_succ, List.set_cons_zero, List.set_cons_succ, true_and, and_true, ↓reduceIte, Int32.reduceLT, Int32.reduceLE, li_10, or_true, true_or, ↓sp_Text_at, ↓sp_Text_isDigit, e1, e2, nI_1]
    have g1 := ih (i + 1) (by omega)
    simp only [allD] at h
    cases c1 : dgB (M 2 i) <;> simp only [c1, b2, ↓reduceIte, li_10, Bool.false_eq_true, Bool.true_and, Bool.false_and] at h ⊢
    · exact h
    · exact g1 h
set_option maxRecDepth 100000 in
set_option maxHeartbeats 4000000 in
theorem ok_Text_numberEnd {G : aG} (hG : am_ok G) : am_Sp G Y_Text_numberEnd 2 sp_Text_numberEnd := by
  intro as M K h
  unfold sp_Text_numberEnd at h
  split at h
  · next a p =>
    obtain ⟨rfl, ⟨hn, hp, hpt⟩, h⟩ := h
    have hn2 := hn.2
    have e2 : f_at M p = M 2 (cl p) := by
      have q := f_at_nI (i := cl p) hn (by omega)
      rw [if_pos hpt, ← hp.1] at q
      exact q
    refine am_entry hG (by decide +kernel) (Nat.le_of_ble_eq_true rfl) ?_
    refine am_go (cuts := k_Text_numberEnd) (tb_Text_numberEnd (ok_Text_at hG) (by decide) (ok_Text_wordEnd hG) (by decide) (ok_Text_isDigit hG) (by decide)) 400 _ _ _ _ ?_
    change am_run _ _ _ _ _ _ [some (.ref 1), some (.int p), none, none, none] [] _
    simp only [q_Text_numberEnd_44, r_Text_numberEnd_0, r_Text_numberEnd_1, r_Text_numberEnd_2, r_Text_numberEnd_5, r_Text_numberEnd_7, r_Text_numberEnd_10, r_Text_numberEnd_11, r_Text_numberEnd_12, r_Text_numberEnd_13, r_Text_numberEnd_16, r_Text_numberEnd_17, r_Text_numberEnd_18, r_Text_numberEnd_19, r_Text_numberEnd_20, r_Text_numberEnd_23, r_Text_numberEnd_24, r_Text_numberEnd_25, r_Text_numberEnd_26, r_Text_numberEnd_27, r_Text_numberEnd_28, r_Text_numberEnd_31, r_Text_numberEnd_32, r_Text_numberEnd_33, r_Text_numberEnd_34, r_Text_numberEnd_36, r_Text_numberEnd_39, r_Text_numberEnd_40, r_Text_numberEnd_41, r_Text_numberEnd_42, r_Text_numberEnd_44, r_Text_numberEnd_46, r_Text_numberEnd_47, r_Text_numberEnd_50, r_Text_numberEnd_51, r_Text_numberEnd_53, r_Text_numberEnd_56, r_Text_numberEnd_59, r_Text_numberEnd_62, r_Text_numberEnd_63, r_Text_numberEnd_64, r_Text_numberEnd_67, r_Text_numberEnd_70, r_Text_numberEnd_71, ai_aload, ai_iload, ai_callv2, am_push, am_few, ai_const, ai_cmpne, ai_iadd, ai_bin, ai_goto, ai_istore, am_cut_0, am_cut_s, am_c1, ai_isub, ai_cmplt, ai_cmple, ai_iret, ai_cmpge, ai_calls1, ai_ifne, ai_iinc, kd_0, fd_0_0, fd_0_1, fd_0_2, fd_0_3, fd_0_4, kd_1, fd_1_0, fd_1_1, ln_2, kd_3, fd_3_0, fd_3_1, fd_3_2, fd_3_3, fd_3_4, fd_3_5, fd_3_6, fd_3_7, fd_3_8, fd_3_9, ln_4, ln_5, ln_6, ln_7, ln_8, ln_9, ln_10, kd_11, fd_11_0, fd_11_1, fd_11_2, fd_11_3, fd_11_4, kd_12, fd_12_0, fd_12_1, fd_12_2, fd_12_3, ln_13, ln_14, ln_15, kd_16, fd_16_0, fd_16_1, fd_16_2, ln_17, kd_18, fd_18_0, fd_18_1, kd_19, fd_19_0, fd_19_1, fd_19_2, fd_19_3, fd_19_4, fd_19_5, fd_19_6, fd_19_7, fd_19_8, fd_19_9, fd_19_10, fd_19_11, fd_19_12, fd_19_13, fd_19_14, fd_19_15, fd_19_16, fd_19_17, fd_19_18, fd_19_19, fd_19_20, ln_20, ln_21, ln_22, ln_23, ln_24, ln_25, ln_26, ln_27, ln_28, ln_29, ln_30, ln_31, ln_32, List.getElem?_cons_zero, List.getElem?_cons_succ, List.set_cons_zero, List.set_cons_succ, true_and, and_true, ↓reduceIte, Int32.reduceLT, Int32.reduceLE, li_10, or_true, true_or, ↓sp_Text_at, ↓sp_Text_wordEnd, e2]
    have key : ∀ f : Nat, f ≤ tl M → K (some (.int (if f_word M f - f < 1 then -1 else if 9 < f_word M f - f then -1 else if allD (M 2) (f_word M f - f) f = true then nI (f_word M f) else -1))) M → (tx_ok M ∧ sm (nI f) 401) ∧ (if nI (f_word M (cl (nI f))) - nI f < 1 then K (some (.int (-1))) M else if 9 < nI (f_word M (cl (nI f))) - nI f then K (some (.int (-1))) M else am_X G Y_Text_numberEnd 2 K 44 [some (.ref 1), some (.int p), some (.int (nI f)), some (.int (nI (f_word M (cl (nI f))))), some (.int (nI f))] [] M) := by
      intro f hf hk
      refine ⟨⟨hn, sm_nI (by omega) (by decide)⟩, ?_⟩
      rw [show cl (nI f) = f from nI_clamp (by omega)]
      have hle := wE_le (M 2) (tl M - f) f
      have hw : f_word M f = wE (M 2) (tl M - f) f := rfl
      rw [pk_sub (by omega)]
      simp only [iLT (y := 1) (f_word M f - f) 1 (by omega) (by decide), iLT (x := 9) 9 (f_word M f - f) (by decide) (by omega)]
      split
      · next c => rw [if_pos c] at hk; exact hk
      · next c =>
        rw [if_neg c] at hk
        split
        · next c2 => rw [if_pos c2] at hk; exact hk
        · next c2 =>
          rw [if_neg c2] at hk
          exact lp_Text_numberEnd hG hn (by omega) (f_word M f - f) f (by omega) hk
    unfold f_num nmF at h
    split
    · next c =>
      rw [if_pos c] at h
      have := key (cl p + 1) (by omega) h
      rw [show p + 1 = nI (cl p + 1) by rw [← nI_1, ← hp.1]]
      exact this
    · next c =>
      rw [if_neg c] at h
      have := key (cl p) (by omega) h
      rw [← hp.1] at this
      exact this
  · cases h
/-- the byte at a place, -1 beyond -/
def bt (t : Nat → Int32) (n i : Nat) : Int32 := if i < n then t i else -1
theorem f_bt {M : aM} {i : Nat} (h : tx_ok M) (hi : i < 2 ^ 31) : f_at M (nI i) = bt (M 2) (tl M) i := f_at_nI h hi
/-- strings: where the one ends whose bytes begin at i; k: how many bytes it may have yet, and one -/
def stE (t : Nat → Int32) (n : Nat) : Nat → Nat → Int32
  | 0, _ => -1
  | k + 1, i => if bt t n i = 34 then nI (i + 1) else if bt t n i = 92 then (if bt t n (i + 1) = 34 then stE t n k (i + 2) else if bt t n (i + 1) = 92 then stE t n k (i + 2) else -1) else if bt t n i < 32 then -1 else if 126 < bt t n i then -1 else stE t n k (i + 1)
def f_str (M : aM) (i : Nat) : Int32 := stE (M 2) (tl M) 21 (i + 1)
def sp_Text_stringEnd : aS := fun as M K => match as with
  | [.ref a, .int p] => a = 1 ∧ (tx_ok M ∧ sm p 400) ∧ K (some (.int (f_str M (cl p)))) M
  | _ => False
set_option maxRecDepth 100000 in
set_option maxHeartbeats 4000000 in
theorem lp_Text_stringEnd {G : aG} (hG : am_ok G) {K : aR} {M : aM} (hn : tx_ok M) {p : Int32} : ∀ (k c j : Nat) (o : Option Value), c + k = 21 → j ≤ 402 + 2 * c → K (some (.int (stE (M 2) (tl M) k j))) M → am_X G Y_Text_stringEnd 1 K 6 [some (.ref 1), some (.int p), some (.int (nI j)), some (.int (nI c)), o] [] M := by
  intro k
  have hn2 := hn.2
  induction k with
  | zero =>
    intro c j o hk hj h
    have e1 : (20 : Int32) < nI c := nI_lt (a := 20) (by omega) (by omega)
    refine am_from (tb_Text_stringEnd (ok_Text_at hG) (by decide)) k_Text_stringEnd 400 ?_
    simp only [q_Text_stringEnd_6, r_Text_stringEnd_0, r_Text_stringEnd_1, r_Text_stringEnd_2, r_Text_stringEnd_3, r_Text_stringEnd_4, r_Text_stringEnd_5, r_Text_stringEnd_6, r_Text_stringEnd_7, r_Text_stringEnd_9, r_Text_stringEnd_12, r_Text_stringEnd_13, r_Text_stringEnd_14, r_Text_stringEnd_17, r_Text_stringEnd_19, r_Text_stringEnd_21, r_Text_stringEnd_23, r_Text_stringEnd_26, r_Text_stringEnd_27, r_Text_stringEnd_28, r_Text_stringEnd_29, r_Text_stringEnd_30, r_Text_stringEnd_32, r_Text_stringEnd_34, r_Text_stringEnd_37, r_Text_stringEnd_40, r_Text_stringEnd_41, r_Text_stringEnd_42, r_Text_stringEnd_45, r_Text_stringEnd_47, r_Text_stringEnd_49, r_Text_stringEnd_51, r_Text_stringEnd_54, r_Text_stringEnd_56, r_Text_stringEnd_58, r_Text_stringEnd_61, r_Text_stringEnd_62, r_Text_stringEnd_63, r_Text_stringEnd_65, r_Text_stringEnd_67, r_Text_stringEnd_70, r_Text_stringEnd_72, r_Text_stringEnd_74, r_Text_stringEnd_77, r_Text_stringEnd_78, r_Text_stringEnd_79, r_Text_stringEnd_82, r_Text_stringEnd_85, r_Text_stringEnd_88, r_Text_stringEnd_89, ai_iload, ai_const, ai_iadd, ai_bin, ai_istore, am_cut_0, am_cut_s, am_c1, ai_cmpgt, ai_aload, ai_callv2, am_push, am_few, ai_cmpne, ai_iret, ai_iinc, ai_cmpeq, ai_cmplt, ai_cmple, ai_goto, kd_0, fd_0_0, fd_0_1, fd_0_2, fd_0_3, fd_0_4, kd_1, fd_1_0, fd_1_1, ln_2, kd_3, fd_3_0, fd_3_1, fd_3_2, fd_3_3, fd_3_4, fd_3_5, fd_3_6, fd_3_7, fd_3_8, fd_3_9, ln_4, ln_5, ln_6, ln_7, ln_8, ln_9, ln_10, kd_11, fd_11_0, fd_11_1, fd_11_2, fd_11_3, fd_11_4, kd_12, fd_12_0, fd_12_1, fd_12_2, fd_12_3, ln_13, ln_14, ln_15, kd_16, fd_16_0, fd_16_1, fd_16_2, ln_17, kd_18, fd_18_0, fd_18_1, kd_19, fd_19_0, fd_19_1, fd_19_2, fd_19_3, fd_19_4, fd_19_5, fd_19_6, fd_19_7, fd_19_8, fd_19_9, fd_19_10, fd_19_11, fd_19_12, fd_19_13, fd_19_14, fd_19_15, fd_19_16, fd_19_17, fd_19_18, fd_19_19, fd_19_20, ln_20, ln_21, ln_22, ln_23, ln_24, ln_25, ln_26, ln_27, ln_28, ln_29, ln_30, ln_31, ln_32, List.getElem?_cons_zero, List.getElem?_cons_succ, List.set_cons_zero, List.set_cons_succ, true_and, and_true, ↓reduceIte, Int32.reduceLT, Int32.reduceLE, li_10, or_true, true_or, e1]
    exact h
  | succ k ih =>
    intro c j o hk hj h
    have e1 : ¬ (20 : Int32) < nI c := nI_nlt (b := c) (a := 20) (by omega) (by decide)
    refine am_from (tb_Text_stringEnd (ok_Text_at hG) (by decide)) k_Text_stringEnd 400 ?_
    simp only [q_Text_stringEnd_6, r_Text_stringEnd_0, r_Text_stringEnd_1, r_Text_stringEnd_2, r_Text_stringEnd_3, r_Text_stringEnd_4, r_Text_stringEnd_5, r_Text_stringEnd_6, r_Text_stringEnd_7, r_Text_stringEnd_9, r_Text_stringEnd_12, r_Text_stringEnd_13, r_Text_stringEnd_14, r_Text_stringEnd_17, r_Text_stringEnd_19, r_Text_stringEnd_21, r_Text_stringEnd_23, r_Text_stringEnd_26, r_Text_stringEnd_27, r_Text_stringEnd_28, r_Text_stringEnd_29, r_Text_stringEnd_30, r_Text_stringEnd_32, r_Text_stringEnd_34, r_Text_stringEnd_37, r_Text_stringEnd_40, r_Text_stringEnd_41, r_Text_stringEnd_42, r_Text_stringEnd_45, r_Text_stringEnd_47, r_Text_stringEnd_49, r_Text_stringEnd_51, r_Text_stringEnd_54, r_Text_stringEnd_56, r_Text_stringEnd_58, r_Text_stringEnd_61, r_Text_stringEnd_62, r_Text_stringEnd_63, r_Text_stringEnd_65, r_Text_stringEnd_67, r_Text_stringEnd_70, r_Text_stringEnd_72, r_Text_stringEnd_74, r_Text_stringEnd_77, r_Text_stringEnd_78, r_Text_stringEnd_79, r_Text_stringEnd_82, r_Text_stringEnd_85, r_Text_stringEnd_88, r_Text_stringEnd_89, ai_iload, ai_const, ai_iadd, ai_bin, ai_istore, am_cut_0, am_cut_s, am_c1, ai_cmpgt, ai_aload, ai_callv2, am_push, am_few, ai_cmpne, ai_iret, ai_iinc, ai_cmpeq, ai_cmplt, ai_cmple, ai_goto, kd_0, fd_0_0, fd_0_1, fd_0_2, fd_0_3, fd_0_4, kd_1, fd_1_0, fd_1_1, ln_2, kd_3, fd_3_0, fd_3_1, fd_3_2, fd_3_3, fd_3_4, fd_3_5, fd_3_6, fd_3_7, fd_3_8, fd_3_9, ln_4, ln_5, ln_6, ln_7, ln_8, ln_9, ln_10, kd_11, fd_11_0, fd_11_1, fd_11_2, fd_11_3, fd_11_4, kd_12, fd_12_0, fd_12_1, fd_12_2, fd_12_3, ln_13, ln_14, ln_15, kd_16, fd_16_0, fd_16_1, fd_16_2, ln_17, kd_18, fd_18_0, fd_18_1, kd_19, fd_19_0, fd_19_1, fd_19_2, fd_19_3, fd_19_4, fd_19_5, fd_19_6, fd_19_7, fd_19_8, fd_19_9, fd_19_10, fd_19_11, fd_19_12, fd_19_13, fd_19_14, fd_19_15, fd_19_16, fd_19_17, fd_19_18, fd_19_19, fd_19_20, ln_20, ln_21, ln_22, ln_23, ln_24, ln_25, ln_26, ln_27, ln_28, ln_29, ln_30, ln_31, ln_32, List.getElem?_cons_zero, List.getElem?_cons_succ, List.set_cons_zero, List.set_cons_succ, true_and, and_true, ↓reduceIte, Int32.reduceLT, Int32.reduceLE, li_10, or_true, true_or, ↓sp_Text_at, e1, f_bt hn (show j < 2 ^ 31 by omega), f_bt hn (show j + 1 < 2 ^ 31 by omega), nI_1]
    simp only [stE] at h
    have g1 := fun o => ih (c + 1) (j + 1) o (by omega) (by omega)
    have g2 := fun o => ih (c + 1) (j + 2) o (by omega) (by omega)
    by_cases c1 : bt (M 2) (tl M) j = 34
    · simp only [c1, ↓reduceIte] at h ⊢; exact h
    · simp only [c1, ↓reduceIte] at h ⊢
      by_cases c2 : bt (M 2) (tl M) j = 92
      · simp only [c2, ↓reduceIte] at h ⊢
        by_cases c3 : bt (M 2) (tl M) (j + 1) = 34
        · simp only [c3, ↓reduceIte, Int32.reduceLT] at h ⊢; exact g2 _ h
        · simp only [c3, ↓reduceIte] at h ⊢
          by_cases c4 : bt (M 2) (tl M) (j + 1) = 92
          · simp only [c4, ↓reduceIte, Int32.reduceLT] at h ⊢; exact g2 _ h
          · simp only [c4, ↓reduceIte] at h ⊢; exact h
      · simp only [c2, ↓reduceIte] at h ⊢
        by_cases c3 : bt (M 2) (tl M) j < 32
        · simp only [c3, ↓reduceIte] at h ⊢; exact h
        · simp only [c3, ↓reduceIte] at h ⊢
          by_cases c4 : 126 < bt (M 2) (tl M) j
          · simp only [c4, ↓reduceIte] at h ⊢; exact h
          · simp only [c4, ↓reduceIte] at h ⊢; exact g1 _ h
set_option maxRecDepth 100000 in
set_option maxHeartbeats 4000000 in
theorem ok_Text_stringEnd {G : aG} (hG : am_ok G) : am_Sp G Y_Text_stringEnd 1 sp_Text_stringEnd := by
  intro as M K h
  unfold sp_Text_stringEnd at h
  split at h
  · next a p =>
    obtain ⟨rfl, ⟨hn, hp⟩, h⟩ := h
    have hp2 := hp.2
    refine am_entry hG (by decide +kernel) (Nat.le_of_ble_eq_true rfl) ?_
    refine am_go (cuts := k_Text_stringEnd) (tb_Text_stringEnd (ok_Text_at hG) (by decide)) 400 _ _ _ _ ?_
    change am_run _ _ _ _ _ _ [some (.ref 1), some (.int p), none, none, none] [] _
    simp only [q_Text_stringEnd_6, r_Text_stringEnd_0, r_Text_stringEnd_1, r_Text_stringEnd_2, r_Text_stringEnd_3, r_Text_stringEnd_4, r_Text_stringEnd_5, r_Text_stringEnd_6, r_Text_stringEnd_7, r_Text_stringEnd_9, r_Text_stringEnd_12, r_Text_stringEnd_13, r_Text_stringEnd_14, r_Text_stringEnd_17, r_Text_stringEnd_19, r_Text_stringEnd_21, r_Text_stringEnd_23, r_Text_stringEnd_26, r_Text_stringEnd_27, r_Text_stringEnd_28, r_Text_stringEnd_29, r_Text_stringEnd_30, r_Text_stringEnd_32, r_Text_stringEnd_34, r_Text_stringEnd_37, r_Text_stringEnd_40, r_Text_stringEnd_41, r_Text_stringEnd_42, r_Text_stringEnd_45, r_Text_stringEnd_47, r_Text_stringEnd_49, r_Text_stringEnd_51, r_Text_stringEnd_54, r_Text_stringEnd_56, r_Text_stringEnd_58, r_Text_stringEnd_61, r_Text_stringEnd_62, r_Text_stringEnd_63, r_Text_stringEnd_65, r_Text_stringEnd_67, r_Text_stringEnd_70, r_Text_stringEnd_72, r_Text_stringEnd_74, r_Text_stringEnd_77, r_Text_stringEnd_78, r_Text_stringEnd_79, r_Text_stringEnd_82, r_Text_stringEnd_85, r_Text_stringEnd_88, r_Text_stringEnd_89, ai_iload, ai_const, ai_iadd, ai_bin, ai_istore, am_cut_0, am_cut_s, am_c1, ai_cmpgt, ai_aload, ai_callv2, am_push, am_few, ai_cmpne, ai_iret, ai_iinc, ai_cmpeq, ai_cmplt, ai_cmple, ai_goto, kd_0, fd_0_0, fd_0_1, fd_0_2, fd_0_3, fd_0_4, kd_1, fd_1_0, fd_1_1, ln_2, kd_3, fd_3_0, fd_3_1, fd_3_2, fd_3_3, fd_3_4, fd_3_5, fd_3_6, fd_3_7, fd_3_8, fd_3_9, ln_4, ln_5, ln_6, ln_7, ln_8, ln_9, ln_10, kd_11, fd_11_0, fd_11_1, fd_11_2, fd_11_3, fd_11_4, kd_12, fd_12_0, fd_12_1, fd_12_2, fd_12_3, ln_13, ln_14, ln_15, kd_16, fd_16_0, fd_16_1, fd_16_2, ln_17, kd_18, fd_18_0, fd_18_1, kd_19, fd_19_0, fd_19_1, fd_19_2, fd_19_3, fd_19_4, fd_19_5, fd_19_6, fd_19_7, fd_19_8, fd_19_9, fd_19_10, fd_19_11, fd_19_12, fd_19_13, fd_19_14, fd_19_15, fd_19_16, fd_19_17, fd_19_18, fd_19_19, fd_19_20, ln_20, ln_21, ln_22, ln_23, ln_24, ln_25, ln_26, ln_27, ln_28, ln_29, ln_30, ln_31, ln_32, List.getElem?_cons_zero, List.getElem?_cons_succ, List.set_cons_zero, List.set_cons_succ, true_and, and_true, ↓reduceIte, Int32.reduceLT, Int32.reduceLE, li_10, or_true, true_or]
    rw [show p + 1 = nI (cl p + 1) by rw [← nI_1, ← hp.1]]
    exact lp_Text_stringEnd hG hn 21 0 (cl p + 1) none rfl (by omega) h
  · cases h
/-- the sort of a token by its first byte -/
def srt (b : Int32) : Int32 := if b = -1 then 10 else if b = 34 then 3 else if b = 39 then 8 else if b = 40 then 6 else if b = 41 then 7 else if b = 46 then 9 else if b = 45 then 1 else if dgB b = true then 1 else if wB b = true then 2 else 11
def sp_Text_sortAt : aS := fun as M K => match as with
  | [.ref a, .int p] => a = 1 ∧ K (some (.int (srt (f_at M p)))) M
  | _ => False
set_option maxRecDepth 100000 in
set_option maxHeartbeats 4000000 in
theorem ok_Text_sortAt {G : aG} (hG : am_ok G) : am_Sp G Y_Text_sortAt 1 sp_Text_sortAt := by
  intro as M K h
  unfold sp_Text_sortAt at h
  split at h
  · next a p =>
    obtain ⟨rfl, h⟩ := h
    refine am_entry hG (by decide +kernel) (Nat.le_of_ble_eq_true rfl) ?_
    refine am_go (cuts := k_Text_sortAt) (tb_Text_sortAt (ok_Text_at hG) (by decide) (ok_Text_isDigit hG) (by decide) (ok_Text_isWordByte hG) (by decide)) 400 _ _ _ _ ?_
    change am_run _ _ _ _ _ _ [some (.ref 1), some (.int p), none] [] _
    simp only [r_Text_sortAt_0, r_Text_sortAt_1, r_Text_sortAt_2, r_Text_sortAt_5, r_Text_sortAt_6, r_Text_sortAt_7, r_Text_sortAt_64, r_Text_sortAt_66, r_Text_sortAt_67, r_Text_sortAt_69, r_Text_sortAt_70, r_Text_sortAt_72, r_Text_sortAt_73, r_Text_sortAt_75, r_Text_sortAt_76, r_Text_sortAt_78, r_Text_sortAt_79, r_Text_sortAt_80, r_Text_sortAt_81, r_Text_sortAt_82, r_Text_sortAt_84, r_Text_sortAt_87, r_Text_sortAt_88, r_Text_sortAt_91, r_Text_sortAt_94, r_Text_sortAt_95, r_Text_sortAt_96, r_Text_sortAt_97, r_Text_sortAt_100, r_Text_sortAt_103, r_Text_sortAt_104, r_Text_sortAt_107, r_Text_sortAt_109, ai_aload, ai_iload, ai_callv2, am_push, am_few, ai_istore, am_cut_0, am_cut_s, am_c1, ai_switch, am_sw, ai_const, ai_iret, ai_cmpeq, ai_calls1, ai_ifeq, ai_goto, kd_0, fd_0_0, fd_0_1, fd_0_2, fd_0_3, fd_0_4, kd_1, fd_1_0, fd_1_1, ln_2, kd_3, fd_3_0, fd_3_1, fd_3_2, fd_3_3, fd_3_4, fd_3_5, fd_3_6, fd_3_7, fd_3_8, fd_3_9, ln_4, ln_5, ln_6, ln_7, ln_8, ln_9, ln_10, kd_11, fd_11_0, fd_11_1, fd_11_2, fd_11_3, fd_11_4, kd_12, fd_12_0, fd_12_1, fd_12_2, fd_12_3, ln_13, ln_14, ln_15, kd_16, fd_16_0, fd_16_1, fd_16_2, ln_17, kd_18, fd_18_0, fd_18_1, kd_19, fd_19_0, fd_19_1, fd_19_2, fd_19_3, fd_19_4, fd_19_5, fd_19_6, fd_19_7, fd_19_8, fd_19_9, fd_19_10, fd_19_11, fd_19_12, fd_19_13, fd_19_14, fd_19_15, fd_19_16, fd_19_17, fd_19_18, fd_19_19, fd_19_20, ln_20, ln_21, ln_22, ln_23, ln_24, ln_25, ln_26, ln_27, ln_28, ln_29, ln_30, ln_31, ln_32, List.getElem?_cons_zero, List.getElem?_cons_succ, List.set_cons_zero, List.set_cons_succ, true_and, and_true, ↓reduceIte, Int32.reduceLT, Int32.reduceLE, li_10, or_true, true_or, ↓sp_Text_at, ↓sp_Text_isDigit, ↓sp_Text_isWordByte]
    generalize f_at M p = b at h ⊢
    unfold srt at h
    by_cases c1 : b = -1
    · simp only [c1, ↓reduceIte] at h ⊢; exact h
    by_cases c2 : b = 34
    · simp only [c1, c2, ↓reduceIte] at h ⊢; exact h
    by_cases c3 : b = 39
    · simp only [c1, c2, c3, ↓reduceIte] at h ⊢; exact h
    by_cases c4 : b = 40
    · simp only [c1, c2, c3, c4, ↓reduceIte] at h ⊢; exact h
    by_cases c5 : b = 41
    · simp only [c1, c2, c3, c4, c5, ↓reduceIte] at h ⊢; exact h
    by_cases c6 : b = 46
    · simp only [c1, c2, c3, c4, c5, c6, ↓reduceIte] at h ⊢; exact h
    by_cases c7 : b = 45
    · simp only [c1, c2, c3, c4, c5, c6, c7, ↓reduceIte] at h ⊢; exact h
    cases c8 : dgB b
    · cases c9 : wB b
      · simp only [c1, c2, c3, c4, c5, c6, c7, c8, c9, b2, ↓reduceIte, Bool.false_eq_true] at h ⊢; exact h
      · simp only [c1, c2, c3, c4, c5, c6, c7, c8, c9, b2, ↓reduceIte, Bool.false_eq_true, li_10] at h ⊢; exact h
    · simp only [c1, c2, c3, c4, c5, c6, c7, c8, b2, ↓reduceIte, li_10] at h ⊢; exact h
  · cases h
/-- where a token of this sort ends, -1 if its bytes make none -/
def f_tend (M : aM) (i : Nat) (s : Int32) : Int32 := if s = 1 then f_num M i else if s = 2 then f_name M i else if s = 3 then f_str M i else if s = 9 then (if wB (f_at M (nI i - 1)) = true then -1 else if wB (bt (M 2) (tl M) (i + 1)) = true then -1 else nI (i + 1)) else if s = 11 then -1 else nI (i + 1)
def sp_Text_tokenEnd : aS := fun as M K => match as with
  | [.ref a, .int p, .int s] => a = 1 ∧ (tx_ok M ∧ sm p 400 ∧ (s = 1 → cl p < tl M)) ∧ K (some (.int (f_tend M (cl p) s))) M
  | _ => False
set_option maxRecDepth 100000 in
set_option maxHeartbeats 4000000 in
theorem ok_Text_tokenEnd {G : aG} (hG : am_ok G) : am_Sp G Y_Text_tokenEnd 3 sp_Text_tokenEnd := by
  intro as M K h
  unfold sp_Text_tokenEnd at h
  split at h
  · next a p s =>
    obtain ⟨rfl, ⟨hn, hp, hs⟩, h⟩ := h
    have hp2 := hp.2
    have e1 : p + 1 = nI (cl p + 1) := by rw [← nI_1, ← hp.1]
    refine am_entry hG (by decide +kernel) (Nat.le_of_ble_eq_true rfl) ?_
    refine am_go (cuts := k_Text_tokenEnd) (tb_Text_tokenEnd (ok_Text_numberEnd hG) (by decide) (ok_Text_nameEnd hG) (by decide) (ok_Text_stringEnd hG) (by decide) (ok_Text_at hG) (by decide) (ok_Text_isWordByte hG) (by decide)) 400 _ _ _ _ ?_
    change am_run _ _ _ _ _ _ [some (.ref 1), some (.int p), some (.int s)] [] _
    simp only [r_Text_tokenEnd_0, r_Text_tokenEnd_1, r_Text_tokenEnd_60, r_Text_tokenEnd_61, r_Text_tokenEnd_62, r_Text_tokenEnd_65, r_Text_tokenEnd_66, r_Text_tokenEnd_67, r_Text_tokenEnd_68, r_Text_tokenEnd_71, r_Text_tokenEnd_72, r_Text_tokenEnd_73, r_Text_tokenEnd_74, r_Text_tokenEnd_77, r_Text_tokenEnd_78, r_Text_tokenEnd_79, r_Text_tokenEnd_80, r_Text_tokenEnd_81, r_Text_tokenEnd_82, r_Text_tokenEnd_85, r_Text_tokenEnd_88, r_Text_tokenEnd_91, r_Text_tokenEnd_92, r_Text_tokenEnd_93, r_Text_tokenEnd_94, r_Text_tokenEnd_95, r_Text_tokenEnd_98, r_Text_tokenEnd_101, r_Text_tokenEnd_104, r_Text_tokenEnd_105, r_Text_tokenEnd_108, r_Text_tokenEnd_109, r_Text_tokenEnd_110, r_Text_tokenEnd_111, r_Text_tokenEnd_112, r_Text_tokenEnd_113, r_Text_tokenEnd_114, r_Text_tokenEnd_115, r_Text_tokenEnd_116, r_Text_tokenEnd_117, ai_iload, ai_switch, am_sw, ai_aload, ai_callv2, am_push, am_few, ai_iret, ai_const, ai_isub, ai_bin, ai_calls1, ai_ifne, ai_iadd, ai_ifeq, ai_goto, kd_0, fd_0_0, fd_0_1, fd_0_2, fd_0_3, fd_0_4, kd_1, fd_1_0, fd_1_1, ln_2, kd_3, fd_3_0, fd_3_1, fd_3_2, fd_3_3, fd_3_4, fd_3_5, fd_3_6, fd_3_7, fd_3_8, fd_3_9, ln_4, ln_5, ln_6, ln_7, ln_8, ln_9, ln_10, kd_11, fd_11_0, fd_11_1, fd_11_2, fd_11_3, fd_11_4, kd_12, fd_12_0, fd_12_1, fd_12_2, fd_12_3, ln_13, ln_14, ln_15, kd_16, fd_16_0, fd_16_1, fd_16_2, ln_17, kd_18, fd_18_0, fd_18_1, kd_19, fd_19_0, fd_19_1, fd_19_2, fd_19_3, fd_19_4, fd_19_5, fd_19_6, fd_19_7, fd_19_8, fd_19_9, fd_19_10, fd_19_11, fd_19_12, fd_19_13, fd_19_14, fd_19_15, fd_19_16, fd_19_17, fd_19_18, fd_19_19, fd_19_20, ln_20, ln_21, ln_22, ln_23, ln_24, ln_25, ln_26, ln_27, ln_28, ln_29, ln_30, ln_31, ln_32, List.getElem?_cons_zero, List.getElem?_cons_succ, List.set_cons_zero, List.set_cons_succ, true_and, and_true, ↓reduceIte, Int32.reduceLT, Int32.reduceLE, li_10, or_true, true_or, ↓sp_Text_at, ↓sp_Text_isWordByte, ↓sp_Text_numberEnd, ↓sp_Text_nameEnd, ↓sp_Text_stringEnd, e1, f_bt hn (show cl p + 1 < 2 ^ 31 by omega)]
    unfold f_tend at h
    rw [← hp.1] at h
    by_cases c1 : s = 1
    · simp only [c1, ↓reduceIte] at h ⊢; exact ⟨⟨hn, hp, hs c1⟩, h⟩
    by_cases c2 : s = 2
    · simp only [c1, c2, ↓reduceIte] at h ⊢; exact ⟨⟨hn, hp.1, by omega⟩, h⟩
    by_cases c3 : s = 3
    · simp only [c1, c2, c3, ↓reduceIte] at h ⊢; exact ⟨⟨hn, hp⟩, h⟩
    by_cases c9 : s = 9
    · subst c9
      cases w1 : wB (f_at M (p - 1)) <;> cases w2 : wB (bt (M 2) (tl M) (cl p + 1)) <;> simp [w1, w2, b2] at h ⊢ <;> exact h
    by_cases c11 : s = 11
    · subst c11; simp at h ⊢; exact h
    · simp only [c1, c2, c3, c9, c11, ↓reduceIte, ite_self] at h ⊢; exact h
  · cases h
def apd (M : aM) (b : Int32) : aM := am_up (am_up M 2 (tl M) b) 1 1 (nI (tl M + 1))
def sp_Text_append : aS := fun as M K => match as with
  | [.ref a, .int b] => a = 1 ∧ (tx_ok M ∧ tl M < 400) ∧ K none (apd M b)
  | _ => False
set_option maxRecDepth 100000 in
set_option maxHeartbeats 4000000 in
theorem ok_Text_append {G : aG} (hG : am_ok G) : am_Sp G Y_Text_append 0 sp_Text_append := by
  intro as M K h
  unfold sp_Text_append at h
  split at h
  · next a b =>
    obtain ⟨rfl, ⟨hn, ht⟩, h⟩ := h
    have e0 : ¬ M 1 1 < 0 := by rw [hn.1]; exact nI_pos (by omega)
    have e1 : M 1 1 < 400 := by rw [hn.1]; exact nI_lt (b := 400) ht (by decide)
    have e2 : vp_in (M 1 1) 400 := vin_lt e0 e1 (by decide)
    refine am_entry hG (by decide +kernel) (Nat.le_of_ble_eq_true rfl) ?_
    refine am_go (cuts := k_Text_append) tb_Text_append 400 _ _ _ _ ?_
    change am_run _ _ _ _ _ _ [some (.ref 1), some (.int b)] [] _
    simp only [r_Text_append_0, r_Text_append_1, r_Text_append_4, r_Text_append_7, r_Text_append_8, r_Text_append_11, r_Text_append_14, r_Text_append_17, r_Text_append_18, r_Text_append_21, r_Text_append_22, r_Text_append_25, r_Text_append_26, r_Text_append_27, r_Text_append_28, r_Text_append_29, r_Text_append_32, r_Text_append_33, r_Text_append_34, r_Text_append_37, ai_aload, ai_getf, ai_iflt, ai_const, ai_cmpge, ai_iload, ai_iast, ai_dup, am_c1, ai_iadd, ai_bin, ai_putf, ai_vret, kd_0, fd_0_0, fd_0_1, fd_0_2, fd_0_3, fd_0_4, kd_1, fd_1_0, fd_1_1, ln_2, kd_3, fd_3_0, fd_3_1, fd_3_2, fd_3_3, fd_3_4, fd_3_5, fd_3_6, fd_3_7, fd_3_8, fd_3_9, ln_4, ln_5, ln_6, ln_7, ln_8, ln_9, ln_10, kd_11, fd_11_0, fd_11_1, fd_11_2, fd_11_3, fd_11_4, kd_12, fd_12_0, fd_12_1, fd_12_2, fd_12_3, ln_13, ln_14, ln_15, kd_16, fd_16_0, fd_16_1, fd_16_2, ln_17, kd_18, fd_18_0, fd_18_1, kd_19, fd_19_0, fd_19_1, fd_19_2, fd_19_3, fd_19_4, fd_19_5, fd_19_6, fd_19_7, fd_19_8, fd_19_9, fd_19_10, fd_19_11, fd_19_12, fd_19_13, fd_19_14, fd_19_15, fd_19_16, fd_19_17, fd_19_18, fd_19_19, fd_19_20, ln_20, ln_21, ln_22, ln_23, ln_24, ln_25, ln_26, ln_27, ln_28, ln_29, ln_30, ln_31, ln_32, List.getElem?_cons_zero, List.getElem?_cons_succ, List.set_cons_zero, List.set_cons_succ, true_and, and_true, ↓reduceIte, Int32.reduceLT, Int32.reduceLE, li_10, or_true, true_or, e0, e1, e2]
    unfold apd at h
    rw [← nI_1, ← hn.1] at h
    have e3 : am_up M 2 (M 1 1).toNatClampNeg b 1 1 = M 1 1 := by rw [am_up_ne (by decide)]
    rw [e3]
    exact h
  · cases h
end
section
/-! THE TOKENS -/
def tk (M : aM) (c : Nat) (d i : Int32) : Int32 := if i < 0 then d else if i < M 12 3 then (if i < 401 then M c i.toNatClampNeg else d) else d
def sp_Tokens_sortOf : aS := fun as M K => match as with
  | [.ref a, .int i] => a = 12 ∧ K (some (.int (tk M 13 11 i))) M
  | _ => False
set_option maxRecDepth 100000 in
set_option maxHeartbeats 4000000 in
theorem ok_Tokens_sortOf {G : aG} (hG : am_ok G) : am_Sp G Y_Tokens_sortOf 0 sp_Tokens_sortOf := by
  intro as M K h
  unfold sp_Tokens_sortOf at h
  split at h
  · next a i =>
    obtain ⟨rfl, h⟩ := h
    refine am_entry hG (by decide +kernel) (Nat.le_of_ble_eq_true rfl) ?_
    refine am_go (cuts := k_Tokens_sortOf) tb_Tokens_sortOf 400 _ _ _ _ ?_
    change am_run _ _ _ _ _ _ [some (.ref 12), some (.int i)] [] _
    simp only [r_Tokens_sortOf_0, r_Tokens_sortOf_1, r_Tokens_sortOf_4, r_Tokens_sortOf_5, r_Tokens_sortOf_6, r_Tokens_sortOf_9, r_Tokens_sortOf_12, r_Tokens_sortOf_13, r_Tokens_sortOf_14, r_Tokens_sortOf_17, r_Tokens_sortOf_18, r_Tokens_sortOf_21, r_Tokens_sortOf_22, r_Tokens_sortOf_25, r_Tokens_sortOf_26, r_Tokens_sortOf_27, r_Tokens_sortOf_30, r_Tokens_sortOf_32, ai_iload, ai_iflt, ai_aload, ai_getf, ai_cmpge, ai_alen, ai_iald, ai_goto, ai_const, ai_iret, kd_0, fd_0_0, fd_0_1, fd_0_2, fd_0_3, fd_0_4, kd_1, fd_1_0, fd_1_1, ln_2, kd_3, fd_3_0, fd_3_1, fd_3_2, fd_3_3, fd_3_4, fd_3_5, fd_3_6, fd_3_7, fd_3_8, fd_3_9, ln_4, ln_5, ln_6, ln_7, ln_8, ln_9, ln_10, kd_11, fd_11_0, fd_11_1, fd_11_2, fd_11_3, fd_11_4, kd_12, fd_12_0, fd_12_1, fd_12_2, fd_12_3, ln_13, ln_14, ln_15, kd_16, fd_16_0, fd_16_1, fd_16_2, ln_17, kd_18, fd_18_0, fd_18_1, kd_19, fd_19_0, fd_19_1, fd_19_2, fd_19_3, fd_19_4, fd_19_5, fd_19_6, fd_19_7, fd_19_8, fd_19_9, fd_19_10, fd_19_11, fd_19_12, fd_19_13, fd_19_14, fd_19_15, fd_19_16, fd_19_17, fd_19_18, fd_19_19, fd_19_20, ln_20, ln_21, ln_22, ln_23, ln_24, ln_25, ln_26, ln_27, ln_28, ln_29, ln_30, ln_31, ln_32, List.getElem?_cons_zero, List.getElem?_cons_succ, List.set_cons_zero, List.set_cons_succ, true_and, and_true, ↓reduceIte, Int32.reduceLT, Int32.reduceLE, li_10, or_true, true_or]
    unfold tk at h
    by_cases h1 : i < 0
    · simp only [h1, ↓reduceIte] at h ⊢; exact h
    · simp only [h1, ↓reduceIte] at h ⊢
      by_cases h2 : i < M 12 3
      · simp only [h2, ↓reduceIte] at h ⊢
        by_cases h3 : i < 401
        · simp only [h3, ↓reduceIte] at h
          rw [if_pos (show i < Int32.ofNat 401 from h3)]
          exact ⟨vin_lt h1 h3 (by decide), h⟩
        · simp only [h3, ↓reduceIte] at h
          rw [if_neg (show ¬ i < Int32.ofNat 401 from h3)]; exact h
      · simp only [h2, ↓reduceIte] at h ⊢; exact h
  · cases h
def sp_Tokens_startOf : aS := fun as M K => match as with
  | [.ref a, .int i] => a = 12 ∧ K (some (.int (tk M 14 (-1) i))) M
  | _ => False
set_option maxRecDepth 100000 in
set_option maxHeartbeats 4000000 in
theorem ok_Tokens_startOf {G : aG} (hG : am_ok G) : am_Sp G Y_Tokens_startOf 0 sp_Tokens_startOf := by
  intro as M K h
  unfold sp_Tokens_startOf at h
  split at h
  · next a i =>
    obtain ⟨rfl, h⟩ := h
    refine am_entry hG (by decide +kernel) (Nat.le_of_ble_eq_true rfl) ?_
    refine am_go (cuts := k_Tokens_startOf) tb_Tokens_startOf 400 _ _ _ _ ?_
    change am_run _ _ _ _ _ _ [some (.ref 12), some (.int i)] [] _
    simp only [r_Tokens_startOf_0, r_Tokens_startOf_1, r_Tokens_startOf_4, r_Tokens_startOf_5, r_Tokens_startOf_6, r_Tokens_startOf_9, r_Tokens_startOf_12, r_Tokens_startOf_13, r_Tokens_startOf_14, r_Tokens_startOf_17, r_Tokens_startOf_18, r_Tokens_startOf_21, r_Tokens_startOf_22, r_Tokens_startOf_25, r_Tokens_startOf_26, r_Tokens_startOf_27, r_Tokens_startOf_30, r_Tokens_startOf_31, ai_iload, ai_iflt, ai_aload, ai_getf, ai_cmpge, ai_alen, ai_iald, ai_goto, ai_const, ai_iret, kd_0, fd_0_0, fd_0_1, fd_0_2, fd_0_3, fd_0_4, kd_1, fd_1_0, fd_1_1, ln_2, kd_3, fd_3_0, fd_3_1, fd_3_2, fd_3_3, fd_3_4, fd_3_5, fd_3_6, fd_3_7, fd_3_8, fd_3_9, ln_4, ln_5, ln_6, ln_7, ln_8, ln_9, ln_10, kd_11, fd_11_0, fd_11_1, fd_11_2, fd_11_3, fd_11_4, kd_12, fd_12_0, fd_12_1, fd_12_2, fd_12_3, ln_13, ln_14, ln_15, kd_16, fd_16_0, fd_16_1, fd_16_2, ln_17, kd_18, fd_18_0, fd_18_1, kd_19, fd_19_0, fd_19_1, fd_19_2, fd_19_3, fd_19_4, fd_19_5, fd_19_6, fd_19_7, fd_19_8, fd_19_9, fd_19_10, fd_19_11, fd_19_12, fd_19_13, fd_19_14, fd_19_15, fd_19_16, fd_19_17, fd_19_18, fd_19_19, fd_19_20, ln_20, ln_21, ln_22, ln_23, ln_24, ln_25, ln_26, ln_27, ln_28, ln_29, ln_30, ln_31, ln_32, List.getElem?_cons_zero, List.getElem?_cons_succ, List.set_cons_zero, List.set_cons_succ, true_and, and_true, ↓reduceIte, Int32.reduceLT, Int32.reduceLE, li_10, or_true, true_or]
    unfold tk at h
    by_cases h1 : i < 0
    · simp only [h1, ↓reduceIte] at h ⊢; exact h
    · simp only [h1, ↓reduceIte] at h ⊢
      by_cases h2 : i < M 12 3
      · simp only [h2, ↓reduceIte] at h ⊢
        by_cases h3 : i < 401
        · simp only [h3, ↓reduceIte] at h
          rw [if_pos (show i < Int32.ofNat 401 from h3)]
          exact ⟨vin_lt h1 h3 (by decide), h⟩
        · simp only [h3, ↓reduceIte] at h
          rw [if_neg (show ¬ i < Int32.ofNat 401 from h3)]; exact h
      · simp only [h2, ↓reduceIte] at h ⊢; exact h
  · cases h
def sp_Tokens_endOf : aS := fun as M K => match as with
  | [.ref a, .int i] => a = 12 ∧ K (some (.int (tk M 15 (-1) i))) M
  | _ => False
set_option maxRecDepth 100000 in
set_option maxHeartbeats 4000000 in
theorem ok_Tokens_endOf {G : aG} (hG : am_ok G) : am_Sp G Y_Tokens_endOf 0 sp_Tokens_endOf := by
  intro as M K h
  unfold sp_Tokens_endOf at h
  split at h
  · next a i =>
    obtain ⟨rfl, h⟩ := h
    refine am_entry hG (by decide +kernel) (Nat.le_of_ble_eq_true rfl) ?_
    refine am_go (cuts := k_Tokens_endOf) tb_Tokens_endOf 400 _ _ _ _ ?_
    change am_run _ _ _ _ _ _ [some (.ref 12), some (.int i)] [] _
    simp only [r_Tokens_endOf_0, r_Tokens_endOf_1, r_Tokens_endOf_4, r_Tokens_endOf_5, r_Tokens_endOf_6, r_Tokens_endOf_9, r_Tokens_endOf_12, r_Tokens_endOf_13, r_Tokens_endOf_14, r_Tokens_endOf_17, r_Tokens_endOf_18, r_Tokens_endOf_21, r_Tokens_endOf_22, r_Tokens_endOf_25, r_Tokens_endOf_26, r_Tokens_endOf_27, r_Tokens_endOf_30, r_Tokens_endOf_31, ai_iload, ai_iflt, ai_aload, ai_getf, ai_cmpge, ai_alen, ai_iald, ai_goto, ai_const, ai_iret, kd_0, fd_0_0, fd_0_1, fd_0_2, fd_0_3, fd_0_4, kd_1, fd_1_0, fd_1_1, ln_2, kd_3, fd_3_0, fd_3_1, fd_3_2, fd_3_3, fd_3_4, fd_3_5, fd_3_6, fd_3_7, fd_3_8, fd_3_9, ln_4, ln_5, ln_6, ln_7, ln_8, ln_9, ln_10, kd_11, fd_11_0, fd_11_1, fd_11_2, fd_11_3, fd_11_4, kd_12, fd_12_0, fd_12_1, fd_12_2, fd_12_3, ln_13, ln_14, ln_15, kd_16, fd_16_0, fd_16_1, fd_16_2, ln_17, kd_18, fd_18_0, fd_18_1, kd_19, fd_19_0, fd_19_1, fd_19_2, fd_19_3, fd_19_4, fd_19_5, fd_19_6, fd_19_7, fd_19_8, fd_19_9, fd_19_10, fd_19_11, fd_19_12, fd_19_13, fd_19_14, fd_19_15, fd_19_16, fd_19_17, fd_19_18, fd_19_19, fd_19_20, ln_20, ln_21, ln_22, ln_23, ln_24, ln_25, ln_26, ln_27, ln_28, ln_29, ln_30, ln_31, ln_32, List.getElem?_cons_zero, List.getElem?_cons_succ, List.set_cons_zero, List.set_cons_succ, true_and, and_true, ↓reduceIte, Int32.reduceLT, Int32.reduceLE, li_10, or_true, true_or]
    unfold tk at h
    by_cases h1 : i < 0
    · simp only [h1, ↓reduceIte] at h ⊢; exact h
    · simp only [h1, ↓reduceIte] at h ⊢
      by_cases h2 : i < M 12 3
      · simp only [h2, ↓reduceIte] at h ⊢
        by_cases h3 : i < 401
        · simp only [h3, ↓reduceIte] at h
          rw [if_pos (show i < Int32.ofNat 401 from h3)]
          exact ⟨vin_lt h1 h3 (by decide), h⟩
        · simp only [h3, ↓reduceIte] at h
          rw [if_neg (show ¬ i < Int32.ofNat 401 from h3)]; exact h
      · simp only [h2, ↓reduceIte] at h ⊢; exact h
  · cases h
/-- a token ends behind its beginning, and in the text -/
theorem bt_lt {t : Nat → Int32} {n i : Nat} (h : ¬ bt t n i = -1) : i < n := by
  apply Nat.lt_of_not_le
  intro q
  exact h (by unfold bt; rw [if_neg (by omega)])
theorem stE_in (t : Nat → Int32) (n : Nat) : ∀ (k i : Nat), ¬ stE t n k i = -1 → ∃ e, stE t n k i = nI e ∧ i < e ∧ e ≤ n
  | 0, i, h => absurd rfl h
  | k + 1, i, h => by
    have h1 := stE_in t n k (i + 1)
    have h2 := stE_in t n k (i + 2)
    simp only [stE] at h ⊢
    by_cases c1 : bt t n i = 34
    · have := bt_lt (t := t) (n := n) (i := i) (by rw [c1]; decide)
      simp only [c1, ↓reduceIte]
      exact ⟨i + 1, rfl, by omega, by omega⟩
    · simp only [c1, ↓reduceIte] at h ⊢
      by_cases c2 : bt t n i = 92
      · simp only [c2, ↓reduceIte] at h ⊢
        by_cases c3 : bt t n (i + 1) = 34
        · simp only [c3, ↓reduceIte] at h ⊢
          obtain ⟨e, a1, a2, a3⟩ := h2 h
          exact ⟨e, a1, by omega, a3⟩
        · simp only [c3, ↓reduceIte] at h ⊢
          by_cases c4 : bt t n (i + 1) = 92
          · simp only [c4, ↓reduceIte] at h ⊢
            obtain ⟨e, a1, a2, a3⟩ := h2 h
            exact ⟨e, a1, by omega, a3⟩
          · simp only [c4, ↓reduceIte] at h
            exact absurd trivial h
      · simp only [c2, ↓reduceIte] at h ⊢
        by_cases c3 : bt t n i < 32
        · simp only [c3, ↓reduceIte] at h
          exact absurd trivial h
        · simp only [c3, ↓reduceIte] at h ⊢
          by_cases c4 : 126 < bt t n i
          · simp only [c4, ↓reduceIte] at h
            exact absurd trivial h
          · simp only [c4, ↓reduceIte] at h ⊢
            obtain ⟨e, a1, a2, a3⟩ := h1 h
            exact ⟨e, a1, by omega, a3⟩
theorem srt_m1 {b : Int32} (h : ¬ srt b = 10) : ¬ b = -1 := fun q => h (by rw [q]; rfl)
theorem srt_2 {b : Int32} (h : srt b = 2) : wB b = true := by
  unfold srt at h
  by_cases c1 : b = -1
  · simp only [c1, ↓reduceIte] at h; exact absurd h (by decide)
  by_cases c2 : b = 34
  · simp only [c1, c2, ↓reduceIte] at h; exact absurd h (by decide)
  by_cases c3 : b = 39
  · simp only [c1, c2, c3, ↓reduceIte] at h; exact absurd h (by decide)
  by_cases c4 : b = 40
  · simp only [c1, c2, c3, c4, ↓reduceIte] at h; exact absurd h (by decide)
  by_cases c5 : b = 41
  · simp only [c1, c2, c3, c4, c5, ↓reduceIte] at h; exact absurd h (by decide)
  by_cases c6 : b = 46
  · simp only [c1, c2, c3, c4, c5, c6, ↓reduceIte] at h; exact absurd h (by decide)
  by_cases c7 : b = 45
  · simp only [c1, c2, c3, c4, c5, c6, c7, ↓reduceIte] at h; exact absurd h (by decide)
  simp only [c1, c2, c3, c4, c5, c6, c7, ↓reduceIte] at h
  cases c8 : dgB b
  · cases c9 : wB b
    · simp [c8, c9] at h
    · rfl
  · simp [c8] at h
theorem tend_in {M : aM} (hn : tx_ok M) {i : Nat} (h10 : ¬ srt (bt (M 2) (tl M) i) = 10) (h : ¬ f_tend M i (srt (bt (M 2) (tl M) i)) = -1) : ∃ e, f_tend M i (srt (bt (M 2) (tl M) i)) = nI e ∧ i < e ∧ e ≤ tl M := by
  have hi := bt_lt (srt_m1 h10)
  have hn2 := hn.2
  generalize hs : srt (bt (M 2) (tl M) i) = s at h h10 ⊢
  unfold f_tend at h ⊢
  by_cases c1 : s = 1
  · simp only [c1, ↓reduceIte] at h ⊢
    unfold f_num at h ⊢
    have hf : i ≤ nmF (M 2) i ∧ nmF (M 2) i ≤ i + 1 := by unfold nmF; split <;> omega
    generalize nmF (M 2) i = f at h hf ⊢
    have hw := wE_le (M 2) (tl M - f) f
    have hw2 : f_word M f = wE (M 2) (tl M - f) f := rfl
    by_cases d1 : f_word M f - f < 1
    · simp only [d1, ↓reduceIte] at h; exact absurd trivial h
    · simp only [d1, ↓reduceIte] at h ⊢
      by_cases d2 : 9 < f_word M f - f
      · simp only [d2, ↓reduceIte] at h; exact absurd trivial h
      · simp only [d2, ↓reduceIte] at h ⊢
        by_cases d3 : allD (M 2) (f_word M f - f) f = true
        · simp only [d3, ↓reduceIte]
          exact ⟨_, rfl, by omega, by omega⟩
        · rw [if_neg d3] at h; exact absurd rfl h
  by_cases c2 : s = 2
  · rw [if_neg c1, if_pos c2] at h ⊢
    have hw : wB (M 2 i) = true := by
      have q := srt_2 (hs.trans c2)
      unfold bt at q
      rw [if_pos hi] at q
      exact q
    unfold f_name at h ⊢
    have e1 : f_word M i = wE (M 2) (tl M - i - 1) (i + 1) := by
      unfold f_word
      rw [show tl M - i = (tl M - i - 1) + 1 by omega]
      simp only [wE, hw, ↓reduceIte, Nat.add_sub_cancel]
    have hl := wE_le (M 2) (tl M - i - 1) (i + 1)
    split
    · next d1 => rw [if_pos d1] at h; exact absurd rfl h
    · exact ⟨_, rfl, by omega, by omega⟩
  by_cases c3 : s = 3
  · rw [if_neg c1, if_neg c2, if_pos c3] at h ⊢
    obtain ⟨e, a1, a2, a3⟩ := stE_in (M 2) (tl M) 21 (i + 1) h
    exact ⟨e, a1, by omega, a3⟩
  by_cases c9 : s = 9
  · rw [if_neg c1, if_neg c2, if_neg c3, if_pos c9] at h ⊢
    by_cases d1 : wB (f_at M (nI i - 1)) = true
    · simp only [d1, ↓reduceIte] at h; exact absurd trivial h
    · simp only [d1, ↓reduceIte] at h ⊢
      by_cases d2 : wB (bt (M 2) (tl M) (i + 1)) = true
      · simp [d2] at h
      · simp only [d2, Bool.false_eq_true, ↓reduceIte] at h ⊢
        exact ⟨_, rfl, by omega, by omega⟩
  by_cases c11 : s = 11
  · simp only [c11, ↓reduceIte] at h; exact absurd rfl h
  · simp only [c1, c2, c3, c9, c11, ↓reduceIte]
    exact ⟨_, rfl, by omega, by omega⟩
/-- one token, from a place on: its beginning, sort and end -/
def sc_s (M0 : aM) (pos : Nat) : Nat := f_skip M0 pos
def sc_k (M0 : aM) (pos : Nat) : Int32 := srt (bt (M0 2) (tl M0) (sc_s M0 pos))
def sc_e (M0 : aM) (pos : Nat) : Int32 := f_tend M0 (sc_s M0 pos) (sc_k M0 pos)
def sc_put (M0 M : aM) (i pos : Nat) : aM := am_up (am_up (am_up (am_up M 13 i (if sc_e M0 pos = -1 then 11 else sc_k M0 pos)) 14 i (nI (sc_s M0 pos))) 15 i (sc_e M0 pos)) 12 3 (nI (i + 1))
def scanM (M0 : aM) : Nat → Nat → Nat → aM → aM
  | 0, _, _, M => M
  | k + 1, i, pos, M => if sc_e M0 pos = -1 then sc_put M0 M i pos else if sc_k M0 pos = 10 then sc_put M0 M i pos else scanM M0 k (i + 1) (cl (sc_e M0 pos)) (sc_put M0 M i pos)
theorem f_skip_le {M : aM} {pos : Nat} (h : pos ≤ tl M) : pos ≤ f_skip M pos ∧ f_skip M pos ≤ tl M := by
  have := skB_le (M 2) (tl M - pos) false pos
  unfold f_skip
  omega
def sT (M0 M : aM) : Prop := M 1 = M0 1 ∧ M 2 = M0 2
theorem sT.len {M0 M : aM} (h : sT M0 M) : tl M = tl M0 := by unfold tl; rw [h.1]
theorem sT.ok {M0 M : aM} (h : sT M0 M) (hn : tx_ok M0) : tx_ok M := by unfold tx_ok; rw [h.len, h.1]; exact hn
theorem sT.skip {M0 M : aM} (h : sT M0 M) (i : Nat) : f_skip M i = f_skip M0 i := by unfold f_skip; rw [h.len, h.2]
theorem sT.byte {M0 M : aM} (h : sT M0 M) (p : Int32) : f_at M p = f_at M0 p := by unfold f_at; rw [h.1, h.2]
theorem sT.word {M0 M : aM} (h : sT M0 M) (i : Nat) : f_word M i = f_word M0 i := by unfold f_word; rw [h.len, h.2]
theorem sT.tend {M0 M : aM} (h : sT M0 M) (i : Nat) (s : Int32) : f_tend M i s = f_tend M0 i s := by
  unfold f_tend f_num f_name f_str
  simp only [h.word, h.len, h.2, h.byte]
theorem sT.put {M0 M : aM} (h : sT M0 M) (i pos : Nat) : sT M0 (sc_put M0 M i pos) := by
  unfold sc_put
  exact ⟨by rw [am_up_ne (by decide), am_up_ne (by decide), am_up_ne (by decide), am_up_ne (by decide)]; exact h.1, by rw [am_up_ne (by decide), am_up_ne (by decide), am_up_ne (by decide), am_up_ne (by decide)]; exact h.2⟩
def sp_Tokens_scan : aS := fun as M K => match as with
  | [.ref a, .ref b] => a = 12 ∧ b = 1 ∧ tx_ok M ∧ K none (scanM M 401 0 0 (am_up M 12 3 0))
  | _ => False
set_option maxRecDepth 100000 in
set_option maxHeartbeats 4000000 in
theorem lp_Tokens_scan {G : aG} (hG : am_ok G) {K : aR} {M0 : aM} (hn : tx_ok M0) : ∀ (k i pos : Nat) (M : aM) (o4 o5 o6 : Option Value), i + k = 401 → sT M0 M → pos ≤ tl M0 → K none (scanM M0 k i pos M) → am_X G Y_Tokens_scan 4 K 9 [some (.ref 12), some (.ref 1), some (.int (nI pos)), some (.int (nI i)), o4, o5, o6] [] M := by
  intro k
  have hn2 := hn.2
  induction k with
  | zero =>
    intro i pos M o4 o5 o6 hk hT hp h
    have e1 : (400 : Int32) < nI i := nI_lt (a := 400) (by omega) (by omega)
    refine am_from (tb_Tokens_scan (ok_Text_skipBlanks hG) (by decide) (ok_Text_sortAt hG) (by decide) (ok_Text_tokenEnd hG) (by decide)) k_Tokens_scan 400 ?_
    simp only [q_Tokens_scan_9, r_Tokens_scan_0, r_Tokens_scan_1, r_Tokens_scan_2, r_Tokens_scan_5, r_Tokens_scan_6, r_Tokens_scan_7, r_Tokens_scan_8, r_Tokens_scan_9, r_Tokens_scan_10, r_Tokens_scan_13, r_Tokens_scan_16, r_Tokens_scan_17, r_Tokens_scan_18, r_Tokens_scan_21, r_Tokens_scan_23, r_Tokens_scan_24, r_Tokens_scan_26, r_Tokens_scan_29, r_Tokens_scan_31, r_Tokens_scan_32, r_Tokens_scan_34, r_Tokens_scan_36, r_Tokens_scan_39, r_Tokens_scan_41, r_Tokens_scan_42, r_Tokens_scan_45, r_Tokens_scan_46, r_Tokens_scan_48, r_Tokens_scan_49, r_Tokens_scan_52, r_Tokens_scan_54, r_Tokens_scan_57, r_Tokens_scan_59, r_Tokens_scan_60, r_Tokens_scan_61, r_Tokens_scan_64, r_Tokens_scan_65, r_Tokens_scan_67, r_Tokens_scan_68, r_Tokens_scan_69, r_Tokens_scan_72, r_Tokens_scan_73, r_Tokens_scan_75, r_Tokens_scan_76, r_Tokens_scan_77, r_Tokens_scan_78, r_Tokens_scan_79, r_Tokens_scan_80, r_Tokens_scan_83, r_Tokens_scan_85, r_Tokens_scan_86, r_Tokens_scan_89, r_Tokens_scan_91, r_Tokens_scan_93, r_Tokens_scan_96, r_Tokens_scan_97, r_Tokens_scan_99, r_Tokens_scan_100, r_Tokens_scan_103, r_Tokens_scan_106, ai_aload, ai_const, ai_putf, ai_istore, am_cut_0, am_cut_s, am_c1, ai_iload, ai_cmpgt, ai_callv2, am_push, am_few, ai_callv3, ai_getf, ai_cmpne, ai_goto, ai_iast, ai_iadd, ai_bin, ai_cmpeq, ai_vret, ai_iinc, kd_0, fd_0_0, fd_0_1, fd_0_2, fd_0_3, fd_0_4, kd_1, fd_1_0, fd_1_1, ln_2, kd_3, fd_3_0, fd_3_1, fd_3_2, fd_3_3, fd_3_4, fd_3_5, fd_3_6, fd_3_7, fd_3_8, fd_3_9, ln_4, ln_5, ln_6, ln_7, ln_8, ln_9, ln_10, kd_11, fd_11_0, fd_11_1, fd_11_2, fd_11_3, fd_11_4, kd_12, fd_12_0, fd_12_1, fd_12_2, fd_12_3, ln_13, ln_14, ln_15, kd_16, fd_16_0, fd_16_1, fd_16_2, ln_17, kd_18, fd_18_0, fd_18_1, kd_19, fd_19_0, fd_19_1, fd_19_2, fd_19_3, fd_19_4, fd_19_5, fd_19_6, fd_19_7, fd_19_8, fd_19_9, fd_19_10, fd_19_11, fd_19_12, fd_19_13, fd_19_14, fd_19_15, fd_19_16, fd_19_17, fd_19_18, fd_19_19, fd_19_20, ln_20, ln_21, ln_22, ln_23, ln_24, ln_25, ln_26, ln_27, ln_28, ln_29, ln_30, ln_31, ln_32, List.getElem?_cons_zero, List.getElem?_cons_succ, List.set_cons_zero, List.set_cons_succ, true_and, and_true, ↓reduceIte, Int32.reduceLT, Int32.reduceLE, li_10, or_true, true_or, e1]
    exact h
  | succ k ih =>
    intro i pos M o4 o5 o6 hk hT hp h
    have e1 : ¬ (400 : Int32) < nI i := nI_nlt (b := i) (a := 400) (by omega) (by decide)
    have hs := f_skip_le hp
    have hin : vp_in (nI i) 401 := vp_in_nI (by omega) (by decide)
    have ec : cl (nI pos) = pos := nI_clamp (by omega)
    have ec2 : (nI i).toNatClampNeg = i := nI_clamp (by omega)
    have es : cl (nI (f_skip M0 pos)) = f_skip M0 pos := nI_clamp (by omega)
    have hT2 := hT.ok hn
    have eb : f_at M (nI (f_skip M0 pos)) = bt (M0 2) (tl M0) (f_skip M0 pos) := by rw [hT.byte, f_bt hn (by omega)]
    refine am_from (tb_Tokens_scan (ok_Text_skipBlanks hG) (by decide) (ok_Text_sortAt hG) (by decide) (ok_Text_tokenEnd hG) (by decide)) k_Tokens_scan 400 ?_
    simp only [q_Tokens_scan_9, r_Tokens_scan_0, r_Tokens_scan_1, r_Tokens_scan_2, r_Tokens_scan_5, r_Tokens_scan_6, r_Tokens_scan_7, r_Tokens_scan_8, r_Tokens_scan_9, r_Tokens_scan_10, r_Tokens_scan_13, r_Tokens_scan_16, r_Tokens_scan_17, r_Tokens_scan_18, r_Tokens_scan_21, r_Tokens_scan_23, r_Tokens_scan_24, r_Tokens_scan_26, r_Tokens_scan_29, r_Tokens_scan_31, r_Tokens_scan_32, r_Tokens_scan_34, r_Tokens_scan_36, r_Tokens_scan_39, r_Tokens_scan_41, r_Tokens_scan_42, r_Tokens_scan_45, r_Tokens_scan_46, r_Tokens_scan_48, r_Tokens_scan_49, r_Tokens_scan_52, r_Tokens_scan_54, r_Tokens_scan_57, r_Tokens_scan_59, r_Tokens_scan_60, r_Tokens_scan_61, r_Tokens_scan_64, r_Tokens_scan_65, r_Tokens_scan_67, r_Tokens_scan_68, r_Tokens_scan_69, r_Tokens_scan_72, r_Tokens_scan_73, r_Tokens_scan_75, r_Tokens_scan_76, r_Tokens_scan_77, r_Tokens_scan_78, r_Tokens_scan_79, r_Tokens_scan_80, r_Tokens_scan_83, r_Tokens_scan_85, r_Tokens_scan_86, r_Tokens_scan_89, r_Tokens_scan_91, r_Tokens_scan_93, r_Tokens_scan_96, r_Tokens_scan_97, r_Tokens_scan_99, r_Tokens_scan_100, r_Tokens_scan_103, r_Tokens_scan_106, ai_aload, ai_const, ai_putf, ai_istore, am_cut_0, am_cut_s, am_c1, ai_iload, ai_cmpgt, ai_callv2, am_push, am_few, ai_callv3, ai_getf, ai_cmpne, ai_goto, ai_iast, ai_iadd, ai_bin, ai_cmpeq, ai_vret, ai_iinc, kd_0, fd_0_0, fd_0_1, fd_0_2, fd_0_3, fd_0_4, kd_1, fd_1_0, fd_1_1, ln_2, kd_3, fd_3_0, fd_3_1, fd_3_2, fd_3_3, fd_3_4, fd_3_5, fd_3_6, fd_3_7, fd_3_8, fd_3_9, ln_4, ln_5, ln_6, ln_7, ln_8, ln_9, ln_10, kd_11, fd_11_0, fd_11_1, fd_11_2, fd_11_3, fd_11_4, kd_12, fd_12_0, fd_12_1, fd_12_2, fd_12_3, ln_13, ln_14, ln_15, kd_16, fd_16_0, fd_16_1, fd_16_2, ln_17, kd_18, fd_18_0, fd_18_1, kd_19, fd_19_0, fd_19_1, fd_19_2, fd_19_3, fd_19_4, fd_19_5, fd_19_6, fd_19_7, fd_19_8, fd_19_9, fd_19_10, fd_19_11, fd_19_12, fd_19_13, fd_19_14, fd_19_15, fd_19_16, fd_19_17, fd_19_18, fd_19_19, fd_19_20, ln_20, ln_21, ln_22, ln_23, ln_24, ln_25, ln_26, ln_27, ln_28, ln_29, ln_30, ln_31, ln_32, List.getElem?_cons_zero, List.getElem?_cons_succ, List.set_cons_zero, List.set_cons_succ, true_and, and_true, ↓reduceIte, Int32.reduceLT, Int32.reduceLE, li_10, or_true, true_or, ↓sp_Text_skipBlanks, ↓sp_Text_sortAt, ↓sp_Text_tokenEnd, e1, ec, es, hT.skip, hT.tend, hT.len, eb, hin, ec2, nI_1]
    simp only [scanM] at h
    refine ⟨⟨hT2, sm_nI (by omega) (by omega)⟩, ⟨hT2, sm_nI (by omega) (by decide), fun q => ?_⟩, ?_⟩
    · exact bt_lt (srt_m1 (by rw [q]; decide))
    · have ek : sc_k M0 pos = srt (bt (M0 2) (tl M0) (f_skip M0 pos)) := rfl
      have ee : sc_e M0 pos = f_tend M0 (f_skip M0 pos) (srt (bt (M0 2) (tl M0) (f_skip M0 pos))) := rfl
      have ess : sc_s M0 pos = f_skip M0 pos := rfl
      rw [← ek] at ee ⊢
      rw [← ee]
      rw [← ess]
      by_cases c1 : sc_e M0 pos = -1
      · simp only [c1, ↓reduceIte] at h ⊢
        unfold sc_put at h
        simp only [c1, ↓reduceIte] at h
        exact h
      · simp only [c1, ↓reduceIte] at h ⊢
        by_cases c2 : sc_k M0 pos = 10
        · simp only [c2, ↓reduceIte] at h ⊢
          unfold sc_put at h
          simp only [c1, c2, ↓reduceIte] at h
          exact h
        · simp only [c2, ↓reduceIte] at h ⊢
          obtain ⟨e, a1, a2, a3⟩ := tend_in (M := M0) hn (i := f_skip M0 pos) c2 c1
          have a0 : sc_e M0 pos = nI e := a1
          have hM : am_up (am_up (am_up (am_up M 13 i (sc_k M0 pos)) 14 i (nI (sc_s M0 pos))) 15 i (sc_e M0 pos)) 12 3 (nI (i + 1)) = sc_put M0 M i pos := by
            unfold sc_put
            rw [if_neg c1]
          rw [hM]
          have g := ih (i + 1) e (sc_put M0 M i pos) (some (.int (nI (sc_s M0 pos)))) (some (.int (sc_k M0 pos))) (some (.int (sc_e M0 pos))) (by omega) (hT.put i pos) a3
          rw [a0] at g h ⊢
          rw [show cl (nI e) = e from nI_clamp (by omega)] at h
          exact g h
set_option maxRecDepth 100000 in
set_option maxHeartbeats 4000000 in
theorem ok_Tokens_scan {G : aG} (hG : am_ok G) : am_Sp G Y_Tokens_scan 4 sp_Tokens_scan := by
  intro as M K h
  unfold sp_Tokens_scan at h
  split at h
  · next a b =>
    obtain ⟨rfl, rfl, hn, h⟩ := h
    refine am_entry hG (by decide +kernel) (Nat.le_of_ble_eq_true rfl) ?_
    refine am_go (cuts := k_Tokens_scan) (tb_Tokens_scan (ok_Text_skipBlanks hG) (by decide) (ok_Text_sortAt hG) (by decide) (ok_Text_tokenEnd hG) (by decide)) 400 _ _ _ _ ?_
    change am_run _ _ _ _ _ _ [some (.ref 12), some (.ref 1), none, none, none, none, none] [] _
    simp only [q_Tokens_scan_9, r_Tokens_scan_0, r_Tokens_scan_1, r_Tokens_scan_2, r_Tokens_scan_5, r_Tokens_scan_6, r_Tokens_scan_7, r_Tokens_scan_8, r_Tokens_scan_9, r_Tokens_scan_10, r_Tokens_scan_13, r_Tokens_scan_16, r_Tokens_scan_17, r_Tokens_scan_18, r_Tokens_scan_21, r_Tokens_scan_23, r_Tokens_scan_24, r_Tokens_scan_26, r_Tokens_scan_29, r_Tokens_scan_31, r_Tokens_scan_32, r_Tokens_scan_34, r_Tokens_scan_36, r_Tokens_scan_39, r_Tokens_scan_41, r_Tokens_scan_42, r_Tokens_scan_45, r_Tokens_scan_46, r_Tokens_scan_48, r_Tokens_scan_49, r_Tokens_scan_52, r_Tokens_scan_54, r_Tokens_scan_57, r_Tokens_scan_59, r_Tokens_scan_60, r_Tokens_scan_61, r_Tokens_scan_64, r_Tokens_scan_65, r_Tokens_scan_67, r_Tokens_scan_68, r_Tokens_scan_69, r_Tokens_scan_72, r_Tokens_scan_73, r_Tokens_scan_75, r_Tokens_scan_76, r_Tokens_scan_77, r_Tokens_scan_78, r_Tokens_scan_79, r_Tokens_scan_80, r_Tokens_scan_83, r_Tokens_scan_85, r_Tokens_scan_86, r_Tokens_scan_89, r_Tokens_scan_91, r_Tokens_scan_93, r_Tokens_scan_96, r_Tokens_scan_97, r_Tokens_scan_99, r_Tokens_scan_100, r_Tokens_scan_103, r_Tokens_scan_106, ai_aload, ai_const, ai_putf, ai_istore, am_cut_0, am_cut_s, am_c1, ai_iload, ai_cmpgt, ai_callv2, am_push, am_few, ai_callv3, ai_getf, ai_cmpne, ai_goto, ai_iast, ai_iadd, ai_bin, ai_cmpeq, ai_vret, ai_iinc, kd_0, fd_0_0, fd_0_1, fd_0_2, fd_0_3, fd_0_4, kd_1, fd_1_0, fd_1_1, ln_2, kd_3, fd_3_0, fd_3_1, fd_3_2, fd_3_3, fd_3_4, fd_3_5, fd_3_6, fd_3_7, fd_3_8, fd_3_9, ln_4, ln_5, ln_6, ln_7, ln_8, ln_9, ln_10, kd_11, fd_11_0, fd_11_1, fd_11_2, fd_11_3, fd_11_4, kd_12, fd_12_0, fd_12_1, fd_12_2, fd_12_3, ln_13, ln_14, ln_15, kd_16, fd_16_0, fd_16_1, fd_16_2, ln_17, kd_18, fd_18_0, fd_18_1, kd_19, fd_19_0, fd_19_1, fd_19_2, fd_19_3, fd_19_4, fd_19_5, fd_19_6, fd_19_7, fd_19_8, fd_19_9, fd_19_10, fd_19_11, fd_19_12, fd_19_13, fd_19_14, fd_19_15, fd_19_16, fd_19_17, fd_19_18, fd_19_19, fd_19_20, ln_20, ln_21, ln_22, ln_23, ln_24, ln_25, ln_26, ln_27, ln_28, ln_29, ln_30, ln_31, ln_32, List.getElem?_cons_zero, List.getElem?_cons_succ, List.set_cons_zero, List.set_cons_succ, true_and, and_true, ↓reduceIte, Int32.reduceLT, Int32.reduceLE, li_10, or_true, true_or]
    exact lp_Tokens_scan hG hn 401 0 0 (am_up M 12 3 0) none none none rfl ⟨am_up_ne (by decide), am_up_ne (by decide)⟩ (Nat.zero_le _) h
  · cases h
end
section
/-! THE NODES -/
theorem am_up_ap (M : aM) (i j : Nat) (x : Int32) (a b : Nat) : am_up M i j x a b = if a = i then (if b = j then x else M a b) else M a b := by
  unfold am_up
  by_cases h : a = i
  · subst h
    simp [upd]
  · simp [h]
theorem b2_0 (p : Bool) : (b2 p = 0) = (p = false) := by cases p <;> simp [b2]
theorem b2_z (p : Bool) : (b2 p = 0 ∨ b2 p = 1) := by cases p <;> simp [b2]
def hasN (M : aM) (x : Int32) : Bool := !(decide (x < 0)) && decide (x < M 3 5) && decide (x < 200)
theorem hasN_in {M : aM} {x : Int32} (h : hasN M x = true) : vp_in x 200 := by
  simp only [hasN, Bool.and_eq_true, Bool.not_eq_true', decide_eq_false_iff_not, decide_eq_true_eq] at h
  exact vin_lt h.1.1 h.2 (by decide)
def sp_Nodes_has : aS := fun as M K => match as with
  | [.ref a, .int x] => a = 3 ∧ K (some (.int (b2 (hasN M x)))) M
  | _ => False
set_option maxRecDepth 100000 in
set_option maxHeartbeats 4000000 in
theorem ok_Nodes_has {G : aG} (hG : am_ok G) : am_Sp G Y_Nodes_has 0 sp_Nodes_has := by
  intro as M K h
  unfold sp_Nodes_has at h
  split at h
  · next a x =>
    obtain ⟨rfl, h⟩ := h
    refine am_entry hG (by decide +kernel) (Nat.le_of_ble_eq_true rfl) ?_
    refine am_go (cuts := k_Nodes_has) tb_Nodes_has 400 _ _ _ _ ?_
    change am_run _ _ _ _ _ _ [some (.ref 3), some (.int x)] [] _
    simp only [r_Nodes_has_0, r_Nodes_has_1, r_Nodes_has_4, r_Nodes_has_5, r_Nodes_has_6, r_Nodes_has_9, r_Nodes_has_12, r_Nodes_has_13, r_Nodes_has_16, r_Nodes_has_19, r_Nodes_has_20, r_Nodes_has_23, r_Nodes_has_24, ai_iload, ai_iflt, ai_aload, ai_getf, ai_cmpge, ai_const, ai_goto, ai_zret, kd_0, fd_0_0, fd_0_1, fd_0_2, fd_0_3, fd_0_4, kd_1, fd_1_0, fd_1_1, ln_2, kd_3, fd_3_0, fd_3_1, fd_3_2, fd_3_3, fd_3_4, fd_3_5, fd_3_6, fd_3_7, fd_3_8, fd_3_9, ln_4, ln_5, ln_6, ln_7, ln_8, ln_9, ln_10, kd_11, fd_11_0, fd_11_1, fd_11_2, fd_11_3, fd_11_4, kd_12, fd_12_0, fd_12_1, fd_12_2, fd_12_3, ln_13, ln_14, ln_15, kd_16, fd_16_0, fd_16_1, fd_16_2, ln_17, kd_18, fd_18_0, fd_18_1, kd_19, fd_19_0, fd_19_1, fd_19_2, fd_19_3, fd_19_4, fd_19_5, fd_19_6, fd_19_7, fd_19_8, fd_19_9, fd_19_10, fd_19_11, fd_19_12, fd_19_13, fd_19_14, fd_19_15, fd_19_16, fd_19_17, fd_19_18, fd_19_19, fd_19_20, ln_20, ln_21, ln_22, ln_23, ln_24, ln_25, ln_26, ln_27, ln_28, ln_29, ln_30, ln_31, ln_32, List.getElem?_cons_zero, List.getElem?_cons_succ, List.set_cons_zero, List.set_cons_succ, true_and, and_true, ↓reduceIte, Int32.reduceLT, Int32.reduceLE, li_10, or_true, true_or]
    unfold hasN at h
    by_cases c1 : x < 0 <;> by_cases c2 : x < M 3 5 <;> by_cases c3 : x < 200 <;> simp [c1, c2, c3, b2] at h ⊢ <;> exact h
  · cases h
def isN (M : aM) (x k : Int32) : Bool := hasN M x && decide (M 4 (cl x) = k)
def sp_Nodes_isOf : aS := fun as M K => match as with
  | [.ref a, .int x, .int k] => a = 3 ∧ K (some (.int (b2 (isN M x k)))) M
  | _ => False
set_option maxRecDepth 100000 in
set_option maxHeartbeats 4000000 in
theorem ok_Nodes_isOf {G : aG} (hG : am_ok G) : am_Sp G Y_Nodes_isOf 0 sp_Nodes_isOf := by
  intro as M K h
  unfold sp_Nodes_isOf at h
  split at h
  · next a x k =>
    obtain ⟨rfl, h⟩ := h
    refine am_entry hG (by decide +kernel) (Nat.le_of_ble_eq_true rfl) ?_
    refine am_go (cuts := k_Nodes_isOf) tb_Nodes_isOf 400 _ _ _ _ ?_
    change am_run _ _ _ _ _ _ [some (.ref 3), some (.int x), some (.int k)] [] _
    simp only [r_Nodes_isOf_0, r_Nodes_isOf_1, r_Nodes_isOf_4, r_Nodes_isOf_5, r_Nodes_isOf_6, r_Nodes_isOf_9, r_Nodes_isOf_12, r_Nodes_isOf_13, r_Nodes_isOf_16, r_Nodes_isOf_19, r_Nodes_isOf_20, r_Nodes_isOf_23, r_Nodes_isOf_24, r_Nodes_isOf_25, r_Nodes_isOf_26, r_Nodes_isOf_29, r_Nodes_isOf_30, r_Nodes_isOf_33, r_Nodes_isOf_34, ai_iload, ai_iflt, ai_aload, ai_getf, ai_cmpge, ai_const, ai_iald, ai_cmpne, ai_goto, ai_zret, kd_0, fd_0_0, fd_0_1, fd_0_2, fd_0_3, fd_0_4, kd_1, fd_1_0, fd_1_1, ln_2, kd_3, fd_3_0, fd_3_1, fd_3_2, fd_3_3, fd_3_4, fd_3_5, fd_3_6, fd_3_7, fd_3_8, fd_3_9, ln_4, ln_5, ln_6, ln_7, ln_8, ln_9, ln_10, kd_11, fd_11_0, fd_11_1, fd_11_2, fd_11_3, fd_11_4, kd_12, fd_12_0, fd_12_1, fd_12_2, fd_12_3, ln_13, ln_14, ln_15, kd_16, fd_16_0, fd_16_1, fd_16_2, ln_17, kd_18, fd_18_0, fd_18_1, kd_19, fd_19_0, fd_19_1, fd_19_2, fd_19_3, fd_19_4, fd_19_5, fd_19_6, fd_19_7, fd_19_8, fd_19_9, fd_19_10, fd_19_11, fd_19_12, fd_19_13, fd_19_14, fd_19_15, fd_19_16, fd_19_17, fd_19_18, fd_19_19, fd_19_20, ln_20, ln_21, ln_22, ln_23, ln_24, ln_25, ln_26, ln_27, ln_28, ln_29, ln_30, ln_31, ln_32, List.getElem?_cons_zero, List.getElem?_cons_succ, List.set_cons_zero, List.set_cons_succ, true_and, and_true, ↓reduceIte, Int32.reduceLT, Int32.reduceLE, li_10, or_true, true_or]
    unfold isN hasN at h
    by_cases c1 : x < 0
    · simp [c1, b2] at h ⊢; exact h
    by_cases c2 : x < M 3 5
    · by_cases c3 : x < 200
      · have c4 : vp_in x 200 := vin_lt c1 c3 (by decide)
        by_cases c5 : M 4 (cl x) = k <;> simp [c1, c2, c3, c4, c5, b2] at h ⊢ <;> exact h
      · simp [c1, c2, c3, b2] at h ⊢; exact h
    · simp [c1, c2, b2] at h ⊢; exact h
  · cases h
def clrM (M : aM) : aM := am_up (am_up (am_up M 3 5 0) 3 7 0) 3 9 5
def sp_Nodes_clear : aS := fun as M K => match as with
  | [.ref a] => a = 3 ∧ K none (clrM M)
  | _ => False
set_option maxRecDepth 100000 in
set_option maxHeartbeats 4000000 in
theorem ok_Nodes_clear {G : aG} (hG : am_ok G) : am_Sp G Y_Nodes_clear 0 sp_Nodes_clear := by
  intro as M K h
  unfold sp_Nodes_clear at h
  split at h
  · next a =>
    obtain ⟨rfl, h⟩ := h
    refine am_entry hG (by decide +kernel) (Nat.le_of_ble_eq_true rfl) ?_
    refine am_go (cuts := k_Nodes_clear) tb_Nodes_clear 400 _ _ _ _ ?_
    change am_run _ _ _ _ _ _ [some (.ref 3)] [] _
    simp only [r_Nodes_clear_0, r_Nodes_clear_1, r_Nodes_clear_2, r_Nodes_clear_5, r_Nodes_clear_6, r_Nodes_clear_7, r_Nodes_clear_10, r_Nodes_clear_11, r_Nodes_clear_14, r_Nodes_clear_15, r_Nodes_clear_18, ai_aload, ai_const, ai_putf, ai_gets, ai_xlen, ai_vret, kd_0, fd_0_0, fd_0_1, fd_0_2, fd_0_3, fd_0_4, kd_1, fd_1_0, fd_1_1, ln_2, kd_3, fd_3_0, fd_3_1, fd_3_2, fd_3_3, fd_3_4, fd_3_5, fd_3_6, fd_3_7, fd_3_8, fd_3_9, ln_4, ln_5, ln_6, ln_7, ln_8, ln_9, ln_10, kd_11, fd_11_0, fd_11_1, fd_11_2, fd_11_3, fd_11_4, kd_12, fd_12_0, fd_12_1, fd_12_2, fd_12_3, ln_13, ln_14, ln_15, kd_16, fd_16_0, fd_16_1, fd_16_2, ln_17, kd_18, fd_18_0, fd_18_1, kd_19, fd_19_0, fd_19_1, fd_19_2, fd_19_3, fd_19_4, fd_19_5, fd_19_6, fd_19_7, fd_19_8, fd_19_9, fd_19_10, fd_19_11, fd_19_12, fd_19_13, fd_19_14, fd_19_15, fd_19_16, fd_19_17, fd_19_18, fd_19_19, fd_19_20, ln_20, ln_21, ln_22, ln_23, ln_24, ln_25, ln_26, ln_27, ln_28, ln_29, ln_30, ln_31, ln_32, List.getElem?_cons_zero, List.getElem?_cons_succ, List.set_cons_zero, List.set_cons_succ, true_and, and_true, ↓reduceIte, Int32.reduceLT, Int32.reduceLE, li_10, or_true, true_or]
    exact h
  · cases h
/-- the number of nodes -/
def nc (M : aM) : Nat := cl (M 3 5)
def nd_ok (M : aM) : Prop := M 3 5 = nI (nc M) ∧ nc M ≤ 200
def addM (M : aM) (k : Int32) : aM := am_up (am_up (am_up (am_up (am_up (am_up M 4 (nc M) k) 5 (nc M) 0) 6 (nc M) (M 3 9)) 7 (nc M) (-1)) 8 (nc M) (-1)) 3 5 (nI (nc M + 1))
def sp_Nodes_add : aS := fun as M K => match as with
  | [.ref a, .int k] => a = 3 ∧ nd_ok M ∧ (if nc M = 200 then K (some (.int (-1))) M else K (some (.int (nI (nc M)))) (addM M k))
  | _ => False
set_option maxRecDepth 100000 in
set_option maxHeartbeats 4000000 in
theorem ok_Nodes_add {G : aG} (hG : am_ok G) : am_Sp G Y_Nodes_add 0 sp_Nodes_add := by
  intro as M K h
  unfold sp_Nodes_add at h
  split at h
  · next a k =>
    obtain ⟨rfl, hn, h⟩ := h
    have hn2 := hn.2
    have e0 : ¬ nI (nc M) < 0 := nI_pos (by omega)
    have ec : (nI (nc M)).toNatClampNeg = nc M := nI_clamp (by omega)
    by_cases c : nc M = 200
    · have e1 : ¬ nI (nc M) < 200 := nI_nlt (b := 200) (a := nc M) (by omega) (by omega)
      have e3 : ¬ M 3 5 < 0 := by rw [hn.1]; exact e0
      have e4 : ¬ M 3 5 < 200 := by rw [hn.1]; exact e1
      refine am_entry hG (by decide +kernel) (Nat.le_of_ble_eq_true rfl) ?_
      refine am_go (cuts := k_Nodes_add) tb_Nodes_add 400 _ _ _ _ ?_
      change am_run _ _ _ _ _ _ [some (.ref 3), some (.int k), none] [] _
      simp only [r_Nodes_add_0, r_Nodes_add_1, r_Nodes_add_4, r_Nodes_add_7, r_Nodes_add_8, r_Nodes_add_11, r_Nodes_add_14, r_Nodes_add_17, r_Nodes_add_18, r_Nodes_add_19, r_Nodes_add_20, r_Nodes_add_23, r_Nodes_add_24, r_Nodes_add_25, r_Nodes_add_28, r_Nodes_add_29, r_Nodes_add_30, r_Nodes_add_31, r_Nodes_add_32, r_Nodes_add_35, r_Nodes_add_36, r_Nodes_add_37, r_Nodes_add_38, r_Nodes_add_39, r_Nodes_add_42, r_Nodes_add_43, r_Nodes_add_44, r_Nodes_add_47, r_Nodes_add_48, r_Nodes_add_49, r_Nodes_add_52, r_Nodes_add_53, r_Nodes_add_54, r_Nodes_add_55, r_Nodes_add_56, r_Nodes_add_59, r_Nodes_add_60, r_Nodes_add_61, r_Nodes_add_62, r_Nodes_add_63, r_Nodes_add_64, r_Nodes_add_67, r_Nodes_add_68, r_Nodes_add_69, r_Nodes_add_72, r_Nodes_add_73, ai_aload, ai_getf, ai_iflt, ai_const, ai_cmplt, ai_iret, ai_istore, am_cut_0, am_cut_s, am_c1, ai_iload, ai_iast, ai_dup, ai_iadd, ai_bin, ai_putf, kd_0, fd_0_0, fd_0_1, fd_0_2, fd_0_3, fd_0_4, kd_1, fd_1_0, fd_1_1, ln_2, kd_3, fd_3_0, fd_3_1, fd_3_2, fd_3_3, fd_3_4, fd_3_5, fd_3_6, fd_3_7, fd_3_8, fd_3_9, ln_4, ln_5, ln_6, ln_7, ln_8, ln_9, ln_10, kd_11, fd_11_0, fd_11_1, fd_11_2, fd_11_3, fd_11_4, kd_12, fd_12_0, fd_12_1, fd_12_2, fd_12_3, ln_13, ln_14, ln_15, kd_16, fd_16_0, fd_16_1, fd_16_2, ln_17, kd_18, fd_18_0, fd_18_1, kd_19, fd_19_0, fd_19_1, fd_19_2, fd_19_3, fd_19_4, fd_19_5, fd_19_6, fd_19_7, fd_19_8, fd_19_9, fd_19_10, fd_19_11, fd_19_12, fd_19_13, fd_19_14, fd_19_15, fd_19_16, fd_19_17, fd_19_18, fd_19_19, fd_19_20, ln_20, ln_21, ln_22, ln_23, ln_24, ln_25, ln_26, ln_27, ln_28, ln_29, ln_30, ln_31, ln_32, List.getElem?_cons_zero, List.getElem?_cons_succ, List.set_cons_zero, List.set_cons_succ, true_and, and_true, ↓reduceIte, Int32.reduceLT, Int32.reduceLE, li_10, or_true, true_or, e3, e4]
      rw [if_pos c] at h; exact h
    · have e1 : nI (nc M) < 200 := nI_lt (b := 200) (by omega) (by decide)
      have e2 : vp_in (nI (nc M)) 200 := vp_in_nI (by omega) (by decide)
      have e3 : ¬ M 3 5 < 0 := by rw [hn.1]; exact e0
      have e4 : M 3 5 < 200 := by rw [hn.1]; exact e1
      have e5 : vp_in (M 3 5) 200 := by rw [hn.1]; exact e2
      refine am_entry hG (by decide +kernel) (Nat.le_of_ble_eq_true rfl) ?_
      refine am_go (cuts := k_Nodes_add) tb_Nodes_add 400 _ _ _ _ ?_
      change am_run _ _ _ _ _ _ [some (.ref 3), some (.int k), none] [] _
      simp only [r_Nodes_add_0, r_Nodes_add_1, r_Nodes_add_4, r_Nodes_add_7, r_Nodes_add_8, r_Nodes_add_11, r_Nodes_add_14, r_Nodes_add_17, r_Nodes_add_18, r_Nodes_add_19, r_Nodes_add_20, r_Nodes_add_23, r_Nodes_add_24, r_Nodes_add_25, r_Nodes_add_28, r_Nodes_add_29, r_Nodes_add_30, r_Nodes_add_31, r_Nodes_add_32, r_Nodes_add_35, r_Nodes_add_36, r_Nodes_add_37, r_Nodes_add_38, r_Nodes_add_39, r_Nodes_add_42, r_Nodes_add_43, r_Nodes_add_44, r_Nodes_add_47, r_Nodes_add_48, r_Nodes_add_49, r_Nodes_add_52, r_Nodes_add_53, r_Nodes_add_54, r_Nodes_add_55, r_Nodes_add_56, r_Nodes_add_59, r_Nodes_add_60, r_Nodes_add_61, r_Nodes_add_62, r_Nodes_add_63, r_Nodes_add_64, r_Nodes_add_67, r_Nodes_add_68, r_Nodes_add_69, r_Nodes_add_72, r_Nodes_add_73, ai_aload, ai_getf, ai_iflt, ai_const, ai_cmplt, ai_iret, ai_istore, am_cut_0, am_cut_s, am_c1, ai_iload, ai_iast, ai_dup, ai_iadd, ai_bin, ai_putf, kd_0, fd_0_0, fd_0_1, fd_0_2, fd_0_3, fd_0_4, kd_1, fd_1_0, fd_1_1, ln_2, kd_3, fd_3_0, fd_3_1, fd_3_2, fd_3_3, fd_3_4, fd_3_5, fd_3_6, fd_3_7, fd_3_8, fd_3_9, ln_4, ln_5, ln_6, ln_7, ln_8, ln_9, ln_10, kd_11, fd_11_0, fd_11_1, fd_11_2, fd_11_3, fd_11_4, kd_12, fd_12_0, fd_12_1, fd_12_2, fd_12_3, ln_13, ln_14, ln_15, kd_16, fd_16_0, fd_16_1, fd_16_2, ln_17, kd_18, fd_18_0, fd_18_1, kd_19, fd_19_0, fd_19_1, fd_19_2, fd_19_3, fd_19_4, fd_19_5, fd_19_6, fd_19_7, fd_19_8, fd_19_9, fd_19_10, fd_19_11, fd_19_12, fd_19_13, fd_19_14, fd_19_15, fd_19_16, fd_19_17, fd_19_18, fd_19_19, fd_19_20, ln_20, ln_21, ln_22, ln_23, ln_24, ln_25, ln_26, ln_27, ln_28, ln_29, ln_30, ln_31, ln_32, List.getElem?_cons_zero, List.getElem?_cons_succ, List.set_cons_zero, List.set_cons_succ, true_and, and_true, ↓reduceIte, Int32.reduceLT, Int32.reduceLE, li_10, or_true, true_or, e3, e4, e5, am_up_ap, Nat.reduceEqDiff]
      rw [if_neg c] at h
      rw [hn.1, nI_1, ec]
      exact h
  · cases h
/-- the number of data -/
def dc (M : aM) : Nat := cl (M 3 7)
def sp_Nodes_addDatum : aS := fun as M K => match as with
  | [.ref a, .int x] => a = 3 ∧ (M 3 7 = nI (dc M) ∧ dc M < 200) ∧ K none (am_up (am_up M 9 (dc M) x) 3 7 (nI (dc M + 1)))
  | _ => False
set_option maxRecDepth 100000 in
set_option maxHeartbeats 4000000 in
theorem ok_Nodes_addDatum {G : aG} (hG : am_ok G) : am_Sp G Y_Nodes_addDatum 0 sp_Nodes_addDatum := by
  intro as M K h
  unfold sp_Nodes_addDatum at h
  split at h
  · next a x =>
    obtain ⟨rfl, ⟨hn, hn2⟩, h⟩ := h
    have e0 : ¬ nI (dc M) < 0 := nI_pos (by omega)
    have ec : (nI (dc M)).toNatClampNeg = dc M := nI_clamp (by omega)
    have e1 : nI (dc M) < 200 := nI_lt (b := 200) (by omega) (by decide)
    have e2 : vp_in (nI (dc M)) 200 := vp_in_nI (by omega) (by decide)
    have e3 : ¬ M 3 7 < 0 := by rw [hn]; exact e0
    have e4 : M 3 7 < 200 := by rw [hn]; exact e1
    have e5 : vp_in (M 3 7) 200 := by rw [hn]; exact e2
    refine am_entry hG (by decide +kernel) (Nat.le_of_ble_eq_true rfl) ?_
    refine am_go (cuts := k_Nodes_addDatum) tb_Nodes_addDatum 400 _ _ _ _ ?_
    change am_run _ _ _ _ _ _ [some (.ref 3), some (.int x)] [] _
    simp only [r_Nodes_addDatum_0, r_Nodes_addDatum_1, r_Nodes_addDatum_4, r_Nodes_addDatum_7, r_Nodes_addDatum_8, r_Nodes_addDatum_11, r_Nodes_addDatum_14, r_Nodes_addDatum_17, r_Nodes_addDatum_18, r_Nodes_addDatum_21, r_Nodes_addDatum_22, r_Nodes_addDatum_25, r_Nodes_addDatum_26, r_Nodes_addDatum_27, r_Nodes_addDatum_28, r_Nodes_addDatum_29, r_Nodes_addDatum_32, r_Nodes_addDatum_33, r_Nodes_addDatum_34, r_Nodes_addDatum_37, ai_aload, ai_getf, ai_iflt, ai_const, ai_cmpge, ai_iload, ai_iast, ai_dup, am_c1, ai_iadd, ai_bin, ai_putf, ai_vret, kd_0, fd_0_0, fd_0_1, fd_0_2, fd_0_3, fd_0_4, kd_1, fd_1_0, fd_1_1, ln_2, kd_3, fd_3_0, fd_3_1, fd_3_2, fd_3_3, fd_3_4, fd_3_5, fd_3_6, fd_3_7, fd_3_8, fd_3_9, ln_4, ln_5, ln_6, ln_7, ln_8, ln_9, ln_10, kd_11, fd_11_0, fd_11_1, fd_11_2, fd_11_3, fd_11_4, kd_12, fd_12_0, fd_12_1, fd_12_2, fd_12_3, ln_13, ln_14, ln_15, kd_16, fd_16_0, fd_16_1, fd_16_2, ln_17, kd_18, fd_18_0, fd_18_1, kd_19, fd_19_0, fd_19_1, fd_19_2, fd_19_3, fd_19_4, fd_19_5, fd_19_6, fd_19_7, fd_19_8, fd_19_9, fd_19_10, fd_19_11, fd_19_12, fd_19_13, fd_19_14, fd_19_15, fd_19_16, fd_19_17, fd_19_18, fd_19_19, fd_19_20, ln_20, ln_21, ln_22, ln_23, ln_24, ln_25, ln_26, ln_27, ln_28, ln_29, ln_30, ln_31, ln_32, List.getElem?_cons_zero, List.getElem?_cons_succ, List.set_cons_zero, List.set_cons_succ, true_and, and_true, ↓reduceIte, Int32.reduceLT, Int32.reduceLE, li_10, or_true, true_or, e3, e4, e5, am_up_ap, Nat.reduceEqDiff]
    rw [hn, nI_1, ec]
    exact h
  · cases h
/-- the number of letters -/
def lc (M : aM) : Nat := cl (M 3 9)
def ltrM (M : aM) (x b : Int32) : aM := am_up (am_up (am_up M 10 (lc M) b) 3 9 (nI (lc M + 1))) 5 (cl x) (M 5 (cl x) + 1)
def sp_Nodes_addLetter : aS := fun as M K => match as with
  | [.ref a, .int x, .int b] => a = 3 ∧ (if hasN M x = true then (M 3 9 = nI (lc M) ∧ lc M < 405) ∧ K none (ltrM M x b) else K none M)
  | _ => False
set_option maxRecDepth 100000 in
set_option maxHeartbeats 4000000 in
theorem ok_Nodes_addLetter {G : aG} (hG : am_ok G) : am_Sp G Y_Nodes_addLetter 1 sp_Nodes_addLetter := by
  intro as M K h
  unfold sp_Nodes_addLetter at h
  split at h
  · next a x b =>
    obtain ⟨rfl, h⟩ := h
    cases c : hasN M x
    · rw [c, if_neg (by decide)] at h
      refine am_entry hG (by decide +kernel) (Nat.le_of_ble_eq_true rfl) ?_
      refine am_go (cuts := k_Nodes_addLetter) (tb_Nodes_addLetter (ok_Nodes_has hG) (by decide)) 400 _ _ _ _ ?_
      change am_run _ _ _ _ _ _ [some (.ref 3), some (.int x), some (.int b)] [] _
      simp only [r_Nodes_addLetter_0, r_Nodes_addLetter_1, r_Nodes_addLetter_2, r_Nodes_addLetter_5, r_Nodes_addLetter_8, r_Nodes_addLetter_9, r_Nodes_addLetter_12, r_Nodes_addLetter_15, r_Nodes_addLetter_16, r_Nodes_addLetter_19, r_Nodes_addLetter_20, r_Nodes_addLetter_23, r_Nodes_addLetter_24, r_Nodes_addLetter_27, r_Nodes_addLetter_28, r_Nodes_addLetter_31, r_Nodes_addLetter_32, r_Nodes_addLetter_35, r_Nodes_addLetter_36, r_Nodes_addLetter_37, r_Nodes_addLetter_38, r_Nodes_addLetter_39, r_Nodes_addLetter_42, r_Nodes_addLetter_43, r_Nodes_addLetter_44, r_Nodes_addLetter_47, r_Nodes_addLetter_48, r_Nodes_addLetter_51, r_Nodes_addLetter_52, r_Nodes_addLetter_53, r_Nodes_addLetter_54, r_Nodes_addLetter_55, r_Nodes_addLetter_56, r_Nodes_addLetter_57, ai_aload, ai_iload, ai_callv2, am_push, am_few, ai_ifeq, ai_getf, ai_iflt, ai_alen, ai_cmpge, ai_iast, ai_dup, am_c1, ai_const, ai_iadd, ai_bin, ai_putf, ai_dup2, ai_iald, ai_vret, kd_0, fd_0_0, fd_0_1, fd_0_2, fd_0_3, fd_0_4, kd_1, fd_1_0, fd_1_1, ln_2, kd_3, fd_3_0, fd_3_1, fd_3_2, fd_3_3, fd_3_4, fd_3_5, fd_3_6, fd_3_7, fd_3_8, fd_3_9, ln_4, ln_5, ln_6, ln_7, ln_8, ln_9, ln_10, kd_11, fd_11_0, fd_11_1, fd_11_2, fd_11_3, fd_11_4, kd_12, fd_12_0, fd_12_1, fd_12_2, fd_12_3, ln_13, ln_14, ln_15, kd_16, fd_16_0, fd_16_1, fd_16_2, ln_17, kd_18, fd_18_0, fd_18_1, kd_19, fd_19_0, fd_19_1, fd_19_2, fd_19_3, fd_19_4, fd_19_5, fd_19_6, fd_19_7, fd_19_8, fd_19_9, fd_19_10, fd_19_11, fd_19_12, fd_19_13, fd_19_14, fd_19_15, fd_19_16, fd_19_17, fd_19_18, fd_19_19, fd_19_20, ln_20, ln_21, ln_22, ln_23, ln_24, ln_25, ln_26, ln_27, ln_28, ln_29, ln_30, ln_31, ln_32, List.getElem?_cons_zero, List.getElem?_cons_succ, List.set_cons_zero, List.set_cons_succ, true_and, and_true, ↓reduceIte, Int32.reduceLT, Int32.reduceLE, li_10, or_true, true_or, ↓sp_Nodes_has, b2_0, c]
      exact h
    · rw [if_pos c] at h
      obtain ⟨⟨hn, hn2⟩, h⟩ := h
      have e0 : ¬ nI (lc M) < 0 := nI_pos (by omega)
      have ec : (nI (lc M)).toNatClampNeg = lc M := nI_clamp (by omega)
      have e1 : nI (lc M) < Int32.ofNat 405 := nI_lt (b := 405) (by omega) (by decide)
      have e2 : vp_in (nI (lc M)) 405 := vp_in_nI (by omega) (by decide)
      have e3 : ¬ M 3 9 < 0 := by rw [hn]; exact e0
      have e4 : M 3 9 < Int32.ofNat 405 := by rw [hn]; exact e1
      have e5 : vp_in (M 3 9) 405 := by rw [hn]; exact e2
      refine am_entry hG (by decide +kernel) (Nat.le_of_ble_eq_true rfl) ?_
      refine am_go (cuts := k_Nodes_addLetter) (tb_Nodes_addLetter (ok_Nodes_has hG) (by decide)) 400 _ _ _ _ ?_
      change am_run _ _ _ _ _ _ [some (.ref 3), some (.int x), some (.int b)] [] _
      simp only [r_Nodes_addLetter_0, r_Nodes_addLetter_1, r_Nodes_addLetter_2, r_Nodes_addLetter_5, r_Nodes_addLetter_8, r_Nodes_addLetter_9, r_Nodes_addLetter_12, r_Nodes_addLetter_15, r_Nodes_addLetter_16, r_Nodes_addLetter_19, r_Nodes_addLetter_20, r_Nodes_addLetter_23, r_Nodes_addLetter_24, r_Nodes_addLetter_27, r_Nodes_addLetter_28, r_Nodes_addLetter_31, r_Nodes_addLetter_32, r_Nodes_addLetter_35, r_Nodes_addLetter_36, r_Nodes_addLetter_37, r_Nodes_addLetter_38, r_Nodes_addLetter_39, r_Nodes_addLetter_42, r_Nodes_addLetter_43, r_Nodes_addLetter_44, r_Nodes_addLetter_47, r_Nodes_addLetter_48, r_Nodes_addLetter_51, r_Nodes_addLetter_52, r_Nodes_addLetter_53, r_Nodes_addLetter_54, r_Nodes_addLetter_55, r_Nodes_addLetter_56, r_Nodes_addLetter_57, ai_aload, ai_iload, ai_callv2, am_push, am_few, ai_ifeq, ai_getf, ai_iflt, ai_alen, ai_cmpge, ai_iast, ai_dup, am_c1, ai_const, ai_iadd, ai_bin, ai_putf, ai_dup2, ai_iald, ai_vret, kd_0, fd_0_0, fd_0_1, fd_0_2, fd_0_3, fd_0_4, kd_1, fd_1_0, fd_1_1, ln_2, kd_3, fd_3_0, fd_3_1, fd_3_2, fd_3_3, fd_3_4, fd_3_5, fd_3_6, fd_3_7, fd_3_8, fd_3_9, ln_4, ln_5, ln_6, ln_7, ln_8, ln_9, ln_10, kd_11, fd_11_0, fd_11_1, fd_11_2, fd_11_3, fd_11_4, kd_12, fd_12_0, fd_12_1, fd_12_2, fd_12_3, ln_13, ln_14, ln_15, kd_16, fd_16_0, fd_16_1, fd_16_2, ln_17, kd_18, fd_18_0, fd_18_1, kd_19, fd_19_0, fd_19_1, fd_19_2, fd_19_3, fd_19_4, fd_19_5, fd_19_6, fd_19_7, fd_19_8, fd_19_9, fd_19_10, fd_19_11, fd_19_12, fd_19_13, fd_19_14, fd_19_15, fd_19_16, fd_19_17, fd_19_18, fd_19_19, fd_19_20, ln_20, ln_21, ln_22, ln_23, ln_24, ln_25, ln_26, ln_27, ln_28, ln_29, ln_30, ln_31, ln_32, List.getElem?_cons_zero, List.getElem?_cons_succ, List.set_cons_zero, List.set_cons_succ, true_and, and_true, ↓reduceIte, Int32.reduceLT, Int32.reduceLE, li_10, or_true, true_or, ↓sp_Nodes_has, b2_0, c, Bool.true_eq_false, e3, e4, e5, hasN_in c, am_up_ap, Nat.reduceEqDiff]
      rw [hn, nI_1, ec]
      exact h
  · cases h
def nqM (M : aM) (x : Int32) : aM := am_up (am_up M 6 (cl x) 0) 5 (cl x) 5
def sp_Nodes_nameQuote : aS := fun as M K => match as with
  | [.ref a, .int x] => a = 3 ∧ (if hasN M x = true then K none (nqM M x) else K none M)
  | _ => False
set_option maxRecDepth 100000 in
set_option maxHeartbeats 4000000 in
theorem ok_Nodes_nameQuote {G : aG} (hG : am_ok G) : am_Sp G Y_Nodes_nameQuote 1 sp_Nodes_nameQuote := by
  intro as M K h
  unfold sp_Nodes_nameQuote at h
  split at h
  · next a x =>
    obtain ⟨rfl, h⟩ := h
    cases c : hasN M x
    · rw [c, if_neg (by decide)] at h
      refine am_entry hG (by decide +kernel) (Nat.le_of_ble_eq_true rfl) ?_
      refine am_go (cuts := k_Nodes_nameQuote) (tb_Nodes_nameQuote (ok_Nodes_has hG) (by decide)) 400 _ _ _ _ ?_
      change am_run _ _ _ _ _ _ [some (.ref 3), some (.int x)] [] _
      simp only [r_Nodes_nameQuote_0, r_Nodes_nameQuote_1, r_Nodes_nameQuote_2, r_Nodes_nameQuote_5, r_Nodes_nameQuote_8, r_Nodes_nameQuote_9, r_Nodes_nameQuote_12, r_Nodes_nameQuote_13, r_Nodes_nameQuote_14, r_Nodes_nameQuote_15, r_Nodes_nameQuote_16, r_Nodes_nameQuote_19, r_Nodes_nameQuote_20, r_Nodes_nameQuote_23, r_Nodes_nameQuote_24, r_Nodes_nameQuote_25, ai_aload, ai_iload, ai_callv2, am_push, am_few, ai_ifeq, ai_getf, ai_const, ai_iast, ai_gets, ai_xlen, ai_vret, kd_0, fd_0_0, fd_0_1, fd_0_2, fd_0_3, fd_0_4, kd_1, fd_1_0, fd_1_1, ln_2, kd_3, fd_3_0, fd_3_1, fd_3_2, fd_3_3, fd_3_4, fd_3_5, fd_3_6, fd_3_7, fd_3_8, fd_3_9, ln_4, ln_5, ln_6, ln_7, ln_8, ln_9, ln_10, kd_11, fd_11_0, fd_11_1, fd_11_2, fd_11_3, fd_11_4, kd_12, fd_12_0, fd_12_1, fd_12_2, fd_12_3, ln_13, ln_14, ln_15, kd_16, fd_16_0, fd_16_1, fd_16_2, ln_17, kd_18, fd_18_0, fd_18_1, kd_19, fd_19_0, fd_19_1, fd_19_2, fd_19_3, fd_19_4, fd_19_5, fd_19_6, fd_19_7, fd_19_8, fd_19_9, fd_19_10, fd_19_11, fd_19_12, fd_19_13, fd_19_14, fd_19_15, fd_19_16, fd_19_17, fd_19_18, fd_19_19, fd_19_20, ln_20, ln_21, ln_22, ln_23, ln_24, ln_25, ln_26, ln_27, ln_28, ln_29, ln_30, ln_31, ln_32, List.getElem?_cons_zero, List.getElem?_cons_succ, List.set_cons_zero, List.set_cons_succ, true_and, and_true, ↓reduceIte, Int32.reduceLT, Int32.reduceLE, li_10, or_true, true_or, ↓sp_Nodes_has, b2_0, c]
      exact h
    · rw [if_pos c] at h
      refine am_entry hG (by decide +kernel) (Nat.le_of_ble_eq_true rfl) ?_
      refine am_go (cuts := k_Nodes_nameQuote) (tb_Nodes_nameQuote (ok_Nodes_has hG) (by decide)) 400 _ _ _ _ ?_
      change am_run _ _ _ _ _ _ [some (.ref 3), some (.int x)] [] _
      simp only [r_Nodes_nameQuote_0, r_Nodes_nameQuote_1, r_Nodes_nameQuote_2, r_Nodes_nameQuote_5, r_Nodes_nameQuote_8, r_Nodes_nameQuote_9, r_Nodes_nameQuote_12, r_Nodes_nameQuote_13, r_Nodes_nameQuote_14, r_Nodes_nameQuote_15, r_Nodes_nameQuote_16, r_Nodes_nameQuote_19, r_Nodes_nameQuote_20, r_Nodes_nameQuote_23, r_Nodes_nameQuote_24, r_Nodes_nameQuote_25, ai_aload, ai_iload, ai_callv2, am_push, am_few, ai_ifeq, ai_getf, ai_const, ai_iast, ai_gets, ai_xlen, ai_vret, kd_0, fd_0_0, fd_0_1, fd_0_2, fd_0_3, fd_0_4, kd_1, fd_1_0, fd_1_1, ln_2, kd_3, fd_3_0, fd_3_1, fd_3_2, fd_3_3, fd_3_4, fd_3_5, fd_3_6, fd_3_7, fd_3_8, fd_3_9, ln_4, ln_5, ln_6, ln_7, ln_8, ln_9, ln_10, kd_11, fd_11_0, fd_11_1, fd_11_2, fd_11_3, fd_11_4, kd_12, fd_12_0, fd_12_1, fd_12_2, fd_12_3, ln_13, ln_14, ln_15, kd_16, fd_16_0, fd_16_1, fd_16_2, ln_17, kd_18, fd_18_0, fd_18_1, kd_19, fd_19_0, fd_19_1, fd_19_2, fd_19_3, fd_19_4, fd_19_5, fd_19_6, fd_19_7, fd_19_8, fd_19_9, fd_19_10, fd_19_11, fd_19_12, fd_19_13, fd_19_14, fd_19_15, fd_19_16, fd_19_17, fd_19_18, fd_19_19, fd_19_20, ln_20, ln_21, ln_22, ln_23, ln_24, ln_25, ln_26, ln_27, ln_28, ln_29, ln_30, ln_31, ln_32, List.getElem?_cons_zero, List.getElem?_cons_succ, List.set_cons_zero, List.set_cons_succ, true_and, and_true, ↓reduceIte, Int32.reduceLT, Int32.reduceLE, li_10, or_true, true_or, ↓sp_Nodes_has, b2_0, c, Bool.true_eq_false, hasN_in c]
      exact h
  · cases h
def sp_Nodes_setAmount : aS := fun as M K => match as with
  | [.ref a, .int x, .int v] => a = 3 ∧ (if hasN M x = true then K none (am_up M 5 (cl x) v) else K none M)
  | _ => False
set_option maxRecDepth 100000 in
set_option maxHeartbeats 4000000 in
theorem ok_Nodes_setAmount {G : aG} (hG : am_ok G) : am_Sp G Y_Nodes_setAmount 1 sp_Nodes_setAmount := by
  intro as M K h
  unfold sp_Nodes_setAmount at h
  split at h
  · next a x v =>
    obtain ⟨rfl, h⟩ := h
    cases c : hasN M x
    · rw [c, if_neg (by decide)] at h
      refine am_entry hG (by decide +kernel) (Nat.le_of_ble_eq_true rfl) ?_
      refine am_go (cuts := k_Nodes_setAmount) (tb_Nodes_setAmount (ok_Nodes_has hG) (by decide)) 400 _ _ _ _ ?_
      change am_run _ _ _ _ _ _ [some (.ref 3), some (.int x), some (.int v)] [] _
      simp only [r_Nodes_setAmount_0, r_Nodes_setAmount_1, r_Nodes_setAmount_2, r_Nodes_setAmount_5, r_Nodes_setAmount_8, r_Nodes_setAmount_9, r_Nodes_setAmount_12, r_Nodes_setAmount_13, r_Nodes_setAmount_14, r_Nodes_setAmount_15, ai_aload, ai_iload, ai_callv2, am_push, am_few, ai_ifeq, ai_getf, ai_iast, ai_vret, kd_0, fd_0_0, fd_0_1, fd_0_2, fd_0_3, fd_0_4, kd_1, fd_1_0, fd_1_1, ln_2, kd_3, fd_3_0, fd_3_1, fd_3_2, fd_3_3, fd_3_4, fd_3_5, fd_3_6, fd_3_7, fd_3_8, fd_3_9, ln_4, ln_5, ln_6, ln_7, ln_8, ln_9, ln_10, kd_11, fd_11_0, fd_11_1, fd_11_2, fd_11_3, fd_11_4, kd_12, fd_12_0, fd_12_1, fd_12_2, fd_12_3, ln_13, ln_14, ln_15, kd_16, fd_16_0, fd_16_1, fd_16_2, ln_17, kd_18, fd_18_0, fd_18_1, kd_19, fd_19_0, fd_19_1, fd_19_2, fd_19_3, fd_19_4, fd_19_5, fd_19_6, fd_19_7, fd_19_8, fd_19_9, fd_19_10, fd_19_11, fd_19_12, fd_19_13, fd_19_14, fd_19_15, fd_19_16, fd_19_17, fd_19_18, fd_19_19, fd_19_20, ln_20, ln_21, ln_22, ln_23, ln_24, ln_25, ln_26, ln_27, ln_28, ln_29, ln_30, ln_31, ln_32, List.getElem?_cons_zero, List.getElem?_cons_succ, List.set_cons_zero, List.set_cons_succ, true_and, and_true, ↓reduceIte, Int32.reduceLT, Int32.reduceLE, li_10, or_true, true_or, ↓sp_Nodes_has, b2_0, c]
      exact h
    · rw [if_pos c] at h
      refine am_entry hG (by decide +kernel) (Nat.le_of_ble_eq_true rfl) ?_
      refine am_go (cuts := k_Nodes_setAmount) (tb_Nodes_setAmount (ok_Nodes_has hG) (by decide)) 400 _ _ _ _ ?_
      change am_run _ _ _ _ _ _ [some (.ref 3), some (.int x), some (.int v)] [] _
      simp only [r_Nodes_setAmount_0, r_Nodes_setAmount_1, r_Nodes_setAmount_2, r_Nodes_setAmount_5, r_Nodes_setAmount_8, r_Nodes_setAmount_9, r_Nodes_setAmount_12, r_Nodes_setAmount_13, r_Nodes_setAmount_14, r_Nodes_setAmount_15, ai_aload, ai_iload, ai_callv2, am_push, am_few, ai_ifeq, ai_getf, ai_iast, ai_vret, kd_0, fd_0_0, fd_0_1, fd_0_2, fd_0_3, fd_0_4, kd_1, fd_1_0, fd_1_1, ln_2, kd_3, fd_3_0, fd_3_1, fd_3_2, fd_3_3, fd_3_4, fd_3_5, fd_3_6, fd_3_7, fd_3_8, fd_3_9, ln_4, ln_5, ln_6, ln_7, ln_8, ln_9, ln_10, kd_11, fd_11_0, fd_11_1, fd_11_2, fd_11_3, fd_11_4, kd_12, fd_12_0, fd_12_1, fd_12_2, fd_12_3, ln_13, ln_14, ln_15, kd_16, fd_16_0, fd_16_1, fd_16_2, ln_17, kd_18, fd_18_0, fd_18_1, kd_19, fd_19_0, fd_19_1, fd_19_2, fd_19_3, fd_19_4, fd_19_5, fd_19_6, fd_19_7, fd_19_8, fd_19_9, fd_19_10, fd_19_11, fd_19_12, fd_19_13, fd_19_14, fd_19_15, fd_19_16, fd_19_17, fd_19_18, fd_19_19, fd_19_20, ln_20, ln_21, ln_22, ln_23, ln_24, ln_25, ln_26, ln_27, ln_28, ln_29, ln_30, ln_31, ln_32, List.getElem?_cons_zero, List.getElem?_cons_succ, List.set_cons_zero, List.set_cons_succ, true_and, and_true, ↓reduceIte, Int32.reduceLT, Int32.reduceLE, li_10, or_true, true_or, ↓sp_Nodes_has, b2_0, c, Bool.true_eq_false, hasN_in c]
      exact h
  · cases h
def sp_Nodes_setHead : aS := fun as M K => match as with
  | [.ref a, .int x, .int v] => a = 3 ∧ (if hasN M x = true then K none (am_up M 7 (cl x) v) else K none M)
  | _ => False
set_option maxRecDepth 100000 in
set_option maxHeartbeats 4000000 in
theorem ok_Nodes_setHead {G : aG} (hG : am_ok G) : am_Sp G Y_Nodes_setHead 1 sp_Nodes_setHead := by
  intro as M K h
  unfold sp_Nodes_setHead at h
  split at h
  · next a x v =>
    obtain ⟨rfl, h⟩ := h
    cases c : hasN M x
    · rw [c, if_neg (by decide)] at h
      refine am_entry hG (by decide +kernel) (Nat.le_of_ble_eq_true rfl) ?_
      refine am_go (cuts := k_Nodes_setHead) (tb_Nodes_setHead (ok_Nodes_has hG) (by decide)) 400 _ _ _ _ ?_
      change am_run _ _ _ _ _ _ [some (.ref 3), some (.int x), some (.int v)] [] _
      simp only [r_Nodes_setHead_0, r_Nodes_setHead_1, r_Nodes_setHead_2, r_Nodes_setHead_5, r_Nodes_setHead_8, r_Nodes_setHead_9, r_Nodes_setHead_12, r_Nodes_setHead_13, r_Nodes_setHead_14, r_Nodes_setHead_15, ai_aload, ai_iload, ai_callv2, am_push, am_few, ai_ifeq, ai_getf, ai_iast, ai_vret, kd_0, fd_0_0, fd_0_1, fd_0_2, fd_0_3, fd_0_4, kd_1, fd_1_0, fd_1_1, ln_2, kd_3, fd_3_0, fd_3_1, fd_3_2, fd_3_3, fd_3_4, fd_3_5, fd_3_6, fd_3_7, fd_3_8, fd_3_9, ln_4, ln_5, ln_6, ln_7, ln_8, ln_9, ln_10, kd_11, fd_11_0, fd_11_1, fd_11_2, fd_11_3, fd_11_4, kd_12, fd_12_0, fd_12_1, fd_12_2, fd_12_3, ln_13, ln_14, ln_15, kd_16, fd_16_0, fd_16_1, fd_16_2, ln_17, kd_18, fd_18_0, fd_18_1, kd_19, fd_19_0, fd_19_1, fd_19_2, fd_19_3, fd_19_4, fd_19_5, fd_19_6, fd_19_7, fd_19_8, fd_19_9, fd_19_10, fd_19_11, fd_19_12, fd_19_13, fd_19_14, fd_19_15, fd_19_16, fd_19_17, fd_19_18, fd_19_19, fd_19_20, ln_20, ln_21, ln_22, ln_23, ln_24, ln_25, ln_26, ln_27, ln_28, ln_29, ln_30, ln_31, ln_32, List.getElem?_cons_zero, List.getElem?_cons_succ, List.set_cons_zero, List.set_cons_succ, true_and, and_true, ↓reduceIte, Int32.reduceLT, Int32.reduceLE, li_10, or_true, true_or, ↓sp_Nodes_has, b2_0, c]
      exact h
    · rw [if_pos c] at h
      refine am_entry hG (by decide +kernel) (Nat.le_of_ble_eq_true rfl) ?_
      refine am_go (cuts := k_Nodes_setHead) (tb_Nodes_setHead (ok_Nodes_has hG) (by decide)) 400 _ _ _ _ ?_
      change am_run _ _ _ _ _ _ [some (.ref 3), some (.int x), some (.int v)] [] _
      simp only [r_Nodes_setHead_0, r_Nodes_setHead_1, r_Nodes_setHead_2, r_Nodes_setHead_5, r_Nodes_setHead_8, r_Nodes_setHead_9, r_Nodes_setHead_12, r_Nodes_setHead_13, r_Nodes_setHead_14, r_Nodes_setHead_15, ai_aload, ai_iload, ai_callv2, am_push, am_few, ai_ifeq, ai_getf, ai_iast, ai_vret, kd_0, fd_0_0, fd_0_1, fd_0_2, fd_0_3, fd_0_4, kd_1, fd_1_0, fd_1_1, ln_2, kd_3, fd_3_0, fd_3_1, fd_3_2, fd_3_3, fd_3_4, fd_3_5, fd_3_6, fd_3_7, fd_3_8, fd_3_9, ln_4, ln_5, ln_6, ln_7, ln_8, ln_9, ln_10, kd_11, fd_11_0, fd_11_1, fd_11_2, fd_11_3, fd_11_4, kd_12, fd_12_0, fd_12_1, fd_12_2, fd_12_3, ln_13, ln_14, ln_15, kd_16, fd_16_0, fd_16_1, fd_16_2, ln_17, kd_18, fd_18_0, fd_18_1, kd_19, fd_19_0, fd_19_1, fd_19_2, fd_19_3, fd_19_4, fd_19_5, fd_19_6, fd_19_7, fd_19_8, fd_19_9, fd_19_10, fd_19_11, fd_19_12, fd_19_13, fd_19_14, fd_19_15, fd_19_16, fd_19_17, fd_19_18, fd_19_19, fd_19_20, ln_20, ln_21, ln_22, ln_23, ln_24, ln_25, ln_26, ln_27, ln_28, ln_29, ln_30, ln_31, ln_32, List.getElem?_cons_zero, List.getElem?_cons_succ, List.set_cons_zero, List.set_cons_succ, true_and, and_true, ↓reduceIte, Int32.reduceLT, Int32.reduceLE, li_10, or_true, true_or, ↓sp_Nodes_has, b2_0, c, Bool.true_eq_false, hasN_in c]
      exact h
  · cases h
def sp_Nodes_setTail : aS := fun as M K => match as with
  | [.ref a, .int x, .int v] => a = 3 ∧ (if hasN M x = true then K none (am_up M 8 (cl x) v) else K none M)
  | _ => False
set_option maxRecDepth 100000 in
set_option maxHeartbeats 4000000 in
theorem ok_Nodes_setTail {G : aG} (hG : am_ok G) : am_Sp G Y_Nodes_setTail 1 sp_Nodes_setTail := by
  intro as M K h
  unfold sp_Nodes_setTail at h
  split at h
  · next a x v =>
    obtain ⟨rfl, h⟩ := h
    cases c : hasN M x
    · rw [c, if_neg (by decide)] at h
      refine am_entry hG (by decide +kernel) (Nat.le_of_ble_eq_true rfl) ?_
      refine am_go (cuts := k_Nodes_setTail) (tb_Nodes_setTail (ok_Nodes_has hG) (by decide)) 400 _ _ _ _ ?_
      change am_run _ _ _ _ _ _ [some (.ref 3), some (.int x), some (.int v)] [] _
      simp only [r_Nodes_setTail_0, r_Nodes_setTail_1, r_Nodes_setTail_2, r_Nodes_setTail_5, r_Nodes_setTail_8, r_Nodes_setTail_9, r_Nodes_setTail_12, r_Nodes_setTail_13, r_Nodes_setTail_14, r_Nodes_setTail_15, ai_aload, ai_iload, ai_callv2, am_push, am_few, ai_ifeq, ai_getf, ai_iast, ai_vret, kd_0, fd_0_0, fd_0_1, fd_0_2, fd_0_3, fd_0_4, kd_1, fd_1_0, fd_1_1, ln_2, kd_3, fd_3_0, fd_3_1, fd_3_2, fd_3_3, fd_3_4, fd_3_5, fd_3_6, fd_3_7, fd_3_8, fd_3_9, ln_4, ln_5, ln_6, ln_7, ln_8, ln_9, ln_10, kd_11, fd_11_0, fd_11_1, fd_11_2, fd_11_3, fd_11_4, kd_12, fd_12_0, fd_12_1, fd_12_2, fd_12_3, ln_13, ln_14, ln_15, kd_16, fd_16_0, fd_16_1, fd_16_2, ln_17, kd_18, fd_18_0, fd_18_1, kd_19, fd_19_0, fd_19_1, fd_19_2, fd_19_3, fd_19_4, fd_19_5, fd_19_6, fd_19_7, fd_19_8, fd_19_9, fd_19_10, fd_19_11, fd_19_12, fd_19_13, fd_19_14, fd_19_15, fd_19_16, fd_19_17, fd_19_18, fd_19_19, fd_19_20, ln_20, ln_21, ln_22, ln_23, ln_24, ln_25, ln_26, ln_27, ln_28, ln_29, ln_30, ln_31, ln_32, List.getElem?_cons_zero, List.getElem?_cons_succ, List.set_cons_zero, List.set_cons_succ, true_and, and_true, ↓reduceIte, Int32.reduceLT, Int32.reduceLE, li_10, or_true, true_or, ↓sp_Nodes_has, b2_0, c]
      exact h
    · rw [if_pos c] at h
      refine am_entry hG (by decide +kernel) (Nat.le_of_ble_eq_true rfl) ?_
      refine am_go (cuts := k_Nodes_setTail) (tb_Nodes_setTail (ok_Nodes_has hG) (by decide)) 400 _ _ _ _ ?_
      change am_run _ _ _ _ _ _ [some (.ref 3), some (.int x), some (.int v)] [] _
      simp only [r_Nodes_setTail_0, r_Nodes_setTail_1, r_Nodes_setTail_2, r_Nodes_setTail_5, r_Nodes_setTail_8, r_Nodes_setTail_9, r_Nodes_setTail_12, r_Nodes_setTail_13, r_Nodes_setTail_14, r_Nodes_setTail_15, ai_aload, ai_iload, ai_callv2, am_push, am_few, ai_ifeq, ai_getf, ai_iast, ai_vret, kd_0, fd_0_0, fd_0_1, fd_0_2, fd_0_3, fd_0_4, kd_1, fd_1_0, fd_1_1, ln_2, kd_3, fd_3_0, fd_3_1, fd_3_2, fd_3_3, fd_3_4, fd_3_5, fd_3_6, fd_3_7, fd_3_8, fd_3_9, ln_4, ln_5, ln_6, ln_7, ln_8, ln_9, ln_10, kd_11, fd_11_0, fd_11_1, fd_11_2, fd_11_3, fd_11_4, kd_12, fd_12_0, fd_12_1, fd_12_2, fd_12_3, ln_13, ln_14, ln_15, kd_16, fd_16_0, fd_16_1, fd_16_2, ln_17, kd_18, fd_18_0, fd_18_1, kd_19, fd_19_0, fd_19_1, fd_19_2, fd_19_3, fd_19_4, fd_19_5, fd_19_6, fd_19_7, fd_19_8, fd_19_9, fd_19_10, fd_19_11, fd_19_12, fd_19_13, fd_19_14, fd_19_15, fd_19_16, fd_19_17, fd_19_18, fd_19_19, fd_19_20, ln_20, ln_21, ln_22, ln_23, ln_24, ln_25, ln_26, ln_27, ln_28, ln_29, ln_30, ln_31, ln_32, List.getElem?_cons_zero, List.getElem?_cons_succ, List.set_cons_zero, List.set_cons_succ, true_and, and_true, ↓reduceIte, Int32.reduceLT, Int32.reduceLE, li_10, or_true, true_or, ↓sp_Nodes_has, b2_0, c, Bool.true_eq_false, hasN_in c]
      exact h
  · cases h
def n_data (M : aM) (k : Int32) : Int32 := if k < 0 then -1 else if k < M 3 7 then (if k < 200 then M 9 (cl k) else -1) else -1
def sp_Nodes_datumNode : aS := fun as M K => match as with
  | [.ref a, .int k] => a = 3 ∧ K (some (.int (n_data M k))) M
  | _ => False
set_option maxRecDepth 100000 in
set_option maxHeartbeats 4000000 in
theorem ok_Nodes_datumNode {G : aG} (hG : am_ok G) : am_Sp G Y_Nodes_datumNode 0 sp_Nodes_datumNode := by
  intro as M K h
  unfold sp_Nodes_datumNode at h
  split at h
  · next a k =>
    obtain ⟨rfl, h⟩ := h
    refine am_entry hG (by decide +kernel) (Nat.le_of_ble_eq_true rfl) ?_
    refine am_go (cuts := k_Nodes_datumNode) tb_Nodes_datumNode 400 _ _ _ _ ?_
    change am_run _ _ _ _ _ _ [some (.ref 3), some (.int k)] [] _
    simp only [r_Nodes_datumNode_0, r_Nodes_datumNode_1, r_Nodes_datumNode_4, r_Nodes_datumNode_5, r_Nodes_datumNode_6, r_Nodes_datumNode_9, r_Nodes_datumNode_12, r_Nodes_datumNode_13, r_Nodes_datumNode_16, r_Nodes_datumNode_19, r_Nodes_datumNode_20, r_Nodes_datumNode_23, r_Nodes_datumNode_24, r_Nodes_datumNode_25, r_Nodes_datumNode_28, r_Nodes_datumNode_29, ai_iload, ai_iflt, ai_aload, ai_getf, ai_cmpge, ai_const, ai_iald, ai_goto, ai_iret, kd_0, fd_0_0, fd_0_1, fd_0_2, fd_0_3, fd_0_4, kd_1, fd_1_0, fd_1_1, ln_2, kd_3, fd_3_0, fd_3_1, fd_3_2, fd_3_3, fd_3_4, fd_3_5, fd_3_6, fd_3_7, fd_3_8, fd_3_9, ln_4, ln_5, ln_6, ln_7, ln_8, ln_9, ln_10, kd_11, fd_11_0, fd_11_1, fd_11_2, fd_11_3, fd_11_4, kd_12, fd_12_0, fd_12_1, fd_12_2, fd_12_3, ln_13, ln_14, ln_15, kd_16, fd_16_0, fd_16_1, fd_16_2, ln_17, kd_18, fd_18_0, fd_18_1, kd_19, fd_19_0, fd_19_1, fd_19_2, fd_19_3, fd_19_4, fd_19_5, fd_19_6, fd_19_7, fd_19_8, fd_19_9, fd_19_10, fd_19_11, fd_19_12, fd_19_13, fd_19_14, fd_19_15, fd_19_16, fd_19_17, fd_19_18, fd_19_19, fd_19_20, ln_20, ln_21, ln_22, ln_23, ln_24, ln_25, ln_26, ln_27, ln_28, ln_29, ln_30, ln_31, ln_32, List.getElem?_cons_zero, List.getElem?_cons_succ, List.set_cons_zero, List.set_cons_succ, true_and, and_true, ↓reduceIte, Int32.reduceLT, Int32.reduceLE, li_10, or_true, true_or]
    unfold n_data at h
    by_cases c1 : k < 0
    · simp only [c1, ↓reduceIte] at h ⊢; exact h
    by_cases c2 : k < M 3 7
    · by_cases c3 : k < 200
      · have c4 : vp_in k 200 := vin_lt c1 c3 (by decide)
        simp only [c1, c2, c3, c4, ↓reduceIte, true_and] at h ⊢; exact h
      · simp only [c1, c2, c3, ↓reduceIte] at h ⊢; exact h
    · simp only [c1, c2, ↓reduceIte] at h ⊢; exact h
  · cases h
def n_kind (M : aM) (x : Int32) : Int32 := if hasN M x = true then M 4 (cl x) else 0
def sp_Nodes_kindOf : aS := fun as M K => match as with
  | [.ref a, .int x] => a = 3 ∧ K (some (.int (n_kind M x))) M
  | _ => False
set_option maxRecDepth 100000 in
set_option maxHeartbeats 4000000 in
theorem ok_Nodes_kindOf {G : aG} (hG : am_ok G) : am_Sp G Y_Nodes_kindOf 1 sp_Nodes_kindOf := by
  intro as M K h
  unfold sp_Nodes_kindOf at h
  split at h
  · next a x =>
    obtain ⟨rfl, h⟩ := h
    unfold n_kind at h
    cases c : hasN M x
    · rw [c, if_neg (by decide)] at h
      refine am_entry hG (by decide +kernel) (Nat.le_of_ble_eq_true rfl) ?_
      refine am_go (cuts := k_Nodes_kindOf) (tb_Nodes_kindOf (ok_Nodes_has hG) (by decide)) 400 _ _ _ _ ?_
      change am_run _ _ _ _ _ _ [some (.ref 3), some (.int x)] [] _
      simp only [r_Nodes_kindOf_0, r_Nodes_kindOf_1, r_Nodes_kindOf_2, r_Nodes_kindOf_5, r_Nodes_kindOf_8, r_Nodes_kindOf_9, r_Nodes_kindOf_12, r_Nodes_kindOf_13, r_Nodes_kindOf_14, r_Nodes_kindOf_17, r_Nodes_kindOf_18, ai_aload, ai_iload, ai_callv2, am_push, am_few, ai_ifeq, ai_getf, ai_iald, ai_goto, ai_const, ai_iret, kd_0, fd_0_0, fd_0_1, fd_0_2, fd_0_3, fd_0_4, kd_1, fd_1_0, fd_1_1, ln_2, kd_3, fd_3_0, fd_3_1, fd_3_2, fd_3_3, fd_3_4, fd_3_5, fd_3_6, fd_3_7, fd_3_8, fd_3_9, ln_4, ln_5, ln_6, ln_7, ln_8, ln_9, ln_10, kd_11, fd_11_0, fd_11_1, fd_11_2, fd_11_3, fd_11_4, kd_12, fd_12_0, fd_12_1, fd_12_2, fd_12_3, ln_13, ln_14, ln_15, kd_16, fd_16_0, fd_16_1, fd_16_2, ln_17, kd_18, fd_18_0, fd_18_1, kd_19, fd_19_0, fd_19_1, fd_19_2, fd_19_3, fd_19_4, fd_19_5, fd_19_6, fd_19_7, fd_19_8, fd_19_9, fd_19_10, fd_19_11, fd_19_12, fd_19_13, fd_19_14, fd_19_15, fd_19_16, fd_19_17, fd_19_18, fd_19_19, fd_19_20, ln_20, ln_21, ln_22, ln_23, ln_24, ln_25, ln_26, ln_27, ln_28, ln_29, ln_30, ln_31, ln_32, List.getElem?_cons_zero, List.getElem?_cons_succ, List.set_cons_zero, List.set_cons_succ, true_and, and_true, ↓reduceIte, Int32.reduceLT, Int32.reduceLE, li_10, or_true, true_or, ↓sp_Nodes_has, b2_0, c]
      exact h
    · rw [if_pos c] at h
      refine am_entry hG (by decide +kernel) (Nat.le_of_ble_eq_true rfl) ?_
      refine am_go (cuts := k_Nodes_kindOf) (tb_Nodes_kindOf (ok_Nodes_has hG) (by decide)) 400 _ _ _ _ ?_
      change am_run _ _ _ _ _ _ [some (.ref 3), some (.int x)] [] _
      simp only [r_Nodes_kindOf_0, r_Nodes_kindOf_1, r_Nodes_kindOf_2, r_Nodes_kindOf_5, r_Nodes_kindOf_8, r_Nodes_kindOf_9, r_Nodes_kindOf_12, r_Nodes_kindOf_13, r_Nodes_kindOf_14, r_Nodes_kindOf_17, r_Nodes_kindOf_18, ai_aload, ai_iload, ai_callv2, am_push, am_few, ai_ifeq, ai_getf, ai_iald, ai_goto, ai_const, ai_iret, kd_0, fd_0_0, fd_0_1, fd_0_2, fd_0_3, fd_0_4, kd_1, fd_1_0, fd_1_1, ln_2, kd_3, fd_3_0, fd_3_1, fd_3_2, fd_3_3, fd_3_4, fd_3_5, fd_3_6, fd_3_7, fd_3_8, fd_3_9, ln_4, ln_5, ln_6, ln_7, ln_8, ln_9, ln_10, kd_11, fd_11_0, fd_11_1, fd_11_2, fd_11_3, fd_11_4, kd_12, fd_12_0, fd_12_1, fd_12_2, fd_12_3, ln_13, ln_14, ln_15, kd_16, fd_16_0, fd_16_1, fd_16_2, ln_17, kd_18, fd_18_0, fd_18_1, kd_19, fd_19_0, fd_19_1, fd_19_2, fd_19_3, fd_19_4, fd_19_5, fd_19_6, fd_19_7, fd_19_8, fd_19_9, fd_19_10, fd_19_11, fd_19_12, fd_19_13, fd_19_14, fd_19_15, fd_19_16, fd_19_17, fd_19_18, fd_19_19, fd_19_20, ln_20, ln_21, ln_22, ln_23, ln_24, ln_25, ln_26, ln_27, ln_28, ln_29, ln_30, ln_31, ln_32, List.getElem?_cons_zero, List.getElem?_cons_succ, List.set_cons_zero, List.set_cons_succ, true_and, and_true, ↓reduceIte, Int32.reduceLT, Int32.reduceLE, li_10, or_true, true_or, ↓sp_Nodes_has, b2_0, c, Bool.true_eq_false, hasN_in c]
      exact h
  · cases h
def n_amt (M : aM) (x : Int32) : Int32 := if hasN M x = true then M 5 (cl x) else 0
def sp_Nodes_amountOf : aS := fun as M K => match as with
  | [.ref a, .int x] => a = 3 ∧ K (some (.int (n_amt M x))) M
  | _ => False
set_option maxRecDepth 100000 in
set_option maxHeartbeats 4000000 in
theorem ok_Nodes_amountOf {G : aG} (hG : am_ok G) : am_Sp G Y_Nodes_amountOf 1 sp_Nodes_amountOf := by
  intro as M K h
  unfold sp_Nodes_amountOf at h
  split at h
  · next a x =>
    obtain ⟨rfl, h⟩ := h
    unfold n_amt at h
    cases c : hasN M x
    · rw [c, if_neg (by decide)] at h
      refine am_entry hG (by decide +kernel) (Nat.le_of_ble_eq_true rfl) ?_
      refine am_go (cuts := k_Nodes_amountOf) (tb_Nodes_amountOf (ok_Nodes_has hG) (by decide)) 400 _ _ _ _ ?_
      change am_run _ _ _ _ _ _ [some (.ref 3), some (.int x)] [] _
      simp only [r_Nodes_amountOf_0, r_Nodes_amountOf_1, r_Nodes_amountOf_2, r_Nodes_amountOf_5, r_Nodes_amountOf_8, r_Nodes_amountOf_9, r_Nodes_amountOf_12, r_Nodes_amountOf_13, r_Nodes_amountOf_14, r_Nodes_amountOf_17, r_Nodes_amountOf_18, ai_aload, ai_iload, ai_callv2, am_push, am_few, ai_ifeq, ai_getf, ai_iald, ai_goto, ai_const, ai_iret, kd_0, fd_0_0, fd_0_1, fd_0_2, fd_0_3, fd_0_4, kd_1, fd_1_0, fd_1_1, ln_2, kd_3, fd_3_0, fd_3_1, fd_3_2, fd_3_3, fd_3_4, fd_3_5, fd_3_6, fd_3_7, fd_3_8, fd_3_9, ln_4, ln_5, ln_6, ln_7, ln_8, ln_9, ln_10, kd_11, fd_11_0, fd_11_1, fd_11_2, fd_11_3, fd_11_4, kd_12, fd_12_0, fd_12_1, fd_12_2, fd_12_3, ln_13, ln_14, ln_15, kd_16, fd_16_0, fd_16_1, fd_16_2, ln_17, kd_18, fd_18_0, fd_18_1, kd_19, fd_19_0, fd_19_1, fd_19_2, fd_19_3, fd_19_4, fd_19_5, fd_19_6, fd_19_7, fd_19_8, fd_19_9, fd_19_10, fd_19_11, fd_19_12, fd_19_13, fd_19_14, fd_19_15, fd_19_16, fd_19_17, fd_19_18, fd_19_19, fd_19_20, ln_20, ln_21, ln_22, ln_23, ln_24, ln_25, ln_26, ln_27, ln_28, ln_29, ln_30, ln_31, ln_32, List.getElem?_cons_zero, List.getElem?_cons_succ, List.set_cons_zero, List.set_cons_succ, true_and, and_true, ↓reduceIte, Int32.reduceLT, Int32.reduceLE, li_10, or_true, true_or, ↓sp_Nodes_has, b2_0, c]
      exact h
    · rw [if_pos c] at h
      refine am_entry hG (by decide +kernel) (Nat.le_of_ble_eq_true rfl) ?_
      refine am_go (cuts := k_Nodes_amountOf) (tb_Nodes_amountOf (ok_Nodes_has hG) (by decide)) 400 _ _ _ _ ?_
      change am_run _ _ _ _ _ _ [some (.ref 3), some (.int x)] [] _
      simp only [r_Nodes_amountOf_0, r_Nodes_amountOf_1, r_Nodes_amountOf_2, r_Nodes_amountOf_5, r_Nodes_amountOf_8, r_Nodes_amountOf_9, r_Nodes_amountOf_12, r_Nodes_amountOf_13, r_Nodes_amountOf_14, r_Nodes_amountOf_17, r_Nodes_amountOf_18, ai_aload, ai_iload, ai_callv2, am_push, am_few, ai_ifeq, ai_getf, ai_iald, ai_goto, ai_const, ai_iret, kd_0, fd_0_0, fd_0_1, fd_0_2, fd_0_3, fd_0_4, kd_1, fd_1_0, fd_1_1, ln_2, kd_3, fd_3_0, fd_3_1, fd_3_2, fd_3_3, fd_3_4, fd_3_5, fd_3_6, fd_3_7, fd_3_8, fd_3_9, ln_4, ln_5, ln_6, ln_7, ln_8, ln_9, ln_10, kd_11, fd_11_0, fd_11_1, fd_11_2, fd_11_3, fd_11_4, kd_12, fd_12_0, fd_12_1, fd_12_2, fd_12_3, ln_13, ln_14, ln_15, kd_16, fd_16_0, fd_16_1, fd_16_2, ln_17, kd_18, fd_18_0, fd_18_1, kd_19, fd_19_0, fd_19_1, fd_19_2, fd_19_3, fd_19_4, fd_19_5, fd_19_6, fd_19_7, fd_19_8, fd_19_9, fd_19_10, fd_19_11, fd_19_12, fd_19_13, fd_19_14, fd_19_15, fd_19_16, fd_19_17, fd_19_18, fd_19_19, fd_19_20, ln_20, ln_21, ln_22, ln_23, ln_24, ln_25, ln_26, ln_27, ln_28, ln_29, ln_30, ln_31, ln_32, List.getElem?_cons_zero, List.getElem?_cons_succ, List.set_cons_zero, List.set_cons_succ, true_and, and_true, ↓reduceIte, Int32.reduceLT, Int32.reduceLE, li_10, or_true, true_or, ↓sp_Nodes_has, b2_0, c, Bool.true_eq_false, hasN_in c]
      exact h
  · cases h
theorem isN_in {M : aM} {x k : Int32} (h : isN M x k = true) : vp_in x 200 := by
  unfold isN at h
  rw [Bool.and_eq_true] at h
  exact hasN_in h.1
def n_byte (M : aM) (x k : Int32) : Int32 := if (isN M x 2 || isN M x 3) = true then (if k < 0 then -1 else if k < M 5 (cl x) then (if M 6 (cl x) + k < 0 then -1 else if M 6 (cl x) + k < 405 then M 10 (cl (M 6 (cl x) + k)) else -1) else -1) else -1
def sp_Nodes_byteOf : aS := fun as M K => match as with
  | [.ref a, .int x, .int k] => a = 3 ∧ K (some (.int (n_byte M x k))) M
  | _ => False
set_option maxRecDepth 100000 in
set_option maxHeartbeats 4000000 in
theorem ok_Nodes_byteOf {G : aG} (hG : am_ok G) : am_Sp G Y_Nodes_byteOf 1 sp_Nodes_byteOf := by
  intro as M K h
  unfold sp_Nodes_byteOf at h
  split at h
  · next a x k =>
    obtain ⟨rfl, h⟩ := h
    unfold n_byte at h
    refine am_entry hG (by decide +kernel) (Nat.le_of_ble_eq_true rfl) ?_
    refine am_go (cuts := k_Nodes_byteOf) (tb_Nodes_byteOf (ok_Nodes_isOf hG) (by decide)) 400 _ _ _ _ ?_
    change am_run _ _ _ _ _ _ [some (.ref 3), some (.int x), some (.int k), none] [] _
    simp only [r_Nodes_byteOf_0, r_Nodes_byteOf_1, r_Nodes_byteOf_2, r_Nodes_byteOf_3, r_Nodes_byteOf_6, r_Nodes_byteOf_9, r_Nodes_byteOf_10, r_Nodes_byteOf_11, r_Nodes_byteOf_12, r_Nodes_byteOf_15, r_Nodes_byteOf_18, r_Nodes_byteOf_19, r_Nodes_byteOf_22, r_Nodes_byteOf_23, r_Nodes_byteOf_24, r_Nodes_byteOf_27, r_Nodes_byteOf_28, r_Nodes_byteOf_29, r_Nodes_byteOf_32, r_Nodes_byteOf_33, r_Nodes_byteOf_34, r_Nodes_byteOf_35, r_Nodes_byteOf_38, r_Nodes_byteOf_39, r_Nodes_byteOf_40, r_Nodes_byteOf_41, r_Nodes_byteOf_42, r_Nodes_byteOf_43, r_Nodes_byteOf_44, r_Nodes_byteOf_47, r_Nodes_byteOf_48, r_Nodes_byteOf_49, r_Nodes_byteOf_52, r_Nodes_byteOf_53, r_Nodes_byteOf_56, r_Nodes_byteOf_57, r_Nodes_byteOf_60, r_Nodes_byteOf_61, r_Nodes_byteOf_62, r_Nodes_byteOf_65, r_Nodes_byteOf_66, ai_aload, ai_iload, ai_const, ai_callv3, am_push, am_few, ai_ifne, ai_ifeq, ai_iflt, ai_getf, ai_iald, ai_cmplt, ai_iret, ai_iadd, ai_bin, ai_istore, am_cut_0, am_cut_s, am_c1, ai_alen, ai_cmpge, ai_goto, kd_0, fd_0_0, fd_0_1, fd_0_2, fd_0_3, fd_0_4, kd_1, fd_1_0, fd_1_1, ln_2, kd_3, fd_3_0, fd_3_1, fd_3_2, fd_3_3, fd_3_4, fd_3_5, fd_3_6, fd_3_7, fd_3_8, fd_3_9, ln_4, ln_5, ln_6, ln_7, ln_8, ln_9, ln_10, kd_11, fd_11_0, fd_11_1, fd_11_2, fd_11_3, fd_11_4, kd_12, fd_12_0, fd_12_1, fd_12_2, fd_12_3, ln_13, ln_14, ln_15, kd_16, fd_16_0, fd_16_1, fd_16_2, ln_17, kd_18, fd_18_0, fd_18_1, kd_19, fd_19_0, fd_19_1, fd_19_2, fd_19_3, fd_19_4, fd_19_5, fd_19_6, fd_19_7, fd_19_8, fd_19_9, fd_19_10, fd_19_11, fd_19_12, fd_19_13, fd_19_14, fd_19_15, fd_19_16, fd_19_17, fd_19_18, fd_19_19, fd_19_20, ln_20, ln_21, ln_22, ln_23, ln_24, ln_25, ln_26, ln_27, ln_28, ln_29, ln_30, ln_31, ln_32, List.getElem?_cons_zero, List.getElem?_cons_succ, List.set_cons_zero, List.set_cons_succ, true_and, and_true, ↓reduceIte, Int32.reduceLT, Int32.reduceLE, li_10, or_true, true_or, ↓sp_Nodes_isOf, b2_0]
    have key : vp_in x 200 → K (some (.int (if k < 0 then -1 else if k < M 5 (cl x) then (if M 6 (cl x) + k < 0 then -1 else if M 6 (cl x) + k < 405 then M 10 (cl (M 6 (cl x) + k)) else -1) else -1))) M → (if k < 0 then K (some (.int (-1))) M else vp_in x 200 ∧ (if k < M 5 (cl x) then vp_in x 200 ∧ (if M 6 (cl x) + k < 0 then K (some (.int (-1))) M else if M 6 (cl x) + k < Int32.ofNat 405 then vp_in (M 6 (cl x) + k) 405 ∧ K (some (.int (M 10 (cl (M 6 (cl x) + k))))) M else K (some (.int (-1))) M) else K (some (.int (-1))) M)) := by
      intro hx hk
      by_cases c1 : k < 0
      · simp only [c1, ↓reduceIte] at hk ⊢; exact hk
      · simp only [c1, ↓reduceIte] at hk ⊢
        refine ⟨hx, ?_⟩
        by_cases c2 : k < M 5 (cl x)
        · simp only [c2, ↓reduceIte] at hk ⊢
          refine ⟨hx, ?_⟩
          by_cases c3 : M 6 (cl x) + k < 0
          · simp only [c3, ↓reduceIte] at hk ⊢; exact hk
          · simp only [c3, ↓reduceIte] at hk ⊢
            by_cases c4 : M 6 (cl x) + k < 405
            · simp only [c4, ↓reduceIte] at hk
              rw [if_pos (show M 6 (cl x) + k < Int32.ofNat 405 from c4)]
              exact ⟨vin_lt c3 c4 (by decide), hk⟩
            · simp only [c4, ↓reduceIte] at hk
              rw [if_neg (show ¬ M 6 (cl x) + k < Int32.ofNat 405 from c4)]
              exact hk
        · simp only [c2, ↓reduceIte] at hk ⊢; exact hk
    cases c2 : isN M x 2
    · cases c3 : isN M x 3
      · simp only [c2, c3, Bool.or_false, Bool.false_eq_true, ↓reduceIte] at h ⊢; exact h
      · simp only [c2, c3, Bool.or_true, Bool.true_eq_false, ↓reduceIte] at h ⊢
        exact key (isN_in c3) h
    · simp only [c2, Bool.true_or, Bool.true_eq_false, ↓reduceIte] at h ⊢
      exact key (isN_in c2) h
  · cases h
def n_head (M : aM) (x : Int32) : Int32 := if isN M x 4 = true then M 7 (cl x) else -1
def sp_Nodes_headOf : aS := fun as M K => match as with
  | [.ref a, .int x] => a = 3 ∧ K (some (.int (n_head M x))) M
  | _ => False
set_option maxRecDepth 100000 in
set_option maxHeartbeats 4000000 in
theorem ok_Nodes_headOf {G : aG} (hG : am_ok G) : am_Sp G Y_Nodes_headOf 1 sp_Nodes_headOf := by
  intro as M K h
  unfold sp_Nodes_headOf at h
  split at h
  · next a x =>
    obtain ⟨rfl, h⟩ := h
    unfold n_head at h
    cases c : isN M x 4
    · rw [c, if_neg (by decide)] at h
      refine am_entry hG (by decide +kernel) (Nat.le_of_ble_eq_true rfl) ?_
      refine am_go (cuts := k_Nodes_headOf) (tb_Nodes_headOf (ok_Nodes_isOf hG) (by decide)) 400 _ _ _ _ ?_
      change am_run _ _ _ _ _ _ [some (.ref 3), some (.int x)] [] _
      simp only [r_Nodes_headOf_0, r_Nodes_headOf_1, r_Nodes_headOf_2, r_Nodes_headOf_3, r_Nodes_headOf_6, r_Nodes_headOf_9, r_Nodes_headOf_10, r_Nodes_headOf_13, r_Nodes_headOf_14, r_Nodes_headOf_15, r_Nodes_headOf_18, r_Nodes_headOf_19, ai_aload, ai_iload, ai_const, ai_callv3, am_push, am_few, ai_ifeq, ai_getf, ai_iald, ai_goto, ai_iret, kd_0, fd_0_0, fd_0_1, fd_0_2, fd_0_3, fd_0_4, kd_1, fd_1_0, fd_1_1, ln_2, kd_3, fd_3_0, fd_3_1, fd_3_2, fd_3_3, fd_3_4, fd_3_5, fd_3_6, fd_3_7, fd_3_8, fd_3_9, ln_4, ln_5, ln_6, ln_7, ln_8, ln_9, ln_10, kd_11, fd_11_0, fd_11_1, fd_11_2, fd_11_3, fd_11_4, kd_12, fd_12_0, fd_12_1, fd_12_2, fd_12_3, ln_13, ln_14, ln_15, kd_16, fd_16_0, fd_16_1, fd_16_2, ln_17, kd_18, fd_18_0, fd_18_1, kd_19, fd_19_0, fd_19_1, fd_19_2, fd_19_3, fd_19_4, fd_19_5, fd_19_6, fd_19_7, fd_19_8, fd_19_9, fd_19_10, fd_19_11, fd_19_12, fd_19_13, fd_19_14, fd_19_15, fd_19_16, fd_19_17, fd_19_18, fd_19_19, fd_19_20, ln_20, ln_21, ln_22, ln_23, ln_24, ln_25, ln_26, ln_27, ln_28, ln_29, ln_30, ln_31, ln_32, List.getElem?_cons_zero, List.getElem?_cons_succ, List.set_cons_zero, List.set_cons_succ, true_and, and_true, ↓reduceIte, Int32.reduceLT, Int32.reduceLE, li_10, or_true, true_or, ↓sp_Nodes_isOf, b2_0, c]
      exact h
    · rw [if_pos c] at h
      refine am_entry hG (by decide +kernel) (Nat.le_of_ble_eq_true rfl) ?_
      refine am_go (cuts := k_Nodes_headOf) (tb_Nodes_headOf (ok_Nodes_isOf hG) (by decide)) 400 _ _ _ _ ?_
      change am_run _ _ _ _ _ _ [some (.ref 3), some (.int x)] [] _
      simp only [r_Nodes_headOf_0, r_Nodes_headOf_1, r_Nodes_headOf_2, r_Nodes_headOf_3, r_Nodes_headOf_6, r_Nodes_headOf_9, r_Nodes_headOf_10, r_Nodes_headOf_13, r_Nodes_headOf_14, r_Nodes_headOf_15, r_Nodes_headOf_18, r_Nodes_headOf_19, ai_aload, ai_iload, ai_const, ai_callv3, am_push, am_few, ai_ifeq, ai_getf, ai_iald, ai_goto, ai_iret, kd_0, fd_0_0, fd_0_1, fd_0_2, fd_0_3, fd_0_4, kd_1, fd_1_0, fd_1_1, ln_2, kd_3, fd_3_0, fd_3_1, fd_3_2, fd_3_3, fd_3_4, fd_3_5, fd_3_6, fd_3_7, fd_3_8, fd_3_9, ln_4, ln_5, ln_6, ln_7, ln_8, ln_9, ln_10, kd_11, fd_11_0, fd_11_1, fd_11_2, fd_11_3, fd_11_4, kd_12, fd_12_0, fd_12_1, fd_12_2, fd_12_3, ln_13, ln_14, ln_15, kd_16, fd_16_0, fd_16_1, fd_16_2, ln_17, kd_18, fd_18_0, fd_18_1, kd_19, fd_19_0, fd_19_1, fd_19_2, fd_19_3, fd_19_4, fd_19_5, fd_19_6, fd_19_7, fd_19_8, fd_19_9, fd_19_10, fd_19_11, fd_19_12, fd_19_13, fd_19_14, fd_19_15, fd_19_16, fd_19_17, fd_19_18, fd_19_19, fd_19_20, ln_20, ln_21, ln_22, ln_23, ln_24, ln_25, ln_26, ln_27, ln_28, ln_29, ln_30, ln_31, ln_32, List.getElem?_cons_zero, List.getElem?_cons_succ, List.set_cons_zero, List.set_cons_succ, true_and, and_true, ↓reduceIte, Int32.reduceLT, Int32.reduceLE, li_10, or_true, true_or, ↓sp_Nodes_isOf, b2_0, c, Bool.true_eq_false, isN_in c]
      exact h
  · cases h
def n_tail (M : aM) (x : Int32) : Int32 := if isN M x 4 = true then M 8 (cl x) else -1
def sp_Nodes_tailOf : aS := fun as M K => match as with
  | [.ref a, .int x] => a = 3 ∧ K (some (.int (n_tail M x))) M
  | _ => False
set_option maxRecDepth 100000 in
set_option maxHeartbeats 4000000 in
theorem ok_Nodes_tailOf {G : aG} (hG : am_ok G) : am_Sp G Y_Nodes_tailOf 1 sp_Nodes_tailOf := by
  intro as M K h
  unfold sp_Nodes_tailOf at h
  split at h
  · next a x =>
    obtain ⟨rfl, h⟩ := h
    unfold n_tail at h
    cases c : isN M x 4
    · rw [c, if_neg (by decide)] at h
      refine am_entry hG (by decide +kernel) (Nat.le_of_ble_eq_true rfl) ?_
      refine am_go (cuts := k_Nodes_tailOf) (tb_Nodes_tailOf (ok_Nodes_isOf hG) (by decide)) 400 _ _ _ _ ?_
      change am_run _ _ _ _ _ _ [some (.ref 3), some (.int x)] [] _
      simp only [r_Nodes_tailOf_0, r_Nodes_tailOf_1, r_Nodes_tailOf_2, r_Nodes_tailOf_3, r_Nodes_tailOf_6, r_Nodes_tailOf_9, r_Nodes_tailOf_10, r_Nodes_tailOf_13, r_Nodes_tailOf_14, r_Nodes_tailOf_15, r_Nodes_tailOf_18, r_Nodes_tailOf_19, ai_aload, ai_iload, ai_const, ai_callv3, am_push, am_few, ai_ifeq, ai_getf, ai_iald, ai_goto, ai_iret, kd_0, fd_0_0, fd_0_1, fd_0_2, fd_0_3, fd_0_4, kd_1, fd_1_0, fd_1_1, ln_2, kd_3, fd_3_0, fd_3_1, fd_3_2, fd_3_3, fd_3_4, fd_3_5, fd_3_6, fd_3_7, fd_3_8, fd_3_9, ln_4, ln_5, ln_6, ln_7, ln_8, ln_9, ln_10, kd_11, fd_11_0, fd_11_1, fd_11_2, fd_11_3, fd_11_4, kd_12, fd_12_0, fd_12_1, fd_12_2, fd_12_3, ln_13, ln_14, ln_15, kd_16, fd_16_0, fd_16_1, fd_16_2, ln_17, kd_18, fd_18_0, fd_18_1, kd_19, fd_19_0, fd_19_1, fd_19_2, fd_19_3, fd_19_4, fd_19_5, fd_19_6, fd_19_7, fd_19_8, fd_19_9, fd_19_10, fd_19_11, fd_19_12, fd_19_13, fd_19_14, fd_19_15, fd_19_16, fd_19_17, fd_19_18, fd_19_19, fd_19_20, ln_20, ln_21, ln_22, ln_23, ln_24, ln_25, ln_26, ln_27, ln_28, ln_29, ln_30, ln_31, ln_32, List.getElem?_cons_zero, List.getElem?_cons_succ, List.set_cons_zero, List.set_cons_succ, true_and, and_true, ↓reduceIte, Int32.reduceLT, Int32.reduceLE, li_10, or_true, true_or, ↓sp_Nodes_isOf, b2_0, c]
      exact h
    · rw [if_pos c] at h
      refine am_entry hG (by decide +kernel) (Nat.le_of_ble_eq_true rfl) ?_
      refine am_go (cuts := k_Nodes_tailOf) (tb_Nodes_tailOf (ok_Nodes_isOf hG) (by decide)) 400 _ _ _ _ ?_
      change am_run _ _ _ _ _ _ [some (.ref 3), some (.int x)] [] _
      simp only [r_Nodes_tailOf_0, r_Nodes_tailOf_1, r_Nodes_tailOf_2, r_Nodes_tailOf_3, r_Nodes_tailOf_6, r_Nodes_tailOf_9, r_Nodes_tailOf_10, r_Nodes_tailOf_13, r_Nodes_tailOf_14, r_Nodes_tailOf_15, r_Nodes_tailOf_18, r_Nodes_tailOf_19, ai_aload, ai_iload, ai_const, ai_callv3, am_push, am_few, ai_ifeq, ai_getf, ai_iald, ai_goto, ai_iret, kd_0, fd_0_0, fd_0_1, fd_0_2, fd_0_3, fd_0_4, kd_1, fd_1_0, fd_1_1, ln_2, kd_3, fd_3_0, fd_3_1, fd_3_2, fd_3_3, fd_3_4, fd_3_5, fd_3_6, fd_3_7, fd_3_8, fd_3_9, ln_4, ln_5, ln_6, ln_7, ln_8, ln_9, ln_10, kd_11, fd_11_0, fd_11_1, fd_11_2, fd_11_3, fd_11_4, kd_12, fd_12_0, fd_12_1, fd_12_2, fd_12_3, ln_13, ln_14, ln_15, kd_16, fd_16_0, fd_16_1, fd_16_2, ln_17, kd_18, fd_18_0, fd_18_1, kd_19, fd_19_0, fd_19_1, fd_19_2, fd_19_3, fd_19_4, fd_19_5, fd_19_6, fd_19_7, fd_19_8, fd_19_9, fd_19_10, fd_19_11, fd_19_12, fd_19_13, fd_19_14, fd_19_15, fd_19_16, fd_19_17, fd_19_18, fd_19_19, fd_19_20, ln_20, ln_21, ln_22, ln_23, ln_24, ln_25, ln_26, ln_27, ln_28, ln_29, ln_30, ln_31, ln_32, List.getElem?_cons_zero, List.getElem?_cons_succ, List.set_cons_zero, List.set_cons_succ, true_and, and_true, ↓reduceIte, Int32.reduceLT, Int32.reduceLE, li_10, or_true, true_or, ↓sp_Nodes_isOf, b2_0, c, Bool.true_eq_false, isN_in c]
      exact h
  · cases h
end
section
/-! THE NODES: likeness, quotes -/
def qL (M : aM) (x : Int32) : Nat → Nat → Bool
  | 0, _ => true
  | r + 1, k => decide (n_byte M x (nI k) = QF k) && qL M x r (k + 1)
def isQ (M : aM) (x : Int32) : Bool := isN M x 2 && decide (M 5 (cl x) = 5) && qL M x 5 0
def sp_Nodes_isQuoteName : aS := fun as M K => match as with
  | [.ref a, .int x] => a = 3 ∧ K (some (.int (b2 (isQ M x)))) M
  | _ => False
set_option maxRecDepth 100000 in
set_option maxHeartbeats 4000000 in
theorem lp_Nodes_isQuoteName {G : aG} (hG : am_ok G) {K : aR} {M : aM} {x : Int32} : ∀ (r k : Nat), k + r = 5 → K (some (.int (b2 (qL M x r k)))) M → am_X G Y_Nodes_isQuoteName 2 K 26 [some (.ref 3), some (.int x), some (.int (nI k))] [] M := by
  intro r
  induction r with
  | zero =>
    intro k hk h
    have e1 : ¬ nI k < Int32.ofNat 5 := nI_nlt (b := 5) (a := k) (by omega) (by omega)
    refine am_from (tb_Nodes_isQuoteName (ok_Nodes_isOf hG) (by decide) (ok_Nodes_byteOf hG) (by decide)) k_Nodes_isQuoteName 400 ?_
    simp only [q_Nodes_isQuoteName_26, r_Nodes_isQuoteName_0, r_Nodes_isQuoteName_1, r_Nodes_isQuoteName_2, r_Nodes_isQuoteName_3, r_Nodes_isQuoteName_6, r_Nodes_isQuoteName_9, r_Nodes_isQuoteName_10, r_Nodes_isQuoteName_13, r_Nodes_isQuoteName_14, r_Nodes_isQuoteName_15, r_Nodes_isQuoteName_18, r_Nodes_isQuoteName_19, r_Nodes_isQuoteName_22, r_Nodes_isQuoteName_23, r_Nodes_isQuoteName_24, r_Nodes_isQuoteName_25, r_Nodes_isQuoteName_26, r_Nodes_isQuoteName_27, r_Nodes_isQuoteName_30, r_Nodes_isQuoteName_31, r_Nodes_isQuoteName_34, r_Nodes_isQuoteName_35, r_Nodes_isQuoteName_36, r_Nodes_isQuoteName_37, r_Nodes_isQuoteName_40, r_Nodes_isQuoteName_43, r_Nodes_isQuoteName_44, r_Nodes_isQuoteName_45, r_Nodes_isQuoteName_48, r_Nodes_isQuoteName_49, r_Nodes_isQuoteName_50, r_Nodes_isQuoteName_53, r_Nodes_isQuoteName_56, r_Nodes_isQuoteName_57, ai_aload, ai_iload, ai_const, ai_callv3, am_push, am_few, ai_ifeq, ai_getf, ai_iald, ai_gets, ai_xlen, ai_cmpeq, ai_zret, ai_istore, am_cut_0, am_cut_s, am_c1, ai_cmpge, ai_xald, ai_iinc, ai_goto, kd_0, fd_0_0, fd_0_1, fd_0_2, fd_0_3, fd_0_4, kd_1, fd_1_0, fd_1_1, ln_2, kd_3, fd_3_0, fd_3_1, fd_3_2, fd_3_3, fd_3_4, fd_3_5, fd_3_6, fd_3_7, fd_3_8, fd_3_9, ln_4, ln_5, ln_6, ln_7, ln_8, ln_9, ln_10, kd_11, fd_11_0, fd_11_1, fd_11_2, fd_11_3, fd_11_4, kd_12, fd_12_0, fd_12_1, fd_12_2, fd_12_3, ln_13, ln_14, ln_15, kd_16, fd_16_0, fd_16_1, fd_16_2, ln_17, kd_18, fd_18_0, fd_18_1, kd_19, fd_19_0, fd_19_1, fd_19_2, fd_19_3, fd_19_4, fd_19_5, fd_19_6, fd_19_7, fd_19_8, fd_19_9, fd_19_10, fd_19_11, fd_19_12, fd_19_13, fd_19_14, fd_19_15, fd_19_16, fd_19_17, fd_19_18, fd_19_19, fd_19_20, ln_20, ln_21, ln_22, ln_23, ln_24, ln_25, ln_26, ln_27, ln_28, ln_29, ln_30, ln_31, ln_32, List.getElem?_cons_zero, List.getElem?_cons_succ, List.set_cons_zero, List.set_cons_succ, true_and, and_true, ↓reduceIte, Int32.reduceLT, Int32.reduceLE, li_10, or_true, true_or, e1]
    exact h
  | succ r ih =>
    intro k hk h
    have e1 : nI k < Int32.ofNat 5 := nI_lt (b := 5) (by omega) (by decide)
    have e2 : vp_in (nI k) 5 := vp_in_nI (by omega) (by decide)
    have e3 : (nI k).toNatClampNeg = k := nI_clamp (by omega)
    refine am_from (tb_Nodes_isQuoteName (ok_Nodes_isOf hG) (by decide) (ok_Nodes_byteOf hG) (by decide)) k_Nodes_isQuoteName 400 ?_
    simp only [q_Nodes_isQuoteName_26, r_Nodes_isQuoteName_0, r_Nodes_isQuoteName_1, r_Nodes_isQuoteName_2, r_Nodes_isQuoteName_3, r_Nodes_isQuoteName_6, r_Nodes_isQuoteName_9, r_Nodes_isQuoteName_10, r_Nodes_isQuoteName_13, r_Nodes_isQuoteName_14, r_Nodes_isQuoteName_15, r_Nodes_isQuoteName_18, r_Nodes_isQuoteName_19, r_Nodes_isQuoteName_22, r_Nodes_isQuoteName_23, r_Nodes_isQuoteName_24, r_Nodes_isQuoteName_25, r_Nodes_isQuoteName_26, r_Nodes_isQuoteName_27, r_Nodes_isQuoteName_30, r_Nodes_isQuoteName_31, r_Nodes_isQuoteName_34, r_Nodes_isQuoteName_35, r_Nodes_isQuoteName_36, r_Nodes_isQuoteName_37, r_Nodes_isQuoteName_40, r_Nodes_isQuoteName_43, r_Nodes_isQuoteName_44, r_Nodes_isQuoteName_45, r_Nodes_isQuoteName_48, r_Nodes_isQuoteName_49, r_Nodes_isQuoteName_50, r_Nodes_isQuoteName_53, r_Nodes_isQuoteName_56, r_Nodes_isQuoteName_57, ai_aload, ai_iload, ai_const, ai_callv3, am_push, am_few, ai_ifeq, ai_getf, ai_iald, ai_gets, ai_xlen, ai_cmpeq, ai_zret, ai_istore, am_cut_0, am_cut_s, am_c1, ai_cmpge, ai_xald, ai_iinc, ai_goto, kd_0, fd_0_0, fd_0_1, fd_0_2, fd_0_3, fd_0_4, kd_1, fd_1_0, fd_1_1, ln_2, kd_3, fd_3_0, fd_3_1, fd_3_2, fd_3_3, fd_3_4, fd_3_5, fd_3_6, fd_3_7, fd_3_8, fd_3_9, ln_4, ln_5, ln_6, ln_7, ln_8, ln_9, ln_10, kd_11, fd_11_0, fd_11_1, fd_11_2, fd_11_3, fd_11_4, kd_12, fd_12_0, fd_12_1, fd_12_2, fd_12_3, ln_13, ln_14, ln_15, kd_16, fd_16_0, fd_16_1, fd_16_2, ln_17, kd_18, fd_18_0, fd_18_1, kd_19, fd_19_0, fd_19_1, fd_19_2, fd_19_3, fd_19_4, fd_19_5, fd_19_6, fd_19_7, fd_19_8, fd_19_9, fd_19_10, fd_19_11, fd_19_12, fd_19_13, fd_19_14, fd_19_15, fd_19_16, fd_19_17, fd_19_18, fd_19_19, fd_19_20, ln_20, ln_21, ln_22, ln_23, ln_24, ln_25, ln_26, ln_27, ln_28, ln_29, ln_30, ln_31, ln_32, List.getElem?_cons_zero, List.getElem?_cons_succ, List.set_cons_zero, List.set_cons_succ, true_and, and_true, ↓reduceIte, Int32.reduceLT, Int32.reduceLE, li_10, or_true, true_or, ↓sp_Nodes_byteOf, e1, e2, e3, nI_1]
    simp only [qL] at h
    have g := ih (k + 1) (by omega)
    by_cases c : n_byte M x (nI k) = QF k
    · simp only [c, ↓reduceIte, decide_true, Bool.true_and] at h ⊢; exact g h
    · simp only [c, ↓reduceIte, decide_false, Bool.false_and] at h ⊢; exact h
set_option maxRecDepth 100000 in
set_option maxHeartbeats 4000000 in
theorem ok_Nodes_isQuoteName {G : aG} (hG : am_ok G) : am_Sp G Y_Nodes_isQuoteName 2 sp_Nodes_isQuoteName := by
  intro as M K h
  unfold sp_Nodes_isQuoteName at h
  split at h
  · next a x =>
    obtain ⟨rfl, h⟩ := h
    unfold isQ at h
    cases c : isN M x 2
    · refine am_entry hG (by decide +kernel) (Nat.le_of_ble_eq_true rfl) ?_
      refine am_go (cuts := k_Nodes_isQuoteName) (tb_Nodes_isQuoteName (ok_Nodes_isOf hG) (by decide) (ok_Nodes_byteOf hG) (by decide)) 400 _ _ _ _ ?_
      change am_run _ _ _ _ _ _ [some (.ref 3), some (.int x), none] [] _
      simp only [q_Nodes_isQuoteName_26, r_Nodes_isQuoteName_0, r_Nodes_isQuoteName_1, r_Nodes_isQuoteName_2, r_Nodes_isQuoteName_3, r_Nodes_isQuoteName_6, r_Nodes_isQuoteName_9, r_Nodes_isQuoteName_10, r_Nodes_isQuoteName_13, r_Nodes_isQuoteName_14, r_Nodes_isQuoteName_15, r_Nodes_isQuoteName_18, r_Nodes_isQuoteName_19, r_Nodes_isQuoteName_22, r_Nodes_isQuoteName_23, r_Nodes_isQuoteName_24, r_Nodes_isQuoteName_25, r_Nodes_isQuoteName_26, r_Nodes_isQuoteName_27, r_Nodes_isQuoteName_30, r_Nodes_isQuoteName_31, r_Nodes_isQuoteName_34, r_Nodes_isQuoteName_35, r_Nodes_isQuoteName_36, r_Nodes_isQuoteName_37, r_Nodes_isQuoteName_40, r_Nodes_isQuoteName_43, r_Nodes_isQuoteName_44, r_Nodes_isQuoteName_45, r_Nodes_isQuoteName_48, r_Nodes_isQuoteName_49, r_Nodes_isQuoteName_50, r_Nodes_isQuoteName_53, r_Nodes_isQuoteName_56, r_Nodes_isQuoteName_57, ai_aload, ai_iload, ai_const, ai_callv3, am_push, am_few, ai_ifeq, ai_getf, ai_iald, ai_gets, ai_xlen, ai_cmpeq, ai_zret, ai_istore, am_cut_0, am_cut_s, am_c1, ai_cmpge, ai_xald, ai_iinc, ai_goto, kd_0, fd_0_0, fd_0_1, fd_0_2, fd_0_3, fd_0_4, kd_1, fd_1_0, fd_1_1, ln_2, kd_3, fd_3_0, fd_3_1, fd_3_2, fd_3_3, fd_3_4, fd_3_5, fd_3_6, fd_3_7, fd_3_8, fd_3_9, ln_4, ln_5, ln_6, ln_7, ln_8, ln_9, ln_10, kd_11, fd_11_0, fd_11_1, fd_11_2, fd_11_3, fd_11_4, kd_12, fd_12_0, fd_12_1, fd_12_2, fd_12_3, ln_13, ln_14, ln_15, kd_16, fd_16_0, fd_16_1, fd_16_2, ln_17, kd_18, fd_18_0, fd_18_1, kd_19, fd_19_0, fd_19_1, fd_19_2, fd_19_3, fd_19_4, fd_19_5, fd_19_6, fd_19_7, fd_19_8, fd_19_9, fd_19_10, fd_19_11, fd_19_12, fd_19_13, fd_19_14, fd_19_15, fd_19_16, fd_19_17, fd_19_18, fd_19_19, fd_19_20, ln_20, ln_21, ln_22, ln_23, ln_24, ln_25, ln_26, ln_27, ln_28, ln_29, ln_30, ln_31, ln_32, List.getElem?_cons_zero, List.getElem?_cons_succ, List.set_cons_zero, List.set_cons_succ, true_and, and_true, ↓reduceIte, Int32.reduceLT, Int32.reduceLE, li_10, or_true, true_or, ↓sp_Nodes_isOf, b2_0, c]
      rw [c] at h; exact h
    · refine am_entry hG (by decide +kernel) (Nat.le_of_ble_eq_true rfl) ?_
      refine am_go (cuts := k_Nodes_isQuoteName) (tb_Nodes_isQuoteName (ok_Nodes_isOf hG) (by decide) (ok_Nodes_byteOf hG) (by decide)) 400 _ _ _ _ ?_
      change am_run _ _ _ _ _ _ [some (.ref 3), some (.int x), none] [] _
      simp only [q_Nodes_isQuoteName_26, r_Nodes_isQuoteName_0, r_Nodes_isQuoteName_1, r_Nodes_isQuoteName_2, r_Nodes_isQuoteName_3, r_Nodes_isQuoteName_6, r_Nodes_isQuoteName_9, r_Nodes_isQuoteName_10, r_Nodes_isQuoteName_13, r_Nodes_isQuoteName_14, r_Nodes_isQuoteName_15, r_Nodes_isQuoteName_18, r_Nodes_isQuoteName_19, r_Nodes_isQuoteName_22, r_Nodes_isQuoteName_23, r_Nodes_isQuoteName_24, r_Nodes_isQuoteName_25, r_Nodes_isQuoteName_26, r_Nodes_isQuoteName_27, r_Nodes_isQuoteName_30, r_Nodes_isQuoteName_31, r_Nodes_isQuoteName_34, r_Nodes_isQuoteName_35, r_Nodes_isQuoteName_36, r_Nodes_isQuoteName_37, r_Nodes_isQuoteName_40, r_Nodes_isQuoteName_43, r_Nodes_isQuoteName_44, r_Nodes_isQuoteName_45, r_Nodes_isQuoteName_48, r_Nodes_isQuoteName_49, r_Nodes_isQuoteName_50, r_Nodes_isQuoteName_53, r_Nodes_isQuoteName_56, r_Nodes_isQuoteName_57, ai_aload, ai_iload, ai_const, ai_callv3, am_push, am_few, ai_ifeq, ai_getf, ai_iald, ai_gets, ai_xlen, ai_cmpeq, ai_zret, ai_istore, am_cut_0, am_cut_s, am_c1, ai_cmpge, ai_xald, ai_iinc, ai_goto, kd_0, fd_0_0, fd_0_1, fd_0_2, fd_0_3, fd_0_4, kd_1, fd_1_0, fd_1_1, ln_2, kd_3, fd_3_0, fd_3_1, fd_3_2, fd_3_3, fd_3_4, fd_3_5, fd_3_6, fd_3_7, fd_3_8, fd_3_9, ln_4, ln_5, ln_6, ln_7, ln_8, ln_9, ln_10, kd_11, fd_11_0, fd_11_1, fd_11_2, fd_11_3, fd_11_4, kd_12, fd_12_0, fd_12_1, fd_12_2, fd_12_3, ln_13, ln_14, ln_15, kd_16, fd_16_0, fd_16_1, fd_16_2, ln_17, kd_18, fd_18_0, fd_18_1, kd_19, fd_19_0, fd_19_1, fd_19_2, fd_19_3, fd_19_4, fd_19_5, fd_19_6, fd_19_7, fd_19_8, fd_19_9, fd_19_10, fd_19_11, fd_19_12, fd_19_13, fd_19_14, fd_19_15, fd_19_16, fd_19_17, fd_19_18, fd_19_19, fd_19_20, ln_20, ln_21, ln_22, ln_23, ln_24, ln_25, ln_26, ln_27, ln_28, ln_29, ln_30, ln_31, ln_32, List.getElem?_cons_zero, List.getElem?_cons_succ, List.set_cons_zero, List.set_cons_succ, true_and, and_true, ↓reduceIte, Int32.reduceLT, Int32.reduceLE, li_10, or_true, true_or, ↓sp_Nodes_isOf, b2_0, c, Bool.true_eq_false, isN_in c]
      rw [c] at h
      by_cases c2 : M 5 (cl x) = 5
      · rw [if_pos (show M 5 (cl x) = Int32.ofNat 5 from c2)]
        simp only [c2, decide_true, Bool.true_and] at h
        exact lp_Nodes_isQuoteName hG 5 0 rfl h
      · rw [if_neg (show ¬ M 5 (cl x) = Int32.ofNat 5 from c2)]
        simp only [c2, decide_false, Bool.true_and, Bool.false_and] at h
        exact h
  · cases h
def n_quo (M : aM) (x : Int32) : Int32 := if isQ M (n_head M x) = true then (if isN M (n_tail M (n_tail M x)) 5 = true then n_head M (n_tail M x) else -1) else -1
def sp_Nodes_quotedIn : aS := fun as M K => match as with
  | [.ref a, .int x] => a = 3 ∧ K (some (.int (n_quo M x))) M
  | _ => False
set_option maxRecDepth 100000 in
set_option maxHeartbeats 4000000 in
theorem ok_Nodes_quotedIn {G : aG} (hG : am_ok G) : am_Sp G Y_Nodes_quotedIn 3 sp_Nodes_quotedIn := by
  intro as M K h
  unfold sp_Nodes_quotedIn at h
  split at h
  · next a x =>
    obtain ⟨rfl, h⟩ := h
    unfold n_quo at h
    refine am_entry hG (by decide +kernel) (Nat.le_of_ble_eq_true rfl) ?_
    refine am_go (cuts := k_Nodes_quotedIn) (tb_Nodes_quotedIn (ok_Nodes_tailOf hG) (by decide) (ok_Nodes_headOf hG) (by decide) (ok_Nodes_isQuoteName hG) (by decide) (ok_Nodes_isOf hG) (by decide)) 400 _ _ _ _ ?_
    change am_run _ _ _ _ _ _ [some (.ref 3), some (.int x), none] [] _
    simp only [r_Nodes_quotedIn_0, r_Nodes_quotedIn_1, r_Nodes_quotedIn_2, r_Nodes_quotedIn_5, r_Nodes_quotedIn_6, r_Nodes_quotedIn_7, r_Nodes_quotedIn_8, r_Nodes_quotedIn_9, r_Nodes_quotedIn_12, r_Nodes_quotedIn_15, r_Nodes_quotedIn_18, r_Nodes_quotedIn_19, r_Nodes_quotedIn_20, r_Nodes_quotedIn_21, r_Nodes_quotedIn_24, r_Nodes_quotedIn_25, r_Nodes_quotedIn_28, r_Nodes_quotedIn_31, r_Nodes_quotedIn_32, r_Nodes_quotedIn_33, r_Nodes_quotedIn_34, r_Nodes_quotedIn_35, r_Nodes_quotedIn_38, ai_aload, ai_iload, ai_callv2, am_push, am_few, ai_istore, am_cut_0, am_cut_s, am_c1, ai_ifeq, ai_const, ai_callv3, ai_ifne, ai_iret, kd_0, fd_0_0, fd_0_1, fd_0_2, fd_0_3, fd_0_4, kd_1, fd_1_0, fd_1_1, ln_2, kd_3, fd_3_0, fd_3_1, fd_3_2, fd_3_3, fd_3_4, fd_3_5, fd_3_6, fd_3_7, fd_3_8, fd_3_9, ln_4, ln_5, ln_6, ln_7, ln_8, ln_9, ln_10, kd_11, fd_11_0, fd_11_1, fd_11_2, fd_11_3, fd_11_4, kd_12, fd_12_0, fd_12_1, fd_12_2, fd_12_3, ln_13, ln_14, ln_15, kd_16, fd_16_0, fd_16_1, fd_16_2, ln_17, kd_18, fd_18_0, fd_18_1, kd_19, fd_19_0, fd_19_1, fd_19_2, fd_19_3, fd_19_4, fd_19_5, fd_19_6, fd_19_7, fd_19_8, fd_19_9, fd_19_10, fd_19_11, fd_19_12, fd_19_13, fd_19_14, fd_19_15, fd_19_16, fd_19_17, fd_19_18, fd_19_19, fd_19_20, ln_20, ln_21, ln_22, ln_23, ln_24, ln_25, ln_26, ln_27, ln_28, ln_29, ln_30, ln_31, ln_32, List.getElem?_cons_zero, List.getElem?_cons_succ, List.set_cons_zero, List.set_cons_succ, true_and, and_true, ↓reduceIte, Int32.reduceLT, Int32.reduceLE, li_10, or_true, true_or, ↓sp_Nodes_isOf, ↓sp_Nodes_tailOf, ↓sp_Nodes_headOf, ↓sp_Nodes_isQuoteName, b2_0]
    cases c1 : isQ M (n_head M x)
    · simp only [c1, Bool.false_eq_true, ↓reduceIte] at h ⊢; exact h
    · cases c2 : isN M (n_tail M (n_tail M x)) 5
      · simp only [c1, c2, Bool.false_eq_true, Bool.true_eq_false, ↓reduceIte] at h ⊢; exact h
      · simp only [c1, c2, Bool.true_eq_false, ↓reduceIte] at h ⊢; exact h
  · cases h
def sameL (M : aM) (x y : Int32) : Nat → Nat → Bool
  | 0, _ => true
  | r + 1, k => decide (n_byte M x (nI k) = n_byte M y (nI k)) && sameL M x y r (k + 1)
def n_same (M : aM) (x y : Int32) : Bool := decide (n_amt M x = n_amt M y) && (isN M x 1 || sameL M x y (cl (n_amt M x)) 0)
def sp_Nodes_sameContent : aS := fun as M K => match as with
  | [.ref a, .int x, .int y] => a = 3 ∧ K (some (.int (b2 (n_same M x y)))) M
  | _ => False
theorem cl_lt (x : Int32) : cl x < 2 ^ 31 := by
  have h := Int32.toInt_lt x
  unfold cl
  rw [Int32.toNatClampNeg]
  omega
theorem lt_cl {k : Nat} {x : Int32} (hk : k < 2 ^ 31) : (nI k < x) = (k < cl x) := by
  by_cases h0 : x < 0
  · have h1 : ¬ nI k < x := fun q => nI_pos hk (Int32.lt_trans q h0)
    have h2 : cl x = 0 := by
      have : x.toInt < 0 := by simpa [Int32.lt_iff_toInt_lt] using h0
      unfold cl
      rw [Int32.toNatClampNeg]
      omega
    simp [h1, h2]
  · obtain ⟨j, hj, rfl⟩ := nI_of h0
    rw [show cl (nI j) = j from nI_clamp hj]
    exact propext (nI_ltI hk hj)
set_option maxRecDepth 100000 in
set_option maxHeartbeats 4000000 in
theorem lp_Nodes_sameContent {G : aG} (hG : am_ok G) {K : aR} {M : aM} {x y am : Int32} : ∀ (r k : Nat), cl am - k = r → k ≤ cl am → K (some (.int (b2 (sameL M x y r k)))) M → am_X G Y_Nodes_sameContent 2 K 31 [some (.ref 3), some (.int x), some (.int y), some (.int am), some (.int (nI k))] [] M := by
  intro r
  have hcl := cl_lt am
  induction r with
  | zero =>
    intro k hk hk2 h
    have e1 : ¬ nI k < am := by rw [lt_cl (by omega)]; omega
    refine am_from (tb_Nodes_sameContent (ok_Nodes_amountOf hG) (by decide) (ok_Nodes_isOf hG) (by decide) (ok_Nodes_byteOf hG) (by decide)) k_Nodes_sameContent 400 ?_
    simp only [q_Nodes_sameContent_31, r_Nodes_sameContent_0, r_Nodes_sameContent_1, r_Nodes_sameContent_2, r_Nodes_sameContent_5, r_Nodes_sameContent_6, r_Nodes_sameContent_7, r_Nodes_sameContent_8, r_Nodes_sameContent_9, r_Nodes_sameContent_12, r_Nodes_sameContent_15, r_Nodes_sameContent_16, r_Nodes_sameContent_17, r_Nodes_sameContent_18, r_Nodes_sameContent_19, r_Nodes_sameContent_20, r_Nodes_sameContent_23, r_Nodes_sameContent_26, r_Nodes_sameContent_27, r_Nodes_sameContent_28, r_Nodes_sameContent_29, r_Nodes_sameContent_31, r_Nodes_sameContent_33, r_Nodes_sameContent_34, r_Nodes_sameContent_37, r_Nodes_sameContent_38, r_Nodes_sameContent_39, r_Nodes_sameContent_41, r_Nodes_sameContent_44, r_Nodes_sameContent_45, r_Nodes_sameContent_46, r_Nodes_sameContent_48, r_Nodes_sameContent_51, r_Nodes_sameContent_54, r_Nodes_sameContent_55, r_Nodes_sameContent_56, r_Nodes_sameContent_59, r_Nodes_sameContent_62, r_Nodes_sameContent_63, ai_aload, ai_iload, ai_callv2, am_push, am_few, ai_istore, am_cut_0, am_cut_s, am_c1, ai_cmpeq, ai_const, ai_zret, ai_callv3, ai_ifeq, ai_cmpge, ai_iinc, ai_goto, kd_0, fd_0_0, fd_0_1, fd_0_2, fd_0_3, fd_0_4, kd_1, fd_1_0, fd_1_1, ln_2, kd_3, fd_3_0, fd_3_1, fd_3_2, fd_3_3, fd_3_4, fd_3_5, fd_3_6, fd_3_7, fd_3_8, fd_3_9, ln_4, ln_5, ln_6, ln_7, ln_8, ln_9, ln_10, kd_11, fd_11_0, fd_11_1, fd_11_2, fd_11_3, fd_11_4, kd_12, fd_12_0, fd_12_1, fd_12_2, fd_12_3, ln_13, ln_14, ln_15, kd_16, fd_16_0, fd_16_1, fd_16_2, ln_17, kd_18, fd_18_0, fd_18_1, kd_19, fd_19_0, fd_19_1, fd_19_2, fd_19_3, fd_19_4, fd_19_5, fd_19_6, fd_19_7, fd_19_8, fd_19_9, fd_19_10, fd_19_11, fd_19_12, fd_19_13, fd_19_14, fd_19_15, fd_19_16, fd_19_17, fd_19_18, fd_19_19, fd_19_20, ln_20, ln_21, ln_22, ln_23, ln_24, ln_25, ln_26, ln_27, ln_28, ln_29, ln_30, ln_31, ln_32, List.getElem?_cons_zero, List.getElem?_cons_succ, List.set_cons_zero, List.set_cons_succ, true_and, and_true, ↓reduceIte, Int32.reduceLT, Int32.reduceLE, li_10, or_true, true_or, e1]
    exact h
  | succ r ih =>
    intro k hk hk2 h
    have e1 : nI k < am := by rw [lt_cl (by omega)]; omega
    refine am_from (tb_Nodes_sameContent (ok_Nodes_amountOf hG) (by decide) (ok_Nodes_isOf hG) (by decide) (ok_Nodes_byteOf hG) (by decide)) k_Nodes_sameContent 400 ?_
    simp only [q_Nodes_sameContent_31, r_Nodes_sameContent_0, r_Nodes_sameContent_1, r_Nodes_sameContent_2, r_Nodes_sameContent_5, r_Nodes_sameContent_6, r_Nodes_sameContent_7, r_Nodes_sameContent_8, r_Nodes_sameContent_9, r_Nodes_sameContent_12, r_Nodes_sameContent_15, r_Nodes_sameContent_16, r_Nodes_sameContent_17, r_Nodes_sameContent_18, r_Nodes_sameContent_19, r_Nodes_sameContent_20, r_Nodes_sameContent_23, r_Nodes_sameContent_26, r_Nodes_sameContent_27, r_Nodes_sameContent_28, r_Nodes_sameContent_29, r_Nodes_sameContent_31, r_Nodes_sameContent_33, r_Nodes_sameContent_34, r_Nodes_sameContent_37, r_Nodes_sameContent_38, r_Nodes_sameContent_39, r_Nodes_sameContent_41, r_Nodes_sameContent_44, r_Nodes_sameContent_45, r_Nodes_sameContent_46, r_Nodes_sameContent_48, r_Nodes_sameContent_51, r_Nodes_sameContent_54, r_Nodes_sameContent_55, r_Nodes_sameContent_56, r_Nodes_sameContent_59, r_Nodes_sameContent_62, r_Nodes_sameContent_63, ai_aload, ai_iload, ai_callv2, am_push, am_few, ai_istore, am_cut_0, am_cut_s, am_c1, ai_cmpeq, ai_const, ai_zret, ai_callv3, ai_ifeq, ai_cmpge, ai_iinc, ai_goto, kd_0, fd_0_0, fd_0_1, fd_0_2, fd_0_3, fd_0_4, kd_1, fd_1_0, fd_1_1, ln_2, kd_3, fd_3_0, fd_3_1, fd_3_2, fd_3_3, fd_3_4, fd_3_5, fd_3_6, fd_3_7, fd_3_8, fd_3_9, ln_4, ln_5, ln_6, ln_7, ln_8, ln_9, ln_10, kd_11, fd_11_0, fd_11_1, fd_11_2, fd_11_3, fd_11_4, kd_12, fd_12_0, fd_12_1, fd_12_2, fd_12_3, ln_13, ln_14, ln_15, kd_16, fd_16_0, fd_16_1, fd_16_2, ln_17, kd_18, fd_18_0, fd_18_1, kd_19, fd_19_0, fd_19_1, fd_19_2, fd_19_3, fd_19_4, fd_19_5, fd_19_6, fd_19_7, fd_19_8, fd_19_9, fd_19_10, fd_19_11, fd_19_12, fd_19_13, fd_19_14, fd_19_15, fd_19_16, fd_19_17, fd_19_18, fd_19_19, fd_19_20, ln_20, ln_21, ln_22, ln_23, ln_24, ln_25, ln_26, ln_27, ln_28, ln_29, ln_30, ln_31, ln_32, List.getElem?_cons_zero, List.getElem?_cons_succ, List.set_cons_zero, List.set_cons_succ, true_and, and_true, ↓reduceIte, Int32.reduceLT, Int32.reduceLE, li_10, or_true, true_or, ↓sp_Nodes_byteOf, e1, nI_1]
    simp only [sameL] at h
    have g := ih (k + 1) (by omega) (by omega)
    by_cases c : n_byte M x (nI k) = n_byte M y (nI k)
    · simp only [c, ↓reduceIte, decide_true, Bool.true_and] at h ⊢; exact g h
    · simp only [c, ↓reduceIte, decide_false, Bool.false_and] at h ⊢; exact h
set_option maxRecDepth 100000 in
set_option maxHeartbeats 4000000 in
theorem ok_Nodes_sameContent {G : aG} (hG : am_ok G) : am_Sp G Y_Nodes_sameContent 2 sp_Nodes_sameContent := by
  intro as M K h
  unfold sp_Nodes_sameContent at h
  split at h
  · next a x y =>
    obtain ⟨rfl, h⟩ := h
    unfold n_same at h
    refine am_entry hG (by decide +kernel) (Nat.le_of_ble_eq_true rfl) ?_
    refine am_go (cuts := k_Nodes_sameContent) (tb_Nodes_sameContent (ok_Nodes_amountOf hG) (by decide) (ok_Nodes_isOf hG) (by decide) (ok_Nodes_byteOf hG) (by decide)) 400 _ _ _ _ ?_
    change am_run _ _ _ _ _ _ [some (.ref 3), some (.int x), some (.int y), none, none] [] _
    simp only [q_Nodes_sameContent_31, r_Nodes_sameContent_0, r_Nodes_sameContent_1, r_Nodes_sameContent_2, r_Nodes_sameContent_5, r_Nodes_sameContent_6, r_Nodes_sameContent_7, r_Nodes_sameContent_8, r_Nodes_sameContent_9, r_Nodes_sameContent_12, r_Nodes_sameContent_15, r_Nodes_sameContent_16, r_Nodes_sameContent_17, r_Nodes_sameContent_18, r_Nodes_sameContent_19, r_Nodes_sameContent_20, r_Nodes_sameContent_23, r_Nodes_sameContent_26, r_Nodes_sameContent_27, r_Nodes_sameContent_28, r_Nodes_sameContent_29, r_Nodes_sameContent_31, r_Nodes_sameContent_33, r_Nodes_sameContent_34, r_Nodes_sameContent_37, r_Nodes_sameContent_38, r_Nodes_sameContent_39, r_Nodes_sameContent_41, r_Nodes_sameContent_44, r_Nodes_sameContent_45, r_Nodes_sameContent_46, r_Nodes_sameContent_48, r_Nodes_sameContent_51, r_Nodes_sameContent_54, r_Nodes_sameContent_55, r_Nodes_sameContent_56, r_Nodes_sameContent_59, r_Nodes_sameContent_62, r_Nodes_sameContent_63, ai_aload, ai_iload, ai_callv2, am_push, am_few, ai_istore, am_cut_0, am_cut_s, am_c1, ai_cmpeq, ai_const, ai_zret, ai_callv3, ai_ifeq, ai_cmpge, ai_iinc, ai_goto, kd_0, fd_0_0, fd_0_1, fd_0_2, fd_0_3, fd_0_4, kd_1, fd_1_0, fd_1_1, ln_2, kd_3, fd_3_0, fd_3_1, fd_3_2, fd_3_3, fd_3_4, fd_3_5, fd_3_6, fd_3_7, fd_3_8, fd_3_9, ln_4, ln_5, ln_6, ln_7, ln_8, ln_9, ln_10, kd_11, fd_11_0, fd_11_1, fd_11_2, fd_11_3, fd_11_4, kd_12, fd_12_0, fd_12_1, fd_12_2, fd_12_3, ln_13, ln_14, ln_15, kd_16, fd_16_0, fd_16_1, fd_16_2, ln_17, kd_18, fd_18_0, fd_18_1, kd_19, fd_19_0, fd_19_1, fd_19_2, fd_19_3, fd_19_4, fd_19_5, fd_19_6, fd_19_7, fd_19_8, fd_19_9, fd_19_10, fd_19_11, fd_19_12, fd_19_13, fd_19_14, fd_19_15, fd_19_16, fd_19_17, fd_19_18, fd_19_19, fd_19_20, ln_20, ln_21, ln_22, ln_23, ln_24, ln_25, ln_26, ln_27, ln_28, ln_29, ln_30, ln_31, ln_32, List.getElem?_cons_zero, List.getElem?_cons_succ, List.set_cons_zero, List.set_cons_succ, true_and, and_true, ↓reduceIte, Int32.reduceLT, Int32.reduceLE, li_10, or_true, true_or, ↓sp_Nodes_amountOf, ↓sp_Nodes_isOf, b2_0]
    by_cases c1 : n_amt M x = n_amt M y
    · cases c2 : isN M x 1
      · simp only [c1, c2, ↓reduceIte, decide_true, Bool.true_and, Bool.false_or] at h ⊢
        exact lp_Nodes_sameContent hG (cl (n_amt M y)) 0 (by omega) (Nat.zero_le _) h
      · simp only [c1, c2, ↓reduceIte, decide_true, Bool.true_and, Bool.true_or, Bool.true_eq_false] at h ⊢
        exact h
    · simp only [c1, ↓reduceIte, decide_false, Bool.false_and] at h ⊢
      exact h
  · cases h
/-- likeness: a run along the tails, at most r; f says it of the heads -/
def alL (M : aM) (f : Int32 → Int32 → Bool) : Nat → Int32 → Int32 → Bool
  | 0, _, _ => false
  | r + 1, x, y => if (isN M x 4 && isN M y 4) = true then (f (M 7 (cl x)) (M 7 (cl y)) && alL M f r (M 8 (cl x)) (M 8 (cl y))) else (decide (n_kind M x = n_kind M y) && n_same M x y)
def alk (M : aM) : Nat → Int32 → Int32 → Bool
  | 0, _, _ => false
  | j + 1, x, y => alL M (alk M j) 200 x y
def sp_Nodes_alike (j : Nat) : aS := fun as M K => match as with
  | [.ref a, .int x, .int y, .int d] => a = 3 ∧ (d = nI (16 - j) ∧ j ≤ 16) ∧ K (some (.int (b2 (alk M j x y)))) M
  | _ => False
set_option maxRecDepth 100000 in
set_option maxHeartbeats 4000000 in
theorem lp_Nodes_alike {G : aG} (hG : am_ok G) {K : aR} {M : aM} {x0 y0 : Int32} {j : Nat} (hj : j + 1 ≤ 16) (hI : am_Sp G Y_Nodes_alike (3 + j) (sp_Nodes_alike j)) : ∀ (r k : Nat) (x y : Int32), k + r = 200 → K (some (.int (b2 (alL M (alk M j) r x y)))) M → am_X G Y_Nodes_alike (3 + (j + 1)) K 17 [some (.ref 3), some (.int x0), some (.int y0), some (.int (nI (16 - (j + 1)))), some (.int x), some (.int y), some (.int (nI k))] [] M := by
  intro r
  induction r with
  | zero =>
    intro k x y hk h
    have e1 : ¬ nI k < 200 := nI_nlt (b := 200) (a := k) (by omega) (by omega)
    refine am_from (tb_Nodes_alike (ok_Nodes_isOf hG) (by omega) (ok_Nodes_kindOf hG) (by omega) (ok_Nodes_sameContent hG) (by omega) hI (by omega)) k_Nodes_alike 400 ?_
    simp only [q_Nodes_alike_17, r_Nodes_alike_0, r_Nodes_alike_1, r_Nodes_alike_3, r_Nodes_alike_6, r_Nodes_alike_7, r_Nodes_alike_8, r_Nodes_alike_9, r_Nodes_alike_11, r_Nodes_alike_12, r_Nodes_alike_14, r_Nodes_alike_15, r_Nodes_alike_17, r_Nodes_alike_19, r_Nodes_alike_22, r_Nodes_alike_25, r_Nodes_alike_26, r_Nodes_alike_28, r_Nodes_alike_29, r_Nodes_alike_32, r_Nodes_alike_35, r_Nodes_alike_36, r_Nodes_alike_38, r_Nodes_alike_39, r_Nodes_alike_42, r_Nodes_alike_45, r_Nodes_alike_46, r_Nodes_alike_48, r_Nodes_alike_51, r_Nodes_alike_52, r_Nodes_alike_54, r_Nodes_alike_57, r_Nodes_alike_60, r_Nodes_alike_61, r_Nodes_alike_63, r_Nodes_alike_65, r_Nodes_alike_68, r_Nodes_alike_71, r_Nodes_alike_72, r_Nodes_alike_75, r_Nodes_alike_76, r_Nodes_alike_77, r_Nodes_alike_78, r_Nodes_alike_79, r_Nodes_alike_82, r_Nodes_alike_84, r_Nodes_alike_85, r_Nodes_alike_86, r_Nodes_alike_89, r_Nodes_alike_91, r_Nodes_alike_92, r_Nodes_alike_93, r_Nodes_alike_94, r_Nodes_alike_95, r_Nodes_alike_98, r_Nodes_alike_101, r_Nodes_alike_102, r_Nodes_alike_103, r_Nodes_alike_104, r_Nodes_alike_107, r_Nodes_alike_109, r_Nodes_alike_110, r_Nodes_alike_112, r_Nodes_alike_113, r_Nodes_alike_116, r_Nodes_alike_118, r_Nodes_alike_119, r_Nodes_alike_121, r_Nodes_alike_124, r_Nodes_alike_127, r_Nodes_alike_128, ai_iload, ai_const, ai_cmple, ai_zret, ai_istore, am_cut_0, am_cut_s, am_c1, ai_cmpge, ai_aload, ai_callv3, am_push, am_few, ai_ifeq, ai_ifne, ai_callv2, ai_cmpne, ai_goto, ai_getf, ai_iald, ai_iadd, ai_bin, ai_callv4, ai_iinc, kd_0, fd_0_0, fd_0_1, fd_0_2, fd_0_3, fd_0_4, kd_1, fd_1_0, fd_1_1, ln_2, kd_3, fd_3_0, fd_3_1, fd_3_2, fd_3_3, fd_3_4, fd_3_5, fd_3_6, fd_3_7, fd_3_8, fd_3_9, ln_4, ln_5, ln_6, ln_7, ln_8, ln_9, ln_10, kd_11, fd_11_0, fd_11_1, fd_11_2, fd_11_3, fd_11_4, kd_12, fd_12_0, fd_12_1, fd_12_2, fd_12_3, ln_13, ln_14, ln_15, kd_16, fd_16_0, fd_16_1, fd_16_2, ln_17, kd_18, fd_18_0, fd_18_1, kd_19, fd_19_0, fd_19_1, fd_19_2, fd_19_3, fd_19_4, fd_19_5, fd_19_6, fd_19_7, fd_19_8, fd_19_9, fd_19_10, fd_19_11, fd_19_12, fd_19_13, fd_19_14, fd_19_15, fd_19_16, fd_19_17, fd_19_18, fd_19_19, fd_19_20, ln_20, ln_21, ln_22, ln_23, ln_24, ln_25, ln_26, ln_27, ln_28, ln_29, ln_30, ln_31, ln_32, List.getElem?_cons_zero, List.getElem?_cons_succ, List.set_cons_zero, List.set_cons_succ, true_and, and_true, ↓reduceIte, Int32.reduceLT, Int32.reduceLE, li_10, or_true, true_or, e1]
    exact h
  | succ r ih =>
    intro k x y hk h
    have e1 : nI k < 200 := nI_lt (b := 200) (by omega) (by decide)
    have e3 : nI (16 - (j + 1)) + 1 = nI (16 - j) := by rw [nI_1, show 16 - (j + 1) + 1 = 16 - j by omega]
    refine am_from (tb_Nodes_alike (ok_Nodes_isOf hG) (by omega) (ok_Nodes_kindOf hG) (by omega) (ok_Nodes_sameContent hG) (by omega) hI (by omega)) k_Nodes_alike 400 ?_
    simp only [q_Nodes_alike_17, r_Nodes_alike_0, r_Nodes_alike_1, r_Nodes_alike_3, r_Nodes_alike_6, r_Nodes_alike_7, r_Nodes_alike_8, r_Nodes_alike_9, r_Nodes_alike_11, r_Nodes_alike_12, r_Nodes_alike_14, r_Nodes_alike_15, r_Nodes_alike_17, r_Nodes_alike_19, r_Nodes_alike_22, r_Nodes_alike_25, r_Nodes_alike_26, r_Nodes_alike_28, r_Nodes_alike_29, r_Nodes_alike_32, r_Nodes_alike_35, r_Nodes_alike_36, r_Nodes_alike_38, r_Nodes_alike_39, r_Nodes_alike_42, r_Nodes_alike_45, r_Nodes_alike_46, r_Nodes_alike_48, r_Nodes_alike_51, r_Nodes_alike_52, r_Nodes_alike_54, r_Nodes_alike_57, r_Nodes_alike_60, r_Nodes_alike_61, r_Nodes_alike_63, r_Nodes_alike_65, r_Nodes_alike_68, r_Nodes_alike_71, r_Nodes_alike_72, r_Nodes_alike_75, r_Nodes_alike_76, r_Nodes_alike_77, r_Nodes_alike_78, r_Nodes_alike_79, r_Nodes_alike_82, r_Nodes_alike_84, r_Nodes_alike_85, r_Nodes_alike_86, r_Nodes_alike_89, r_Nodes_alike_91, r_Nodes_alike_92, r_Nodes_alike_93, r_Nodes_alike_94, r_Nodes_alike_95, r_Nodes_alike_98, r_Nodes_alike_101, r_Nodes_alike_102, r_Nodes_alike_103, r_Nodes_alike_104, r_Nodes_alike_107, r_Nodes_alike_109, r_Nodes_alike_110, r_Nodes_alike_112, r_Nodes_alike_113, r_Nodes_alike_116, r_Nodes_alike_118, r_Nodes_alike_119, r_Nodes_alike_121, r_Nodes_alike_124, r_Nodes_alike_127, r_Nodes_alike_128, ai_iload, ai_const, ai_cmple, ai_zret, ai_istore, am_cut_0, am_cut_s, am_c1, ai_cmpge, ai_aload, ai_callv3, am_push, am_few, ai_ifeq, ai_ifne, ai_callv2, ai_cmpne, ai_goto, ai_getf, ai_iald, ai_iadd, ai_bin, ai_callv4, ai_iinc, kd_0, fd_0_0, fd_0_1, fd_0_2, fd_0_3, fd_0_4, kd_1, fd_1_0, fd_1_1, ln_2, kd_3, fd_3_0, fd_3_1, fd_3_2, fd_3_3, fd_3_4, fd_3_5, fd_3_6, fd_3_7, fd_3_8, fd_3_9, ln_4, ln_5, ln_6, ln_7, ln_8, ln_9, ln_10, kd_11, fd_11_0, fd_11_1, fd_11_2, fd_11_3, fd_11_4, kd_12, fd_12_0, fd_12_1, fd_12_2, fd_12_3, ln_13, ln_14, ln_15, kd_16, fd_16_0, fd_16_1, fd_16_2, ln_17, kd_18, fd_18_0, fd_18_1, kd_19, fd_19_0, fd_19_1, fd_19_2, fd_19_3, fd_19_4, fd_19_5, fd_19_6, fd_19_7, fd_19_8, fd_19_9, fd_19_10, fd_19_11, fd_19_12, fd_19_13, fd_19_14, fd_19_15, fd_19_16, fd_19_17, fd_19_18, fd_19_19, fd_19_20, ln_20, ln_21, ln_22, ln_23, ln_24, ln_25, ln_26, ln_27, ln_28, ln_29, ln_30, ln_31, ln_32, List.getElem?_cons_zero, List.getElem?_cons_succ, List.set_cons_zero, List.set_cons_succ, true_and, and_true, ↓reduceIte, Int32.reduceLT, Int32.reduceLE, li_10, or_true, true_or, ↓sp_Nodes_isOf, ↓sp_Nodes_kindOf, ↓sp_Nodes_sameContent, ↓sp_Nodes_alike, e1, e3, nI_1, b2_0]
    simp only [alL] at h
    have g := ih (k + 1) (M 8 (cl x)) (M 8 (cl y)) (by omega)
    cases c1 : isN M x 4
    · simp only [c1, Bool.false_and, Bool.false_eq_true, ↓reduceIte] at h ⊢
      by_cases c3 : n_kind M x = n_kind M y
      · cases c4 : n_same M x y
        · simp only [c3, c4, decide_true, Bool.true_and, ↓reduceIte] at h ⊢; exact h
        · simp only [c3, c4, decide_true, Bool.true_and, ↓reduceIte, Bool.true_eq_false] at h ⊢; exact h
      · simp only [c3, decide_false, Bool.false_and, ↓reduceIte] at h ⊢; exact h
    · cases c2 : isN M y 4
      · simp only [c1, c2, Bool.and_false, Bool.false_eq_true, Bool.true_eq_false, ↓reduceIte] at h ⊢
        by_cases c3 : n_kind M x = n_kind M y
        · cases c4 : n_same M x y
          · simp only [c3, c4, decide_true, Bool.true_and, ↓reduceIte] at h ⊢; exact h
          · simp only [c3, c4, decide_true, Bool.true_and, ↓reduceIte, Bool.true_eq_false] at h ⊢; exact h
        · simp only [c3, decide_false, Bool.false_and, ↓reduceIte] at h ⊢; exact h
      · simp only [c1, c2, Bool.and_true, Bool.true_eq_false, ↓reduceIte] at h ⊢
        refine ⟨isN_in c1, isN_in c2, by omega, ?_⟩
        cases c5 : alk M j (M 7 (cl x)) (M 7 (cl y))
        · simp only [c5, Bool.false_and, ↓reduceIte] at h ⊢; exact h
        · simp only [c5, Bool.true_and, Bool.true_eq_false, ↓reduceIte] at h ⊢
          exact ⟨isN_in c1, isN_in c2, g h⟩
set_option maxRecDepth 100000 in
set_option maxHeartbeats 4000000 in
theorem ok_Nodes_alike {G : aG} (hG : am_ok G) : ∀ j, am_Sp G Y_Nodes_alike (3 + j) (sp_Nodes_alike j) := by
  intro j
  induction j with
  | zero =>
    intro as M K h
    unfold sp_Nodes_alike at h
    split at h
    · next a x y d =>
      obtain ⟨rfl, ⟨rfl, -⟩, h⟩ := h
      have e1 : (15 : Int32) < nI (16 - 0) := by decide
      refine am_entry hG (by decide +kernel) (Nat.le_of_ble_eq_true rfl) ?_
      refine am_go (cuts := k_Nodes_alike) (tb_Nodes_alike (ok_Nodes_isOf hG) (by omega) (ok_Nodes_kindOf hG) (by omega) (ok_Nodes_sameContent hG) (by omega) (s_Nodes_alike := fun _ _ _ => False) (d_Nodes_alike := 0) (fun _ _ _ q => q.elim) (by omega)) 400 _ _ _ _ ?_
      change am_run _ _ _ _ _ _ [some (.ref 3), some (.int x), some (.int y), some (.int (nI (16 - 0))), none, none, none] [] _
      simp only [q_Nodes_alike_17, r_Nodes_alike_0, r_Nodes_alike_1, r_Nodes_alike_3, r_Nodes_alike_6, r_Nodes_alike_7, r_Nodes_alike_8, r_Nodes_alike_9, r_Nodes_alike_11, r_Nodes_alike_12, r_Nodes_alike_14, r_Nodes_alike_15, r_Nodes_alike_17, r_Nodes_alike_19, r_Nodes_alike_22, r_Nodes_alike_25, r_Nodes_alike_26, r_Nodes_alike_28, r_Nodes_alike_29, r_Nodes_alike_32, r_Nodes_alike_35, r_Nodes_alike_36, r_Nodes_alike_38, r_Nodes_alike_39, r_Nodes_alike_42, r_Nodes_alike_45, r_Nodes_alike_46, r_Nodes_alike_48, r_Nodes_alike_51, r_Nodes_alike_52, r_Nodes_alike_54, r_Nodes_alike_57, r_Nodes_alike_60, r_Nodes_alike_61, r_Nodes_alike_63, r_Nodes_alike_65, r_Nodes_alike_68, r_Nodes_alike_71, r_Nodes_alike_72, r_Nodes_alike_75, r_Nodes_alike_76, r_Nodes_alike_77, r_Nodes_alike_78, r_Nodes_alike_79, r_Nodes_alike_82, r_Nodes_alike_84, r_Nodes_alike_85, r_Nodes_alike_86, r_Nodes_alike_89, r_Nodes_alike_91, r_Nodes_alike_92, r_Nodes_alike_93, r_Nodes_alike_94, r_Nodes_alike_95, r_Nodes_alike_98, r_Nodes_alike_101, r_Nodes_alike_102, r_Nodes_alike_103, r_Nodes_alike_104, r_Nodes_alike_107, r_Nodes_alike_109, r_Nodes_alike_110, r_Nodes_alike_112, r_Nodes_alike_113, r_Nodes_alike_116, r_Nodes_alike_118, r_Nodes_alike_119, r_Nodes_alike_121, r_Nodes_alike_124, r_Nodes_alike_127, r_Nodes_alike_128, ai_iload, ai_const, ai_cmple, ai_zret, ai_istore, am_cut_0, am_cut_s, am_c1, ai_cmpge, ai_aload, ai_callv3, am_push, am_few, ai_ifeq, ai_ifne, ai_callv2, ai_cmpne, ai_goto, ai_getf, ai_iald, ai_iadd, ai_bin, ai_callv4, ai_iinc, kd_0, fd_0_0, fd_0_1, fd_0_2, fd_0_3, fd_0_4, kd_1, fd_1_0, fd_1_1, ln_2, kd_3, fd_3_0, fd_3_1, fd_3_2, fd_3_3, fd_3_4, fd_3_5, fd_3_6, fd_3_7, fd_3_8, fd_3_9, ln_4, ln_5, ln_6, ln_7, ln_8, ln_9, ln_10, kd_11, fd_11_0, fd_11_1, fd_11_2, fd_11_3, fd_11_4, kd_12, fd_12_0, fd_12_1, fd_12_2, fd_12_3, ln_13, ln_14, ln_15, kd_16, fd_16_0, fd_16_1, fd_16_2, ln_17, kd_18, fd_18_0, fd_18_1, kd_19, fd_19_0, fd_19_1, fd_19_2, fd_19_3, fd_19_4, fd_19_5, fd_19_6, fd_19_7, fd_19_8, fd_19_9, fd_19_10, fd_19_11, fd_19_12, fd_19_13, fd_19_14, fd_19_15, fd_19_16, fd_19_17, fd_19_18, fd_19_19, fd_19_20, ln_20, ln_21, ln_22, ln_23, ln_24, ln_25, ln_26, ln_27, ln_28, ln_29, ln_30, ln_31, ln_32, List.getElem?_cons_zero, List.getElem?_cons_succ, List.set_cons_zero, List.set_cons_succ, true_and, and_true, ↓reduceIte, Int32.reduceLT, Int32.reduceLE, li_10, or_true, true_or, e1]
      exact h
    · cases h
  | succ j ih =>
    intro as M K h
    unfold sp_Nodes_alike at h
    split at h
    · next a x y d =>
      obtain ⟨rfl, ⟨rfl, hj⟩, h⟩ := h
      have e1 : ¬ (15 : Int32) < nI (16 - (j + 1)) := nI_nlt (a := 15) (b := 16 - (j + 1)) (by omega) (by decide)
      refine am_entry hG (by decide +kernel) (Nat.le_of_ble_eq_true rfl) ?_
      refine am_go (cuts := k_Nodes_alike) (tb_Nodes_alike (ok_Nodes_isOf hG) (by omega) (ok_Nodes_kindOf hG) (by omega) (ok_Nodes_sameContent hG) (by omega) ih (by omega)) 400 _ _ _ _ ?_
      change am_run _ _ _ _ _ _ [some (.ref 3), some (.int x), some (.int y), some (.int (nI (16 - (j + 1)))), none, none, none] [] _
      simp only [q_Nodes_alike_17, r_Nodes_alike_0, r_Nodes_alike_1, r_Nodes_alike_3, r_Nodes_alike_6, r_Nodes_alike_7, r_Nodes_alike_8, r_Nodes_alike_9, r_Nodes_alike_11, r_Nodes_alike_12, r_Nodes_alike_14, r_Nodes_alike_15, r_Nodes_alike_17, r_Nodes_alike_19, r_Nodes_alike_22, r_Nodes_alike_25, r_Nodes_alike_26, r_Nodes_alike_28, r_Nodes_alike_29, r_Nodes_alike_32, r_Nodes_alike_35, r_Nodes_alike_36, r_Nodes_alike_38, r_Nodes_alike_39, r_Nodes_alike_42, r_Nodes_alike_45, r_Nodes_alike_46, r_Nodes_alike_48, r_Nodes_alike_51, r_Nodes_alike_52, r_Nodes_alike_54, r_Nodes_alike_57, r_Nodes_alike_60, r_Nodes_alike_61, r_Nodes_alike_63, r_Nodes_alike_65, r_Nodes_alike_68, r_Nodes_alike_71, r_Nodes_alike_72, r_Nodes_alike_75, r_Nodes_alike_76, r_Nodes_alike_77, r_Nodes_alike_78, r_Nodes_alike_79, r_Nodes_alike_82, r_Nodes_alike_84, r_Nodes_alike_85, r_Nodes_alike_86, r_Nodes_alike_89, r_Nodes_alike_91, r_Nodes_alike_92, r_Nodes_alike_93, r_Nodes_alike_94, r_Nodes_alike_95, r_Nodes_alike_98, r_Nodes_alike_101, r_Nodes_alike_102, r_Nodes_alike_103, r_Nodes_alike_104, r_Nodes_alike_107, r_Nodes_alike_109, r_Nodes_alike_110, r_Nodes_alike_112, r_Nodes_alike_113, r_Nodes_alike_116, r_Nodes_alike_118, r_Nodes_alike_119, r_Nodes_alike_121, r_Nodes_alike_124, r_Nodes_alike_127, r_Nodes_alike_128, ai_iload, ai_const, ai_cmple, ai_zret, ai_istore, am_cut_0, am_cut_s, am_c1, ai_cmpge, ai_aload, ai_callv3, am_push, am_few, ai_ifeq, ai_ifne, ai_callv2, ai_cmpne, ai_goto, ai_getf, ai_iald, ai_iadd, ai_bin, ai_callv4, ai_iinc, kd_0, fd_0_0, fd_0_1, fd_0_2, fd_0_3, fd_0_4, kd_1, fd_1_0, fd_1_1, ln_2, kd_3, fd_3_0, fd_3_1, fd_3_2, fd_3_3, fd_3_4, fd_3_5, fd_3_6, fd_3_7, fd_3_8, fd_3_9, ln_4, ln_5, ln_6, ln_7, ln_8, ln_9, ln_10, kd_11, fd_11_0, fd_11_1, fd_11_2, fd_11_3, fd_11_4, kd_12, fd_12_0, fd_12_1, fd_12_2, fd_12_3, ln_13, ln_14, ln_15, kd_16, fd_16_0, fd_16_1, fd_16_2, ln_17, kd_18, fd_18_0, fd_18_1, kd_19, fd_19_0, fd_19_1, fd_19_2, fd_19_3, fd_19_4, fd_19_5, fd_19_6, fd_19_7, fd_19_8, fd_19_9, fd_19_10, fd_19_11, fd_19_12, fd_19_13, fd_19_14, fd_19_15, fd_19_16, fd_19_17, fd_19_18, fd_19_19, fd_19_20, ln_20, ln_21, ln_22, ln_23, ln_24, ln_25, ln_26, ln_27, ln_28, ln_29, ln_30, ln_31, ln_32, List.getElem?_cons_zero, List.getElem?_cons_succ, List.set_cons_zero, List.set_cons_succ, true_and, and_true, ↓reduceIte, Int32.reduceLT, Int32.reduceLE, li_10, or_true, true_or, e1]
      exact lp_Nodes_alike hG hj ih 200 0 x y rfl h
    · cases h
end
section
/-! WHAT WAITS: a ring -/
def wf (M : aM) : Nat := cl (M 16 1)
def ww (M : aM) : Nat := cl (M 16 2)
def wt_ok (M : aM) : Prop := M 16 1 = nI (wf M) ∧ wf M < 500 ∧ M 16 2 = nI (ww M) ∧ ww M ≤ 500
def wix (M : aM) (k : Nat) : Nat := if wf M + k < 500 then wf M + k else wf M + k - 500
def sayM (M : aM) (b : Int32) : aM := if ww M = 500 then M else am_up (am_up M 17 (wix M (ww M)) b) 16 2 (nI (ww M + 1))
def sp_Waiting_append : aS := fun as M K => match as with
  | [.ref a, .int b] => a = 16 ∧ wt_ok M ∧ K none (sayM M b)
  | _ => False
set_option maxRecDepth 100000 in
set_option maxHeartbeats 4000000 in
theorem ok_Waiting_append {G : aG} (hG : am_ok G) : am_Sp G Y_Waiting_append 0 sp_Waiting_append := by
  intro as M K h
  unfold sp_Waiting_append at h
  split at h
  · next a b =>
    obtain ⟨rfl, ⟨h1, h2, h3, h4⟩, h⟩ := h
    unfold sayM at h
    by_cases c : ww M = 500
    · have e1 : ¬ M 16 2 < 500 := by rw [h3]; exact nI_nlt (b := 500) (a := ww M) (by omega) (by omega)
      refine am_entry hG (by decide +kernel) (Nat.le_of_ble_eq_true rfl) ?_
      refine am_go (cuts := k_Waiting_append) tb_Waiting_append 400 _ _ _ _ ?_
      change am_run _ _ _ _ _ _ [some (.ref 16), some (.int b), none] [] _
      simp only [r_Waiting_append_0, r_Waiting_append_1, r_Waiting_append_4, r_Waiting_append_7, r_Waiting_append_10, r_Waiting_append_11, r_Waiting_append_12, r_Waiting_append_15, r_Waiting_append_16, r_Waiting_append_19, r_Waiting_append_20, r_Waiting_append_23, r_Waiting_append_26, r_Waiting_append_27, r_Waiting_append_30, r_Waiting_append_31, r_Waiting_append_34, r_Waiting_append_35, r_Waiting_append_38, r_Waiting_append_39, r_Waiting_append_42, r_Waiting_append_43, r_Waiting_append_46, r_Waiting_append_47, r_Waiting_append_50, r_Waiting_append_51, r_Waiting_append_52, r_Waiting_append_53, r_Waiting_append_56, r_Waiting_append_57, r_Waiting_append_60, r_Waiting_append_63, r_Waiting_append_64, r_Waiting_append_67, r_Waiting_append_68, r_Waiting_append_69, r_Waiting_append_70, r_Waiting_append_71, r_Waiting_append_72, r_Waiting_append_75, r_Waiting_append_76, r_Waiting_append_77, r_Waiting_append_80, ai_aload, ai_getf, ai_const, ai_cmplt, ai_vret, ai_iadd, ai_bin, ai_cmpge, ai_goto, ai_isub, ai_istore, am_cut_0, am_cut_s, am_c1, ai_iload, ai_iflt, ai_iast, ai_dup, ai_putf, kd_0, fd_0_0, fd_0_1, fd_0_2, fd_0_3, fd_0_4, kd_1, fd_1_0, fd_1_1, ln_2, kd_3, fd_3_0, fd_3_1, fd_3_2, fd_3_3, fd_3_4, fd_3_5, fd_3_6, fd_3_7, fd_3_8, fd_3_9, ln_4, ln_5, ln_6, ln_7, ln_8, ln_9, ln_10, kd_11, fd_11_0, fd_11_1, fd_11_2, fd_11_3, fd_11_4, kd_12, fd_12_0, fd_12_1, fd_12_2, fd_12_3, ln_13, ln_14, ln_15, kd_16, fd_16_0, fd_16_1, fd_16_2, ln_17, kd_18, fd_18_0, fd_18_1, kd_19, fd_19_0, fd_19_1, fd_19_2, fd_19_3, fd_19_4, fd_19_5, fd_19_6, fd_19_7, fd_19_8, fd_19_9, fd_19_10, fd_19_11, fd_19_12, fd_19_13, fd_19_14, fd_19_15, fd_19_16, fd_19_17, fd_19_18, fd_19_19, fd_19_20, ln_20, ln_21, ln_22, ln_23, ln_24, ln_25, ln_26, ln_27, ln_28, ln_29, ln_30, ln_31, ln_32, List.getElem?_cons_zero, List.getElem?_cons_succ, List.set_cons_zero, List.set_cons_succ, true_and, and_true, ↓reduceIte, Int32.reduceLT, Int32.reduceLE, li_10, or_true, true_or, e1]
      rw [if_pos c] at h; exact h
    · have e1 : M 16 2 < 500 := by rw [h3]; exact nI_lt (b := 500) (by omega) (by decide)
      have es : M 16 1 + M 16 2 = nI (wf M + ww M) := by rw [h1, h3]; exact nI_add _ _
      rw [if_neg c] at h
      unfold wix at h
      by_cases c2 : wf M + ww M < 500
      · rw [if_pos c2] at h
        have e2 : M 16 1 + M 16 2 < 500 := by rw [es]; exact nI_lt (b := 500) c2 (by decide)
        have e3 : ¬ M 16 1 + M 16 2 < 0 := by rw [es]; exact nI_pos (by omega)
        have e4 : vp_in (M 16 1 + M 16 2) 500 := by rw [es]; exact vp_in_nI c2 (by decide)
        refine am_entry hG (by decide +kernel) (Nat.le_of_ble_eq_true rfl) ?_
        refine am_go (cuts := k_Waiting_append) tb_Waiting_append 400 _ _ _ _ ?_
        change am_run _ _ _ _ _ _ [some (.ref 16), some (.int b), none] [] _
        simp only [r_Waiting_append_0, r_Waiting_append_1, r_Waiting_append_4, r_Waiting_append_7, r_Waiting_append_10, r_Waiting_append_11, r_Waiting_append_12, r_Waiting_append_15, r_Waiting_append_16, r_Waiting_append_19, r_Waiting_append_20, r_Waiting_append_23, r_Waiting_append_26, r_Waiting_append_27, r_Waiting_append_30, r_Waiting_append_31, r_Waiting_append_34, r_Waiting_append_35, r_Waiting_append_38, r_Waiting_append_39, r_Waiting_append_42, r_Waiting_append_43, r_Waiting_append_46, r_Waiting_append_47, r_Waiting_append_50, r_Waiting_append_51, r_Waiting_append_52, r_Waiting_append_53, r_Waiting_append_56, r_Waiting_append_57, r_Waiting_append_60, r_Waiting_append_63, r_Waiting_append_64, r_Waiting_append_67, r_Waiting_append_68, r_Waiting_append_69, r_Waiting_append_70, r_Waiting_append_71, r_Waiting_append_72, r_Waiting_append_75, r_Waiting_append_76, r_Waiting_append_77, r_Waiting_append_80, ai_aload, ai_getf, ai_const, ai_cmplt, ai_vret, ai_iadd, ai_bin, ai_cmpge, ai_goto, ai_isub, ai_istore, am_cut_0, am_cut_s, am_c1, ai_iload, ai_iflt, ai_iast, ai_dup, ai_putf, kd_0, fd_0_0, fd_0_1, fd_0_2, fd_0_3, fd_0_4, kd_1, fd_1_0, fd_1_1, ln_2, kd_3, fd_3_0, fd_3_1, fd_3_2, fd_3_3, fd_3_4, fd_3_5, fd_3_6, fd_3_7, fd_3_8, fd_3_9, ln_4, ln_5, ln_6, ln_7, ln_8, ln_9, ln_10, kd_11, fd_11_0, fd_11_1, fd_11_2, fd_11_3, fd_11_4, kd_12, fd_12_0, fd_12_1, fd_12_2, fd_12_3, ln_13, ln_14, ln_15, kd_16, fd_16_0, fd_16_1, fd_16_2, ln_17, kd_18, fd_18_0, fd_18_1, kd_19, fd_19_0, fd_19_1, fd_19_2, fd_19_3, fd_19_4, fd_19_5, fd_19_6, fd_19_7, fd_19_8, fd_19_9, fd_19_10, fd_19_11, fd_19_12, fd_19_13, fd_19_14, fd_19_15, fd_19_16, fd_19_17, fd_19_18, fd_19_19, fd_19_20, ln_20, ln_21, ln_22, ln_23, ln_24, ln_25, ln_26, ln_27, ln_28, ln_29, ln_30, ln_31, ln_32, List.getElem?_cons_zero, List.getElem?_cons_succ, List.set_cons_zero, List.set_cons_succ, true_and, and_true, ↓reduceIte, Int32.reduceLT, Int32.reduceLE, li_10, or_true, true_or, e1, e2, e3, e4, am_up_ap, Nat.reduceEqDiff]
        rw [es, show (nI (wf M + ww M)).toNatClampNeg = wf M + ww M from nI_clamp (by omega), h3, nI_1]
        exact h
      · rw [if_neg c2] at h
        have e2 : ¬ M 16 1 + M 16 2 < 500 := by rw [es]; exact nI_nlt (b := 500) (a := wf M + ww M) (by omega) (by omega)
        have es2 : M 16 1 + M 16 2 - 500 = nI (wf M + ww M - 500) := by rw [es]; exact pk_sub (b := 500) (by omega)
        have e3 : ¬ M 16 1 + M 16 2 - 500 < 0 := by rw [es2]; exact nI_pos (by omega)
        have e5 : M 16 1 + M 16 2 - 500 < 500 := by rw [es2]; exact nI_lt (b := 500) (by omega) (by decide)
        have e4 : vp_in (M 16 1 + M 16 2 - 500) 500 := by rw [es2]; exact vp_in_nI (by omega) (by decide)
        refine am_entry hG (by decide +kernel) (Nat.le_of_ble_eq_true rfl) ?_
        refine am_go (cuts := k_Waiting_append) tb_Waiting_append 400 _ _ _ _ ?_
        change am_run _ _ _ _ _ _ [some (.ref 16), some (.int b), none] [] _
        simp only [r_Waiting_append_0, r_Waiting_append_1, r_Waiting_append_4, r_Waiting_append_7, r_Waiting_append_10, r_Waiting_append_11, r_Waiting_append_12, r_Waiting_append_15, r_Waiting_append_16, r_Waiting_append_19, r_Waiting_append_20, r_Waiting_append_23, r_Waiting_append_26, r_Waiting_append_27, r_Waiting_append_30, r_Waiting_append_31, r_Waiting_append_34, r_Waiting_append_35, r_Waiting_append_38, r_Waiting_append_39, r_Waiting_append_42, r_Waiting_append_43, r_Waiting_append_46, r_Waiting_append_47, r_Waiting_append_50, r_Waiting_append_51, r_Waiting_append_52, r_Waiting_append_53, r_Waiting_append_56, r_Waiting_append_57, r_Waiting_append_60, r_Waiting_append_63, r_Waiting_append_64, r_Waiting_append_67, r_Waiting_append_68, r_Waiting_append_69, r_Waiting_append_70, r_Waiting_append_71, r_Waiting_append_72, r_Waiting_append_75, r_Waiting_append_76, r_Waiting_append_77, r_Waiting_append_80, ai_aload, ai_getf, ai_const, ai_cmplt, ai_vret, ai_iadd, ai_bin, ai_cmpge, ai_goto, ai_isub, ai_istore, am_cut_0, am_cut_s, am_c1, ai_iload, ai_iflt, ai_iast, ai_dup, ai_putf, kd_0, fd_0_0, fd_0_1, fd_0_2, fd_0_3, fd_0_4, kd_1, fd_1_0, fd_1_1, ln_2, kd_3, fd_3_0, fd_3_1, fd_3_2, fd_3_3, fd_3_4, fd_3_5, fd_3_6, fd_3_7, fd_3_8, fd_3_9, ln_4, ln_5, ln_6, ln_7, ln_8, ln_9, ln_10, kd_11, fd_11_0, fd_11_1, fd_11_2, fd_11_3, fd_11_4, kd_12, fd_12_0, fd_12_1, fd_12_2, fd_12_3, ln_13, ln_14, ln_15, kd_16, fd_16_0, fd_16_1, fd_16_2, ln_17, kd_18, fd_18_0, fd_18_1, kd_19, fd_19_0, fd_19_1, fd_19_2, fd_19_3, fd_19_4, fd_19_5, fd_19_6, fd_19_7, fd_19_8, fd_19_9, fd_19_10, fd_19_11, fd_19_12, fd_19_13, fd_19_14, fd_19_15, fd_19_16, fd_19_17, fd_19_18, fd_19_19, fd_19_20, ln_20, ln_21, ln_22, ln_23, ln_24, ln_25, ln_26, ln_27, ln_28, ln_29, ln_30, ln_31, ln_32, List.getElem?_cons_zero, List.getElem?_cons_succ, List.set_cons_zero, List.set_cons_succ, true_and, and_true, ↓reduceIte, Int32.reduceLT, Int32.reduceLE, li_10, or_true, true_or, e1, e2, e3, e4, e5, am_up_ap, Nat.reduceEqDiff]
        rw [es2, show (nI (wf M + ww M - 500)).toNatClampNeg = wf M + ww M - 500 from nI_clamp (by omega), h3, nI_1]
        exact h
  · cases h
def takM (M : aM) : aM := am_up (am_up M 16 1 (nI (if wf M + 1 < 500 then wf M + 1 else 0))) 16 2 (nI (ww M - 1))
def sp_Waiting_take : aS := fun as M K => match as with
  | [.ref a] => a = 16 ∧ (wt_ok M ∧ 0 < ww M) ∧ K (some (.int (M 17 (wf M)))) (takM M)
  | _ => False
set_option maxRecDepth 100000 in
set_option maxHeartbeats 4000000 in
theorem ok_Waiting_take {G : aG} (hG : am_ok G) : am_Sp G Y_Waiting_take 0 sp_Waiting_take := by
  intro as M K h
  unfold sp_Waiting_take at h
  split at h
  · next a =>
    obtain ⟨rfl, ⟨⟨h1, h2, h3, h4⟩, h5⟩, h⟩ := h
    unfold takM at h
    have e1 : ¬ M 16 2 ≤ 0 := by rw [h3]; exact nI_nle h5 (by omega)
    have e2 : ¬ M 16 1 < 0 := by rw [h1]; exact nI_pos (by omega)
    have e3 : M 16 1 < 500 := by rw [h1]; exact nI_lt (b := 500) h2 (by decide)
    have e4 : vp_in (M 16 1) 500 := by rw [h1]; exact vp_in_nI h2 (by decide)
    have ec : (M 16 1).toNatClampNeg = wf M := rfl
    have e6 : M 16 2 - 1 = nI (ww M - 1) := by rw [h3]; exact pk_sub (b := 1) (by omega)
    by_cases c : wf M + 1 < 500
    · rw [if_pos c] at h
      have e5 : M 16 1 + 1 < 500 := by rw [h1, nI_1]; exact nI_lt (b := 500) c (by decide)
      refine am_entry hG (by decide +kernel) (Nat.le_of_ble_eq_true rfl) ?_
      refine am_go (cuts := k_Waiting_take) tb_Waiting_take 400 _ _ _ _ ?_
      change am_run _ _ _ _ _ _ [some (.ref 16), none] [] _
      simp only [r_Waiting_take_0, r_Waiting_take_1, r_Waiting_take_4, r_Waiting_take_7, r_Waiting_take_8, r_Waiting_take_11, r_Waiting_take_14, r_Waiting_take_15, r_Waiting_take_18, r_Waiting_take_21, r_Waiting_take_24, r_Waiting_take_25, r_Waiting_take_26, r_Waiting_take_27, r_Waiting_take_30, r_Waiting_take_31, r_Waiting_take_34, r_Waiting_take_35, r_Waiting_take_36, r_Waiting_take_37, r_Waiting_take_38, r_Waiting_take_41, r_Waiting_take_42, r_Waiting_take_43, r_Waiting_take_46, r_Waiting_take_49, r_Waiting_take_50, r_Waiting_take_53, r_Waiting_take_54, r_Waiting_take_55, r_Waiting_take_58, r_Waiting_take_59, r_Waiting_take_62, r_Waiting_take_63, r_Waiting_take_64, r_Waiting_take_67, r_Waiting_take_68, r_Waiting_take_69, r_Waiting_take_72, r_Waiting_take_73, ai_aload, ai_getf, ai_ifle, ai_iflt, ai_const, ai_cmplt, ai_iret, ai_iald, ai_istore, am_cut_0, am_cut_s, am_c1, ai_iadd, ai_bin, ai_cmpge, ai_goto, ai_putf, ai_dup, ai_isub, ai_iload, kd_0, fd_0_0, fd_0_1, fd_0_2, fd_0_3, fd_0_4, kd_1, fd_1_0, fd_1_1, ln_2, kd_3, fd_3_0, fd_3_1, fd_3_2, fd_3_3, fd_3_4, fd_3_5, fd_3_6, fd_3_7, fd_3_8, fd_3_9, ln_4, ln_5, ln_6, ln_7, ln_8, ln_9, ln_10, kd_11, fd_11_0, fd_11_1, fd_11_2, fd_11_3, fd_11_4, kd_12, fd_12_0, fd_12_1, fd_12_2, fd_12_3, ln_13, ln_14, ln_15, kd_16, fd_16_0, fd_16_1, fd_16_2, ln_17, kd_18, fd_18_0, fd_18_1, kd_19, fd_19_0, fd_19_1, fd_19_2, fd_19_3, fd_19_4, fd_19_5, fd_19_6, fd_19_7, fd_19_8, fd_19_9, fd_19_10, fd_19_11, fd_19_12, fd_19_13, fd_19_14, fd_19_15, fd_19_16, fd_19_17, fd_19_18, fd_19_19, fd_19_20, ln_20, ln_21, ln_22, ln_23, ln_24, ln_25, ln_26, ln_27, ln_28, ln_29, ln_30, ln_31, ln_32, List.getElem?_cons_zero, List.getElem?_cons_succ, List.set_cons_zero, List.set_cons_succ, true_and, and_true, ↓reduceIte, Int32.reduceLT, Int32.reduceLE, li_10, or_true, true_or, e1, e2, e3, e4, e5, am_up_ap, Nat.reduceEqDiff]
      rw [ec, e6, h1, nI_1]
      exact h
    · rw [if_neg c] at h
      have e5 : ¬ M 16 1 + 1 < 500 := by rw [h1, nI_1]; exact nI_nlt (b := 500) (a := wf M + 1) (by omega) (by omega)
      refine am_entry hG (by decide +kernel) (Nat.le_of_ble_eq_true rfl) ?_
      refine am_go (cuts := k_Waiting_take) tb_Waiting_take 400 _ _ _ _ ?_
      change am_run _ _ _ _ _ _ [some (.ref 16), none] [] _
      simp only [r_Waiting_take_0, r_Waiting_take_1, r_Waiting_take_4, r_Waiting_take_7, r_Waiting_take_8, r_Waiting_take_11, r_Waiting_take_14, r_Waiting_take_15, r_Waiting_take_18, r_Waiting_take_21, r_Waiting_take_24, r_Waiting_take_25, r_Waiting_take_26, r_Waiting_take_27, r_Waiting_take_30, r_Waiting_take_31, r_Waiting_take_34, r_Waiting_take_35, r_Waiting_take_36, r_Waiting_take_37, r_Waiting_take_38, r_Waiting_take_41, r_Waiting_take_42, r_Waiting_take_43, r_Waiting_take_46, r_Waiting_take_49, r_Waiting_take_50, r_Waiting_take_53, r_Waiting_take_54, r_Waiting_take_55, r_Waiting_take_58, r_Waiting_take_59, r_Waiting_take_62, r_Waiting_take_63, r_Waiting_take_64, r_Waiting_take_67, r_Waiting_take_68, r_Waiting_take_69, r_Waiting_take_72, r_Waiting_take_73, ai_aload, ai_getf, ai_ifle, ai_iflt, ai_const, ai_cmplt, ai_iret, ai_iald, ai_istore, am_cut_0, am_cut_s, am_c1, ai_iadd, ai_bin, ai_cmpge, ai_goto, ai_putf, ai_dup, ai_isub, ai_iload, kd_0, fd_0_0, fd_0_1, fd_0_2, fd_0_3, fd_0_4, kd_1, fd_1_0, fd_1_1, ln_2, kd_3, fd_3_0, fd_3_1, fd_3_2, fd_3_3, fd_3_4, fd_3_5, fd_3_6, fd_3_7, fd_3_8, fd_3_9, ln_4, ln_5, ln_6, ln_7, ln_8, ln_9, ln_10, kd_11, fd_11_0, fd_11_1, fd_11_2, fd_11_3, fd_11_4, kd_12, fd_12_0, fd_12_1, fd_12_2, fd_12_3, ln_13, ln_14, ln_15, kd_16, fd_16_0, fd_16_1, fd_16_2, ln_17, kd_18, fd_18_0, fd_18_1, kd_19, fd_19_0, fd_19_1, fd_19_2, fd_19_3, fd_19_4, fd_19_5, fd_19_6, fd_19_7, fd_19_8, fd_19_9, fd_19_10, fd_19_11, fd_19_12, fd_19_13, fd_19_14, fd_19_15, fd_19_16, fd_19_17, fd_19_18, fd_19_19, fd_19_20, ln_20, ln_21, ln_22, ln_23, ln_24, ln_25, ln_26, ln_27, ln_28, ln_29, ln_30, ln_31, ln_32, List.getElem?_cons_zero, List.getElem?_cons_succ, List.set_cons_zero, List.set_cons_succ, true_and, and_true, ↓reduceIte, Int32.reduceLT, Int32.reduceLE, li_10, or_true, true_or, e1, e2, e3, e4, e5, am_up_ap, Nat.reduceEqDiff]
      rw [ec, e6]
      exact h
  · cases h
end
