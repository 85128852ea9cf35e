/-! printed by wip/gen/gen.py: the methods, the words -/
set_option maxRecDepth 20000 in
theorem w_0 : (Jvm.Cond.selects "DatumDesk$Text" ({ cls := "DatumDesk$Text", name := "append", desc := "(I)V" } : Jvm.MethodName) ({ cls := "DatumDesk$Text", name := "append", desc := "(I)V" } : Jvm.MethodName)) ∈ TB := tb_of 0 rfl rfl
set_option maxRecDepth 20000 in
theorem w_1 : (Jvm.Cond.selects "DatumDesk$Reader" ({ cls := "DatumDesk$Reader", name := "readText", desc := "()V" } : Jvm.MethodName) ({ cls := "DatumDesk$Reader", name := "readText", desc := "()V" } : Jvm.MethodName)) ∈ TB := tb_of 1 rfl rfl
set_option maxRecDepth 20000 in
theorem w_2 : (Jvm.Cond.selects "DatumDesk$Nodes" ({ cls := "DatumDesk$Nodes", name := "clear", desc := "()V" } : Jvm.MethodName) ({ cls := "DatumDesk$Nodes", name := "clear", desc := "()V" } : Jvm.MethodName)) ∈ TB := tb_of 2 rfl rfl
set_option maxRecDepth 20000 in
theorem w_3 : (Jvm.Cond.selects "DatumDesk$Tokens" ({ cls := "DatumDesk$Tokens", name := "scan", desc := "(LDatumDesk$Text;)V" } : Jvm.MethodName) ({ cls := "DatumDesk$Tokens", name := "scan", desc := "(LDatumDesk$Text;)V" } : Jvm.MethodName)) ∈ TB := tb_of 3 rfl rfl
set_option maxRecDepth 20000 in
theorem w_4 : (Jvm.Cond.selects "DatumDesk$Text" ({ cls := "DatumDesk$Text", name := "skipBlanks", desc := "(I)I" } : Jvm.MethodName) ({ cls := "DatumDesk$Text", name := "skipBlanks", desc := "(I)I" } : Jvm.MethodName)) ∈ TB := tb_of 4 rfl rfl
set_option maxRecDepth 20000 in
theorem w_5 : (Jvm.Cond.selects "DatumDesk$Text" ({ cls := "DatumDesk$Text", name := "at", desc := "(I)I" } : Jvm.MethodName) ({ cls := "DatumDesk$Text", name := "at", desc := "(I)I" } : Jvm.MethodName)) ∈ TB := tb_of 5 rfl rfl
set_option maxRecDepth 20000 in
theorem w_6 : (Jvm.Cond.selects "DatumDesk$Text" ({ cls := "DatumDesk$Text", name := "sortAt", desc := "(I)I" } : Jvm.MethodName) ({ cls := "DatumDesk$Text", name := "sortAt", desc := "(I)I" } : Jvm.MethodName)) ∈ TB := tb_of 6 rfl rfl
set_option maxRecDepth 20000 in
theorem w_7 : (Jvm.Cond.selects "DatumDesk$Text" ({ cls := "DatumDesk$Text", name := "tokenEnd", desc := "(II)I" } : Jvm.MethodName) ({ cls := "DatumDesk$Text", name := "tokenEnd", desc := "(II)I" } : Jvm.MethodName)) ∈ TB := tb_of 7 rfl rfl
set_option maxRecDepth 20000 in
theorem w_8 : (Jvm.Cond.selects "DatumDesk$Text" ({ cls := "DatumDesk$Text", name := "numberEnd", desc := "(I)I" } : Jvm.MethodName) ({ cls := "DatumDesk$Text", name := "numberEnd", desc := "(I)I" } : Jvm.MethodName)) ∈ TB := tb_of 8 rfl rfl
set_option maxRecDepth 20000 in
theorem w_9 : (Jvm.Cond.selects "DatumDesk$Text" ({ cls := "DatumDesk$Text", name := "wordEnd", desc := "(I)I" } : Jvm.MethodName) ({ cls := "DatumDesk$Text", name := "wordEnd", desc := "(I)I" } : Jvm.MethodName)) ∈ TB := tb_of 9 rfl rfl
set_option maxRecDepth 20000 in
theorem w_10 : (Jvm.Cond.selects "DatumDesk$Text" ({ cls := "DatumDesk$Text", name := "nameEnd", desc := "(I)I" } : Jvm.MethodName) ({ cls := "DatumDesk$Text", name := "nameEnd", desc := "(I)I" } : Jvm.MethodName)) ∈ TB := tb_of 10 rfl rfl
set_option maxRecDepth 20000 in
theorem w_11 : (Jvm.Cond.selects "DatumDesk$Text" ({ cls := "DatumDesk$Text", name := "stringEnd", desc := "(I)I" } : Jvm.MethodName) ({ cls := "DatumDesk$Text", name := "stringEnd", desc := "(I)I" } : Jvm.MethodName)) ∈ TB := tb_of 11 rfl rfl
set_option maxRecDepth 20000 in
theorem w_12 : (Jvm.Cond.selects "DatumDesk$Tokens" ({ cls := "DatumDesk$Tokens", name := "sortOf", desc := "(I)I" } : Jvm.MethodName) ({ cls := "DatumDesk$Tokens", name := "sortOf", desc := "(I)I" } : Jvm.MethodName)) ∈ TB := tb_of 12 rfl rfl
set_option maxRecDepth 20000 in
theorem w_13 : (Jvm.Cond.selects "DatumDesk$Reader" ({ cls := "DatumDesk$Reader", name := "readDatum", desc := "(I)I" } : Jvm.MethodName) ({ cls := "DatumDesk$Reader", name := "readDatum", desc := "(I)I" } : Jvm.MethodName)) ∈ TB := tb_of 13 rfl rfl
set_option maxRecDepth 20000 in
theorem w_14 : (Jvm.Cond.selects "DatumDesk$Reader" ({ cls := "DatumDesk$Reader", name := "readNumber", desc := "()I" } : Jvm.MethodName) ({ cls := "DatumDesk$Reader", name := "readNumber", desc := "()I" } : Jvm.MethodName)) ∈ TB := tb_of 14 rfl rfl
set_option maxRecDepth 20000 in
theorem w_15 : (Jvm.Cond.selects "DatumDesk$Tokens" ({ cls := "DatumDesk$Tokens", name := "endOf", desc := "(I)I" } : Jvm.MethodName) ({ cls := "DatumDesk$Tokens", name := "endOf", desc := "(I)I" } : Jvm.MethodName)) ∈ TB := tb_of 15 rfl rfl
set_option maxRecDepth 20000 in
theorem w_16 : (Jvm.Cond.selects "DatumDesk$Tokens" ({ cls := "DatumDesk$Tokens", name := "startOf", desc := "(I)I" } : Jvm.MethodName) ({ cls := "DatumDesk$Tokens", name := "startOf", desc := "(I)I" } : Jvm.MethodName)) ∈ TB := tb_of 16 rfl rfl
set_option maxRecDepth 20000 in
theorem w_17 : (Jvm.Cond.selects "DatumDesk$Reader" ({ cls := "DatumDesk$Reader", name := "add", desc := "(I)I" } : Jvm.MethodName) ({ cls := "DatumDesk$Reader", name := "add", desc := "(I)I" } : Jvm.MethodName)) ∈ TB := tb_of 17 rfl rfl
set_option maxRecDepth 20000 in
theorem w_18 : (Jvm.Cond.selects "DatumDesk$Nodes" ({ cls := "DatumDesk$Nodes", name := "add", desc := "(I)I" } : Jvm.MethodName) ({ cls := "DatumDesk$Nodes", name := "add", desc := "(I)I" } : Jvm.MethodName)) ∈ TB := tb_of 18 rfl rfl
set_option maxRecDepth 20000 in
theorem w_19 : (Jvm.Cond.selects "DatumDesk$Reader" ({ cls := "DatumDesk$Reader", name := "fault", desc := "()I" } : Jvm.MethodName) ({ cls := "DatumDesk$Reader", name := "fault", desc := "()I" } : Jvm.MethodName)) ∈ TB := tb_of 19 rfl rfl
set_option maxRecDepth 20000 in
theorem w_20 : (Jvm.Cond.selects "DatumDesk$Nodes" ({ cls := "DatumDesk$Nodes", name := "setAmount", desc := "(II)V" } : Jvm.MethodName) ({ cls := "DatumDesk$Nodes", name := "setAmount", desc := "(II)V" } : Jvm.MethodName)) ∈ TB := tb_of 20 rfl rfl
set_option maxRecDepth 20000 in
theorem w_21 : (Jvm.Cond.selects "DatumDesk$Nodes" ({ cls := "DatumDesk$Nodes", name := "has", desc := "(I)Z" } : Jvm.MethodName) ({ cls := "DatumDesk$Nodes", name := "has", desc := "(I)Z" } : Jvm.MethodName)) ∈ TB := tb_of 21 rfl rfl
set_option maxRecDepth 20000 in
theorem w_22 : (Jvm.Cond.selects "DatumDesk$Reader" ({ cls := "DatumDesk$Reader", name := "readName", desc := "()I" } : Jvm.MethodName) ({ cls := "DatumDesk$Reader", name := "readName", desc := "()I" } : Jvm.MethodName)) ∈ TB := tb_of 22 rfl rfl
set_option maxRecDepth 20000 in
theorem w_23 : (Jvm.Cond.selects "DatumDesk$Nodes" ({ cls := "DatumDesk$Nodes", name := "addLetter", desc := "(II)V" } : Jvm.MethodName) ({ cls := "DatumDesk$Nodes", name := "addLetter", desc := "(II)V" } : Jvm.MethodName)) ∈ TB := tb_of 23 rfl rfl
set_option maxRecDepth 20000 in
theorem w_24 : (Jvm.Cond.selects "DatumDesk$Reader" ({ cls := "DatumDesk$Reader", name := "readString", desc := "()I" } : Jvm.MethodName) ({ cls := "DatumDesk$Reader", name := "readString", desc := "()I" } : Jvm.MethodName)) ∈ TB := tb_of 24 rfl rfl
set_option maxRecDepth 20000 in
theorem w_25 : (Jvm.Cond.selects "DatumDesk$Reader" ({ cls := "DatumDesk$Reader", name := "readQuoted", desc := "(I)I" } : Jvm.MethodName) ({ cls := "DatumDesk$Reader", name := "readQuoted", desc := "(I)I" } : Jvm.MethodName)) ∈ TB := tb_of 25 rfl rfl
set_option maxRecDepth 20000 in
theorem w_26 : (Jvm.Cond.selects "DatumDesk$Nodes" ({ cls := "DatumDesk$Nodes", name := "nameQuote", desc := "(I)V" } : Jvm.MethodName) ({ cls := "DatumDesk$Nodes", name := "nameQuote", desc := "(I)V" } : Jvm.MethodName)) ∈ TB := tb_of 26 rfl rfl
set_option maxRecDepth 20000 in
theorem w_27 : (Jvm.Cond.selects "DatumDesk$Nodes" ({ cls := "DatumDesk$Nodes", name := "setHead", desc := "(II)V" } : Jvm.MethodName) ({ cls := "DatumDesk$Nodes", name := "setHead", desc := "(II)V" } : Jvm.MethodName)) ∈ TB := tb_of 27 rfl rfl
set_option maxRecDepth 20000 in
theorem w_28 : (Jvm.Cond.selects "DatumDesk$Nodes" ({ cls := "DatumDesk$Nodes", name := "setTail", desc := "(II)V" } : Jvm.MethodName) ({ cls := "DatumDesk$Nodes", name := "setTail", desc := "(II)V" } : Jvm.MethodName)) ∈ TB := tb_of 28 rfl rfl
set_option maxRecDepth 20000 in
theorem w_29 : (Jvm.Cond.selects "DatumDesk$Reader" ({ cls := "DatumDesk$Reader", name := "readList", desc := "(I)I" } : Jvm.MethodName) ({ cls := "DatumDesk$Reader", name := "readList", desc := "(I)I" } : Jvm.MethodName)) ∈ TB := tb_of 29 rfl rfl
set_option maxRecDepth 20000 in
theorem w_30 : (Jvm.Cond.selects "DatumDesk$Reader" ({ cls := "DatumDesk$Reader", name := "readDotted", desc := "(I)I" } : Jvm.MethodName) ({ cls := "DatumDesk$Reader", name := "readDotted", desc := "(I)I" } : Jvm.MethodName)) ∈ TB := tb_of 30 rfl rfl
set_option maxRecDepth 20000 in
theorem w_31 : (Jvm.Cond.selects "DatumDesk$Nodes" ({ cls := "DatumDesk$Nodes", name := "addDatum", desc := "(I)V" } : Jvm.MethodName) ({ cls := "DatumDesk$Nodes", name := "addDatum", desc := "(I)V" } : Jvm.MethodName)) ∈ TB := tb_of 31 rfl rfl
set_option maxRecDepth 20000 in
theorem w_32 : (Jvm.Cond.selects "DatumDesk$Nodes" ({ cls := "DatumDesk$Nodes", name := "datumNode", desc := "(I)I" } : Jvm.MethodName) ({ cls := "DatumDesk$Nodes", name := "datumNode", desc := "(I)I" } : Jvm.MethodName)) ∈ TB := tb_of 32 rfl rfl
set_option maxRecDepth 20000 in
theorem w_33 : (Jvm.Cond.selects "DatumDesk$Nodes" ({ cls := "DatumDesk$Nodes", name := "kindOf", desc := "(I)I" } : Jvm.MethodName) ({ cls := "DatumDesk$Nodes", name := "kindOf", desc := "(I)I" } : Jvm.MethodName)) ∈ TB := tb_of 33 rfl rfl
set_option maxRecDepth 20000 in
theorem w_34 : (Jvm.Cond.selects "DatumDesk$Nodes" ({ cls := "DatumDesk$Nodes", name := "amountOf", desc := "(I)I" } : Jvm.MethodName) ({ cls := "DatumDesk$Nodes", name := "amountOf", desc := "(I)I" } : Jvm.MethodName)) ∈ TB := tb_of 34 rfl rfl
set_option maxRecDepth 20000 in
theorem w_35 : (Jvm.Cond.selects "DatumDesk$Nodes" ({ cls := "DatumDesk$Nodes", name := "byteOf", desc := "(II)I" } : Jvm.MethodName) ({ cls := "DatumDesk$Nodes", name := "byteOf", desc := "(II)I" } : Jvm.MethodName)) ∈ TB := tb_of 35 rfl rfl
set_option maxRecDepth 20000 in
theorem w_36 : (Jvm.Cond.selects "DatumDesk$Nodes" ({ cls := "DatumDesk$Nodes", name := "isOf", desc := "(II)Z" } : Jvm.MethodName) ({ cls := "DatumDesk$Nodes", name := "isOf", desc := "(II)Z" } : Jvm.MethodName)) ∈ TB := tb_of 36 rfl rfl
set_option maxRecDepth 20000 in
theorem w_37 : (Jvm.Cond.selects "DatumDesk$Nodes" ({ cls := "DatumDesk$Nodes", name := "headOf", desc := "(I)I" } : Jvm.MethodName) ({ cls := "DatumDesk$Nodes", name := "headOf", desc := "(I)I" } : Jvm.MethodName)) ∈ TB := tb_of 37 rfl rfl
set_option maxRecDepth 20000 in
theorem w_38 : (Jvm.Cond.selects "DatumDesk$Nodes" ({ cls := "DatumDesk$Nodes", name := "tailOf", desc := "(I)I" } : Jvm.MethodName) ({ cls := "DatumDesk$Nodes", name := "tailOf", desc := "(I)I" } : Jvm.MethodName)) ∈ TB := tb_of 38 rfl rfl
set_option maxRecDepth 20000 in
theorem w_39 : (Jvm.Cond.selects "DatumDesk$Nodes" ({ cls := "DatumDesk$Nodes", name := "alike", desc := "(III)Z" } : Jvm.MethodName) ({ cls := "DatumDesk$Nodes", name := "alike", desc := "(III)Z" } : Jvm.MethodName)) ∈ TB := tb_of 39 rfl rfl
set_option maxRecDepth 20000 in
theorem w_40 : (Jvm.Cond.selects "DatumDesk$Nodes" ({ cls := "DatumDesk$Nodes", name := "sameContent", desc := "(II)Z" } : Jvm.MethodName) ({ cls := "DatumDesk$Nodes", name := "sameContent", desc := "(II)Z" } : Jvm.MethodName)) ∈ TB := tb_of 40 rfl rfl
set_option maxRecDepth 20000 in
theorem w_41 : (Jvm.Cond.selects "DatumDesk$Writer" ({ cls := "DatumDesk$Writer", name := "writeNode", desc := "(II)V" } : Jvm.MethodName) ({ cls := "DatumDesk$Writer", name := "writeNode", desc := "(II)V" } : Jvm.MethodName)) ∈ TB := tb_of 41 rfl rfl
set_option maxRecDepth 20000 in
theorem w_42 : (Jvm.Cond.selects "DatumDesk$Writer" ({ cls := "DatumDesk$Writer", name := "writeNumber", desc := "(I)V" } : Jvm.MethodName) ({ cls := "DatumDesk$Writer", name := "writeNumber", desc := "(I)V" } : Jvm.MethodName)) ∈ TB := tb_of 42 rfl rfl
set_option maxRecDepth 20000 in
theorem w_43 : (Jvm.Cond.selects "DatumDesk$Waiting" ({ cls := "DatumDesk$Waiting", name := "append", desc := "(I)V" } : Jvm.MethodName) ({ cls := "DatumDesk$Waiting", name := "append", desc := "(I)V" } : Jvm.MethodName)) ∈ TB := tb_of 43 rfl rfl
set_option maxRecDepth 20000 in
theorem w_44 : (Jvm.Cond.selects "DatumDesk$Writer" ({ cls := "DatumDesk$Writer", name := "writeName", desc := "(I)V" } : Jvm.MethodName) ({ cls := "DatumDesk$Writer", name := "writeName", desc := "(I)V" } : Jvm.MethodName)) ∈ TB := tb_of 44 rfl rfl
set_option maxRecDepth 20000 in
theorem w_45 : (Jvm.Cond.selects "DatumDesk$Writer" ({ cls := "DatumDesk$Writer", name := "writeString", desc := "(I)V" } : Jvm.MethodName) ({ cls := "DatumDesk$Writer", name := "writeString", desc := "(I)V" } : Jvm.MethodName)) ∈ TB := tb_of 45 rfl rfl
set_option maxRecDepth 20000 in
theorem w_46 : (Jvm.Cond.selects "DatumDesk$Writer" ({ cls := "DatumDesk$Writer", name := "writePair", desc := "(II)V" } : Jvm.MethodName) ({ cls := "DatumDesk$Writer", name := "writePair", desc := "(II)V" } : Jvm.MethodName)) ∈ TB := tb_of 46 rfl rfl
set_option maxRecDepth 20000 in
theorem w_47 : (Jvm.Cond.selects "DatumDesk$Nodes" ({ cls := "DatumDesk$Nodes", name := "quotedIn", desc := "(I)I" } : Jvm.MethodName) ({ cls := "DatumDesk$Nodes", name := "quotedIn", desc := "(I)I" } : Jvm.MethodName)) ∈ TB := tb_of 47 rfl rfl
set_option maxRecDepth 20000 in
theorem w_48 : (Jvm.Cond.selects "DatumDesk$Nodes" ({ cls := "DatumDesk$Nodes", name := "isQuoteName", desc := "(I)Z" } : Jvm.MethodName) ({ cls := "DatumDesk$Nodes", name := "isQuoteName", desc := "(I)Z" } : Jvm.MethodName)) ∈ TB := tb_of 48 rfl rfl
set_option maxRecDepth 20000 in
theorem w_49 : (Jvm.Cond.selects "DatumDesk$Waiting" ({ cls := "DatumDesk$Waiting", name := "take", desc := "()I" } : Jvm.MethodName) ({ cls := "DatumDesk$Waiting", name := "take", desc := "()I" } : Jvm.MethodName)) ∈ TB := tb_of 49 rfl rfl
set_option maxRecDepth 20000 in
theorem w_50 : (Jvm.Cond.selects "DatumDeskModel" ({ cls := "DatumDeskModel", name := "token", desc := "()I" } : Jvm.MethodName) ({ cls := "DatumDeskModel", name := "token", desc := "()I" } : Jvm.MethodName)) ∈ TB := tb_of 50 rfl rfl
set_option maxRecDepth 20000 in
theorem w_51 : (Jvm.Cond.selects "DatumDeskModel" ({ cls := "DatumDeskModel", name := "skip", desc := "()V" } : Jvm.MethodName) ({ cls := "DatumDeskModel", name := "skip", desc := "()V" } : Jvm.MethodName)) ∈ TB := tb_of 51 rfl rfl
set_option maxRecDepth 20000 in
theorem w_52 : (Jvm.Cond.selects "DatumDeskModel" ({ cls := "DatumDeskModel", name := "peek", desc := "(I)I" } : Jvm.MethodName) ({ cls := "DatumDeskModel", name := "peek", desc := "(I)I" } : Jvm.MethodName)) ∈ TB := tb_of 52 rfl rfl
set_option maxRecDepth 20000 in
theorem w_53 : (Jvm.Cond.selects "DatumDeskModel" ({ cls := "DatumDeskModel", name := "string", desc := "()I" } : Jvm.MethodName) ({ cls := "DatumDeskModel", name := "string", desc := "()I" } : Jvm.MethodName)) ∈ TB := tb_of 53 rfl rfl
set_option maxRecDepth 20000 in
theorem w_54 : (Jvm.Cond.selects "DatumDeskModel" ({ cls := "DatumDeskModel", name := "fail", desc := "(I)V" } : Jvm.MethodName) ({ cls := "DatumDeskModel", name := "fail", desc := "(I)V" } : Jvm.MethodName)) ∈ TB := tb_of 54 rfl rfl
set_option maxRecDepth 20000 in
theorem w_55 : (Jvm.Cond.selects "DatumDeskModel" ({ cls := "DatumDeskModel", name := "opens", desc := "(Z)V" } : Jvm.MethodName) ({ cls := "DatumDeskModel", name := "opens", desc := "(Z)V" } : Jvm.MethodName)) ∈ TB := tb_of 55 rfl rfl
set_option maxRecDepth 20000 in
theorem w_56 : (Jvm.Cond.selects "DatumDeskModel" ({ cls := "DatumDeskModel", name := "begin", desc := "()V" } : Jvm.MethodName) ({ cls := "DatumDeskModel", name := "begin", desc := "()V" } : Jvm.MethodName)) ∈ TB := tb_of 56 rfl rfl
set_option maxRecDepth 20000 in
theorem w_57 : (Jvm.Cond.selects "DatumDeskModel" ({ cls := "DatumDeskModel", name := "node", desc := "(I)I" } : Jvm.MethodName) ({ cls := "DatumDeskModel", name := "node", desc := "(I)I" } : Jvm.MethodName)) ∈ TB := tb_of 57 rfl rfl
set_option maxRecDepth 20000 in
theorem w_58 : (Jvm.Cond.selects "DatumDeskModel" ({ cls := "DatumDeskModel", name := "letter", desc := "(II)V" } : Jvm.MethodName) ({ cls := "DatumDeskModel", name := "letter", desc := "(II)V" } : Jvm.MethodName)) ∈ TB := tb_of 58 rfl rfl
set_option maxRecDepth 20000 in
theorem w_59 : (Jvm.Cond.selects "DatumDeskModel" ({ cls := "DatumDeskModel", name := "closes", desc := "()V" } : Jvm.MethodName) ({ cls := "DatumDeskModel", name := "closes", desc := "()V" } : Jvm.MethodName)) ∈ TB := tb_of 59 rfl rfl
set_option maxRecDepth 20000 in
theorem w_60 : (Jvm.Cond.selects "DatumDeskModel" ({ cls := "DatumDeskModel", name := "end", desc := "(I)V" } : Jvm.MethodName) ({ cls := "DatumDeskModel", name := "end", desc := "(I)V" } : Jvm.MethodName)) ∈ TB := tb_of 60 rfl rfl
set_option maxRecDepth 20000 in
theorem w_61 : (Jvm.Cond.selects "DatumDeskModel" ({ cls := "DatumDeskModel", name := "atom", desc := "(I)I" } : Jvm.MethodName) ({ cls := "DatumDeskModel", name := "atom", desc := "(I)I" } : Jvm.MethodName)) ∈ TB := tb_of 61 rfl rfl
set_option maxRecDepth 20000 in
theorem w_62 : (Jvm.Cond.selects "DatumDeskModel" ({ cls := "DatumDeskModel", name := "isNode", desc := "(I)Z" } : Jvm.MethodName) ({ cls := "DatumDeskModel", name := "isNode", desc := "(I)Z" } : Jvm.MethodName)) ∈ TB := tb_of 62 rfl rfl
set_option maxRecDepth 20000 in
theorem w_63 : (Jvm.Cond.selects "DatumDeskModel" ({ cls := "DatumDeskModel", name := "same", desc := "(II)Z" } : Jvm.MethodName) ({ cls := "DatumDeskModel", name := "same", desc := "(II)Z" } : Jvm.MethodName)) ∈ TB := tb_of 63 rfl rfl
set_option maxRecDepth 20000 in
theorem w_64 : (Jvm.Cond.selects "DatumDeskModel" ({ cls := "DatumDeskModel", name := "step", desc := "(II)I" } : Jvm.MethodName) ({ cls := "DatumDeskModel", name := "step", desc := "(II)I" } : Jvm.MethodName)) ∈ TB := tb_of 64 rfl rfl
set_option maxRecDepth 20000 in
theorem w_65 : (Jvm.Cond.selects "DatumDeskModel" ({ cls := "DatumDeskModel", name := "say", desc := "(I)V" } : Jvm.MethodName) ({ cls := "DatumDeskModel", name := "say", desc := "(I)V" } : Jvm.MethodName)) ∈ TB := tb_of 65 rfl rfl
set_option maxRecDepth 20000 in
theorem w_66 : (Jvm.Cond.selects "DatumDeskModel" ({ cls := "DatumDeskModel", name := "isQuote", desc := "(I)Z" } : Jvm.MethodName) ({ cls := "DatumDeskModel", name := "isQuote", desc := "(I)Z" } : Jvm.MethodName)) ∈ TB := tb_of 66 rfl rfl
set_option maxRecDepth 20000 in
theorem w_67 : (Jvm.Cond.selects "DatumDeskModel" ({ cls := "DatumDeskModel", name := "number", desc := "(I)V" } : Jvm.MethodName) ({ cls := "DatumDeskModel", name := "number", desc := "(I)V" } : Jvm.MethodName)) ∈ TB := tb_of 67 rfl rfl
set_option maxRecDepth 20000 in
theorem w_68 : (Jvm.Cond.selects "DatumDeskModel" ({ cls := "DatumDeskModel", name := "letters", desc := "(I)V" } : Jvm.MethodName) ({ cls := "DatumDeskModel", name := "letters", desc := "(I)V" } : Jvm.MethodName)) ∈ TB := tb_of 68 rfl rfl
set_option maxRecDepth 20000 in
theorem w_71 : (Jvm.Cond.initialized "DatumDesk$Text") ∈ TB := tb_of 71 rfl rfl
set_option maxRecDepth 20000 in
theorem w_72 : (Jvm.Cond.initialized "DatumDesk$Nodes") ∈ TB := tb_of 72 rfl rfl
set_option maxRecDepth 20000 in
theorem w_74 : (Jvm.Cond.initialized "DatumDesk$Reader") ∈ TB := tb_of 74 rfl rfl
set_option maxRecDepth 20000 in
theorem w_75 : (Jvm.Cond.initialized "DatumDesk$Tokens") ∈ TB := tb_of 75 rfl rfl
set_option maxRecDepth 20000 in
theorem w_76 : (Jvm.Cond.initialized "DatumDesk$Waiting") ∈ TB := tb_of 76 rfl rfl
set_option maxRecDepth 20000 in
theorem w_77 : (Jvm.Cond.initialized "DatumDesk$Writer") ∈ TB := tb_of 77 rfl rfl
set_option maxRecDepth 20000 in
theorem w_78 : (Jvm.Cond.initialized "DatumDeskModel") ∈ TB := tb_of 78 rfl rfl
set_option maxRecDepth 20000 in
theorem w_79 : (Jvm.Cond.initialized "java/lang/String") ∈ TB := tb_of 79 rfl rfl
set_option maxRecDepth 20000 in
theorem w_83 : (Jvm.Cond.initialized "java/lang/Math") ∈ TB := tb_of 83 rfl rfl
set_option maxRecDepth 20000 in
theorem w_98 : (Jvm.Cond.fieldLink "DatumDesk$Text" (9 : Nat) "DatumDesk$Text" "bytes" "[I") ∈ TB := tb_of 98 rfl rfl
set_option maxRecDepth 20000 in
theorem w_99 : (Jvm.Cond.fieldLink "DatumDesk$Text" (15 : Nat) "DatumDesk$Text" "length" "I") ∈ TB := tb_of 99 rfl rfl
set_option maxRecDepth 20000 in
theorem w_100 : (Jvm.Cond.fieldLinkNest "DatumDesk" (48 : Nat) "DatumDesk$Text" "length" "I" "DatumDesk") ∈ NWs := nw_of 100 rfl rfl
set_option maxRecDepth 20000 in
theorem w_113 : (Jvm.Cond.fieldLinkNest "DatumDesk$Nodes" (37 : Nat) "DatumDesk" "QUOTE" "[I" "DatumDesk") ∈ NWs := nw_of 113 rfl rfl
set_option maxRecDepth 20000 in
theorem w_118 : (Jvm.Cond.fieldLink "DatumDesk$Nodes" (9 : Nat) "DatumDesk$Nodes" "kinds" "[I") ∈ TB := tb_of 118 rfl rfl
set_option maxRecDepth 20000 in
theorem w_119 : (Jvm.Cond.fieldLink "DatumDesk$Nodes" (15 : Nat) "DatumDesk$Nodes" "amounts" "[I") ∈ TB := tb_of 119 rfl rfl
set_option maxRecDepth 20000 in
theorem w_120 : (Jvm.Cond.fieldLink "DatumDesk$Nodes" (18 : Nat) "DatumDesk$Nodes" "starts" "[I") ∈ TB := tb_of 120 rfl rfl
set_option maxRecDepth 20000 in
theorem w_121 : (Jvm.Cond.fieldLink "DatumDesk$Nodes" (21 : Nat) "DatumDesk$Nodes" "heads" "[I") ∈ TB := tb_of 121 rfl rfl
set_option maxRecDepth 20000 in
theorem w_122 : (Jvm.Cond.fieldLink "DatumDesk$Nodes" (24 : Nat) "DatumDesk$Nodes" "tails" "[I") ∈ TB := tb_of 122 rfl rfl
set_option maxRecDepth 20000 in
theorem w_123 : (Jvm.Cond.fieldLink "DatumDesk$Nodes" (27 : Nat) "DatumDesk$Nodes" "count" "I") ∈ TB := tb_of 123 rfl rfl
set_option maxRecDepth 20000 in
theorem w_124 : (Jvm.Cond.fieldLinkNest "DatumDesk" (109 : Nat) "DatumDesk$Nodes" "count" "I" "DatumDesk") ∈ NWs := nw_of 124 rfl rfl
set_option maxRecDepth 20000 in
theorem w_125 : (Jvm.Cond.fieldLink "DatumDesk$Nodes" (31 : Nat) "DatumDesk$Nodes" "data" "[I") ∈ TB := tb_of 125 rfl rfl
set_option maxRecDepth 20000 in
theorem w_126 : (Jvm.Cond.fieldLink "DatumDesk$Nodes" (34 : Nat) "DatumDesk$Nodes" "dataCount" "I") ∈ TB := tb_of 126 rfl rfl
set_option maxRecDepth 20000 in
theorem w_127 : (Jvm.Cond.fieldLinkNest "DatumDesk" (62 : Nat) "DatumDesk$Nodes" "dataCount" "I" "DatumDesk") ∈ NWs := nw_of 127 rfl rfl
set_option maxRecDepth 20000 in
theorem w_128 : (Jvm.Cond.fieldLink "DatumDesk$Nodes" (40 : Nat) "DatumDesk$Nodes" "letters" "[I") ∈ TB := tb_of 128 rfl rfl
set_option maxRecDepth 20000 in
theorem w_129 : (Jvm.Cond.fieldLink "DatumDesk$Nodes" (43 : Nat) "DatumDesk$Nodes" "letterCount" "I") ∈ TB := tb_of 129 rfl rfl
set_option maxRecDepth 20000 in
theorem w_163 : (Jvm.Cond.fieldLink "DatumDesk$Tokens" (9 : Nat) "DatumDesk$Tokens" "sorts" "[I") ∈ TB := tb_of 163 rfl rfl
set_option maxRecDepth 20000 in
theorem w_164 : (Jvm.Cond.fieldLink "DatumDesk$Tokens" (15 : Nat) "DatumDesk$Tokens" "starts" "[I") ∈ TB := tb_of 164 rfl rfl
set_option maxRecDepth 20000 in
theorem w_165 : (Jvm.Cond.fieldLink "DatumDesk$Tokens" (18 : Nat) "DatumDesk$Tokens" "ends" "[I") ∈ TB := tb_of 165 rfl rfl
set_option maxRecDepth 20000 in
theorem w_166 : (Jvm.Cond.fieldLink "DatumDesk$Tokens" (21 : Nat) "DatumDesk$Tokens" "count" "I") ∈ TB := tb_of 166 rfl rfl
set_option maxRecDepth 20000 in
theorem w_176 : (Jvm.Cond.fieldLink "DatumDesk$Reader" (25 : Nat) "DatumDesk$Reader" "text" "LDatumDesk$Text;") ∈ TB := tb_of 176 rfl rfl
set_option maxRecDepth 20000 in
theorem w_177 : (Jvm.Cond.fieldLink "DatumDesk$Reader" (29 : Nat) "DatumDesk$Reader" "nodes" "LDatumDesk$Nodes;") ∈ TB := tb_of 177 rfl rfl
set_option maxRecDepth 20000 in
theorem w_178 : (Jvm.Cond.fieldLink "DatumDesk$Reader" (12 : Nat) "DatumDesk$Reader" "tokens" "LDatumDesk$Tokens;") ∈ TB := tb_of 178 rfl rfl
set_option maxRecDepth 20000 in
theorem w_179 : (Jvm.Cond.fieldLink "DatumDesk$Reader" (18 : Nat) "DatumDesk$Reader" "cursor" "I") ∈ TB := tb_of 179 rfl rfl
set_option maxRecDepth 20000 in
theorem w_180 : (Jvm.Cond.fieldLink "DatumDesk$Reader" (22 : Nat) "DatumDesk$Reader" "faultPlace" "I") ∈ TB := tb_of 180 rfl rfl
set_option maxRecDepth 20000 in
theorem w_181 : (Jvm.Cond.fieldLinkNest "DatumDesk" (59 : Nat) "DatumDesk$Reader" "faultPlace" "I" "DatumDesk") ∈ NWs := nw_of 181 rfl rfl
set_option maxRecDepth 20000 in
theorem w_199 : (Jvm.Cond.fieldLink "DatumDesk$Waiting" (9 : Nat) "DatumDesk$Waiting" "bytes" "[I") ∈ TB := tb_of 199 rfl rfl
set_option maxRecDepth 20000 in
theorem w_200 : (Jvm.Cond.fieldLink "DatumDesk$Waiting" (15 : Nat) "DatumDesk$Waiting" "first" "I") ∈ TB := tb_of 200 rfl rfl
set_option maxRecDepth 20000 in
theorem w_201 : (Jvm.Cond.fieldLink "DatumDesk$Waiting" (19 : Nat) "DatumDesk$Waiting" "count" "I") ∈ TB := tb_of 201 rfl rfl
set_option maxRecDepth 20000 in
theorem w_202 : (Jvm.Cond.fieldLinkNest "DatumDesk" (97 : Nat) "DatumDesk$Waiting" "count" "I" "DatumDesk") ∈ NWs := nw_of 202 rfl rfl
set_option maxRecDepth 20000 in
theorem w_216 : (Jvm.Cond.fieldLink "DatumDesk$Writer" (9 : Nat) "DatumDesk$Writer" "nodes" "LDatumDesk$Nodes;") ∈ TB := tb_of 216 rfl rfl
set_option maxRecDepth 20000 in
theorem w_217 : (Jvm.Cond.fieldLink "DatumDesk$Writer" (15 : Nat) "DatumDesk$Writer" "waiting" "LDatumDesk$Waiting;") ∈ TB := tb_of 217 rfl rfl
set_option maxRecDepth 20000 in
theorem w_223 : (Jvm.Cond.fieldLink "DatumDesk" (10 : Nat) "DatumDesk" "text" "LDatumDesk$Text;") ∈ TB := tb_of 223 rfl rfl
set_option maxRecDepth 20000 in
theorem w_224 : (Jvm.Cond.fieldLink "DatumDesk" (19 : Nat) "DatumDesk" "nodes" "LDatumDesk$Nodes;") ∈ TB := tb_of 224 rfl rfl
set_option maxRecDepth 20000 in
theorem w_225 : (Jvm.Cond.fieldLink "DatumDesk" (28 : Nat) "DatumDesk" "reader" "LDatumDesk$Reader;") ∈ TB := tb_of 225 rfl rfl
set_option maxRecDepth 20000 in
theorem w_226 : (Jvm.Cond.fieldLink "DatumDesk" (35 : Nat) "DatumDesk" "waiting" "LDatumDesk$Waiting;") ∈ TB := tb_of 226 rfl rfl
set_option maxRecDepth 20000 in
theorem w_227 : (Jvm.Cond.fieldLink "DatumDesk" (44 : Nat) "DatumDesk" "writer" "LDatumDesk$Writer;") ∈ TB := tb_of 227 rfl rfl
set_option maxRecDepth 20000 in
theorem w_243 : (Jvm.Cond.methodLinkNest "DatumDesk" (52 : Nat) ({ cls := "DatumDesk$Text", name := "append", desc := "(I)V" } : Jvm.MethodName) "DatumDesk") ∈ NWs := nw_of 243 rfl rfl
set_option maxRecDepth 20000 in
theorem w_245 : (Jvm.Cond.instanceMethod ({ cls := "DatumDesk$Text", name := "append", desc := "(I)V" } : Jvm.MethodName)) ∈ TB := tb_of 245 rfl rfl
set_option maxRecDepth 20000 in
theorem w_246 : (Jvm.Cond.code ({ cls := "DatumDesk$Text", name := "append", desc := "(I)V" } : Jvm.MethodName) prog_4_method_2_code (2 : Nat) (Option.none : Option Jvm.ClassFile.FieldType)) ∈ TB := tb_of 246 rfl rfl
set_option maxRecDepth 20000 in
theorem w_251 : (Jvm.Cond.methodLinkNest "DatumDesk" (56 : Nat) ({ cls := "DatumDesk$Reader", name := "readText", desc := "()V" } : Jvm.MethodName) "DatumDesk") ∈ NWs := nw_of 251 rfl rfl
set_option maxRecDepth 20000 in
theorem w_253 : (Jvm.Cond.instanceMethod ({ cls := "DatumDesk$Reader", name := "readText", desc := "()V" } : Jvm.MethodName)) ∈ TB := tb_of 253 rfl rfl
set_option maxRecDepth 20000 in
theorem w_254 : (Jvm.Cond.code ({ cls := "DatumDesk$Reader", name := "readText", desc := "()V" } : Jvm.MethodName) prog_3_method_2_code (3 : Nat) (Option.none : Option Jvm.ClassFile.FieldType)) ∈ TB := tb_of 254 rfl rfl
set_option maxRecDepth 20000 in
theorem w_255 : (Jvm.Cond.methodLinkNest "DatumDesk$Reader" (33 : Nat) ({ cls := "DatumDesk$Nodes", name := "clear", desc := "()V" } : Jvm.MethodName) "DatumDesk") ∈ NWs := nw_of 255 rfl rfl
set_option maxRecDepth 20000 in
theorem w_257 : (Jvm.Cond.instanceMethod ({ cls := "DatumDesk$Nodes", name := "clear", desc := "()V" } : Jvm.MethodName)) ∈ TB := tb_of 257 rfl rfl
set_option maxRecDepth 20000 in
theorem w_258 : (Jvm.Cond.code ({ cls := "DatumDesk$Nodes", name := "clear", desc := "()V" } : Jvm.MethodName) prog_2_method_2_code (1 : Nat) (Option.none : Option Jvm.ClassFile.FieldType)) ∈ TB := tb_of 258 rfl rfl
set_option maxRecDepth 20000 in
theorem w_259 : (Jvm.Cond.methodLinkNest "DatumDesk$Reader" (38 : Nat) ({ cls := "DatumDesk$Tokens", name := "scan", desc := "(LDatumDesk$Text;)V" } : Jvm.MethodName) "DatumDesk") ∈ NWs := nw_of 259 rfl rfl
set_option maxRecDepth 20000 in
theorem w_261 : (Jvm.Cond.instanceMethod ({ cls := "DatumDesk$Tokens", name := "scan", desc := "(LDatumDesk$Text;)V" } : Jvm.MethodName)) ∈ TB := tb_of 261 rfl rfl
set_option maxRecDepth 20000 in
theorem w_262 : (Jvm.Cond.code ({ cls := "DatumDesk$Tokens", name := "scan", desc := "(LDatumDesk$Text;)V" } : Jvm.MethodName) prog_5_method_2_code (7 : Nat) (Option.none : Option Jvm.ClassFile.FieldType)) ∈ TB := tb_of 262 rfl rfl
set_option maxRecDepth 20000 in
theorem w_263 : (Jvm.Cond.methodLinkNest "DatumDesk$Tokens" (25 : Nat) ({ cls := "DatumDesk$Text", name := "skipBlanks", desc := "(I)I" } : Jvm.MethodName) "DatumDesk") ∈ NWs := nw_of 263 rfl rfl
set_option maxRecDepth 20000 in
theorem w_265 : (Jvm.Cond.instanceMethod ({ cls := "DatumDesk$Text", name := "skipBlanks", desc := "(I)I" } : Jvm.MethodName)) ∈ TB := tb_of 265 rfl rfl
set_option maxRecDepth 20000 in
theorem w_266 : (Jvm.Cond.code ({ cls := "DatumDesk$Text", name := "skipBlanks", desc := "(I)I" } : Jvm.MethodName) prog_4_method_4_code (5 : Nat) (Option.some Jvm.ClassFile.FieldType.int)) ∈ TB := tb_of 266 rfl rfl
set_option maxRecDepth 20000 in
theorem w_267 : (Jvm.Cond.methodLink "DatumDesk$Text" (19 : Nat) ({ cls := "DatumDesk$Text", name := "at", desc := "(I)I" } : Jvm.MethodName)) ∈ TB := tb_of 267 rfl rfl
set_option maxRecDepth 20000 in
theorem w_269 : (Jvm.Cond.instanceMethod ({ cls := "DatumDesk$Text", name := "at", desc := "(I)I" } : Jvm.MethodName)) ∈ TB := tb_of 269 rfl rfl
set_option maxRecDepth 20000 in
theorem w_270 : (Jvm.Cond.code ({ cls := "DatumDesk$Text", name := "at", desc := "(I)I" } : Jvm.MethodName) prog_4_method_3_code (2 : Nat) (Option.some Jvm.ClassFile.FieldType.int)) ∈ TB := tb_of 270 rfl rfl
set_option maxRecDepth 20000 in
theorem w_271 : (Jvm.Cond.methodLinkNest "DatumDesk$Tokens" (31 : Nat) ({ cls := "DatumDesk$Text", name := "sortAt", desc := "(I)I" } : Jvm.MethodName) "DatumDesk") ∈ NWs := nw_of 271 rfl rfl
set_option maxRecDepth 20000 in
theorem w_273 : (Jvm.Cond.instanceMethod ({ cls := "DatumDesk$Text", name := "sortAt", desc := "(I)I" } : Jvm.MethodName)) ∈ TB := tb_of 273 rfl rfl
set_option maxRecDepth 20000 in
theorem w_274 : (Jvm.Cond.code ({ cls := "DatumDesk$Text", name := "sortAt", desc := "(I)I" } : Jvm.MethodName) prog_4_method_5_code (3 : Nat) (Option.some Jvm.ClassFile.FieldType.int)) ∈ TB := tb_of 274 rfl rfl
set_option maxRecDepth 20000 in
theorem w_275 : (Jvm.Cond.methodLink "DatumDesk$Text" (23 : Nat) ({ cls := "DatumDesk$Text", name := "isDigit", desc := "(I)Z" } : Jvm.MethodName)) ∈ TB := tb_of 275 rfl rfl
set_option maxRecDepth 20000 in
theorem w_276 : (Jvm.Cond.static ({ cls := "DatumDesk$Text", name := "isDigit", desc := "(I)Z" } : Jvm.MethodName)) ∈ TB := tb_of 276 rfl rfl
set_option maxRecDepth 20000 in
theorem w_277 : (Jvm.Cond.code ({ cls := "DatumDesk$Text", name := "isDigit", desc := "(I)Z" } : Jvm.MethodName) prog_4_method_11_code (1 : Nat) (Option.some Jvm.ClassFile.FieldType.boolean)) ∈ TB := tb_of 277 rfl rfl
set_option maxRecDepth 20000 in
theorem w_278 : (Jvm.Cond.methodLink "DatumDesk$Text" (27 : Nat) ({ cls := "DatumDesk$Text", name := "isWordByte", desc := "(I)Z" } : Jvm.MethodName)) ∈ TB := tb_of 278 rfl rfl
set_option maxRecDepth 20000 in
theorem w_279 : (Jvm.Cond.static ({ cls := "DatumDesk$Text", name := "isWordByte", desc := "(I)Z" } : Jvm.MethodName)) ∈ TB := tb_of 279 rfl rfl
set_option maxRecDepth 20000 in
theorem w_280 : (Jvm.Cond.code ({ cls := "DatumDesk$Text", name := "isWordByte", desc := "(I)Z" } : Jvm.MethodName) prog_4_method_12_code (1 : Nat) (Option.some Jvm.ClassFile.FieldType.boolean)) ∈ TB := tb_of 280 rfl rfl
set_option maxRecDepth 20000 in
theorem w_281 : (Jvm.Cond.methodLinkNest "DatumDesk$Tokens" (34 : Nat) ({ cls := "DatumDesk$Text", name := "tokenEnd", desc := "(II)I" } : Jvm.MethodName) "DatumDesk") ∈ NWs := nw_of 281 rfl rfl
set_option maxRecDepth 20000 in
theorem w_283 : (Jvm.Cond.instanceMethod ({ cls := "DatumDesk$Text", name := "tokenEnd", desc := "(II)I" } : Jvm.MethodName)) ∈ TB := tb_of 283 rfl rfl
set_option maxRecDepth 20000 in
theorem w_284 : (Jvm.Cond.code ({ cls := "DatumDesk$Text", name := "tokenEnd", desc := "(II)I" } : Jvm.MethodName) prog_4_method_6_code (3 : Nat) (Option.some Jvm.ClassFile.FieldType.int)) ∈ TB := tb_of 284 rfl rfl
set_option maxRecDepth 20000 in
theorem w_285 : (Jvm.Cond.methodLink "DatumDesk$Text" (30 : Nat) ({ cls := "DatumDesk$Text", name := "numberEnd", desc := "(I)I" } : Jvm.MethodName)) ∈ TB := tb_of 285 rfl rfl
set_option maxRecDepth 20000 in
theorem w_287 : (Jvm.Cond.instanceMethod ({ cls := "DatumDesk$Text", name := "numberEnd", desc := "(I)I" } : Jvm.MethodName)) ∈ TB := tb_of 287 rfl rfl
set_option maxRecDepth 20000 in
theorem w_288 : (Jvm.Cond.code ({ cls := "DatumDesk$Text", name := "numberEnd", desc := "(I)I" } : Jvm.MethodName) prog_4_method_7_code (5 : Nat) (Option.some Jvm.ClassFile.FieldType.int)) ∈ TB := tb_of 288 rfl rfl
set_option maxRecDepth 20000 in
theorem w_289 : (Jvm.Cond.methodLink "DatumDesk$Text" (39 : Nat) ({ cls := "DatumDesk$Text", name := "wordEnd", desc := "(I)I" } : Jvm.MethodName)) ∈ TB := tb_of 289 rfl rfl
set_option maxRecDepth 20000 in
theorem w_291 : (Jvm.Cond.instanceMethod ({ cls := "DatumDesk$Text", name := "wordEnd", desc := "(I)I" } : Jvm.MethodName)) ∈ TB := tb_of 291 rfl rfl
set_option maxRecDepth 20000 in
theorem w_292 : (Jvm.Cond.code ({ cls := "DatumDesk$Text", name := "wordEnd", desc := "(I)I" } : Jvm.MethodName) prog_4_method_9_code (3 : Nat) (Option.some Jvm.ClassFile.FieldType.int)) ∈ TB := tb_of 292 rfl rfl
set_option maxRecDepth 20000 in
theorem w_293 : (Jvm.Cond.methodLink "DatumDesk$Text" (33 : Nat) ({ cls := "DatumDesk$Text", name := "nameEnd", desc := "(I)I" } : Jvm.MethodName)) ∈ TB := tb_of 293 rfl rfl
set_option maxRecDepth 20000 in
theorem w_295 : (Jvm.Cond.instanceMethod ({ cls := "DatumDesk$Text", name := "nameEnd", desc := "(I)I" } : Jvm.MethodName)) ∈ TB := tb_of 295 rfl rfl
set_option maxRecDepth 20000 in
theorem w_296 : (Jvm.Cond.code ({ cls := "DatumDesk$Text", name := "nameEnd", desc := "(I)I" } : Jvm.MethodName) prog_4_method_8_code (3 : Nat) (Option.some Jvm.ClassFile.FieldType.int)) ∈ TB := tb_of 296 rfl rfl
set_option maxRecDepth 20000 in
theorem w_297 : (Jvm.Cond.methodLink "DatumDesk$Text" (36 : Nat) ({ cls := "DatumDesk$Text", name := "stringEnd", desc := "(I)I" } : Jvm.MethodName)) ∈ TB := tb_of 297 rfl rfl
set_option maxRecDepth 20000 in
theorem w_299 : (Jvm.Cond.instanceMethod ({ cls := "DatumDesk$Text", name := "stringEnd", desc := "(I)I" } : Jvm.MethodName)) ∈ TB := tb_of 299 rfl rfl
set_option maxRecDepth 20000 in
theorem w_300 : (Jvm.Cond.code ({ cls := "DatumDesk$Text", name := "stringEnd", desc := "(I)I" } : Jvm.MethodName) prog_4_method_10_code (5 : Nat) (Option.some Jvm.ClassFile.FieldType.int)) ∈ TB := tb_of 300 rfl rfl
set_option maxRecDepth 20000 in
theorem w_301 : (Jvm.Cond.methodLinkNest "DatumDesk$Reader" (42 : Nat) ({ cls := "DatumDesk$Tokens", name := "sortOf", desc := "(I)I" } : Jvm.MethodName) "DatumDesk") ∈ NWs := nw_of 301 rfl rfl
set_option maxRecDepth 20000 in
theorem w_303 : (Jvm.Cond.instanceMethod ({ cls := "DatumDesk$Tokens", name := "sortOf", desc := "(I)I" } : Jvm.MethodName)) ∈ TB := tb_of 303 rfl rfl
set_option maxRecDepth 20000 in
theorem w_304 : (Jvm.Cond.code ({ cls := "DatumDesk$Tokens", name := "sortOf", desc := "(I)I" } : Jvm.MethodName) prog_5_method_3_code (2 : Nat) (Option.some Jvm.ClassFile.FieldType.int)) ∈ TB := tb_of 304 rfl rfl
set_option maxRecDepth 20000 in
theorem w_305 : (Jvm.Cond.methodLink "DatumDesk$Reader" (46 : Nat) ({ cls := "DatumDesk$Reader", name := "readDatum", desc := "(I)I" } : Jvm.MethodName)) ∈ TB := tb_of 305 rfl rfl
set_option maxRecDepth 20000 in
theorem w_307 : (Jvm.Cond.instanceMethod ({ cls := "DatumDesk$Reader", name := "readDatum", desc := "(I)I" } : Jvm.MethodName)) ∈ TB := tb_of 307 rfl rfl
set_option maxRecDepth 20000 in
theorem w_308 : (Jvm.Cond.code ({ cls := "DatumDesk$Reader", name := "readDatum", desc := "(I)I" } : Jvm.MethodName) prog_3_method_3_code (2 : Nat) (Option.some Jvm.ClassFile.FieldType.int)) ∈ TB := tb_of 308 rfl rfl
set_option maxRecDepth 20000 in
theorem w_309 : (Jvm.Cond.methodLink "DatumDesk$Reader" (53 : Nat) ({ cls := "DatumDesk$Reader", name := "readNumber", desc := "()I" } : Jvm.MethodName)) ∈ TB := tb_of 309 rfl rfl
set_option maxRecDepth 20000 in
theorem w_311 : (Jvm.Cond.instanceMethod ({ cls := "DatumDesk$Reader", name := "readNumber", desc := "()I" } : Jvm.MethodName)) ∈ TB := tb_of 311 rfl rfl
set_option maxRecDepth 20000 in
theorem w_312 : (Jvm.Cond.code ({ cls := "DatumDesk$Reader", name := "readNumber", desc := "()I" } : Jvm.MethodName) prog_3_method_4_code (6 : Nat) (Option.some Jvm.ClassFile.FieldType.int)) ∈ TB := tb_of 312 rfl rfl
set_option maxRecDepth 20000 in
theorem w_313 : (Jvm.Cond.methodLinkNest "DatumDesk$Reader" (72 : Nat) ({ cls := "DatumDesk$Tokens", name := "endOf", desc := "(I)I" } : Jvm.MethodName) "DatumDesk") ∈ NWs := nw_of 313 rfl rfl
set_option maxRecDepth 20000 in
theorem w_315 : (Jvm.Cond.instanceMethod ({ cls := "DatumDesk$Tokens", name := "endOf", desc := "(I)I" } : Jvm.MethodName)) ∈ TB := tb_of 315 rfl rfl
set_option maxRecDepth 20000 in
theorem w_316 : (Jvm.Cond.code ({ cls := "DatumDesk$Tokens", name := "endOf", desc := "(I)I" } : Jvm.MethodName) prog_5_method_5_code (2 : Nat) (Option.some Jvm.ClassFile.FieldType.int)) ∈ TB := tb_of 316 rfl rfl
set_option maxRecDepth 20000 in
theorem w_317 : (Jvm.Cond.methodLinkNest "DatumDesk$Reader" (75 : Nat) ({ cls := "DatumDesk$Tokens", name := "startOf", desc := "(I)I" } : Jvm.MethodName) "DatumDesk") ∈ NWs := nw_of 317 rfl rfl
set_option maxRecDepth 20000 in
theorem w_319 : (Jvm.Cond.instanceMethod ({ cls := "DatumDesk$Tokens", name := "startOf", desc := "(I)I" } : Jvm.MethodName)) ∈ TB := tb_of 319 rfl rfl
set_option maxRecDepth 20000 in
theorem w_320 : (Jvm.Cond.code ({ cls := "DatumDesk$Tokens", name := "startOf", desc := "(I)I" } : Jvm.MethodName) prog_5_method_4_code (2 : Nat) (Option.some Jvm.ClassFile.FieldType.int)) ∈ TB := tb_of 320 rfl rfl
set_option maxRecDepth 20000 in
theorem w_321 : (Jvm.Cond.methodLinkNest "DatumDesk$Reader" (78 : Nat) ({ cls := "DatumDesk$Text", name := "at", desc := "(I)I" } : Jvm.MethodName) "DatumDesk") ∈ NWs := nw_of 321 rfl rfl
set_option maxRecDepth 20000 in
theorem w_322 : (Jvm.Cond.methodLink "DatumDesk$Reader" (83 : Nat) ({ cls := "DatumDesk$Reader", name := "add", desc := "(I)I" } : Jvm.MethodName)) ∈ TB := tb_of 322 rfl rfl
set_option maxRecDepth 20000 in
theorem w_324 : (Jvm.Cond.instanceMethod ({ cls := "DatumDesk$Reader", name := "add", desc := "(I)I" } : Jvm.MethodName)) ∈ TB := tb_of 324 rfl rfl
set_option maxRecDepth 20000 in
theorem w_325 : (Jvm.Cond.code ({ cls := "DatumDesk$Reader", name := "add", desc := "(I)I" } : Jvm.MethodName) prog_3_method_10_code (3 : Nat) (Option.some Jvm.ClassFile.FieldType.int)) ∈ TB := tb_of 325 rfl rfl
set_option maxRecDepth 20000 in
theorem w_326 : (Jvm.Cond.methodLinkNest "DatumDesk$Reader" (105 : Nat) ({ cls := "DatumDesk$Nodes", name := "add", desc := "(I)I" } : Jvm.MethodName) "DatumDesk") ∈ NWs := nw_of 326 rfl rfl
set_option maxRecDepth 20000 in
theorem w_328 : (Jvm.Cond.instanceMethod ({ cls := "DatumDesk$Nodes", name := "add", desc := "(I)I" } : Jvm.MethodName)) ∈ TB := tb_of 328 rfl rfl
set_option maxRecDepth 20000 in
theorem w_329 : (Jvm.Cond.code ({ cls := "DatumDesk$Nodes", name := "add", desc := "(I)I" } : Jvm.MethodName) prog_2_method_5_code (3 : Nat) (Option.some Jvm.ClassFile.FieldType.int)) ∈ TB := tb_of 329 rfl rfl
set_option maxRecDepth 20000 in
theorem w_330 : (Jvm.Cond.methodLink "DatumDesk$Reader" (69 : Nat) ({ cls := "DatumDesk$Reader", name := "fault", desc := "()I" } : Jvm.MethodName)) ∈ TB := tb_of 330 rfl rfl
set_option maxRecDepth 20000 in
theorem w_332 : (Jvm.Cond.instanceMethod ({ cls := "DatumDesk$Reader", name := "fault", desc := "()I" } : Jvm.MethodName)) ∈ TB := tb_of 332 rfl rfl
set_option maxRecDepth 20000 in
theorem w_333 : (Jvm.Cond.code ({ cls := "DatumDesk$Reader", name := "fault", desc := "()I" } : Jvm.MethodName) prog_3_method_11_code (1 : Nat) (Option.some Jvm.ClassFile.FieldType.int)) ∈ TB := tb_of 333 rfl rfl
set_option maxRecDepth 20000 in
theorem w_334 : (Jvm.Cond.methodLinkNest "DatumDesk$Reader" (86 : Nat) ({ cls := "DatumDesk$Nodes", name := "setAmount", desc := "(II)V" } : Jvm.MethodName) "DatumDesk") ∈ NWs := nw_of 334 rfl rfl
set_option maxRecDepth 20000 in
theorem w_336 : (Jvm.Cond.instanceMethod ({ cls := "DatumDesk$Nodes", name := "setAmount", desc := "(II)V" } : Jvm.MethodName)) ∈ TB := tb_of 336 rfl rfl
set_option maxRecDepth 20000 in
theorem w_337 : (Jvm.Cond.code ({ cls := "DatumDesk$Nodes", name := "setAmount", desc := "(II)V" } : Jvm.MethodName) prog_2_method_9_code (3 : Nat) (Option.none : Option Jvm.ClassFile.FieldType)) ∈ TB := tb_of 337 rfl rfl
set_option maxRecDepth 20000 in
theorem w_338 : (Jvm.Cond.methodLink "DatumDesk$Nodes" (52 : Nat) ({ cls := "DatumDesk$Nodes", name := "has", desc := "(I)Z" } : Jvm.MethodName)) ∈ TB := tb_of 338 rfl rfl
set_option maxRecDepth 20000 in
theorem w_340 : (Jvm.Cond.instanceMethod ({ cls := "DatumDesk$Nodes", name := "has", desc := "(I)Z" } : Jvm.MethodName)) ∈ TB := tb_of 340 rfl rfl
set_option maxRecDepth 20000 in
theorem w_341 : (Jvm.Cond.code ({ cls := "DatumDesk$Nodes", name := "has", desc := "(I)Z" } : Jvm.MethodName) prog_2_method_3_code (2 : Nat) (Option.some Jvm.ClassFile.FieldType.boolean)) ∈ TB := tb_of 341 rfl rfl
set_option maxRecDepth 20000 in
theorem w_342 : (Jvm.Cond.methodLink "DatumDesk$Reader" (57 : Nat) ({ cls := "DatumDesk$Reader", name := "readName", desc := "()I" } : Jvm.MethodName)) ∈ TB := tb_of 342 rfl rfl
set_option maxRecDepth 20000 in
theorem w_344 : (Jvm.Cond.instanceMethod ({ cls := "DatumDesk$Reader", name := "readName", desc := "()I" } : Jvm.MethodName)) ∈ TB := tb_of 344 rfl rfl
set_option maxRecDepth 20000 in
theorem w_345 : (Jvm.Cond.code ({ cls := "DatumDesk$Reader", name := "readName", desc := "()I" } : Jvm.MethodName) prog_3_method_5_code (4 : Nat) (Option.some Jvm.ClassFile.FieldType.int)) ∈ TB := tb_of 345 rfl rfl
set_option maxRecDepth 20000 in
theorem w_346 : (Jvm.Cond.methodLinkNest "DatumDesk$Reader" (90 : Nat) ({ cls := "DatumDesk$Nodes", name := "addLetter", desc := "(II)V" } : Jvm.MethodName) "DatumDesk") ∈ NWs := nw_of 346 rfl rfl
set_option maxRecDepth 20000 in
theorem w_348 : (Jvm.Cond.instanceMethod ({ cls := "DatumDesk$Nodes", name := "addLetter", desc := "(II)V" } : Jvm.MethodName)) ∈ TB := tb_of 348 rfl rfl
set_option maxRecDepth 20000 in
theorem w_349 : (Jvm.Cond.code ({ cls := "DatumDesk$Nodes", name := "addLetter", desc := "(II)V" } : Jvm.MethodName) prog_2_method_7_code (3 : Nat) (Option.none : Option Jvm.ClassFile.FieldType)) ∈ TB := tb_of 349 rfl rfl
set_option maxRecDepth 20000 in
theorem w_350 : (Jvm.Cond.methodLink "DatumDesk$Reader" (60 : Nat) ({ cls := "DatumDesk$Reader", name := "readString", desc := "()I" } : Jvm.MethodName)) ∈ TB := tb_of 350 rfl rfl
set_option maxRecDepth 20000 in
theorem w_352 : (Jvm.Cond.instanceMethod ({ cls := "DatumDesk$Reader", name := "readString", desc := "()I" } : Jvm.MethodName)) ∈ TB := tb_of 352 rfl rfl
set_option maxRecDepth 20000 in
theorem w_353 : (Jvm.Cond.code ({ cls := "DatumDesk$Reader", name := "readString", desc := "()I" } : Jvm.MethodName) prog_3_method_6_code (4 : Nat) (Option.some Jvm.ClassFile.FieldType.int)) ∈ TB := tb_of 353 rfl rfl
set_option maxRecDepth 20000 in
theorem w_354 : (Jvm.Cond.methodLink "DatumDesk$Reader" (63 : Nat) ({ cls := "DatumDesk$Reader", name := "readQuoted", desc := "(I)I" } : Jvm.MethodName)) ∈ TB := tb_of 354 rfl rfl
set_option maxRecDepth 20000 in
theorem w_356 : (Jvm.Cond.instanceMethod ({ cls := "DatumDesk$Reader", name := "readQuoted", desc := "(I)I" } : Jvm.MethodName)) ∈ TB := tb_of 356 rfl rfl
set_option maxRecDepth 20000 in
theorem w_357 : (Jvm.Cond.code ({ cls := "DatumDesk$Reader", name := "readQuoted", desc := "(I)I" } : Jvm.MethodName) prog_3_method_7_code (7 : Nat) (Option.some Jvm.ClassFile.FieldType.int)) ∈ TB := tb_of 357 rfl rfl
set_option maxRecDepth 20000 in
theorem w_358 : (Jvm.Cond.methodLinkNest "DatumDesk$Reader" (93 : Nat) ({ cls := "DatumDesk$Nodes", name := "nameQuote", desc := "(I)V" } : Jvm.MethodName) "DatumDesk") ∈ NWs := nw_of 358 rfl rfl
set_option maxRecDepth 20000 in
theorem w_360 : (Jvm.Cond.instanceMethod ({ cls := "DatumDesk$Nodes", name := "nameQuote", desc := "(I)V" } : Jvm.MethodName)) ∈ TB := tb_of 360 rfl rfl
set_option maxRecDepth 20000 in
theorem w_361 : (Jvm.Cond.code ({ cls := "DatumDesk$Nodes", name := "nameQuote", desc := "(I)V" } : Jvm.MethodName) prog_2_method_8_code (2 : Nat) (Option.none : Option Jvm.ClassFile.FieldType)) ∈ TB := tb_of 361 rfl rfl
set_option maxRecDepth 20000 in
theorem w_362 : (Jvm.Cond.methodLinkNest "DatumDesk$Reader" (96 : Nat) ({ cls := "DatumDesk$Nodes", name := "setHead", desc := "(II)V" } : Jvm.MethodName) "DatumDesk") ∈ NWs := nw_of 362 rfl rfl
set_option maxRecDepth 20000 in
theorem w_364 : (Jvm.Cond.instanceMethod ({ cls := "DatumDesk$Nodes", name := "setHead", desc := "(II)V" } : Jvm.MethodName)) ∈ TB := tb_of 364 rfl rfl
set_option maxRecDepth 20000 in
theorem w_365 : (Jvm.Cond.code ({ cls := "DatumDesk$Nodes", name := "setHead", desc := "(II)V" } : Jvm.MethodName) prog_2_method_10_code (3 : Nat) (Option.none : Option Jvm.ClassFile.FieldType)) ∈ TB := tb_of 365 rfl rfl
set_option maxRecDepth 20000 in
theorem w_366 : (Jvm.Cond.methodLinkNest "DatumDesk$Reader" (99 : Nat) ({ cls := "DatumDesk$Nodes", name := "setTail", desc := "(II)V" } : Jvm.MethodName) "DatumDesk") ∈ NWs := nw_of 366 rfl rfl
set_option maxRecDepth 20000 in
theorem w_368 : (Jvm.Cond.instanceMethod ({ cls := "DatumDesk$Nodes", name := "setTail", desc := "(II)V" } : Jvm.MethodName)) ∈ TB := tb_of 368 rfl rfl
set_option maxRecDepth 20000 in
theorem w_369 : (Jvm.Cond.code ({ cls := "DatumDesk$Nodes", name := "setTail", desc := "(II)V" } : Jvm.MethodName) prog_2_method_11_code (3 : Nat) (Option.none : Option Jvm.ClassFile.FieldType)) ∈ TB := tb_of 369 rfl rfl
set_option maxRecDepth 20000 in
theorem w_370 : (Jvm.Cond.methodLink "DatumDesk$Reader" (66 : Nat) ({ cls := "DatumDesk$Reader", name := "readList", desc := "(I)I" } : Jvm.MethodName)) ∈ TB := tb_of 370 rfl rfl
set_option maxRecDepth 20000 in
theorem w_372 : (Jvm.Cond.instanceMethod ({ cls := "DatumDesk$Reader", name := "readList", desc := "(I)I" } : Jvm.MethodName)) ∈ TB := tb_of 372 rfl rfl
set_option maxRecDepth 20000 in
theorem w_373 : (Jvm.Cond.code ({ cls := "DatumDesk$Reader", name := "readList", desc := "(I)I" } : Jvm.MethodName) prog_3_method_8_code (8 : Nat) (Option.some Jvm.ClassFile.FieldType.int)) ∈ TB := tb_of 373 rfl rfl
set_option maxRecDepth 20000 in
theorem w_374 : (Jvm.Cond.methodLink "DatumDesk$Reader" (102 : Nat) ({ cls := "DatumDesk$Reader", name := "readDotted", desc := "(I)I" } : Jvm.MethodName)) ∈ TB := tb_of 374 rfl rfl
set_option maxRecDepth 20000 in
theorem w_376 : (Jvm.Cond.instanceMethod ({ cls := "DatumDesk$Reader", name := "readDotted", desc := "(I)I" } : Jvm.MethodName)) ∈ TB := tb_of 376 rfl rfl
set_option maxRecDepth 20000 in
theorem w_377 : (Jvm.Cond.code ({ cls := "DatumDesk$Reader", name := "readDotted", desc := "(I)I" } : Jvm.MethodName) prog_3_method_9_code (3 : Nat) (Option.some Jvm.ClassFile.FieldType.int)) ∈ TB := tb_of 377 rfl rfl
set_option maxRecDepth 20000 in
theorem w_378 : (Jvm.Cond.methodLinkNest "DatumDesk$Reader" (49 : Nat) ({ cls := "DatumDesk$Nodes", name := "addDatum", desc := "(I)V" } : Jvm.MethodName) "DatumDesk") ∈ NWs := nw_of 378 rfl rfl
set_option maxRecDepth 20000 in
theorem w_380 : (Jvm.Cond.instanceMethod ({ cls := "DatumDesk$Nodes", name := "addDatum", desc := "(I)V" } : Jvm.MethodName)) ∈ TB := tb_of 380 rfl rfl
set_option maxRecDepth 20000 in
theorem w_381 : (Jvm.Cond.code ({ cls := "DatumDesk$Nodes", name := "addDatum", desc := "(I)V" } : Jvm.MethodName) prog_2_method_6_code (2 : Nat) (Option.none : Option Jvm.ClassFile.FieldType)) ∈ TB := tb_of 381 rfl rfl
set_option maxRecDepth 20000 in
theorem w_390 : (Jvm.Cond.methodLinkNest "DatumDesk" (65 : Nat) ({ cls := "DatumDesk$Nodes", name := "datumNode", desc := "(I)I" } : Jvm.MethodName) "DatumDesk") ∈ NWs := nw_of 390 rfl rfl
set_option maxRecDepth 20000 in
theorem w_392 : (Jvm.Cond.instanceMethod ({ cls := "DatumDesk$Nodes", name := "datumNode", desc := "(I)I" } : Jvm.MethodName)) ∈ TB := tb_of 392 rfl rfl
set_option maxRecDepth 20000 in
theorem w_393 : (Jvm.Cond.code ({ cls := "DatumDesk$Nodes", name := "datumNode", desc := "(I)I" } : Jvm.MethodName) prog_2_method_12_code (2 : Nat) (Option.some Jvm.ClassFile.FieldType.int)) ∈ TB := tb_of 393 rfl rfl
set_option maxRecDepth 20000 in
theorem w_398 : (Jvm.Cond.methodLinkNest "DatumDesk" (69 : Nat) ({ cls := "DatumDesk$Nodes", name := "kindOf", desc := "(I)I" } : Jvm.MethodName) "DatumDesk") ∈ NWs := nw_of 398 rfl rfl
set_option maxRecDepth 20000 in
theorem w_400 : (Jvm.Cond.instanceMethod ({ cls := "DatumDesk$Nodes", name := "kindOf", desc := "(I)I" } : Jvm.MethodName)) ∈ TB := tb_of 400 rfl rfl
set_option maxRecDepth 20000 in
theorem w_401 : (Jvm.Cond.code ({ cls := "DatumDesk$Nodes", name := "kindOf", desc := "(I)I" } : Jvm.MethodName) prog_2_method_13_code (2 : Nat) (Option.some Jvm.ClassFile.FieldType.int)) ∈ TB := tb_of 401 rfl rfl
set_option maxRecDepth 20000 in
theorem w_406 : (Jvm.Cond.methodLinkNest "DatumDesk" (72 : Nat) ({ cls := "DatumDesk$Nodes", name := "amountOf", desc := "(I)I" } : Jvm.MethodName) "DatumDesk") ∈ NWs := nw_of 406 rfl rfl
set_option maxRecDepth 20000 in
theorem w_408 : (Jvm.Cond.instanceMethod ({ cls := "DatumDesk$Nodes", name := "amountOf", desc := "(I)I" } : Jvm.MethodName)) ∈ TB := tb_of 408 rfl rfl
set_option maxRecDepth 20000 in
theorem w_409 : (Jvm.Cond.code ({ cls := "DatumDesk$Nodes", name := "amountOf", desc := "(I)I" } : Jvm.MethodName) prog_2_method_14_code (2 : Nat) (Option.some Jvm.ClassFile.FieldType.int)) ∈ TB := tb_of 409 rfl rfl
set_option maxRecDepth 20000 in
theorem w_414 : (Jvm.Cond.methodLinkNest "DatumDesk" (75 : Nat) ({ cls := "DatumDesk$Nodes", name := "byteOf", desc := "(II)I" } : Jvm.MethodName) "DatumDesk") ∈ NWs := nw_of 414 rfl rfl
set_option maxRecDepth 20000 in
theorem w_416 : (Jvm.Cond.instanceMethod ({ cls := "DatumDesk$Nodes", name := "byteOf", desc := "(II)I" } : Jvm.MethodName)) ∈ TB := tb_of 416 rfl rfl
set_option maxRecDepth 20000 in
theorem w_417 : (Jvm.Cond.code ({ cls := "DatumDesk$Nodes", name := "byteOf", desc := "(II)I" } : Jvm.MethodName) prog_2_method_15_code (4 : Nat) (Option.some Jvm.ClassFile.FieldType.int)) ∈ TB := tb_of 417 rfl rfl
set_option maxRecDepth 20000 in
theorem w_418 : (Jvm.Cond.methodLink "DatumDesk$Nodes" (56 : Nat) ({ cls := "DatumDesk$Nodes", name := "isOf", desc := "(II)Z" } : Jvm.MethodName)) ∈ TB := tb_of 418 rfl rfl
set_option maxRecDepth 20000 in
theorem w_420 : (Jvm.Cond.instanceMethod ({ cls := "DatumDesk$Nodes", name := "isOf", desc := "(II)Z" } : Jvm.MethodName)) ∈ TB := tb_of 420 rfl rfl
set_option maxRecDepth 20000 in
theorem w_421 : (Jvm.Cond.code ({ cls := "DatumDesk$Nodes", name := "isOf", desc := "(II)Z" } : Jvm.MethodName) prog_2_method_4_code (3 : Nat) (Option.some Jvm.ClassFile.FieldType.boolean)) ∈ TB := tb_of 421 rfl rfl
set_option maxRecDepth 20000 in
theorem w_426 : (Jvm.Cond.methodLinkNest "DatumDesk" (79 : Nat) ({ cls := "DatumDesk$Nodes", name := "headOf", desc := "(I)I" } : Jvm.MethodName) "DatumDesk") ∈ NWs := nw_of 426 rfl rfl
set_option maxRecDepth 20000 in
theorem w_428 : (Jvm.Cond.instanceMethod ({ cls := "DatumDesk$Nodes", name := "headOf", desc := "(I)I" } : Jvm.MethodName)) ∈ TB := tb_of 428 rfl rfl
set_option maxRecDepth 20000 in
theorem w_429 : (Jvm.Cond.code ({ cls := "DatumDesk$Nodes", name := "headOf", desc := "(I)I" } : Jvm.MethodName) prog_2_method_16_code (2 : Nat) (Option.some Jvm.ClassFile.FieldType.int)) ∈ TB := tb_of 429 rfl rfl
set_option maxRecDepth 20000 in
theorem w_430 : (Jvm.Cond.methodLinkNest "DatumDesk" (82 : Nat) ({ cls := "DatumDesk$Nodes", name := "tailOf", desc := "(I)I" } : Jvm.MethodName) "DatumDesk") ∈ NWs := nw_of 430 rfl rfl
set_option maxRecDepth 20000 in
theorem w_432 : (Jvm.Cond.instanceMethod ({ cls := "DatumDesk$Nodes", name := "tailOf", desc := "(I)I" } : Jvm.MethodName)) ∈ TB := tb_of 432 rfl rfl
set_option maxRecDepth 20000 in
theorem w_433 : (Jvm.Cond.code ({ cls := "DatumDesk$Nodes", name := "tailOf", desc := "(I)I" } : Jvm.MethodName) prog_2_method_17_code (2 : Nat) (Option.some Jvm.ClassFile.FieldType.int)) ∈ TB := tb_of 433 rfl rfl
set_option maxRecDepth 20000 in
theorem w_438 : (Jvm.Cond.methodLinkNest "DatumDesk" (85 : Nat) ({ cls := "DatumDesk$Nodes", name := "has", desc := "(I)Z" } : Jvm.MethodName) "DatumDesk") ∈ NWs := nw_of 438 rfl rfl
set_option maxRecDepth 20000 in
theorem w_439 : (Jvm.Cond.methodLinkNest "DatumDesk" (89 : Nat) ({ cls := "DatumDesk$Nodes", name := "alike", desc := "(III)Z" } : Jvm.MethodName) "DatumDesk") ∈ NWs := nw_of 439 rfl rfl
set_option maxRecDepth 20000 in
theorem w_441 : (Jvm.Cond.instanceMethod ({ cls := "DatumDesk$Nodes", name := "alike", desc := "(III)Z" } : Jvm.MethodName)) ∈ TB := tb_of 441 rfl rfl
set_option maxRecDepth 20000 in
theorem w_442 : (Jvm.Cond.code ({ cls := "DatumDesk$Nodes", name := "alike", desc := "(III)Z" } : Jvm.MethodName) prog_2_method_18_code (7 : Nat) (Option.some Jvm.ClassFile.FieldType.boolean)) ∈ TB := tb_of 442 rfl rfl
set_option maxRecDepth 20000 in
theorem w_443 : (Jvm.Cond.methodLink "DatumDesk$Nodes" (60 : Nat) ({ cls := "DatumDesk$Nodes", name := "kindOf", desc := "(I)I" } : Jvm.MethodName)) ∈ TB := tb_of 443 rfl rfl
set_option maxRecDepth 20000 in
theorem w_444 : (Jvm.Cond.methodLink "DatumDesk$Nodes" (64 : Nat) ({ cls := "DatumDesk$Nodes", name := "sameContent", desc := "(II)Z" } : Jvm.MethodName)) ∈ TB := tb_of 444 rfl rfl
set_option maxRecDepth 20000 in
theorem w_446 : (Jvm.Cond.instanceMethod ({ cls := "DatumDesk$Nodes", name := "sameContent", desc := "(II)Z" } : Jvm.MethodName)) ∈ TB := tb_of 446 rfl rfl
set_option maxRecDepth 20000 in
theorem w_447 : (Jvm.Cond.code ({ cls := "DatumDesk$Nodes", name := "sameContent", desc := "(II)Z" } : Jvm.MethodName) prog_2_method_19_code (5 : Nat) (Option.some Jvm.ClassFile.FieldType.boolean)) ∈ TB := tb_of 447 rfl rfl
set_option maxRecDepth 20000 in
theorem w_448 : (Jvm.Cond.methodLink "DatumDesk$Nodes" (71 : Nat) ({ cls := "DatumDesk$Nodes", name := "amountOf", desc := "(I)I" } : Jvm.MethodName)) ∈ TB := tb_of 448 rfl rfl
set_option maxRecDepth 20000 in
theorem w_449 : (Jvm.Cond.methodLink "DatumDesk$Nodes" (74 : Nat) ({ cls := "DatumDesk$Nodes", name := "byteOf", desc := "(II)I" } : Jvm.MethodName)) ∈ TB := tb_of 449 rfl rfl
set_option maxRecDepth 20000 in
theorem w_450 : (Jvm.Cond.methodLink "DatumDesk$Nodes" (67 : Nat) ({ cls := "DatumDesk$Nodes", name := "alike", desc := "(III)Z" } : Jvm.MethodName)) ∈ TB := tb_of 450 rfl rfl
set_option maxRecDepth 20000 in
theorem w_455 : (Jvm.Cond.methodLinkNest "DatumDesk" (93 : Nat) ({ cls := "DatumDesk$Writer", name := "writeNode", desc := "(II)V" } : Jvm.MethodName) "DatumDesk") ∈ NWs := nw_of 455 rfl rfl
set_option maxRecDepth 20000 in
theorem w_457 : (Jvm.Cond.instanceMethod ({ cls := "DatumDesk$Writer", name := "writeNode", desc := "(II)V" } : Jvm.MethodName)) ∈ TB := tb_of 457 rfl rfl
set_option maxRecDepth 20000 in
theorem w_458 : (Jvm.Cond.code ({ cls := "DatumDesk$Writer", name := "writeNode", desc := "(II)V" } : Jvm.MethodName) prog_7_method_2_code (3 : Nat) (Option.none : Option Jvm.ClassFile.FieldType)) ∈ TB := tb_of 458 rfl rfl
set_option maxRecDepth 20000 in
theorem w_459 : (Jvm.Cond.methodLinkNest "DatumDesk$Writer" (19 : Nat) ({ cls := "DatumDesk$Nodes", name := "kindOf", desc := "(I)I" } : Jvm.MethodName) "DatumDesk") ∈ NWs := nw_of 459 rfl rfl
set_option maxRecDepth 20000 in
theorem w_460 : (Jvm.Cond.methodLinkNest "DatumDesk$Writer" (25 : Nat) ({ cls := "DatumDesk$Nodes", name := "amountOf", desc := "(I)I" } : Jvm.MethodName) "DatumDesk") ∈ NWs := nw_of 460 rfl rfl
set_option maxRecDepth 20000 in
theorem w_461 : (Jvm.Cond.methodLink "DatumDesk$Writer" (28 : Nat) ({ cls := "DatumDesk$Writer", name := "writeNumber", desc := "(I)V" } : Jvm.MethodName)) ∈ TB := tb_of 461 rfl rfl
set_option maxRecDepth 20000 in
theorem w_463 : (Jvm.Cond.instanceMethod ({ cls := "DatumDesk$Writer", name := "writeNumber", desc := "(I)V" } : Jvm.MethodName)) ∈ TB := tb_of 463 rfl rfl
set_option maxRecDepth 20000 in
theorem w_464 : (Jvm.Cond.code ({ cls := "DatumDesk$Writer", name := "writeNumber", desc := "(I)V" } : Jvm.MethodName) prog_7_method_3_code (4 : Nat) (Option.none : Option Jvm.ClassFile.FieldType)) ∈ TB := tb_of 464 rfl rfl
set_option maxRecDepth 20000 in
theorem w_465 : (Jvm.Cond.methodLinkNest "DatumDesk$Writer" (42 : Nat) ({ cls := "DatumDesk$Waiting", name := "append", desc := "(I)V" } : Jvm.MethodName) "DatumDesk") ∈ NWs := nw_of 465 rfl rfl
set_option maxRecDepth 20000 in
theorem w_467 : (Jvm.Cond.instanceMethod ({ cls := "DatumDesk$Waiting", name := "append", desc := "(I)V" } : Jvm.MethodName)) ∈ TB := tb_of 467 rfl rfl
set_option maxRecDepth 20000 in
theorem w_468 : (Jvm.Cond.code ({ cls := "DatumDesk$Waiting", name := "append", desc := "(I)V" } : Jvm.MethodName) prog_6_method_2_code (3 : Nat) (Option.none : Option Jvm.ClassFile.FieldType)) ∈ TB := tb_of 468 rfl rfl
set_option maxRecDepth 20000 in
theorem w_469 : (Jvm.Cond.constant "DatumDesk$Writer" (47 : Nat) (100000000 : Int32)) ∈ TB := tb_of 469 rfl rfl
set_option maxRecDepth 20000 in
theorem w_470 : (Jvm.Cond.methodLink "DatumDesk$Writer" (32 : Nat) ({ cls := "DatumDesk$Writer", name := "writeName", desc := "(I)V" } : Jvm.MethodName)) ∈ TB := tb_of 470 rfl rfl
set_option maxRecDepth 20000 in
theorem w_472 : (Jvm.Cond.instanceMethod ({ cls := "DatumDesk$Writer", name := "writeName", desc := "(I)V" } : Jvm.MethodName)) ∈ TB := tb_of 472 rfl rfl
set_option maxRecDepth 20000 in
theorem w_473 : (Jvm.Cond.code ({ cls := "DatumDesk$Writer", name := "writeName", desc := "(I)V" } : Jvm.MethodName) prog_7_method_4_code (4 : Nat) (Option.none : Option Jvm.ClassFile.FieldType)) ∈ TB := tb_of 473 rfl rfl
set_option maxRecDepth 20000 in
theorem w_474 : (Jvm.Cond.methodLinkNest "DatumDesk$Writer" (48 : Nat) ({ cls := "DatumDesk$Nodes", name := "byteOf", desc := "(II)I" } : Jvm.MethodName) "DatumDesk") ∈ NWs := nw_of 474 rfl rfl
set_option maxRecDepth 20000 in
theorem w_475 : (Jvm.Cond.methodLink "DatumDesk$Writer" (35 : Nat) ({ cls := "DatumDesk$Writer", name := "writeString", desc := "(I)V" } : Jvm.MethodName)) ∈ TB := tb_of 475 rfl rfl
set_option maxRecDepth 20000 in
theorem w_477 : (Jvm.Cond.instanceMethod ({ cls := "DatumDesk$Writer", name := "writeString", desc := "(I)V" } : Jvm.MethodName)) ∈ TB := tb_of 477 rfl rfl
set_option maxRecDepth 20000 in
theorem w_478 : (Jvm.Cond.code ({ cls := "DatumDesk$Writer", name := "writeString", desc := "(I)V" } : Jvm.MethodName) prog_7_method_5_code (5 : Nat) (Option.none : Option Jvm.ClassFile.FieldType)) ∈ TB := tb_of 478 rfl rfl
set_option maxRecDepth 20000 in
theorem w_479 : (Jvm.Cond.methodLink "DatumDesk$Writer" (38 : Nat) ({ cls := "DatumDesk$Writer", name := "writePair", desc := "(II)V" } : Jvm.MethodName)) ∈ TB := tb_of 479 rfl rfl
set_option maxRecDepth 20000 in
theorem w_481 : (Jvm.Cond.instanceMethod ({ cls := "DatumDesk$Writer", name := "writePair", desc := "(II)V" } : Jvm.MethodName)) ∈ TB := tb_of 481 rfl rfl
set_option maxRecDepth 20000 in
theorem w_482 : (Jvm.Cond.code ({ cls := "DatumDesk$Writer", name := "writePair", desc := "(II)V" } : Jvm.MethodName) prog_7_method_6_code (6 : Nat) (Option.none : Option Jvm.ClassFile.FieldType)) ∈ TB := tb_of 482 rfl rfl
set_option maxRecDepth 20000 in
theorem w_483 : (Jvm.Cond.methodLinkNest "DatumDesk$Writer" (52 : Nat) ({ cls := "DatumDesk$Nodes", name := "quotedIn", desc := "(I)I" } : Jvm.MethodName) "DatumDesk") ∈ NWs := nw_of 483 rfl rfl
set_option maxRecDepth 20000 in
theorem w_485 : (Jvm.Cond.instanceMethod ({ cls := "DatumDesk$Nodes", name := "quotedIn", desc := "(I)I" } : Jvm.MethodName)) ∈ TB := tb_of 485 rfl rfl
set_option maxRecDepth 20000 in
theorem w_486 : (Jvm.Cond.code ({ cls := "DatumDesk$Nodes", name := "quotedIn", desc := "(I)I" } : Jvm.MethodName) prog_2_method_20_code (3 : Nat) (Option.some Jvm.ClassFile.FieldType.int)) ∈ TB := tb_of 486 rfl rfl
set_option maxRecDepth 20000 in
theorem w_487 : (Jvm.Cond.methodLink "DatumDesk$Nodes" (78 : Nat) ({ cls := "DatumDesk$Nodes", name := "tailOf", desc := "(I)I" } : Jvm.MethodName)) ∈ TB := tb_of 487 rfl rfl
set_option maxRecDepth 20000 in
theorem w_488 : (Jvm.Cond.methodLink "DatumDesk$Nodes" (81 : Nat) ({ cls := "DatumDesk$Nodes", name := "headOf", desc := "(I)I" } : Jvm.MethodName)) ∈ TB := tb_of 488 rfl rfl
set_option maxRecDepth 20000 in
theorem w_489 : (Jvm.Cond.methodLink "DatumDesk$Nodes" (84 : Nat) ({ cls := "DatumDesk$Nodes", name := "isQuoteName", desc := "(I)Z" } : Jvm.MethodName)) ∈ TB := tb_of 489 rfl rfl
set_option maxRecDepth 20000 in
theorem w_491 : (Jvm.Cond.instanceMethod ({ cls := "DatumDesk$Nodes", name := "isQuoteName", desc := "(I)Z" } : Jvm.MethodName)) ∈ TB := tb_of 491 rfl rfl
set_option maxRecDepth 20000 in
theorem w_492 : (Jvm.Cond.code ({ cls := "DatumDesk$Nodes", name := "isQuoteName", desc := "(I)Z" } : Jvm.MethodName) prog_2_method_21_code (3 : Nat) (Option.some Jvm.ClassFile.FieldType.boolean)) ∈ TB := tb_of 492 rfl rfl
set_option maxRecDepth 20000 in
theorem w_493 : (Jvm.Cond.methodLink "DatumDesk$Writer" (55 : Nat) ({ cls := "DatumDesk$Writer", name := "writeNode", desc := "(II)V" } : Jvm.MethodName)) ∈ TB := tb_of 493 rfl rfl
set_option maxRecDepth 20000 in
theorem w_494 : (Jvm.Cond.methodLinkNest "DatumDesk$Writer" (58 : Nat) ({ cls := "DatumDesk$Nodes", name := "headOf", desc := "(I)I" } : Jvm.MethodName) "DatumDesk") ∈ NWs := nw_of 494 rfl rfl
set_option maxRecDepth 20000 in
theorem w_495 : (Jvm.Cond.methodLinkNest "DatumDesk$Writer" (61 : Nat) ({ cls := "DatumDesk$Nodes", name := "tailOf", desc := "(I)I" } : Jvm.MethodName) "DatumDesk") ∈ NWs := nw_of 495 rfl rfl
set_option maxRecDepth 20000 in
theorem w_500 : (Jvm.Cond.methodLink "DatumDesk" (100 : Nat) ({ cls := "java/lang/Math", name := "min", desc := "(II)I" } : Jvm.MethodName)) ∈ TB := tb_of 500 rfl rfl
set_option maxRecDepth 20000 in
theorem w_501 : (Jvm.Cond.static ({ cls := "java/lang/Math", name := "min", desc := "(II)I" } : Jvm.MethodName)) ∈ TB := tb_of 501 rfl rfl
set_option maxRecDepth 20000 in
theorem w_502 : (Jvm.Cond.code ({ cls := "java/lang/Math", name := "min", desc := "(II)I" } : Jvm.MethodName) prog_10_method_69_code (2 : Nat) (Option.some Jvm.ClassFile.FieldType.int)) ∈ TB := tb_of 502 rfl rfl
set_option maxRecDepth 20000 in
theorem w_503 : (Jvm.Cond.methodLinkNest "DatumDesk" (105 : Nat) ({ cls := "DatumDesk$Waiting", name := "take", desc := "()I" } : Jvm.MethodName) "DatumDesk") ∈ NWs := nw_of 503 rfl rfl
set_option maxRecDepth 20000 in
theorem w_505 : (Jvm.Cond.instanceMethod ({ cls := "DatumDesk$Waiting", name := "take", desc := "()I" } : Jvm.MethodName)) ∈ TB := tb_of 505 rfl rfl
set_option maxRecDepth 20000 in
theorem w_506 : (Jvm.Cond.code ({ cls := "DatumDesk$Waiting", name := "take", desc := "()I" } : Jvm.MethodName) prog_6_method_3_code (2 : Nat) (Option.some Jvm.ClassFile.FieldType.int)) ∈ TB := tb_of 506 rfl rfl
set_option maxRecDepth 20000 in
theorem w_517 : (Jvm.Cond.fieldLink "DatumDeskModel" (7 : Nat) "DatumDeskModel" "text" "[I") ∈ TB := tb_of 517 rfl rfl
set_option maxRecDepth 20000 in
theorem w_518 : (Jvm.Cond.fieldLink "DatumDeskModel" (53 : Nat) "DatumDeskModel" "size" "I") ∈ TB := tb_of 518 rfl rfl
set_option maxRecDepth 20000 in
theorem w_519 : (Jvm.Cond.fieldLink "DatumDeskModel" (56 : Nat) "DatumDeskModel" "at" "I") ∈ TB := tb_of 519 rfl rfl
set_option maxRecDepth 20000 in
theorem w_520 : (Jvm.Cond.fieldLink "DatumDeskModel" (73 : Nat) "DatumDeskModel" "place" "I") ∈ TB := tb_of 520 rfl rfl
set_option maxRecDepth 20000 in
theorem w_521 : (Jvm.Cond.fieldLink "DatumDeskModel" (13 : Nat) "DatumDeskModel" "fault" "I") ∈ TB := tb_of 521 rfl rfl
set_option maxRecDepth 20000 in
theorem w_522 : (Jvm.Cond.fieldLink "DatumDeskModel" (83 : Nat) "DatumDeskModel" "nodes" "I") ∈ TB := tb_of 522 rfl rfl
set_option maxRecDepth 20000 in
theorem w_523 : (Jvm.Cond.fieldLink "DatumDeskModel" (17 : Nat) "DatumDeskModel" "kinds" "[I") ∈ TB := tb_of 523 rfl rfl
set_option maxRecDepth 20000 in
theorem w_524 : (Jvm.Cond.fieldLink "DatumDeskModel" (20 : Nat) "DatumDeskModel" "values" "[I") ∈ TB := tb_of 524 rfl rfl
set_option maxRecDepth 20000 in
theorem w_525 : (Jvm.Cond.fieldLink "DatumDeskModel" (23 : Nat) "DatumDeskModel" "bytes" "[I") ∈ TB := tb_of 525 rfl rfl
set_option maxRecDepth 20000 in
theorem w_526 : (Jvm.Cond.fieldLink "DatumDeskModel" (26 : Nat) "DatumDeskModel" "heads" "[I") ∈ TB := tb_of 526 rfl rfl
set_option maxRecDepth 20000 in
theorem w_527 : (Jvm.Cond.fieldLink "DatumDeskModel" (29 : Nat) "DatumDeskModel" "tails" "[I") ∈ TB := tb_of 527 rfl rfl
set_option maxRecDepth 20000 in
theorem w_528 : (Jvm.Cond.fieldLink "DatumDeskModel" (100 : Nat) "DatumDeskModel" "data" "I") ∈ TB := tb_of 528 rfl rfl
set_option maxRecDepth 20000 in
theorem w_529 : (Jvm.Cond.fieldLink "DatumDeskModel" (32 : Nat) "DatumDeskModel" "datums" "[I") ∈ TB := tb_of 529 rfl rfl
set_option maxRecDepth 20000 in
theorem w_530 : (Jvm.Cond.fieldLink "DatumDeskModel" (97 : Nat) "DatumDeskModel" "open" "I") ∈ TB := tb_of 530 rfl rfl
set_option maxRecDepth 20000 in
theorem w_531 : (Jvm.Cond.fieldLink "DatumDeskModel" (35 : Nat) "DatumDeskModel" "firsts" "[I") ∈ TB := tb_of 531 rfl rfl
set_option maxRecDepth 20000 in
theorem w_532 : (Jvm.Cond.fieldLink "DatumDeskModel" (38 : Nat) "DatumDeskModel" "lasts" "[I") ∈ TB := tb_of 532 rfl rfl
set_option maxRecDepth 20000 in
theorem w_533 : (Jvm.Cond.fieldLink "DatumDeskModel" (41 : Nat) "DatumDeskModel" "states" "[I") ∈ TB := tb_of 533 rfl rfl
set_option maxRecDepth 20000 in
theorem w_534 : (Jvm.Cond.fieldLink "DatumDeskModel" (44 : Nat) "DatumDeskModel" "written" "[I") ∈ TB := tb_of 534 rfl rfl
set_option maxRecDepth 20000 in
theorem w_535 : (Jvm.Cond.fieldLink "DatumDeskModel" (137 : Nat) "DatumDeskModel" "waits" "I") ∈ TB := tb_of 535 rfl rfl
set_option maxRecDepth 20000 in
theorem w_536 : (Jvm.Cond.fieldLink "DatumDeskModel" (47 : Nat) "DatumDeskModel" "ones" "[I") ∈ TB := tb_of 536 rfl rfl
set_option maxRecDepth 20000 in
theorem w_537 : (Jvm.Cond.fieldLink "DatumDeskModel" (50 : Nat) "DatumDeskModel" "others" "[I") ∈ TB := tb_of 537 rfl rfl
set_option maxRecDepth 20000 in
theorem w_589 : (Jvm.Cond.methodLink "DatumDeskModel" (117 : Nat) ({ cls := "DatumDeskModel", name := "token", desc := "()I" } : Jvm.MethodName)) ∈ TB := tb_of 589 rfl rfl
set_option maxRecDepth 20000 in
theorem w_591 : (Jvm.Cond.instanceMethod ({ cls := "DatumDeskModel", name := "token", desc := "()I" } : Jvm.MethodName)) ∈ TB := tb_of 591 rfl rfl
set_option maxRecDepth 20000 in
theorem w_592 : (Jvm.Cond.code ({ cls := "DatumDeskModel", name := "token", desc := "()I" } : Jvm.MethodName) prog_9_method_8_code (5 : Nat) (Option.some Jvm.ClassFile.FieldType.int)) ∈ TB := tb_of 592 rfl rfl
set_option maxRecDepth 20000 in
theorem w_593 : (Jvm.Cond.methodLink "DatumDeskModel" (70 : Nat) ({ cls := "DatumDeskModel", name := "skip", desc := "()V" } : Jvm.MethodName)) ∈ TB := tb_of 593 rfl rfl
set_option maxRecDepth 20000 in
theorem w_595 : (Jvm.Cond.instanceMethod ({ cls := "DatumDeskModel", name := "skip", desc := "()V" } : Jvm.MethodName)) ∈ TB := tb_of 595 rfl rfl
set_option maxRecDepth 20000 in
theorem w_596 : (Jvm.Cond.code ({ cls := "DatumDeskModel", name := "skip", desc := "()V" } : Jvm.MethodName) prog_9_method_7_code (3 : Nat) (Option.none : Option Jvm.ClassFile.FieldType)) ∈ TB := tb_of 596 rfl rfl
set_option maxRecDepth 20000 in
theorem w_597 : (Jvm.Cond.methodLink "DatumDeskModel" (66 : Nat) ({ cls := "DatumDeskModel", name := "peek", desc := "(I)I" } : Jvm.MethodName)) ∈ TB := tb_of 597 rfl rfl
set_option maxRecDepth 20000 in
theorem w_599 : (Jvm.Cond.instanceMethod ({ cls := "DatumDeskModel", name := "peek", desc := "(I)I" } : Jvm.MethodName)) ∈ TB := tb_of 599 rfl rfl
set_option maxRecDepth 20000 in
theorem w_600 : (Jvm.Cond.code ({ cls := "DatumDeskModel", name := "peek", desc := "(I)I" } : Jvm.MethodName) prog_9_method_3_code (2 : Nat) (Option.some Jvm.ClassFile.FieldType.int)) ∈ TB := tb_of 600 rfl rfl
set_option maxRecDepth 20000 in
theorem w_601 : (Jvm.Cond.methodLink "DatumDeskModel" (76 : Nat) ({ cls := "DatumDeskModel", name := "isByte", desc := "(I)Z" } : Jvm.MethodName)) ∈ TB := tb_of 601 rfl rfl
set_option maxRecDepth 20000 in
theorem w_602 : (Jvm.Cond.static ({ cls := "DatumDeskModel", name := "isByte", desc := "(I)Z" } : Jvm.MethodName)) ∈ TB := tb_of 602 rfl rfl
set_option maxRecDepth 20000 in
theorem w_603 : (Jvm.Cond.code ({ cls := "DatumDeskModel", name := "isByte", desc := "(I)Z" } : Jvm.MethodName) prog_9_method_6_code (1 : Nat) (Option.some Jvm.ClassFile.FieldType.boolean)) ∈ TB := tb_of 603 rfl rfl
set_option maxRecDepth 20000 in
theorem w_604 : (Jvm.Cond.methodLink "DatumDeskModel" (59 : Nat) ({ cls := "DatumDeskModel", name := "isBegin", desc := "(I)Z" } : Jvm.MethodName)) ∈ TB := tb_of 604 rfl rfl
set_option maxRecDepth 20000 in
theorem w_605 : (Jvm.Cond.static ({ cls := "DatumDeskModel", name := "isBegin", desc := "(I)Z" } : Jvm.MethodName)) ∈ TB := tb_of 605 rfl rfl
set_option maxRecDepth 20000 in
theorem w_606 : (Jvm.Cond.code ({ cls := "DatumDeskModel", name := "isBegin", desc := "(I)Z" } : Jvm.MethodName) prog_9_method_5_code (1 : Nat) (Option.some Jvm.ClassFile.FieldType.boolean)) ∈ TB := tb_of 606 rfl rfl
set_option maxRecDepth 20000 in
theorem w_607 : (Jvm.Cond.methodLink "DatumDeskModel" (63 : Nat) ({ cls := "DatumDeskModel", name := "isDigit", desc := "(I)Z" } : Jvm.MethodName)) ∈ TB := tb_of 607 rfl rfl
set_option maxRecDepth 20000 in
theorem w_608 : (Jvm.Cond.static ({ cls := "DatumDeskModel", name := "isDigit", desc := "(I)Z" } : Jvm.MethodName)) ∈ TB := tb_of 608 rfl rfl
set_option maxRecDepth 20000 in
theorem w_609 : (Jvm.Cond.code ({ cls := "DatumDeskModel", name := "isDigit", desc := "(I)Z" } : Jvm.MethodName) prog_9_method_4_code (1 : Nat) (Option.some Jvm.ClassFile.FieldType.boolean)) ∈ TB := tb_of 609 rfl rfl
set_option maxRecDepth 20000 in
theorem w_610 : (Jvm.Cond.methodLink "DatumDeskModel" (79 : Nat) ({ cls := "DatumDeskModel", name := "string", desc := "()I" } : Jvm.MethodName)) ∈ TB := tb_of 610 rfl rfl
set_option maxRecDepth 20000 in
theorem w_612 : (Jvm.Cond.instanceMethod ({ cls := "DatumDeskModel", name := "string", desc := "()I" } : Jvm.MethodName)) ∈ TB := tb_of 612 rfl rfl
set_option maxRecDepth 20000 in
theorem w_613 : (Jvm.Cond.code ({ cls := "DatumDeskModel", name := "string", desc := "()I" } : Jvm.MethodName) prog_9_method_9_code (4 : Nat) (Option.some Jvm.ClassFile.FieldType.int)) ∈ TB := tb_of 613 rfl rfl
set_option maxRecDepth 20000 in
theorem w_614 : (Jvm.Cond.methodLink "DatumDeskModel" (86 : Nat) ({ cls := "DatumDeskModel", name := "fail", desc := "(I)V" } : Jvm.MethodName)) ∈ TB := tb_of 614 rfl rfl
set_option maxRecDepth 20000 in
theorem w_616 : (Jvm.Cond.instanceMethod ({ cls := "DatumDeskModel", name := "fail", desc := "(I)V" } : Jvm.MethodName)) ∈ TB := tb_of 616 rfl rfl
set_option maxRecDepth 20000 in
theorem w_617 : (Jvm.Cond.code ({ cls := "DatumDeskModel", name := "fail", desc := "(I)V" } : Jvm.MethodName) prog_9_method_11_code (2 : Nat) (Option.none : Option Jvm.ClassFile.FieldType)) ∈ TB := tb_of 617 rfl rfl
set_option maxRecDepth 20000 in
theorem w_618 : (Jvm.Cond.methodLink "DatumDeskModel" (120 : Nat) ({ cls := "DatumDeskModel", name := "opens", desc := "(Z)V" } : Jvm.MethodName)) ∈ TB := tb_of 618 rfl rfl
set_option maxRecDepth 20000 in
theorem w_620 : (Jvm.Cond.instanceMethod ({ cls := "DatumDeskModel", name := "opens", desc := "(Z)V" } : Jvm.MethodName)) ∈ TB := tb_of 620 rfl rfl
set_option maxRecDepth 20000 in
theorem w_621 : (Jvm.Cond.code ({ cls := "DatumDeskModel", name := "opens", desc := "(Z)V" } : Jvm.MethodName) prog_9_method_16_code (6 : Nat) (Option.none : Option Jvm.ClassFile.FieldType)) ∈ TB := tb_of 621 rfl rfl
set_option maxRecDepth 20000 in
theorem w_622 : (Jvm.Cond.methodLink "DatumDeskModel" (103 : Nat) ({ cls := "DatumDeskModel", name := "begin", desc := "()V" } : Jvm.MethodName)) ∈ TB := tb_of 622 rfl rfl
set_option maxRecDepth 20000 in
theorem w_624 : (Jvm.Cond.instanceMethod ({ cls := "DatumDeskModel", name := "begin", desc := "()V" } : Jvm.MethodName)) ∈ TB := tb_of 624 rfl rfl
set_option maxRecDepth 20000 in
theorem w_625 : (Jvm.Cond.code ({ cls := "DatumDeskModel", name := "begin", desc := "()V" } : Jvm.MethodName) prog_9_method_14_code (3 : Nat) (Option.none : Option Jvm.ClassFile.FieldType)) ∈ TB := tb_of 625 rfl rfl
set_option maxRecDepth 20000 in
theorem w_626 : (Jvm.Cond.methodLink "DatumDeskModel" (90 : Nat) ({ cls := "DatumDeskModel", name := "node", desc := "(I)I" } : Jvm.MethodName)) ∈ TB := tb_of 626 rfl rfl
set_option maxRecDepth 20000 in
theorem w_628 : (Jvm.Cond.instanceMethod ({ cls := "DatumDeskModel", name := "node", desc := "(I)I" } : Jvm.MethodName)) ∈ TB := tb_of 628 rfl rfl
set_option maxRecDepth 20000 in
theorem w_629 : (Jvm.Cond.code ({ cls := "DatumDeskModel", name := "node", desc := "(I)I" } : Jvm.MethodName) prog_9_method_10_code (2 : Nat) (Option.some Jvm.ClassFile.FieldType.int)) ∈ TB := tb_of 629 rfl rfl
set_option maxRecDepth 20000 in
theorem w_631 : (Jvm.Cond.methodLink "DatumDeskModel" (108 : Nat) ({ cls := "java/lang/String", name := "charAt", desc := "(I)C" } : Jvm.MethodName)) ∈ TB := tb_of 631 rfl rfl
set_option maxRecDepth 20000 in
theorem w_632 : (Jvm.Cond.instanceMethod ({ cls := "java/lang/String", name := "charAt", desc := "(I)C" } : Jvm.MethodName)) ∈ TB := tb_of 632 rfl rfl
set_option maxRecDepth 20000 in
theorem w_633 : (Jvm.Cond.selects "java/lang/String" ({ cls := "java/lang/String", name := "charAt", desc := "(I)C" } : Jvm.MethodName) ({ cls := "java/lang/String", name := "charAt", desc := "(I)C" } : Jvm.MethodName)) ∈ TB := tb_of 633 rfl rfl
set_option maxRecDepth 20000 in
theorem w_634 : (Jvm.Cond.code ({ cls := "java/lang/String", name := "charAt", desc := "(I)C" } : Jvm.MethodName) prog_11_method_56_code (2 : Nat) (Option.some Jvm.ClassFile.FieldType.char)) ∈ TB := tb_of 634 rfl rfl
set_option maxRecDepth 20000 in
theorem w_671 : (Jvm.Cond.methodLink "DatumDeskModel" (93 : Nat) ({ cls := "DatumDeskModel", name := "letter", desc := "(II)V" } : Jvm.MethodName)) ∈ TB := tb_of 671 rfl rfl
set_option maxRecDepth 20000 in
theorem w_673 : (Jvm.Cond.instanceMethod ({ cls := "DatumDeskModel", name := "letter", desc := "(II)V" } : Jvm.MethodName)) ∈ TB := tb_of 673 rfl rfl
set_option maxRecDepth 20000 in
theorem w_674 : (Jvm.Cond.code ({ cls := "DatumDeskModel", name := "letter", desc := "(II)V" } : Jvm.MethodName) prog_9_method_12_code (3 : Nat) (Option.none : Option Jvm.ClassFile.FieldType)) ∈ TB := tb_of 674 rfl rfl
set_option maxRecDepth 20000 in
theorem w_675 : (Jvm.Cond.methodLink "DatumDeskModel" (124 : Nat) ({ cls := "DatumDeskModel", name := "closes", desc := "()V" } : Jvm.MethodName)) ∈ TB := tb_of 675 rfl rfl
set_option maxRecDepth 20000 in
theorem w_677 : (Jvm.Cond.instanceMethod ({ cls := "DatumDeskModel", name := "closes", desc := "()V" } : Jvm.MethodName)) ∈ TB := tb_of 677 rfl rfl
set_option maxRecDepth 20000 in
theorem w_678 : (Jvm.Cond.code ({ cls := "DatumDeskModel", name := "closes", desc := "()V" } : Jvm.MethodName) prog_9_method_17_code (6 : Nat) (Option.none : Option Jvm.ClassFile.FieldType)) ∈ TB := tb_of 678 rfl rfl
set_option maxRecDepth 20000 in
theorem w_679 : (Jvm.Cond.methodLink "DatumDeskModel" (114 : Nat) ({ cls := "DatumDeskModel", name := "end", desc := "(I)V" } : Jvm.MethodName)) ∈ TB := tb_of 679 rfl rfl
set_option maxRecDepth 20000 in
theorem w_681 : (Jvm.Cond.instanceMethod ({ cls := "DatumDeskModel", name := "end", desc := "(I)V" } : Jvm.MethodName)) ∈ TB := tb_of 681 rfl rfl
set_option maxRecDepth 20000 in
theorem w_682 : (Jvm.Cond.code ({ cls := "DatumDeskModel", name := "end", desc := "(I)V" } : Jvm.MethodName) prog_9_method_15_code (4 : Nat) (Option.none : Option Jvm.ClassFile.FieldType)) ∈ TB := tb_of 682 rfl rfl
set_option maxRecDepth 20000 in
theorem w_683 : (Jvm.Cond.methodLink "DatumDeskModel" (127 : Nat) ({ cls := "DatumDeskModel", name := "atom", desc := "(I)I" } : Jvm.MethodName)) ∈ TB := tb_of 683 rfl rfl
set_option maxRecDepth 20000 in
theorem w_685 : (Jvm.Cond.instanceMethod ({ cls := "DatumDeskModel", name := "atom", desc := "(I)I" } : Jvm.MethodName)) ∈ TB := tb_of 685 rfl rfl
set_option maxRecDepth 20000 in
theorem w_686 : (Jvm.Cond.code ({ cls := "DatumDeskModel", name := "atom", desc := "(I)I" } : Jvm.MethodName) prog_9_method_13_code (7 : Nat) (Option.some Jvm.ClassFile.FieldType.int)) ∈ TB := tb_of 686 rfl rfl
set_option maxRecDepth 20000 in
theorem w_700 : (Jvm.Cond.methodLink "DatumDeskModel" (130 : Nat) ({ cls := "DatumDeskModel", name := "isNode", desc := "(I)Z" } : Jvm.MethodName)) ∈ TB := tb_of 700 rfl rfl
set_option maxRecDepth 20000 in
theorem w_702 : (Jvm.Cond.instanceMethod ({ cls := "DatumDeskModel", name := "isNode", desc := "(I)Z" } : Jvm.MethodName)) ∈ TB := tb_of 702 rfl rfl
set_option maxRecDepth 20000 in
theorem w_703 : (Jvm.Cond.code ({ cls := "DatumDeskModel", name := "isNode", desc := "(I)Z" } : Jvm.MethodName) prog_9_method_20_code (2 : Nat) (Option.some Jvm.ClassFile.FieldType.boolean)) ∈ TB := tb_of 703 rfl rfl
set_option maxRecDepth 20000 in
theorem w_720 : (Jvm.Cond.methodLink "DatumDeskModel" (133 : Nat) ({ cls := "DatumDeskModel", name := "same", desc := "(II)Z" } : Jvm.MethodName)) ∈ TB := tb_of 720 rfl rfl
set_option maxRecDepth 20000 in
theorem w_722 : (Jvm.Cond.instanceMethod ({ cls := "DatumDeskModel", name := "same", desc := "(II)Z" } : Jvm.MethodName)) ∈ TB := tb_of 722 rfl rfl
set_option maxRecDepth 20000 in
theorem w_723 : (Jvm.Cond.code ({ cls := "DatumDeskModel", name := "same", desc := "(II)Z" } : Jvm.MethodName) prog_9_method_26_code (6 : Nat) (Option.some Jvm.ClassFile.FieldType.boolean)) ∈ TB := tb_of 723 rfl rfl
set_option maxRecDepth 20000 in
theorem w_728 : (Jvm.Cond.methodLink "DatumDeskModel" (152 : Nat) ({ cls := "DatumDeskModel", name := "step", desc := "(II)I" } : Jvm.MethodName)) ∈ TB := tb_of 728 rfl rfl
set_option maxRecDepth 20000 in
theorem w_730 : (Jvm.Cond.instanceMethod ({ cls := "DatumDeskModel", name := "step", desc := "(II)I" } : Jvm.MethodName)) ∈ TB := tb_of 730 rfl rfl
set_option maxRecDepth 20000 in
theorem w_731 : (Jvm.Cond.code ({ cls := "DatumDeskModel", name := "step", desc := "(II)I" } : Jvm.MethodName) prog_9_method_32_code (5 : Nat) (Option.some Jvm.ClassFile.FieldType.int)) ∈ TB := tb_of 731 rfl rfl
set_option maxRecDepth 20000 in
theorem w_732 : (Jvm.Cond.methodLink "DatumDeskModel" (140 : Nat) ({ cls := "DatumDeskModel", name := "say", desc := "(I)V" } : Jvm.MethodName)) ∈ TB := tb_of 732 rfl rfl
set_option maxRecDepth 20000 in
theorem w_734 : (Jvm.Cond.instanceMethod ({ cls := "DatumDeskModel", name := "say", desc := "(I)V" } : Jvm.MethodName)) ∈ TB := tb_of 734 rfl rfl
set_option maxRecDepth 20000 in
theorem w_735 : (Jvm.Cond.code ({ cls := "DatumDeskModel", name := "say", desc := "(I)V" } : Jvm.MethodName) prog_9_method_28_code (2 : Nat) (Option.none : Option Jvm.ClassFile.FieldType)) ∈ TB := tb_of 735 rfl rfl
set_option maxRecDepth 20000 in
theorem w_736 : (Jvm.Cond.methodLink "DatumDeskModel" (143 : Nat) ({ cls := "DatumDeskModel", name := "isQuote", desc := "(I)Z" } : Jvm.MethodName)) ∈ TB := tb_of 736 rfl rfl
set_option maxRecDepth 20000 in
theorem w_738 : (Jvm.Cond.instanceMethod ({ cls := "DatumDeskModel", name := "isQuote", desc := "(I)Z" } : Jvm.MethodName)) ∈ TB := tb_of 738 rfl rfl
set_option maxRecDepth 20000 in
theorem w_739 : (Jvm.Cond.code ({ cls := "DatumDeskModel", name := "isQuote", desc := "(I)Z" } : Jvm.MethodName) prog_9_method_31_code (5 : Nat) (Option.some Jvm.ClassFile.FieldType.boolean)) ∈ TB := tb_of 739 rfl rfl
set_option maxRecDepth 20000 in
theorem w_740 : (Jvm.Cond.methodLink "DatumDeskModel" (146 : Nat) ({ cls := "DatumDeskModel", name := "number", desc := "(I)V" } : Jvm.MethodName)) ∈ TB := tb_of 740 rfl rfl
set_option maxRecDepth 20000 in
theorem w_742 : (Jvm.Cond.instanceMethod ({ cls := "DatumDeskModel", name := "number", desc := "(I)V" } : Jvm.MethodName)) ∈ TB := tb_of 742 rfl rfl
set_option maxRecDepth 20000 in
theorem w_743 : (Jvm.Cond.code ({ cls := "DatumDeskModel", name := "number", desc := "(I)V" } : Jvm.MethodName) prog_9_method_29_code (4 : Nat) (Option.none : Option Jvm.ClassFile.FieldType)) ∈ TB := tb_of 743 rfl rfl
set_option maxRecDepth 20000 in
theorem w_744 : (Jvm.Cond.methodLink "DatumDeskModel" (149 : Nat) ({ cls := "DatumDeskModel", name := "letters", desc := "(I)V" } : Jvm.MethodName)) ∈ TB := tb_of 744 rfl rfl
set_option maxRecDepth 20000 in
theorem w_746 : (Jvm.Cond.instanceMethod ({ cls := "DatumDeskModel", name := "letters", desc := "(I)V" } : Jvm.MethodName)) ∈ TB := tb_of 746 rfl rfl
set_option maxRecDepth 20000 in
theorem w_747 : (Jvm.Cond.code ({ cls := "DatumDeskModel", name := "letters", desc := "(I)V" } : Jvm.MethodName) prog_9_method_30_code (5 : Nat) (Option.none : Option Jvm.ClassFile.FieldType)) ∈ TB := tb_of 747 rfl rfl
def Y_Desk_init : aY := (⟨"DatumDesk", "<init>", "()V"⟩, prog_1_method_1_code, 1, none)
theorem hy_Desk_init : Y_Desk_init.1.cls ≠ "java/lang/invoke/MethodHandle" ∧ Y_Desk_init.1.cls ≠ "java/lang/invoke/VarHandle" ∧ (parseMethodDescriptor Y_Desk_init.1.desc).map (fun d => d.parameters.length) = some 0 := by decide +kernel
def Y_Desk_put : aY := (⟨"DatumDesk", "put", "(JI)Z"⟩, prog_1_method_2_code, 5, some .boolean)
theorem hy_Desk_put : Y_Desk_put.1.cls ≠ "java/lang/invoke/MethodHandle" ∧ Y_Desk_put.1.cls ≠ "java/lang/invoke/VarHandle" ∧ (parseMethodDescriptor Y_Desk_put.1.desc).map (fun d => d.parameters.length) = some 2 := by decide +kernel
def Y_Desk_read : aY := (⟨"DatumDesk", "read", "()I"⟩, prog_1_method_3_code, 1, some .int)
theorem hy_Desk_read : Y_Desk_read.1.cls ≠ "java/lang/invoke/MethodHandle" ∧ Y_Desk_read.1.cls ≠ "java/lang/invoke/VarHandle" ∧ (parseMethodDescriptor Y_Desk_read.1.desc).map (fun d => d.parameters.length) = some 0 := by decide +kernel
def Y_Desk_place : aY := (⟨"DatumDesk", "place", "()I"⟩, prog_1_method_4_code, 1, some .int)
theorem hy_Desk_place : Y_Desk_place.1.cls ≠ "java/lang/invoke/MethodHandle" ∧ Y_Desk_place.1.cls ≠ "java/lang/invoke/VarHandle" ∧ (parseMethodDescriptor Y_Desk_place.1.desc).map (fun d => d.parameters.length) = some 0 := by decide +kernel
def Y_Desk_datum : aY := (⟨"DatumDesk", "datum", "(I)I"⟩, prog_1_method_5_code, 2, some .int)
theorem hy_Desk_datum : Y_Desk_datum.1.cls ≠ "java/lang/invoke/MethodHandle" ∧ Y_Desk_datum.1.cls ≠ "java/lang/invoke/VarHandle" ∧ (parseMethodDescriptor Y_Desk_datum.1.desc).map (fun d => d.parameters.length) = some 1 := by decide +kernel
def Y_Desk_kind : aY := (⟨"DatumDesk", "kind", "(I)I"⟩, prog_1_method_6_code, 2, some .int)
theorem hy_Desk_kind : Y_Desk_kind.1.cls ≠ "java/lang/invoke/MethodHandle" ∧ Y_Desk_kind.1.cls ≠ "java/lang/invoke/VarHandle" ∧ (parseMethodDescriptor Y_Desk_kind.1.desc).map (fun d => d.parameters.length) = some 1 := by decide +kernel
def Y_Desk_value : aY := (⟨"DatumDesk", "value", "(I)I"⟩, prog_1_method_7_code, 2, some .int)
theorem hy_Desk_value : Y_Desk_value.1.cls ≠ "java/lang/invoke/MethodHandle" ∧ Y_Desk_value.1.cls ≠ "java/lang/invoke/VarHandle" ∧ (parseMethodDescriptor Y_Desk_value.1.desc).map (fun d => d.parameters.length) = some 1 := by decide +kernel
def Y_Desk_byteAt : aY := (⟨"DatumDesk", "byteAt", "(II)I"⟩, prog_1_method_8_code, 3, some .int)
theorem hy_Desk_byteAt : Y_Desk_byteAt.1.cls ≠ "java/lang/invoke/MethodHandle" ∧ Y_Desk_byteAt.1.cls ≠ "java/lang/invoke/VarHandle" ∧ (parseMethodDescriptor Y_Desk_byteAt.1.desc).map (fun d => d.parameters.length) = some 2 := by decide +kernel
def Y_Desk_part : aY := (⟨"DatumDesk", "part", "(II)I"⟩, prog_1_method_9_code, 3, some .int)
theorem hy_Desk_part : Y_Desk_part.1.cls ≠ "java/lang/invoke/MethodHandle" ∧ Y_Desk_part.1.cls ≠ "java/lang/invoke/VarHandle" ∧ (parseMethodDescriptor Y_Desk_part.1.desc).map (fun d => d.parameters.length) = some 2 := by decide +kernel
def Y_Desk_like : aY := (⟨"DatumDesk", "like", "(II)Z"⟩, prog_1_method_10_code, 3, some .boolean)
theorem hy_Desk_like : Y_Desk_like.1.cls ≠ "java/lang/invoke/MethodHandle" ∧ Y_Desk_like.1.cls ≠ "java/lang/invoke/VarHandle" ∧ (parseMethodDescriptor Y_Desk_like.1.desc).map (fun d => d.parameters.length) = some 2 := by decide +kernel
def Y_Desk_write : aY := (⟨"DatumDesk", "write", "(I)Z"⟩, prog_1_method_11_code, 2, some .boolean)
theorem hy_Desk_write : Y_Desk_write.1.cls ≠ "java/lang/invoke/MethodHandle" ∧ Y_Desk_write.1.cls ≠ "java/lang/invoke/VarHandle" ∧ (parseMethodDescriptor Y_Desk_write.1.desc).map (fun d => d.parameters.length) = some 1 := by decide +kernel
def Y_Desk_fetch : aY := (⟨"DatumDesk", "fetch", "()J"⟩, prog_1_method_12_code, 5, some .long)
theorem hy_Desk_fetch : Y_Desk_fetch.1.cls ≠ "java/lang/invoke/MethodHandle" ∧ Y_Desk_fetch.1.cls ≠ "java/lang/invoke/VarHandle" ∧ (parseMethodDescriptor Y_Desk_fetch.1.desc).map (fun d => d.parameters.length) = some 0 := by decide +kernel
def Y_Desk_count : aY := (⟨"DatumDesk", "count", "(I)I"⟩, prog_1_method_13_code, 2, some .int)
theorem hy_Desk_count : Y_Desk_count.1.cls ≠ "java/lang/invoke/MethodHandle" ∧ Y_Desk_count.1.cls ≠ "java/lang/invoke/VarHandle" ∧ (parseMethodDescriptor Y_Desk_count.1.desc).map (fun d => d.parameters.length) = some 1 := by decide +kernel
def Y_Model_init : aY := (⟨"DatumDeskModel", "<init>", "()V"⟩, prog_9_method_1_code, 1, none)
theorem hy_Model_init : Y_Model_init.1.cls ≠ "java/lang/invoke/MethodHandle" ∧ Y_Model_init.1.cls ≠ "java/lang/invoke/VarHandle" ∧ (parseMethodDescriptor Y_Model_init.1.desc).map (fun d => d.parameters.length) = some 0 := by decide +kernel
def Y_Model_put : aY := (⟨"DatumDeskModel", "put", "(JI)Z"⟩, prog_9_method_2_code, 5, some .boolean)
theorem hy_Model_put : Y_Model_put.1.cls ≠ "java/lang/invoke/MethodHandle" ∧ Y_Model_put.1.cls ≠ "java/lang/invoke/VarHandle" ∧ (parseMethodDescriptor Y_Model_put.1.desc).map (fun d => d.parameters.length) = some 2 := by decide +kernel
def Y_Model_peek : aY := (⟨"DatumDeskModel", "peek", "(I)I"⟩, prog_9_method_3_code, 2, some .int)
theorem hy_Model_peek : Y_Model_peek.1.cls ≠ "java/lang/invoke/MethodHandle" ∧ Y_Model_peek.1.cls ≠ "java/lang/invoke/VarHandle" ∧ (parseMethodDescriptor Y_Model_peek.1.desc).map (fun d => d.parameters.length) = some 1 := by decide +kernel
def Y_Model_isDigit : aY := (⟨"DatumDeskModel", "isDigit", "(I)Z"⟩, prog_9_method_4_code, 1, some .boolean)
theorem hy_Model_isDigit : Y_Model_isDigit.1.cls ≠ "java/lang/invoke/MethodHandle" ∧ Y_Model_isDigit.1.cls ≠ "java/lang/invoke/VarHandle" ∧ (parseMethodDescriptor Y_Model_isDigit.1.desc).map (fun d => d.parameters.length) = some 1 := by decide +kernel
def Y_Model_isBegin : aY := (⟨"DatumDeskModel", "isBegin", "(I)Z"⟩, prog_9_method_5_code, 1, some .boolean)
theorem hy_Model_isBegin : Y_Model_isBegin.1.cls ≠ "java/lang/invoke/MethodHandle" ∧ Y_Model_isBegin.1.cls ≠ "java/lang/invoke/VarHandle" ∧ (parseMethodDescriptor Y_Model_isBegin.1.desc).map (fun d => d.parameters.length) = some 1 := by decide +kernel
def Y_Model_isByte : aY := (⟨"DatumDeskModel", "isByte", "(I)Z"⟩, prog_9_method_6_code, 1, some .boolean)
theorem hy_Model_isByte : Y_Model_isByte.1.cls ≠ "java/lang/invoke/MethodHandle" ∧ Y_Model_isByte.1.cls ≠ "java/lang/invoke/VarHandle" ∧ (parseMethodDescriptor Y_Model_isByte.1.desc).map (fun d => d.parameters.length) = some 1 := by decide +kernel
def Y_Model_skip : aY := (⟨"DatumDeskModel", "skip", "()V"⟩, prog_9_method_7_code, 3, none)
theorem hy_Model_skip : Y_Model_skip.1.cls ≠ "java/lang/invoke/MethodHandle" ∧ Y_Model_skip.1.cls ≠ "java/lang/invoke/VarHandle" ∧ (parseMethodDescriptor Y_Model_skip.1.desc).map (fun d => d.parameters.length) = some 0 := by decide +kernel
def Y_Model_token : aY := (⟨"DatumDeskModel", "token", "()I"⟩, prog_9_method_8_code, 5, some .int)
theorem hy_Model_token : Y_Model_token.1.cls ≠ "java/lang/invoke/MethodHandle" ∧ Y_Model_token.1.cls ≠ "java/lang/invoke/VarHandle" ∧ (parseMethodDescriptor Y_Model_token.1.desc).map (fun d => d.parameters.length) = some 0 := by decide +kernel
def Y_Model_string : aY := (⟨"DatumDeskModel", "string", "()I"⟩, prog_9_method_9_code, 4, some .int)
theorem hy_Model_string : Y_Model_string.1.cls ≠ "java/lang/invoke/MethodHandle" ∧ Y_Model_string.1.cls ≠ "java/lang/invoke/VarHandle" ∧ (parseMethodDescriptor Y_Model_string.1.desc).map (fun d => d.parameters.length) = some 0 := by decide +kernel
def Y_Model_node : aY := (⟨"DatumDeskModel", "node", "(I)I"⟩, prog_9_method_10_code, 2, some .int)
theorem hy_Model_node : Y_Model_node.1.cls ≠ "java/lang/invoke/MethodHandle" ∧ Y_Model_node.1.cls ≠ "java/lang/invoke/VarHandle" ∧ (parseMethodDescriptor Y_Model_node.1.desc).map (fun d => d.parameters.length) = some 1 := by decide +kernel
def Y_Model_fail : aY := (⟨"DatumDeskModel", "fail", "(I)V"⟩, prog_9_method_11_code, 2, none)
theorem hy_Model_fail : Y_Model_fail.1.cls ≠ "java/lang/invoke/MethodHandle" ∧ Y_Model_fail.1.cls ≠ "java/lang/invoke/VarHandle" ∧ (parseMethodDescriptor Y_Model_fail.1.desc).map (fun d => d.parameters.length) = some 1 := by decide +kernel
def Y_Model_letter : aY := (⟨"DatumDeskModel", "letter", "(II)V"⟩, prog_9_method_12_code, 3, none)
theorem hy_Model_letter : Y_Model_letter.1.cls ≠ "java/lang/invoke/MethodHandle" ∧ Y_Model_letter.1.cls ≠ "java/lang/invoke/VarHandle" ∧ (parseMethodDescriptor Y_Model_letter.1.desc).map (fun d => d.parameters.length) = some 2 := by decide +kernel
def Y_Model_atom : aY := (⟨"DatumDeskModel", "atom", "(I)I"⟩, prog_9_method_13_code, 7, some .int)
theorem hy_Model_atom : Y_Model_atom.1.cls ≠ "java/lang/invoke/MethodHandle" ∧ Y_Model_atom.1.cls ≠ "java/lang/invoke/VarHandle" ∧ (parseMethodDescriptor Y_Model_atom.1.desc).map (fun d => d.parameters.length) = some 1 := by decide +kernel
def Y_Model_begin : aY := (⟨"DatumDeskModel", "begin", "()V"⟩, prog_9_method_14_code, 3, none)
theorem hy_Model_begin : Y_Model_begin.1.cls ≠ "java/lang/invoke/MethodHandle" ∧ Y_Model_begin.1.cls ≠ "java/lang/invoke/VarHandle" ∧ (parseMethodDescriptor Y_Model_begin.1.desc).map (fun d => d.parameters.length) = some 0 := by decide +kernel
def Y_Model_end : aY := (⟨"DatumDeskModel", "end", "(I)V"⟩, prog_9_method_15_code, 4, none)
theorem hy_Model_end : Y_Model_end.1.cls ≠ "java/lang/invoke/MethodHandle" ∧ Y_Model_end.1.cls ≠ "java/lang/invoke/VarHandle" ∧ (parseMethodDescriptor Y_Model_end.1.desc).map (fun d => d.parameters.length) = some 1 := by decide +kernel
def Y_Model_opens : aY := (⟨"DatumDeskModel", "opens", "(Z)V"⟩, prog_9_method_16_code, 6, none)
theorem hy_Model_opens : Y_Model_opens.1.cls ≠ "java/lang/invoke/MethodHandle" ∧ Y_Model_opens.1.cls ≠ "java/lang/invoke/VarHandle" ∧ (parseMethodDescriptor Y_Model_opens.1.desc).map (fun d => d.parameters.length) = some 1 := by decide +kernel
def Y_Model_closes : aY := (⟨"DatumDeskModel", "closes", "()V"⟩, prog_9_method_17_code, 6, none)
theorem hy_Model_closes : Y_Model_closes.1.cls ≠ "java/lang/invoke/MethodHandle" ∧ Y_Model_closes.1.cls ≠ "java/lang/invoke/VarHandle" ∧ (parseMethodDescriptor Y_Model_closes.1.desc).map (fun d => d.parameters.length) = some 0 := by decide +kernel
def Y_Model_read : aY := (⟨"DatumDeskModel", "read", "()I"⟩, prog_9_method_18_code, 3, some .int)
theorem hy_Model_read : Y_Model_read.1.cls ≠ "java/lang/invoke/MethodHandle" ∧ Y_Model_read.1.cls ≠ "java/lang/invoke/VarHandle" ∧ (parseMethodDescriptor Y_Model_read.1.desc).map (fun d => d.parameters.length) = some 0 := by decide +kernel
def Y_Model_place : aY := (⟨"DatumDeskModel", "place", "()I"⟩, prog_9_method_19_code, 1, some .int)
theorem hy_Model_place : Y_Model_place.1.cls ≠ "java/lang/invoke/MethodHandle" ∧ Y_Model_place.1.cls ≠ "java/lang/invoke/VarHandle" ∧ (parseMethodDescriptor Y_Model_place.1.desc).map (fun d => d.parameters.length) = some 0 := by decide +kernel
def Y_Model_isNode : aY := (⟨"DatumDeskModel", "isNode", "(I)Z"⟩, prog_9_method_20_code, 2, some .boolean)
theorem hy_Model_isNode : Y_Model_isNode.1.cls ≠ "java/lang/invoke/MethodHandle" ∧ Y_Model_isNode.1.cls ≠ "java/lang/invoke/VarHandle" ∧ (parseMethodDescriptor Y_Model_isNode.1.desc).map (fun d => d.parameters.length) = some 1 := by decide +kernel
def Y_Model_datum : aY := (⟨"DatumDeskModel", "datum", "(I)I"⟩, prog_9_method_21_code, 2, some .int)
theorem hy_Model_datum : Y_Model_datum.1.cls ≠ "java/lang/invoke/MethodHandle" ∧ Y_Model_datum.1.cls ≠ "java/lang/invoke/VarHandle" ∧ (parseMethodDescriptor Y_Model_datum.1.desc).map (fun d => d.parameters.length) = some 1 := by decide +kernel
def Y_Model_kind : aY := (⟨"DatumDeskModel", "kind", "(I)I"⟩, prog_9_method_22_code, 2, some .int)
theorem hy_Model_kind : Y_Model_kind.1.cls ≠ "java/lang/invoke/MethodHandle" ∧ Y_Model_kind.1.cls ≠ "java/lang/invoke/VarHandle" ∧ (parseMethodDescriptor Y_Model_kind.1.desc).map (fun d => d.parameters.length) = some 1 := by decide +kernel
def Y_Model_value : aY := (⟨"DatumDeskModel", "value", "(I)I"⟩, prog_9_method_23_code, 2, some .int)
theorem hy_Model_value : Y_Model_value.1.cls ≠ "java/lang/invoke/MethodHandle" ∧ Y_Model_value.1.cls ≠ "java/lang/invoke/VarHandle" ∧ (parseMethodDescriptor Y_Model_value.1.desc).map (fun d => d.parameters.length) = some 1 := by decide +kernel
def Y_Model_byteAt : aY := (⟨"DatumDeskModel", "byteAt", "(II)I"⟩, prog_9_method_24_code, 4, some .int)
theorem hy_Model_byteAt : Y_Model_byteAt.1.cls ≠ "java/lang/invoke/MethodHandle" ∧ Y_Model_byteAt.1.cls ≠ "java/lang/invoke/VarHandle" ∧ (parseMethodDescriptor Y_Model_byteAt.1.desc).map (fun d => d.parameters.length) = some 2 := by decide +kernel
def Y_Model_part : aY := (⟨"DatumDeskModel", "part", "(II)I"⟩, prog_9_method_25_code, 3, some .int)
theorem hy_Model_part : Y_Model_part.1.cls ≠ "java/lang/invoke/MethodHandle" ∧ Y_Model_part.1.cls ≠ "java/lang/invoke/VarHandle" ∧ (parseMethodDescriptor Y_Model_part.1.desc).map (fun d => d.parameters.length) = some 2 := by decide +kernel
def Y_Model_same : aY := (⟨"DatumDeskModel", "same", "(II)Z"⟩, prog_9_method_26_code, 6, some .boolean)
theorem hy_Model_same : Y_Model_same.1.cls ≠ "java/lang/invoke/MethodHandle" ∧ Y_Model_same.1.cls ≠ "java/lang/invoke/VarHandle" ∧ (parseMethodDescriptor Y_Model_same.1.desc).map (fun d => d.parameters.length) = some 2 := by decide +kernel
def Y_Model_like : aY := (⟨"DatumDeskModel", "like", "(II)Z"⟩, prog_9_method_27_code, 7, some .boolean)
theorem hy_Model_like : Y_Model_like.1.cls ≠ "java/lang/invoke/MethodHandle" ∧ Y_Model_like.1.cls ≠ "java/lang/invoke/VarHandle" ∧ (parseMethodDescriptor Y_Model_like.1.desc).map (fun d => d.parameters.length) = some 2 := by decide +kernel
def Y_Model_say : aY := (⟨"DatumDeskModel", "say", "(I)V"⟩, prog_9_method_28_code, 2, none)
theorem hy_Model_say : Y_Model_say.1.cls ≠ "java/lang/invoke/MethodHandle" ∧ Y_Model_say.1.cls ≠ "java/lang/invoke/VarHandle" ∧ (parseMethodDescriptor Y_Model_say.1.desc).map (fun d => d.parameters.length) = some 1 := by decide +kernel
def Y_Model_number : aY := (⟨"DatumDeskModel", "number", "(I)V"⟩, prog_9_method_29_code, 4, none)
theorem hy_Model_number : Y_Model_number.1.cls ≠ "java/lang/invoke/MethodHandle" ∧ Y_Model_number.1.cls ≠ "java/lang/invoke/VarHandle" ∧ (parseMethodDescriptor Y_Model_number.1.desc).map (fun d => d.parameters.length) = some 1 := by decide +kernel
def Y_Model_letters : aY := (⟨"DatumDeskModel", "letters", "(I)V"⟩, prog_9_method_30_code, 5, none)
theorem hy_Model_letters : Y_Model_letters.1.cls ≠ "java/lang/invoke/MethodHandle" ∧ Y_Model_letters.1.cls ≠ "java/lang/invoke/VarHandle" ∧ (parseMethodDescriptor Y_Model_letters.1.desc).map (fun d => d.parameters.length) = some 1 := by decide +kernel
def Y_Model_isQuote : aY := (⟨"DatumDeskModel", "isQuote", "(I)Z"⟩, prog_9_method_31_code, 5, some .boolean)
theorem hy_Model_isQuote : Y_Model_isQuote.1.cls ≠ "java/lang/invoke/MethodHandle" ∧ Y_Model_isQuote.1.cls ≠ "java/lang/invoke/VarHandle" ∧ (parseMethodDescriptor Y_Model_isQuote.1.desc).map (fun d => d.parameters.length) = some 1 := by decide +kernel
def Y_Model_step : aY := (⟨"DatumDeskModel", "step", "(II)I"⟩, prog_9_method_32_code, 5, some .int)
theorem hy_Model_step : Y_Model_step.1.cls ≠ "java/lang/invoke/MethodHandle" ∧ Y_Model_step.1.cls ≠ "java/lang/invoke/VarHandle" ∧ (parseMethodDescriptor Y_Model_step.1.desc).map (fun d => d.parameters.length) = some 2 := by decide +kernel
def Y_Model_write : aY := (⟨"DatumDeskModel", "write", "(I)Z"⟩, prog_9_method_33_code, 3, some .boolean)
theorem hy_Model_write : Y_Model_write.1.cls ≠ "java/lang/invoke/MethodHandle" ∧ Y_Model_write.1.cls ≠ "java/lang/invoke/VarHandle" ∧ (parseMethodDescriptor Y_Model_write.1.desc).map (fun d => d.parameters.length) = some 1 := by decide +kernel
def Y_Model_fetch : aY := (⟨"DatumDeskModel", "fetch", "()J"⟩, prog_9_method_34_code, 5, some .long)
theorem hy_Model_fetch : Y_Model_fetch.1.cls ≠ "java/lang/invoke/MethodHandle" ∧ Y_Model_fetch.1.cls ≠ "java/lang/invoke/VarHandle" ∧ (parseMethodDescriptor Y_Model_fetch.1.desc).map (fun d => d.parameters.length) = some 0 := by decide +kernel
def Y_Model_count : aY := (⟨"DatumDeskModel", "count", "(I)I"⟩, prog_9_method_35_code, 2, some .int)
theorem hy_Model_count : Y_Model_count.1.cls ≠ "java/lang/invoke/MethodHandle" ∧ Y_Model_count.1.cls ≠ "java/lang/invoke/VarHandle" ∧ (parseMethodDescriptor Y_Model_count.1.desc).map (fun d => d.parameters.length) = some 1 := by decide +kernel
def Y_Nodes_init : aY := (⟨"DatumDesk$Nodes", "<init>", "()V"⟩, prog_2_method_1_code, 1, none)
theorem hy_Nodes_init : Y_Nodes_init.1.cls ≠ "java/lang/invoke/MethodHandle" ∧ Y_Nodes_init.1.cls ≠ "java/lang/invoke/VarHandle" ∧ (parseMethodDescriptor Y_Nodes_init.1.desc).map (fun d => d.parameters.length) = some 0 := by decide +kernel
def Y_Nodes_clear : aY := (⟨"DatumDesk$Nodes", "clear", "()V"⟩, prog_2_method_2_code, 1, none)
theorem hy_Nodes_clear : Y_Nodes_clear.1.cls ≠ "java/lang/invoke/MethodHandle" ∧ Y_Nodes_clear.1.cls ≠ "java/lang/invoke/VarHandle" ∧ (parseMethodDescriptor Y_Nodes_clear.1.desc).map (fun d => d.parameters.length) = some 0 := by decide +kernel
def Y_Nodes_has : aY := (⟨"DatumDesk$Nodes", "has", "(I)Z"⟩, prog_2_method_3_code, 2, some .boolean)
theorem hy_Nodes_has : Y_Nodes_has.1.cls ≠ "java/lang/invoke/MethodHandle" ∧ Y_Nodes_has.1.cls ≠ "java/lang/invoke/VarHandle" ∧ (parseMethodDescriptor Y_Nodes_has.1.desc).map (fun d => d.parameters.length) = some 1 := by decide +kernel
def Y_Nodes_isOf : aY := (⟨"DatumDesk$Nodes", "isOf", "(II)Z"⟩, prog_2_method_4_code, 3, some .boolean)
theorem hy_Nodes_isOf : Y_Nodes_isOf.1.cls ≠ "java/lang/invoke/MethodHandle" ∧ Y_Nodes_isOf.1.cls ≠ "java/lang/invoke/VarHandle" ∧ (parseMethodDescriptor Y_Nodes_isOf.1.desc).map (fun d => d.parameters.length) = some 2 := by decide +kernel
def Y_Nodes_add : aY := (⟨"DatumDesk$Nodes", "add", "(I)I"⟩, prog_2_method_5_code, 3, some .int)
theorem hy_Nodes_add : Y_Nodes_add.1.cls ≠ "java/lang/invoke/MethodHandle" ∧ Y_Nodes_add.1.cls ≠ "java/lang/invoke/VarHandle" ∧ (parseMethodDescriptor Y_Nodes_add.1.desc).map (fun d => d.parameters.length) = some 1 := by decide +kernel
def Y_Nodes_addDatum : aY := (⟨"DatumDesk$Nodes", "addDatum", "(I)V"⟩, prog_2_method_6_code, 2, none)
theorem hy_Nodes_addDatum : Y_Nodes_addDatum.1.cls ≠ "java/lang/invoke/MethodHandle" ∧ Y_Nodes_addDatum.1.cls ≠ "java/lang/invoke/VarHandle" ∧ (parseMethodDescriptor Y_Nodes_addDatum.1.desc).map (fun d => d.parameters.length) = some 1 := by decide +kernel
def Y_Nodes_addLetter : aY := (⟨"DatumDesk$Nodes", "addLetter", "(II)V"⟩, prog_2_method_7_code, 3, none)
theorem hy_Nodes_addLetter : Y_Nodes_addLetter.1.cls ≠ "java/lang/invoke/MethodHandle" ∧ Y_Nodes_addLetter.1.cls ≠ "java/lang/invoke/VarHandle" ∧ (parseMethodDescriptor Y_Nodes_addLetter.1.desc).map (fun d => d.parameters.length) = some 2 := by decide +kernel
def Y_Nodes_nameQuote : aY := (⟨"DatumDesk$Nodes", "nameQuote", "(I)V"⟩, prog_2_method_8_code, 2, none)
theorem hy_Nodes_nameQuote : Y_Nodes_nameQuote.1.cls ≠ "java/lang/invoke/MethodHandle" ∧ Y_Nodes_nameQuote.1.cls ≠ "java/lang/invoke/VarHandle" ∧ (parseMethodDescriptor Y_Nodes_nameQuote.1.desc).map (fun d => d.parameters.length) = some 1 := by decide +kernel
def Y_Nodes_setAmount : aY := (⟨"DatumDesk$Nodes", "setAmount", "(II)V"⟩, prog_2_method_9_code, 3, none)
theorem hy_Nodes_setAmount : Y_Nodes_setAmount.1.cls ≠ "java/lang/invoke/MethodHandle" ∧ Y_Nodes_setAmount.1.cls ≠ "java/lang/invoke/VarHandle" ∧ (parseMethodDescriptor Y_Nodes_setAmount.1.desc).map (fun d => d.parameters.length) = some 2 := by decide +kernel
def Y_Nodes_setHead : aY := (⟨"DatumDesk$Nodes", "setHead", "(II)V"⟩, prog_2_method_10_code, 3, none)
theorem hy_Nodes_setHead : Y_Nodes_setHead.1.cls ≠ "java/lang/invoke/MethodHandle" ∧ Y_Nodes_setHead.1.cls ≠ "java/lang/invoke/VarHandle" ∧ (parseMethodDescriptor Y_Nodes_setHead.1.desc).map (fun d => d.parameters.length) = some 2 := by decide +kernel
def Y_Nodes_setTail : aY := (⟨"DatumDesk$Nodes", "setTail", "(II)V"⟩, prog_2_method_11_code, 3, none)
theorem hy_Nodes_setTail : Y_Nodes_setTail.1.cls ≠ "java/lang/invoke/MethodHandle" ∧ Y_Nodes_setTail.1.cls ≠ "java/lang/invoke/VarHandle" ∧ (parseMethodDescriptor Y_Nodes_setTail.1.desc).map (fun d => d.parameters.length) = some 2 := by decide +kernel
def Y_Nodes_datumNode : aY := (⟨"DatumDesk$Nodes", "datumNode", "(I)I"⟩, prog_2_method_12_code, 2, some .int)
theorem hy_Nodes_datumNode : Y_Nodes_datumNode.1.cls ≠ "java/lang/invoke/MethodHandle" ∧ Y_Nodes_datumNode.1.cls ≠ "java/lang/invoke/VarHandle" ∧ (parseMethodDescriptor Y_Nodes_datumNode.1.desc).map (fun d => d.parameters.length) = some 1 := by decide +kernel
def Y_Nodes_kindOf : aY := (⟨"DatumDesk$Nodes", "kindOf", "(I)I"⟩, prog_2_method_13_code, 2, some .int)
theorem hy_Nodes_kindOf : Y_Nodes_kindOf.1.cls ≠ "java/lang/invoke/MethodHandle" ∧ Y_Nodes_kindOf.1.cls ≠ "java/lang/invoke/VarHandle" ∧ (parseMethodDescriptor Y_Nodes_kindOf.1.desc).map (fun d => d.parameters.length) = some 1 := by decide +kernel
def Y_Nodes_amountOf : aY := (⟨"DatumDesk$Nodes", "amountOf", "(I)I"⟩, prog_2_method_14_code, 2, some .int)
theorem hy_Nodes_amountOf : Y_Nodes_amountOf.1.cls ≠ "java/lang/invoke/MethodHandle" ∧ Y_Nodes_amountOf.1.cls ≠ "java/lang/invoke/VarHandle" ∧ (parseMethodDescriptor Y_Nodes_amountOf.1.desc).map (fun d => d.parameters.length) = some 1 := by decide +kernel
def Y_Nodes_byteOf : aY := (⟨"DatumDesk$Nodes", "byteOf", "(II)I"⟩, prog_2_method_15_code, 4, some .int)
theorem hy_Nodes_byteOf : Y_Nodes_byteOf.1.cls ≠ "java/lang/invoke/MethodHandle" ∧ Y_Nodes_byteOf.1.cls ≠ "java/lang/invoke/VarHandle" ∧ (parseMethodDescriptor Y_Nodes_byteOf.1.desc).map (fun d => d.parameters.length) = some 2 := by decide +kernel
def Y_Nodes_headOf : aY := (⟨"DatumDesk$Nodes", "headOf", "(I)I"⟩, prog_2_method_16_code, 2, some .int)
theorem hy_Nodes_headOf : Y_Nodes_headOf.1.cls ≠ "java/lang/invoke/MethodHandle" ∧ Y_Nodes_headOf.1.cls ≠ "java/lang/invoke/VarHandle" ∧ (parseMethodDescriptor Y_Nodes_headOf.1.desc).map (fun d => d.parameters.length) = some 1 := by decide +kernel
def Y_Nodes_tailOf : aY := (⟨"DatumDesk$Nodes", "tailOf", "(I)I"⟩, prog_2_method_17_code, 2, some .int)
theorem hy_Nodes_tailOf : Y_Nodes_tailOf.1.cls ≠ "java/lang/invoke/MethodHandle" ∧ Y_Nodes_tailOf.1.cls ≠ "java/lang/invoke/VarHandle" ∧ (parseMethodDescriptor Y_Nodes_tailOf.1.desc).map (fun d => d.parameters.length) = some 1 := by decide +kernel
def Y_Nodes_alike : aY := (⟨"DatumDesk$Nodes", "alike", "(III)Z"⟩, prog_2_method_18_code, 7, some .boolean)
theorem hy_Nodes_alike : Y_Nodes_alike.1.cls ≠ "java/lang/invoke/MethodHandle" ∧ Y_Nodes_alike.1.cls ≠ "java/lang/invoke/VarHandle" ∧ (parseMethodDescriptor Y_Nodes_alike.1.desc).map (fun d => d.parameters.length) = some 3 := by decide +kernel
def Y_Nodes_sameContent : aY := (⟨"DatumDesk$Nodes", "sameContent", "(II)Z"⟩, prog_2_method_19_code, 5, some .boolean)
theorem hy_Nodes_sameContent : Y_Nodes_sameContent.1.cls ≠ "java/lang/invoke/MethodHandle" ∧ Y_Nodes_sameContent.1.cls ≠ "java/lang/invoke/VarHandle" ∧ (parseMethodDescriptor Y_Nodes_sameContent.1.desc).map (fun d => d.parameters.length) = some 2 := by decide +kernel
def Y_Nodes_quotedIn : aY := (⟨"DatumDesk$Nodes", "quotedIn", "(I)I"⟩, prog_2_method_20_code, 3, some .int)
theorem hy_Nodes_quotedIn : Y_Nodes_quotedIn.1.cls ≠ "java/lang/invoke/MethodHandle" ∧ Y_Nodes_quotedIn.1.cls ≠ "java/lang/invoke/VarHandle" ∧ (parseMethodDescriptor Y_Nodes_quotedIn.1.desc).map (fun d => d.parameters.length) = some 1 := by decide +kernel
def Y_Nodes_isQuoteName : aY := (⟨"DatumDesk$Nodes", "isQuoteName", "(I)Z"⟩, prog_2_method_21_code, 3, some .boolean)
theorem hy_Nodes_isQuoteName : Y_Nodes_isQuoteName.1.cls ≠ "java/lang/invoke/MethodHandle" ∧ Y_Nodes_isQuoteName.1.cls ≠ "java/lang/invoke/VarHandle" ∧ (parseMethodDescriptor Y_Nodes_isQuoteName.1.desc).map (fun d => d.parameters.length) = some 1 := by decide +kernel
def Y_Reader_init : aY := (⟨"DatumDesk$Reader", "<init>", "(LDatumDesk$Text;LDatumDesk$Nodes;)V"⟩, prog_3_method_1_code, 3, none)
theorem hy_Reader_init : Y_Reader_init.1.cls ≠ "java/lang/invoke/MethodHandle" ∧ Y_Reader_init.1.cls ≠ "java/lang/invoke/VarHandle" ∧ (parseMethodDescriptor Y_Reader_init.1.desc).map (fun d => d.parameters.length) = some 2 := by decide +kernel
def Y_Reader_readText : aY := (⟨"DatumDesk$Reader", "readText", "()V"⟩, prog_3_method_2_code, 3, none)
theorem hy_Reader_readText : Y_Reader_readText.1.cls ≠ "java/lang/invoke/MethodHandle" ∧ Y_Reader_readText.1.cls ≠ "java/lang/invoke/VarHandle" ∧ (parseMethodDescriptor Y_Reader_readText.1.desc).map (fun d => d.parameters.length) = some 0 := by decide +kernel
def Y_Reader_readDatum : aY := (⟨"DatumDesk$Reader", "readDatum", "(I)I"⟩, prog_3_method_3_code, 2, some .int)
theorem hy_Reader_readDatum : Y_Reader_readDatum.1.cls ≠ "java/lang/invoke/MethodHandle" ∧ Y_Reader_readDatum.1.cls ≠ "java/lang/invoke/VarHandle" ∧ (parseMethodDescriptor Y_Reader_readDatum.1.desc).map (fun d => d.parameters.length) = some 1 := by decide +kernel
def Y_Reader_readNumber : aY := (⟨"DatumDesk$Reader", "readNumber", "()I"⟩, prog_3_method_4_code, 6, some .int)
theorem hy_Reader_readNumber : Y_Reader_readNumber.1.cls ≠ "java/lang/invoke/MethodHandle" ∧ Y_Reader_readNumber.1.cls ≠ "java/lang/invoke/VarHandle" ∧ (parseMethodDescriptor Y_Reader_readNumber.1.desc).map (fun d => d.parameters.length) = some 0 := by decide +kernel
def Y_Reader_readName : aY := (⟨"DatumDesk$Reader", "readName", "()I"⟩, prog_3_method_5_code, 4, some .int)
theorem hy_Reader_readName : Y_Reader_readName.1.cls ≠ "java/lang/invoke/MethodHandle" ∧ Y_Reader_readName.1.cls ≠ "java/lang/invoke/VarHandle" ∧ (parseMethodDescriptor Y_Reader_readName.1.desc).map (fun d => d.parameters.length) = some 0 := by decide +kernel
def Y_Reader_readString : aY := (⟨"DatumDesk$Reader", "readString", "()I"⟩, prog_3_method_6_code, 4, some .int)
theorem hy_Reader_readString : Y_Reader_readString.1.cls ≠ "java/lang/invoke/MethodHandle" ∧ Y_Reader_readString.1.cls ≠ "java/lang/invoke/VarHandle" ∧ (parseMethodDescriptor Y_Reader_readString.1.desc).map (fun d => d.parameters.length) = some 0 := by decide +kernel
def Y_Reader_readQuoted : aY := (⟨"DatumDesk$Reader", "readQuoted", "(I)I"⟩, prog_3_method_7_code, 7, some .int)
theorem hy_Reader_readQuoted : Y_Reader_readQuoted.1.cls ≠ "java/lang/invoke/MethodHandle" ∧ Y_Reader_readQuoted.1.cls ≠ "java/lang/invoke/VarHandle" ∧ (parseMethodDescriptor Y_Reader_readQuoted.1.desc).map (fun d => d.parameters.length) = some 1 := by decide +kernel
def Y_Reader_readList : aY := (⟨"DatumDesk$Reader", "readList", "(I)I"⟩, prog_3_method_8_code, 8, some .int)
theorem hy_Reader_readList : Y_Reader_readList.1.cls ≠ "java/lang/invoke/MethodHandle" ∧ Y_Reader_readList.1.cls ≠ "java/lang/invoke/VarHandle" ∧ (parseMethodDescriptor Y_Reader_readList.1.desc).map (fun d => d.parameters.length) = some 1 := by decide +kernel
def Y_Reader_readDotted : aY := (⟨"DatumDesk$Reader", "readDotted", "(I)I"⟩, prog_3_method_9_code, 3, some .int)
theorem hy_Reader_readDotted : Y_Reader_readDotted.1.cls ≠ "java/lang/invoke/MethodHandle" ∧ Y_Reader_readDotted.1.cls ≠ "java/lang/invoke/VarHandle" ∧ (parseMethodDescriptor Y_Reader_readDotted.1.desc).map (fun d => d.parameters.length) = some 1 := by decide +kernel
def Y_Reader_add : aY := (⟨"DatumDesk$Reader", "add", "(I)I"⟩, prog_3_method_10_code, 3, some .int)
theorem hy_Reader_add : Y_Reader_add.1.cls ≠ "java/lang/invoke/MethodHandle" ∧ Y_Reader_add.1.cls ≠ "java/lang/invoke/VarHandle" ∧ (parseMethodDescriptor Y_Reader_add.1.desc).map (fun d => d.parameters.length) = some 1 := by decide +kernel
def Y_Reader_fault : aY := (⟨"DatumDesk$Reader", "fault", "()I"⟩, prog_3_method_11_code, 1, some .int)
theorem hy_Reader_fault : Y_Reader_fault.1.cls ≠ "java/lang/invoke/MethodHandle" ∧ Y_Reader_fault.1.cls ≠ "java/lang/invoke/VarHandle" ∧ (parseMethodDescriptor Y_Reader_fault.1.desc).map (fun d => d.parameters.length) = some 0 := by decide +kernel
def Y_Text_init : aY := (⟨"DatumDesk$Text", "<init>", "()V"⟩, prog_4_method_1_code, 1, none)
theorem hy_Text_init : Y_Text_init.1.cls ≠ "java/lang/invoke/MethodHandle" ∧ Y_Text_init.1.cls ≠ "java/lang/invoke/VarHandle" ∧ (parseMethodDescriptor Y_Text_init.1.desc).map (fun d => d.parameters.length) = some 0 := by decide +kernel
def Y_Text_append : aY := (⟨"DatumDesk$Text", "append", "(I)V"⟩, prog_4_method_2_code, 2, none)
theorem hy_Text_append : Y_Text_append.1.cls ≠ "java/lang/invoke/MethodHandle" ∧ Y_Text_append.1.cls ≠ "java/lang/invoke/VarHandle" ∧ (parseMethodDescriptor Y_Text_append.1.desc).map (fun d => d.parameters.length) = some 1 := by decide +kernel
def Y_Text_at : aY := (⟨"DatumDesk$Text", "at", "(I)I"⟩, prog_4_method_3_code, 2, some .int)
theorem hy_Text_at : Y_Text_at.1.cls ≠ "java/lang/invoke/MethodHandle" ∧ Y_Text_at.1.cls ≠ "java/lang/invoke/VarHandle" ∧ (parseMethodDescriptor Y_Text_at.1.desc).map (fun d => d.parameters.length) = some 1 := by decide +kernel
def Y_Text_skipBlanks : aY := (⟨"DatumDesk$Text", "skipBlanks", "(I)I"⟩, prog_4_method_4_code, 5, some .int)
theorem hy_Text_skipBlanks : Y_Text_skipBlanks.1.cls ≠ "java/lang/invoke/MethodHandle" ∧ Y_Text_skipBlanks.1.cls ≠ "java/lang/invoke/VarHandle" ∧ (parseMethodDescriptor Y_Text_skipBlanks.1.desc).map (fun d => d.parameters.length) = some 1 := by decide +kernel
def Y_Text_sortAt : aY := (⟨"DatumDesk$Text", "sortAt", "(I)I"⟩, prog_4_method_5_code, 3, some .int)
theorem hy_Text_sortAt : Y_Text_sortAt.1.cls ≠ "java/lang/invoke/MethodHandle" ∧ Y_Text_sortAt.1.cls ≠ "java/lang/invoke/VarHandle" ∧ (parseMethodDescriptor Y_Text_sortAt.1.desc).map (fun d => d.parameters.length) = some 1 := by decide +kernel
def Y_Text_tokenEnd : aY := (⟨"DatumDesk$Text", "tokenEnd", "(II)I"⟩, prog_4_method_6_code, 3, some .int)
theorem hy_Text_tokenEnd : Y_Text_tokenEnd.1.cls ≠ "java/lang/invoke/MethodHandle" ∧ Y_Text_tokenEnd.1.cls ≠ "java/lang/invoke/VarHandle" ∧ (parseMethodDescriptor Y_Text_tokenEnd.1.desc).map (fun d => d.parameters.length) = some 2 := by decide +kernel
def Y_Text_numberEnd : aY := (⟨"DatumDesk$Text", "numberEnd", "(I)I"⟩, prog_4_method_7_code, 5, some .int)
theorem hy_Text_numberEnd : Y_Text_numberEnd.1.cls ≠ "java/lang/invoke/MethodHandle" ∧ Y_Text_numberEnd.1.cls ≠ "java/lang/invoke/VarHandle" ∧ (parseMethodDescriptor Y_Text_numberEnd.1.desc).map (fun d => d.parameters.length) = some 1 := by decide +kernel
def Y_Text_nameEnd : aY := (⟨"DatumDesk$Text", "nameEnd", "(I)I"⟩, prog_4_method_8_code, 3, some .int)
theorem hy_Text_nameEnd : Y_Text_nameEnd.1.cls ≠ "java/lang/invoke/MethodHandle" ∧ Y_Text_nameEnd.1.cls ≠ "java/lang/invoke/VarHandle" ∧ (parseMethodDescriptor Y_Text_nameEnd.1.desc).map (fun d => d.parameters.length) = some 1 := by decide +kernel
def Y_Text_wordEnd : aY := (⟨"DatumDesk$Text", "wordEnd", "(I)I"⟩, prog_4_method_9_code, 3, some .int)
theorem hy_Text_wordEnd : Y_Text_wordEnd.1.cls ≠ "java/lang/invoke/MethodHandle" ∧ Y_Text_wordEnd.1.cls ≠ "java/lang/invoke/VarHandle" ∧ (parseMethodDescriptor Y_Text_wordEnd.1.desc).map (fun d => d.parameters.length) = some 1 := by decide +kernel
def Y_Text_stringEnd : aY := (⟨"DatumDesk$Text", "stringEnd", "(I)I"⟩, prog_4_method_10_code, 5, some .int)
theorem hy_Text_stringEnd : Y_Text_stringEnd.1.cls ≠ "java/lang/invoke/MethodHandle" ∧ Y_Text_stringEnd.1.cls ≠ "java/lang/invoke/VarHandle" ∧ (parseMethodDescriptor Y_Text_stringEnd.1.desc).map (fun d => d.parameters.length) = some 1 := by decide +kernel
def Y_Text_isDigit : aY := (⟨"DatumDesk$Text", "isDigit", "(I)Z"⟩, prog_4_method_11_code, 1, some .boolean)
theorem hy_Text_isDigit : Y_Text_isDigit.1.cls ≠ "java/lang/invoke/MethodHandle" ∧ Y_Text_isDigit.1.cls ≠ "java/lang/invoke/VarHandle" ∧ (parseMethodDescriptor Y_Text_isDigit.1.desc).map (fun d => d.parameters.length) = some 1 := by decide +kernel
def Y_Text_isWordByte : aY := (⟨"DatumDesk$Text", "isWordByte", "(I)Z"⟩, prog_4_method_12_code, 1, some .boolean)
theorem hy_Text_isWordByte : Y_Text_isWordByte.1.cls ≠ "java/lang/invoke/MethodHandle" ∧ Y_Text_isWordByte.1.cls ≠ "java/lang/invoke/VarHandle" ∧ (parseMethodDescriptor Y_Text_isWordByte.1.desc).map (fun d => d.parameters.length) = some 1 := by decide +kernel
def Y_Tokens_init : aY := (⟨"DatumDesk$Tokens", "<init>", "()V"⟩, prog_5_method_1_code, 1, none)
theorem hy_Tokens_init : Y_Tokens_init.1.cls ≠ "java/lang/invoke/MethodHandle" ∧ Y_Tokens_init.1.cls ≠ "java/lang/invoke/VarHandle" ∧ (parseMethodDescriptor Y_Tokens_init.1.desc).map (fun d => d.parameters.length) = some 0 := by decide +kernel
def Y_Tokens_scan : aY := (⟨"DatumDesk$Tokens", "scan", "(LDatumDesk$Text;)V"⟩, prog_5_method_2_code, 7, none)
theorem hy_Tokens_scan : Y_Tokens_scan.1.cls ≠ "java/lang/invoke/MethodHandle" ∧ Y_Tokens_scan.1.cls ≠ "java/lang/invoke/VarHandle" ∧ (parseMethodDescriptor Y_Tokens_scan.1.desc).map (fun d => d.parameters.length) = some 1 := by decide +kernel
def Y_Tokens_sortOf : aY := (⟨"DatumDesk$Tokens", "sortOf", "(I)I"⟩, prog_5_method_3_code, 2, some .int)
theorem hy_Tokens_sortOf : Y_Tokens_sortOf.1.cls ≠ "java/lang/invoke/MethodHandle" ∧ Y_Tokens_sortOf.1.cls ≠ "java/lang/invoke/VarHandle" ∧ (parseMethodDescriptor Y_Tokens_sortOf.1.desc).map (fun d => d.parameters.length) = some 1 := by decide +kernel
def Y_Tokens_startOf : aY := (⟨"DatumDesk$Tokens", "startOf", "(I)I"⟩, prog_5_method_4_code, 2, some .int)
theorem hy_Tokens_startOf : Y_Tokens_startOf.1.cls ≠ "java/lang/invoke/MethodHandle" ∧ Y_Tokens_startOf.1.cls ≠ "java/lang/invoke/VarHandle" ∧ (parseMethodDescriptor Y_Tokens_startOf.1.desc).map (fun d => d.parameters.length) = some 1 := by decide +kernel
def Y_Tokens_endOf : aY := (⟨"DatumDesk$Tokens", "endOf", "(I)I"⟩, prog_5_method_5_code, 2, some .int)
theorem hy_Tokens_endOf : Y_Tokens_endOf.1.cls ≠ "java/lang/invoke/MethodHandle" ∧ Y_Tokens_endOf.1.cls ≠ "java/lang/invoke/VarHandle" ∧ (parseMethodDescriptor Y_Tokens_endOf.1.desc).map (fun d => d.parameters.length) = some 1 := by decide +kernel
def Y_Waiting_init : aY := (⟨"DatumDesk$Waiting", "<init>", "()V"⟩, prog_6_method_1_code, 1, none)
theorem hy_Waiting_init : Y_Waiting_init.1.cls ≠ "java/lang/invoke/MethodHandle" ∧ Y_Waiting_init.1.cls ≠ "java/lang/invoke/VarHandle" ∧ (parseMethodDescriptor Y_Waiting_init.1.desc).map (fun d => d.parameters.length) = some 0 := by decide +kernel
def Y_Waiting_append : aY := (⟨"DatumDesk$Waiting", "append", "(I)V"⟩, prog_6_method_2_code, 3, none)
theorem hy_Waiting_append : Y_Waiting_append.1.cls ≠ "java/lang/invoke/MethodHandle" ∧ Y_Waiting_append.1.cls ≠ "java/lang/invoke/VarHandle" ∧ (parseMethodDescriptor Y_Waiting_append.1.desc).map (fun d => d.parameters.length) = some 1 := by decide +kernel
def Y_Waiting_take : aY := (⟨"DatumDesk$Waiting", "take", "()I"⟩, prog_6_method_3_code, 2, some .int)
theorem hy_Waiting_take : Y_Waiting_take.1.cls ≠ "java/lang/invoke/MethodHandle" ∧ Y_Waiting_take.1.cls ≠ "java/lang/invoke/VarHandle" ∧ (parseMethodDescriptor Y_Waiting_take.1.desc).map (fun d => d.parameters.length) = some 0 := by decide +kernel
def Y_Writer_init : aY := (⟨"DatumDesk$Writer", "<init>", "(LDatumDesk$Nodes;LDatumDesk$Waiting;)V"⟩, prog_7_method_1_code, 3, none)
theorem hy_Writer_init : Y_Writer_init.1.cls ≠ "java/lang/invoke/MethodHandle" ∧ Y_Writer_init.1.cls ≠ "java/lang/invoke/VarHandle" ∧ (parseMethodDescriptor Y_Writer_init.1.desc).map (fun d => d.parameters.length) = some 2 := by decide +kernel
def Y_Writer_writeNode : aY := (⟨"DatumDesk$Writer", "writeNode", "(II)V"⟩, prog_7_method_2_code, 3, none)
theorem hy_Writer_writeNode : Y_Writer_writeNode.1.cls ≠ "java/lang/invoke/MethodHandle" ∧ Y_Writer_writeNode.1.cls ≠ "java/lang/invoke/VarHandle" ∧ (parseMethodDescriptor Y_Writer_writeNode.1.desc).map (fun d => d.parameters.length) = some 2 := by decide +kernel
def Y_Writer_writeNumber : aY := (⟨"DatumDesk$Writer", "writeNumber", "(I)V"⟩, prog_7_method_3_code, 4, none)
theorem hy_Writer_writeNumber : Y_Writer_writeNumber.1.cls ≠ "java/lang/invoke/MethodHandle" ∧ Y_Writer_writeNumber.1.cls ≠ "java/lang/invoke/VarHandle" ∧ (parseMethodDescriptor Y_Writer_writeNumber.1.desc).map (fun d => d.parameters.length) = some 1 := by decide +kernel
def Y_Writer_writeName : aY := (⟨"DatumDesk$Writer", "writeName", "(I)V"⟩, prog_7_method_4_code, 4, none)
theorem hy_Writer_writeName : Y_Writer_writeName.1.cls ≠ "java/lang/invoke/MethodHandle" ∧ Y_Writer_writeName.1.cls ≠ "java/lang/invoke/VarHandle" ∧ (parseMethodDescriptor Y_Writer_writeName.1.desc).map (fun d => d.parameters.length) = some 1 := by decide +kernel
def Y_Writer_writeString : aY := (⟨"DatumDesk$Writer", "writeString", "(I)V"⟩, prog_7_method_5_code, 5, none)
theorem hy_Writer_writeString : Y_Writer_writeString.1.cls ≠ "java/lang/invoke/MethodHandle" ∧ Y_Writer_writeString.1.cls ≠ "java/lang/invoke/VarHandle" ∧ (parseMethodDescriptor Y_Writer_writeString.1.desc).map (fun d => d.parameters.length) = some 1 := by decide +kernel
def Y_Writer_writePair : aY := (⟨"DatumDesk$Writer", "writePair", "(II)V"⟩, prog_7_method_6_code, 6, none)
theorem hy_Writer_writePair : Y_Writer_writePair.1.cls ≠ "java/lang/invoke/MethodHandle" ∧ Y_Writer_writePair.1.cls ≠ "java/lang/invoke/VarHandle" ∧ (parseMethodDescriptor Y_Writer_writePair.1.desc).map (fun d => d.parameters.length) = some 2 := by decide +kernel
