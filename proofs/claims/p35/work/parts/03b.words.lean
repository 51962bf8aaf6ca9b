set_option maxRecDepth 100000 in
theorem ki_yX11_init : Cond.instanceMethod yX11_init ∈ tblG := tg (List.mem_of_getElem? (i := 147) rfl) (by decide +kernel)
set_option maxRecDepth 100000 in
theorem kc_yX11_init : Cond.code yX11_init prog_1_method_1_code (1 : Nat) (Option.none : Option FieldType) ∈ tblG := tg (List.mem_of_getElem? (i := 148) rfl) (by decide +kernel)
set_option maxRecDepth 100000 in
theorem ki_objectInit : Cond.instanceMethod objectInit ∈ tblG := tg (List.mem_of_getElem? (i := 150) rfl) (by decide +kernel)
set_option maxRecDepth 100000 in
theorem kc_objectInit : Cond.code objectInit object_method_1_code (1 : Nat) (Option.none : Option FieldType) ∈ tblG := tg (List.mem_of_getElem? (i := 151) rfl) (by decide +kernel)
set_option maxRecDepth 100000 in
theorem ki_yX9_init : Cond.instanceMethod yX9_init ∈ tblG := tg (List.mem_of_getElem? (i := 155) rfl) (by decide +kernel)
set_option maxRecDepth 100000 in
theorem kc_yX9_init : Cond.code yX9_init prog_11_method_1_code (1 : Nat) (Option.none : Option FieldType) ∈ tblG := tg (List.mem_of_getElem? (i := 156) rfl) (by decide +kernel)
set_option maxRecDepth 100000 in
theorem kf_RX9_11 : Cond.fieldLink RX9 11 "SnapHeaps$Tape" "bytes" "[B" ∈ tblG := tg (List.mem_of_getElem? (i := 158) rfl) (by decide +kernel)
set_option maxRecDepth 100000 in
theorem kf_RX9_19 : Cond.fieldLink RX9 19 "SnapHeaps$Tape" "size" "I" ∈ tblG := tg (List.mem_of_getElem? (i := 159) rfl) (by decide +kernel)
set_option maxRecDepth 100000 in
theorem kf_RX11_94 : Cond.fieldLinkNest RX11 94 "SnapHeaps$Tape" "size" "I" RX11 ∈ tblN := tn (List.mem_of_getElem? (i := 160) rfl) (by decide +kernel)
set_option maxRecDepth 100000 in
theorem kf_RX9_28 : Cond.fieldLink RX9 28 "SnapHeaps$Tape" "end" "I" ∈ tblG := tg (List.mem_of_getElem? (i := 161) rfl) (by decide +kernel)
set_option maxRecDepth 100000 in
theorem kf_RX9_31 : Cond.fieldLink RX9 31 "SnapHeaps$Tape" "pos" "I" ∈ tblG := tg (List.mem_of_getElem? (i := 162) rfl) (by decide +kernel)
set_option maxRecDepth 100000 in
theorem kf_RX1_42 : Cond.fieldLinkNest RX1 42 "SnapHeaps$Tape" "pos" "I" RX11 ∈ tblN := tn (List.mem_of_getElem? (i := 163) rfl) (by decide +kernel)
set_option maxRecDepth 100000 in
theorem kf_RX8_70 : Cond.fieldLinkNest RX8 70 "SnapHeaps$Tape" "pos" "I" RX11 ∈ tblN := tn (List.mem_of_getElem? (i := 164) rfl) (by decide +kernel)
set_option maxRecDepth 100000 in
theorem kf_RX7_63 : Cond.fieldLinkNest RX7 63 "SnapHeaps$Tape" "pos" "I" RX11 ∈ tblN := tn (List.mem_of_getElem? (i := 165) rfl) (by decide +kernel)
set_option maxRecDepth 100000 in
theorem kf_RX11_109 : Cond.fieldLinkNest RX11 109 "SnapHeaps$Tape" "fault" "I" RX11 ∈ tblN := tn (List.mem_of_getElem? (i := 166) rfl) (by decide +kernel)
set_option maxRecDepth 100000 in
theorem kf_RX9_34 : Cond.fieldLink RX9 34 "SnapHeaps$Tape" "fault" "I" ∈ tblG := tg (List.mem_of_getElem? (i := 167) rfl) (by decide +kernel)
set_option maxRecDepth 100000 in
theorem kf_RX1_33 : Cond.fieldLinkNest RX1 33 "SnapHeaps$Tape" "fault" "I" RX11 ∈ tblN := tn (List.mem_of_getElem? (i := 168) rfl) (by decide +kernel)
set_option maxRecDepth 100000 in
theorem kf_RX8_52 : Cond.fieldLinkNest RX8 52 "SnapHeaps$Tape" "fault" "I" RX11 ∈ tblN := tn (List.mem_of_getElem? (i := 169) rfl) (by decide +kernel)
set_option maxRecDepth 100000 in
theorem kf_RX9_15 : Cond.fieldLink RX9 15 "SnapHeaps$Tape" "place" "I" ∈ tblG := tg (List.mem_of_getElem? (i := 170) rfl) (by decide +kernel)
set_option maxRecDepth 100000 in
theorem kf_RX11_152 : Cond.fieldLinkNest RX11 152 "SnapHeaps$Tape" "place" "I" RX11 ∈ tblN := tn (List.mem_of_getElem? (i := 171) rfl) (by decide +kernel)
set_option maxRecDepth 100000 in
theorem ka_byte : Cond.arrayClass .byte ∈ tblG := tg (List.mem_of_getElem? (i := 185) rfl) (by decide +kernel)
set_option maxRecDepth 100000 in
theorem ki_yX8_init : Cond.instanceMethod yX8_init ∈ tblG := tg (List.mem_of_getElem? (i := 189) rfl) (by decide +kernel)
set_option maxRecDepth 100000 in
theorem kc_yX8_init : Cond.code yX8_init prog_10_method_1_code (1 : Nat) (Option.none : Option FieldType) ∈ tblG := tg (List.mem_of_getElem? (i := 190) rfl) (by decide +kernel)
set_option maxRecDepth 100000 in
theorem ki_yX0_init : Cond.instanceMethod yX0_init ∈ tblG := tg (List.mem_of_getElem? (i := 195) rfl) (by decide +kernel)
set_option maxRecDepth 100000 in
theorem kc_yX0_init : Cond.code yX0_init prog_2_method_1_code (1 : Nat) (Option.none : Option FieldType) ∈ tblG := tg (List.mem_of_getElem? (i := 196) rfl) (by decide +kernel)
set_option maxRecDepth 100000 in
theorem ki_yX6_init : Cond.instanceMethod yX6_init ∈ tblG := tg (List.mem_of_getElem? (i := 201) rfl) (by decide +kernel)
set_option maxRecDepth 100000 in
theorem kc_yX6_init : Cond.code yX6_init prog_8_method_1_code (1 : Nat) (Option.none : Option FieldType) ∈ tblG := tg (List.mem_of_getElem? (i := 202) rfl) (by decide +kernel)
set_option maxRecDepth 100000 in
theorem kf_RX6_9 : Cond.fieldLink RX6 9 "SnapHeaps$Pile" "cards" "[I" ∈ tblG := tg (List.mem_of_getElem? (i := 204) rfl) (by decide +kernel)
set_option maxRecDepth 100000 in
theorem kf_RX0_106 : Cond.fieldLinkNest RX0 106 "SnapHeaps$Pile" "cards" "[I" RX11 ∈ tblN := tn (List.mem_of_getElem? (i := 205) rfl) (by decide +kernel)
set_option maxRecDepth 100000 in
theorem kf_RX6_15 : Cond.fieldLink RX6 15 "SnapHeaps$Pile" "size" "I" ∈ tblG := tg (List.mem_of_getElem? (i := 206) rfl) (by decide +kernel)
set_option maxRecDepth 100000 in
theorem kf_RX0_43 : Cond.fieldLinkNest RX0 43 "SnapHeaps$Pile" "size" "I" RX11 ∈ tblN := tn (List.mem_of_getElem? (i := 207) rfl) (by decide +kernel)
set_option maxRecDepth 100000 in
theorem kf_RX8_112 : Cond.fieldLinkNest RX8 112 "SnapHeaps$Pile" "size" "I" RX11 ∈ tblN := tn (List.mem_of_getElem? (i := 208) rfl) (by decide +kernel)
set_option maxRecDepth 100000 in
theorem kf_RX11_175 : Cond.fieldLinkNest RX11 175 "SnapHeaps$Pile" "size" "I" RX11 ∈ tblN := tn (List.mem_of_getElem? (i := 209) rfl) (by decide +kernel)
set_option maxRecDepth 100000 in
theorem kf_RX3_116 : Cond.fieldLinkNest RX3 116 "SnapHeaps$Pile" "size" "I" RX11 ∈ tblN := tn (List.mem_of_getElem? (i := 210) rfl) (by decide +kernel)
set_option maxRecDepth 100000 in
theorem ka_int : Cond.arrayClass .int ∈ tblG := tg (List.mem_of_getElem? (i := 216) rfl) (by decide +kernel)
set_option maxRecDepth 100000 in
theorem kf_RX0_12 : Cond.fieldLink RX0 12 "SnapHeaps$Board" "row0" "LSnapHeaps$Pile;" ∈ tblG := tg (List.mem_of_getElem? (i := 217) rfl) (by decide +kernel)
set_option maxRecDepth 100000 in
theorem kf_RX0_18 : Cond.fieldLink RX0 18 "SnapHeaps$Board" "row1" "LSnapHeaps$Pile;" ∈ tblG := tg (List.mem_of_getElem? (i := 218) rfl) (by decide +kernel)
set_option maxRecDepth 100000 in
theorem kf_RX0_21 : Cond.fieldLink RX0 21 "SnapHeaps$Board" "row2" "LSnapHeaps$Pile;" ∈ tblG := tg (List.mem_of_getElem? (i := 219) rfl) (by decide +kernel)
set_option maxRecDepth 100000 in
theorem kf_RX0_24 : Cond.fieldLink RX0 24 "SnapHeaps$Board" "heap0" "LSnapHeaps$Pile;" ∈ tblG := tg (List.mem_of_getElem? (i := 220) rfl) (by decide +kernel)
set_option maxRecDepth 100000 in
theorem kf_RX0_27 : Cond.fieldLink RX0 27 "SnapHeaps$Board" "heap1" "LSnapHeaps$Pile;" ∈ tblG := tg (List.mem_of_getElem? (i := 221) rfl) (by decide +kernel)
set_option maxRecDepth 100000 in
theorem kf_RX0_30 : Cond.fieldLink RX0 30 "SnapHeaps$Board" "heap2" "LSnapHeaps$Pile;" ∈ tblG := tg (List.mem_of_getElem? (i := 222) rfl) (by decide +kernel)
set_option maxRecDepth 100000 in
theorem kf_RX0_33 : Cond.fieldLink RX0 33 "SnapHeaps$Board" "pool" "LSnapHeaps$Pile;" ∈ tblG := tg (List.mem_of_getElem? (i := 223) rfl) (by decide +kernel)
set_option maxRecDepth 100000 in
theorem kf_RX11_171 : Cond.fieldLinkNest RX11 171 "SnapHeaps$Board" "pool" "LSnapHeaps$Pile;" RX11 ∈ tblN := tn (List.mem_of_getElem? (i := 224) rfl) (by decide +kernel)
set_option maxRecDepth 100000 in
theorem kf_RX3_119 : Cond.fieldLinkNest RX3 119 "SnapHeaps$Board" "pool" "LSnapHeaps$Pile;" RX11 ∈ tblN := tn (List.mem_of_getElem? (i := 225) rfl) (by decide +kernel)
set_option maxRecDepth 100000 in
theorem kf_RX0_50 : Cond.fieldLink RX0 50 "SnapHeaps$Board" "players" "I" ∈ tblG := tg (List.mem_of_getElem? (i := 226) rfl) (by decide +kernel)
set_option maxRecDepth 100000 in
theorem kf_RX8_69 : Cond.fieldLinkNest RX8 69 "SnapHeaps$Board" "players" "I" RX11 ∈ tblN := tn (List.mem_of_getElem? (i := 227) rfl) (by decide +kernel)
set_option maxRecDepth 100000 in
theorem kf_RX0_53 : Cond.fieldLink RX0 53 "SnapHeaps$Board" "next" "I" ∈ tblG := tg (List.mem_of_getElem? (i := 228) rfl) (by decide +kernel)
set_option maxRecDepth 100000 in
theorem kf_RX8_11 : Cond.fieldLink RX8 11 "SnapHeaps$Table" "traits" "[I" ∈ tblG := tg (List.mem_of_getElem? (i := 248) rfl) (by decide +kernel)
set_option maxRecDepth 100000 in
theorem kf_RX8_15 : Cond.fieldLink RX8 15 "SnapHeaps$Table" "weights" "[I" ∈ tblG := tg (List.mem_of_getElem? (i := 249) rfl) (by decide +kernel)
set_option maxRecDepth 100000 in
theorem kf_RX8_18 : Cond.fieldLink RX8 18 "SnapHeaps$Table" "laws" "[I" ∈ tblG := tg (List.mem_of_getElem? (i := 250) rfl) (by decide +kernel)
set_option maxRecDepth 100000 in
theorem kf_RX3_54 : Cond.fieldLinkNest RX3 54 "SnapHeaps$Table" "laws" "[I" RX11 ∈ tblN := tn (List.mem_of_getElem? (i := 251) rfl) (by decide +kernel)
set_option maxRecDepth 100000 in
theorem kf_RX8_24 : Cond.fieldLink RX8 24 "SnapHeaps$Table" "dealt" "LSnapHeaps$Board;" ∈ tblG := tg (List.mem_of_getElem? (i := 252) rfl) (by decide +kernel)
set_option maxRecDepth 100000 in
theorem kf_RX3_45 : Cond.fieldLinkNest RX3 45 "SnapHeaps$Table" "dealt" "LSnapHeaps$Board;" RX11 ∈ tblN := tn (List.mem_of_getElem? (i := 253) rfl) (by decide +kernel)
set_option maxRecDepth 100000 in
theorem kf_RX11_127 : Cond.fieldLinkNest RX11 127 "SnapHeaps$Table" "players" "I" RX11 ∈ tblN := tn (List.mem_of_getElem? (i := 254) rfl) (by decide +kernel)
set_option maxRecDepth 100000 in
theorem kf_RX8_28 : Cond.fieldLink RX8 28 "SnapHeaps$Table" "players" "I" ∈ tblG := tg (List.mem_of_getElem? (i := 255) rfl) (by decide +kernel)
set_option maxRecDepth 100000 in
theorem kf_RX10_104 : Cond.fieldLinkNest RX10 104 "SnapHeaps$Table" "players" "I" RX11 ∈ tblN := tn (List.mem_of_getElem? (i := 256) rfl) (by decide +kernel)
set_option maxRecDepth 100000 in
theorem kf_RX3_148 : Cond.fieldLinkNest RX3 148 "SnapHeaps$Table" "players" "I" RX11 ∈ tblN := tn (List.mem_of_getElem? (i := 257) rfl) (by decide +kernel)
set_option maxRecDepth 100000 in
theorem kf_RX8_40 : Cond.fieldLink RX8 40 "SnapHeaps$Table" "moments" "I" ∈ tblG := tg (List.mem_of_getElem? (i := 258) rfl) (by decide +kernel)
set_option maxRecDepth 100000 in
theorem kf_RX11_181 : Cond.fieldLinkNest RX11 181 "SnapHeaps$Table" "moments" "I" RX11 ∈ tblN := tn (List.mem_of_getElem? (i := 259) rfl) (by decide +kernel)
set_option maxRecDepth 100000 in
theorem ki_yX7_init : Cond.instanceMethod yX7_init ∈ tblG := tg (List.mem_of_getElem? (i := 276) rfl) (by decide +kernel)
set_option maxRecDepth 100000 in
theorem kc_yX7_init : Cond.code yX7_init prog_9_method_1_code (1 : Nat) (Option.none : Option FieldType) ∈ tblG := tg (List.mem_of_getElem? (i := 277) rfl) (by decide +kernel)
set_option maxRecDepth 100000 in
theorem kf_RX7_11 : Cond.fieldLink RX7 11 "SnapHeaps$Plan" "codes" "[I" ∈ tblG := tg (List.mem_of_getElem? (i := 279) rfl) (by decide +kernel)
set_option maxRecDepth 100000 in
theorem kf_RX7_15 : Cond.fieldLink RX7 15 "SnapHeaps$Plan" "size" "I" ∈ tblG := tg (List.mem_of_getElem? (i := 280) rfl) (by decide +kernel)
set_option maxRecDepth 100000 in
theorem ki_yX1_init : Cond.instanceMethod yX1_init ∈ tblG := tg (List.mem_of_getElem? (i := 289) rfl) (by decide +kernel)
set_option maxRecDepth 100000 in
theorem kc_yX1_init : Cond.code yX1_init prog_3_method_1_code (1 : Nat) (Option.none : Option FieldType) ∈ tblG := tg (List.mem_of_getElem? (i := 290) rfl) (by decide +kernel)
set_option maxRecDepth 100000 in
theorem kf_RX1_11 : Cond.fieldLink RX1 11 "SnapHeaps$Book" "turns" "[I" ∈ tblG := tg (List.mem_of_getElem? (i := 292) rfl) (by decide +kernel)
set_option maxRecDepth 100000 in
theorem kf_RX1_15 : Cond.fieldLink RX1 15 "SnapHeaps$Book" "winners" "[I" ∈ tblG := tg (List.mem_of_getElem? (i := 293) rfl) (by decide +kernel)
set_option maxRecDepth 100000 in
theorem kf_RX1_18 : Cond.fieldLink RX1 18 "SnapHeaps$Book" "lines" "I" ∈ tblG := tg (List.mem_of_getElem? (i := 294) rfl) (by decide +kernel)
set_option maxRecDepth 100000 in
theorem kf_RX11_118 : Cond.fieldLinkNest RX11 118 "SnapHeaps$Book" "lines" "I" RX11 ∈ tblN := tn (List.mem_of_getElem? (i := 295) rfl) (by decide +kernel)
set_option maxRecDepth 100000 in
theorem ki_yX3_init : Cond.instanceMethod yX3_init ∈ tblG := tg (List.mem_of_getElem? (i := 306) rfl) (by decide +kernel)
set_option maxRecDepth 100000 in
theorem kc_yX3_init : Cond.code yX3_init prog_5_method_1_code (2 : Nat) (Option.none : Option FieldType) ∈ tblG := tg (List.mem_of_getElem? (i := 307) rfl) (by decide +kernel)
set_option maxRecDepth 100000 in
theorem kf_RX3_41 : Cond.fieldLink RX3 41 "SnapHeaps$Game" "table" "LSnapHeaps$Table;" ∈ tblG := tg (List.mem_of_getElem? (i := 313) rfl) (by decide +kernel)
set_option maxRecDepth 100000 in
theorem kf_RX3_14 : Cond.fieldLink RX3 14 "SnapHeaps$Game" "board" "LSnapHeaps$Board;" ∈ tblG := tg (List.mem_of_getElem? (i := 314) rfl) (by decide +kernel)
set_option maxRecDepth 100000 in
theorem kf_RX2_61 : Cond.fieldLinkNest RX2 61 "SnapHeaps$Game" "board" "LSnapHeaps$Board;" RX11 ∈ tblN := tn (List.mem_of_getElem? (i := 315) rfl) (by decide +kernel)
set_option maxRecDepth 100000 in
theorem kf_RX4_74 : Cond.fieldLinkNest RX4 74 "SnapHeaps$Game" "board" "LSnapHeaps$Board;" RX11 ∈ tblN := tn (List.mem_of_getElem? (i := 316) rfl) (by decide +kernel)
set_option maxRecDepth 100000 in
theorem kf_RX11_155 : Cond.fieldLinkNest RX11 155 "SnapHeaps$Game" "board" "LSnapHeaps$Board;" RX11 ∈ tblN := tn (List.mem_of_getElem? (i := 317) rfl) (by decide +kernel)
set_option maxRecDepth 100000 in
theorem kf_RX3_18 : Cond.fieldLink RX3 18 "SnapHeaps$Game" "laws" "[I" ∈ tblG := tg (List.mem_of_getElem? (i := 318) rfl) (by decide +kernel)
set_option maxRecDepth 100000 in
theorem kf_RX3_24 : Cond.fieldLink RX3 24 "SnapHeaps$Game" "plans" "[LSnapHeaps$Plan;" ∈ tblG := tg (List.mem_of_getElem? (i := 319) rfl) (by decide +kernel)
set_option maxRecDepth 100000 in
theorem kf_RX3_28 : Cond.fieldLink RX3 28 "SnapHeaps$Game" "tallies" "[I" ∈ tblG := tg (List.mem_of_getElem? (i := 320) rfl) (by decide +kernel)
set_option maxRecDepth 100000 in
theorem kf_RX4_93 : Cond.fieldLinkNest RX4 93 "SnapHeaps$Game" "tallies" "[I" RX11 ∈ tblN := tn (List.mem_of_getElem? (i := 321) rfl) (by decide +kernel)
set_option maxRecDepth 100000 in
theorem kf_RX3_31 : Cond.fieldLink RX3 31 "SnapHeaps$Game" "last" "[I" ∈ tblG := tg (List.mem_of_getElem? (i := 322) rfl) (by decide +kernel)
set_option maxRecDepth 100000 in
theorem kf_RX3_34 : Cond.fieldLink RX3 34 "SnapHeaps$Game" "delays" "[I" ∈ tblG := tg (List.mem_of_getElem? (i := 323) rfl) (by decide +kernel)
set_option maxRecDepth 100000 in
theorem kf_RX3_61 : Cond.fieldLink RX3 61 "SnapHeaps$Game" "hasLast" "Z" ∈ tblG := tg (List.mem_of_getElem? (i := 324) rfl) (by decide +kernel)
set_option maxRecDepth 100000 in
theorem kf_RX4_70 : Cond.fieldLinkNest RX4 70 "SnapHeaps$Game" "hasLast" "Z" RX11 ∈ tblN := tn (List.mem_of_getElem? (i := 325) rfl) (by decide +kernel)
set_option maxRecDepth 100000 in
theorem kf_RX3_65 : Cond.fieldLink RX3 65 "SnapHeaps$Game" "drawn" "Z" ∈ tblG := tg (List.mem_of_getElem? (i := 326) rfl) (by decide +kernel)
set_option maxRecDepth 100000 in
theorem kf_RX2_90 : Cond.fieldLinkNest RX2 90 "SnapHeaps$Game" "drawn" "Z" RX11 ∈ tblN := tn (List.mem_of_getElem? (i := 327) rfl) (by decide +kernel)
set_option maxRecDepth 100000 in
theorem kf_RX11_217 : Cond.fieldLinkNest RX11 217 "SnapHeaps$Game" "drawn" "Z" RX11 ∈ tblN := tn (List.mem_of_getElem? (i := 328) rfl) (by decide +kernel)
set_option maxRecDepth 100000 in
theorem kf_RX3_68 : Cond.fieldLink RX3 68 "SnapHeaps$Game" "seed" "I" ∈ tblG := tg (List.mem_of_getElem? (i := 329) rfl) (by decide +kernel)
set_option maxRecDepth 100000 in
theorem kf_RX2_94 : Cond.fieldLinkNest RX2 94 "SnapHeaps$Game" "seed" "I" RX11 ∈ tblN := tn (List.mem_of_getElem? (i := 330) rfl) (by decide +kernel)
set_option maxRecDepth 100000 in
theorem kf_RX4_84 : Cond.fieldLinkNest RX4 84 "SnapHeaps$Game" "seed" "I" RX11 ∈ tblN := tn (List.mem_of_getElem? (i := 331) rfl) (by decide +kernel)
set_option maxRecDepth 100000 in
theorem kf_RX11_221 : Cond.fieldLinkNest RX11 221 "SnapHeaps$Game" "seed" "I" RX11 ∈ tblN := tn (List.mem_of_getElem? (i := 332) rfl) (by decide +kernel)
set_option maxRecDepth 100000 in
theorem kf_RX3_71 : Cond.fieldLink RX3 71 "SnapHeaps$Game" "turn" "I" ∈ tblG := tg (List.mem_of_getElem? (i := 333) rfl) (by decide +kernel)
set_option maxRecDepth 100000 in
theorem kf_RX5_43 : Cond.fieldLinkNest RX5 43 "SnapHeaps$Game" "turn" "I" RX11 ∈ tblN := tn (List.mem_of_getElem? (i := 334) rfl) (by decide +kernel)
set_option maxRecDepth 100000 in
theorem kf_RX2_87 : Cond.fieldLinkNest RX2 87 "SnapHeaps$Game" "turn" "I" RX11 ∈ tblN := tn (List.mem_of_getElem? (i := 335) rfl) (by decide +kernel)
set_option maxRecDepth 100000 in
theorem kf_RX4_46 : Cond.fieldLinkNest RX4 46 "SnapHeaps$Game" "turn" "I" RX11 ∈ tblN := tn (List.mem_of_getElem? (i := 336) rfl) (by decide +kernel)
set_option maxRecDepth 100000 in
theorem kf_RX11_165 : Cond.fieldLinkNest RX11 165 "SnapHeaps$Game" "turn" "I" RX11 ∈ tblN := tn (List.mem_of_getElem? (i := 337) rfl) (by decide +kernel)
set_option maxRecDepth 100000 in
theorem kf_RX3_37 : Cond.fieldLink RX3 37 "SnapHeaps$Game" "pair" "I" ∈ tblG := tg (List.mem_of_getElem? (i := 338) rfl) (by decide +kernel)
set_option maxRecDepth 100000 in
theorem kf_RX3_85 : Cond.fieldLink RX3 85 "SnapHeaps$Game" "twins" "I" ∈ tblG := tg (List.mem_of_getElem? (i := 339) rfl) (by decide +kernel)
set_option maxRecDepth 100000 in
theorem kf_RX3_100 : Cond.fieldLink RX3 100 "SnapHeaps$Game" "nextIsLike" "Z" ∈ tblG := tg (List.mem_of_getElem? (i := 340) rfl) (by decide +kernel)
set_option maxRecDepth 100000 in
theorem ki_yX2_init : Cond.instanceMethod yX2_init ∈ tblG := tg (List.mem_of_getElem? (i := 373) rfl) (by decide +kernel)
set_option maxRecDepth 100000 in
theorem kc_yX2_init : Cond.code yX2_init prog_4_method_1_code (2 : Nat) (Option.none : Option FieldType) ∈ tblG := tg (List.mem_of_getElem? (i := 374) rfl) (by decide +kernel)
set_option maxRecDepth 100000 in
theorem kf_RX2_27 : Cond.fieldLink RX2 27 "SnapHeaps$Ends" "work" "LSnapHeaps$Game;" ∈ tblG := tg (List.mem_of_getElem? (i := 378) rfl) (by decide +kernel)
set_option maxRecDepth 100000 in
theorem kf_RX11_307 : Cond.fieldLinkNest RX11 307 "SnapHeaps$Ends" "work" "LSnapHeaps$Game;" RX11 ∈ tblN := tn (List.mem_of_getElem? (i := 379) rfl) (by decide +kernel)
set_option maxRecDepth 100000 in
theorem kf_RX2_11 : Cond.fieldLink RX2 11 "SnapHeaps$Ends" "states" "[J" ∈ tblG := tg (List.mem_of_getElem? (i := 380) rfl) (by decide +kernel)
set_option maxRecDepth 100000 in
theorem kf_RX2_15 : Cond.fieldLink RX2 15 "SnapHeaps$Ends" "heads" "[I" ∈ tblG := tg (List.mem_of_getElem? (i := 381) rfl) (by decide +kernel)
set_option maxRecDepth 100000 in
theorem kf_RX2_19 : Cond.fieldLink RX2 19 "SnapHeaps$Ends" "chains" "[I" ∈ tblG := tg (List.mem_of_getElem? (i := 382) rfl) (by decide +kernel)
set_option maxRecDepth 100000 in
theorem kf_RX2_80 : Cond.fieldLink RX2 80 "SnapHeaps$Ends" "left" "I" ∈ tblG := tg (List.mem_of_getElem? (i := 383) rfl) (by decide +kernel)
set_option maxRecDepth 100000 in
theorem kf_RX11_243 : Cond.fieldLinkNest RX11 243 "SnapHeaps$Ends" "left" "I" RX11 ∈ tblN := tn (List.mem_of_getElem? (i := 384) rfl) (by decide +kernel)
set_option maxRecDepth 100000 in
theorem kf_RX2_58 : Cond.fieldLink RX2 58 "SnapHeaps$Ends" "length" "I" ∈ tblG := tg (List.mem_of_getElem? (i := 385) rfl) (by decide +kernel)
set_option maxRecDepth 100000 in
theorem kf_RX11_246 : Cond.fieldLinkNest RX11 246 "SnapHeaps$Ends" "length" "I" RX11 ∈ tblN := tn (List.mem_of_getElem? (i := 386) rfl) (by decide +kernel)
set_option maxRecDepth 100000 in
theorem kf_RX2_51 : Cond.fieldLink RX2 51 "SnapHeaps$Ends" "verdict" "I" ∈ tblG := tg (List.mem_of_getElem? (i := 387) rfl) (by decide +kernel)
set_option maxRecDepth 100000 in
theorem kf_RX11_249 : Cond.fieldLinkNest RX11 249 "SnapHeaps$Ends" "verdict" "I" RX11 ∈ tblN := tn (List.mem_of_getElem? (i := 388) rfl) (by decide +kernel)
set_option maxRecDepth 100000 in
theorem kf_RX2_55 : Cond.fieldLink RX2 55 "SnapHeaps$Ends" "period" "I" ∈ tblG := tg (List.mem_of_getElem? (i := 389) rfl) (by decide +kernel)
set_option maxRecDepth 100000 in
theorem kf_RX11_252 : Cond.fieldLinkNest RX11 252 "SnapHeaps$Ends" "period" "I" RX11 ∈ tblN := tn (List.mem_of_getElem? (i := 390) rfl) (by decide +kernel)
set_option maxRecDepth 100000 in
theorem ka_long : Cond.arrayClass .long ∈ tblG := tg (List.mem_of_getElem? (i := 408) rfl) (by decide +kernel)
set_option maxRecDepth 100000 in
theorem ki_yX10_init : Cond.instanceMethod yX10_init ∈ tblG := tg (List.mem_of_getElem? (i := 412) rfl) (by decide +kernel)
set_option maxRecDepth 100000 in
theorem kc_yX10_init : Cond.code yX10_init prog_12_method_1_code (3 : Nat) (Option.none : Option FieldType) ∈ tblG := tg (List.mem_of_getElem? (i := 413) rfl) (by decide +kernel)
set_option maxRecDepth 100000 in
theorem kf_RX10_17 : Cond.fieldLink RX10 17 "SnapHeaps$Tree" "table" "LSnapHeaps$Table;" ∈ tblG := tg (List.mem_of_getElem? (i := 418) rfl) (by decide +kernel)
set_option maxRecDepth 100000 in
theorem kf_RX10_13 : Cond.fieldLink RX10 13 "SnapHeaps$Tree" "boards" "[LSnapHeaps$Board;" ∈ tblG := tg (List.mem_of_getElem? (i := 419) rfl) (by decide +kernel)
set_option maxRecDepth 100000 in
theorem kf_RX10_41 : Cond.fieldLink RX10 41 "SnapHeaps$Tree" "player" "I" ∈ tblG := tg (List.mem_of_getElem? (i := 420) rfl) (by decide +kernel)
set_option maxRecDepth 100000 in
theorem kf_RX10_45 : Cond.fieldLink RX10 45 "SnapHeaps$Tree" "poolLaw" "I" ∈ tblG := tg (List.mem_of_getElem? (i := 421) rfl) (by decide +kernel)
set_option maxRecDepth 100000 in
theorem kf_RX10_77 : Cond.fieldLink RX10 77 "SnapHeaps$Tree" "turns" "I" ∈ tblG := tg (List.mem_of_getElem? (i := 422) rfl) (by decide +kernel)
set_option maxRecDepth 100000 in
theorem kf_RX10_48 : Cond.fieldLink RX10 48 "SnapHeaps$Tree" "bestCards" "I" ∈ tblG := tg (List.mem_of_getElem? (i := 423) rfl) (by decide +kernel)
set_option maxRecDepth 100000 in
theorem kf_RX11_288 : Cond.fieldLinkNest RX11 288 "SnapHeaps$Tree" "bestCards" "I" RX11 ∈ tblN := tn (List.mem_of_getElem? (i := 424) rfl) (by decide +kernel)
set_option maxRecDepth 100000 in
theorem kf_RX10_51 : Cond.fieldLink RX10 51 "SnapHeaps$Tree" "bestBits" "I" ∈ tblG := tg (List.mem_of_getElem? (i := 425) rfl) (by decide +kernel)
set_option maxRecDepth 100000 in
theorem kf_RX11_291 : Cond.fieldLinkNest RX11 291 "SnapHeaps$Tree" "bestBits" "I" RX11 ∈ tblN := tn (List.mem_of_getElem? (i := 426) rfl) (by decide +kernel)
set_option maxRecDepth 100000 in
theorem kf_RX10_80 : Cond.fieldLink RX10 80 "SnapHeaps$Tree" "above" "J" ∈ tblG := tg (List.mem_of_getElem? (i := 427) rfl) (by decide +kernel)
set_option maxRecDepth 100000 in
theorem kf_RX11_297 : Cond.fieldLinkNest RX11 297 "SnapHeaps$Tree" "above" "J" RX11 ∈ tblN := tn (List.mem_of_getElem? (i := 428) rfl) (by decide +kernel)
set_option maxRecDepth 100000 in
theorem kf_RX10_84 : Cond.fieldLink RX10 84 "SnapHeaps$Tree" "below" "J" ∈ tblG := tg (List.mem_of_getElem? (i := 429) rfl) (by decide +kernel)
set_option maxRecDepth 100000 in
theorem kf_RX11_301 : Cond.fieldLinkNest RX11 301 "SnapHeaps$Tree" "below" "J" RX11 ∈ tblN := tn (List.mem_of_getElem? (i := 430) rfl) (by decide +kernel)
set_option maxRecDepth 100000 in
theorem ki_yX4_init : Cond.instanceMethod yX4_init ∈ tblG := tg (List.mem_of_getElem? (i := 453) rfl) (by decide +kernel)
set_option maxRecDepth 100000 in
theorem kc_yX4_init : Cond.code yX4_init prog_6_method_1_code (1 : Nat) (Option.none : Option FieldType) ∈ tblG := tg (List.mem_of_getElem? (i := 454) rfl) (by decide +kernel)
set_option maxRecDepth 100000 in
theorem kf_RX4_11 : Cond.fieldLink RX4 11 "SnapHeaps$History" "winners" "[J" ∈ tblG := tg (List.mem_of_getElem? (i := 456) rfl) (by decide +kernel)
set_option maxRecDepth 100000 in
theorem kf_RX5_38 : Cond.fieldLinkNest RX5 38 "SnapHeaps$History" "winners" "[J" RX11 ∈ tblN := tn (List.mem_of_getElem? (i := 457) rfl) (by decide +kernel)
set_option maxRecDepth 100000 in
theorem kf_RX4_15 : Cond.fieldLink RX4 15 "SnapHeaps$History" "states" "[J" ∈ tblG := tg (List.mem_of_getElem? (i := 458) rfl) (by decide +kernel)
set_option maxRecDepth 100000 in
theorem kf_RX4_20 : Cond.fieldLink RX4 20 "SnapHeaps$History" "tallies" "[I" ∈ tblG := tg (List.mem_of_getElem? (i := 459) rfl) (by decide +kernel)
set_option maxRecDepth 100000 in
theorem kf_RX4_24 : Cond.fieldLink RX4 24 "SnapHeaps$History" "turns" "[I" ∈ tblG := tg (List.mem_of_getElem? (i := 460) rfl) (by decide +kernel)
set_option maxRecDepth 100000 in
theorem kf_RX4_31 : Cond.fieldLink RX4 31 "SnapHeaps$History" "marks" "I" ∈ tblG := tg (List.mem_of_getElem? (i := 461) rfl) (by decide +kernel)
set_option maxRecDepth 100000 in
theorem kf_RX4_27 : Cond.fieldLink RX4 27 "SnapHeaps$History" "base" "I" ∈ tblG := tg (List.mem_of_getElem? (i := 462) rfl) (by decide +kernel)
set_option maxRecDepth 100000 in
theorem kf_RX11_339 : Cond.fieldLinkNest RX11 339 "SnapHeaps$History" "base" "I" RX11 ∈ tblN := tn (List.mem_of_getElem? (i := 463) rfl) (by decide +kernel)
set_option maxRecDepth 100000 in
theorem ki_yX5_init : Cond.instanceMethod yX5_init ∈ tblG := tg (List.mem_of_getElem? (i := 480) rfl) (by decide +kernel)
set_option maxRecDepth 100000 in
theorem kc_yX5_init : Cond.code yX5_init prog_7_method_1_code (2 : Nat) (Option.none : Option FieldType) ∈ tblG := tg (List.mem_of_getElem? (i := 481) rfl) (by decide +kernel)
set_option maxRecDepth 100000 in
theorem kf_RX5_27 : Cond.fieldLink RX5 27 "SnapHeaps$Image" "game" "LSnapHeaps$Game;" ∈ tblG := tg (List.mem_of_getElem? (i := 487) rfl) (by decide +kernel)
set_option maxRecDepth 100000 in
theorem kf_RX5_10 : Cond.fieldLink RX5 10 "SnapHeaps$Image" "tape" "LSnapHeaps$Tape;" ∈ tblG := tg (List.mem_of_getElem? (i := 488) rfl) (by decide +kernel)
set_option maxRecDepth 100000 in
theorem kf_RX5_18 : Cond.fieldLink RX5 18 "SnapHeaps$Image" "winners" "[J" ∈ tblG := tg (List.mem_of_getElem? (i := 489) rfl) (by decide +kernel)
set_option maxRecDepth 100000 in
theorem kf_RX11_10 : Cond.fieldLink RX11 10 "SnapHeaps" "tape" "LSnapHeaps$Tape;" ∈ tblG := tg (List.mem_of_getElem? (i := 497) rfl) (by decide +kernel)
set_option maxRecDepth 100000 in
theorem kf_RX11_19 : Cond.fieldLink RX11 19 "SnapHeaps" "table" "LSnapHeaps$Table;" ∈ tblG := tg (List.mem_of_getElem? (i := 498) rfl) (by decide +kernel)
set_option maxRecDepth 100000 in
theorem kf_RX11_23 : Cond.fieldLink RX11 23 "SnapHeaps" "tableDraft" "LSnapHeaps$Table;" ∈ tblG := tg (List.mem_of_getElem? (i := 499) rfl) (by decide +kernel)
set_option maxRecDepth 100000 in
theorem kf_RX11_29 : Cond.fieldLink RX11 29 "SnapHeaps" "planDraft" "LSnapHeaps$Plan;" ∈ tblG := tg (List.mem_of_getElem? (i := 500) rfl) (by decide +kernel)
set_option maxRecDepth 100000 in
theorem kf_RX11_36 : Cond.fieldLink RX11 36 "SnapHeaps" "book" "LSnapHeaps$Book;" ∈ tblG := tg (List.mem_of_getElem? (i := 501) rfl) (by decide +kernel)
set_option maxRecDepth 100000 in
theorem kf_RX11_40 : Cond.fieldLink RX11 40 "SnapHeaps" "bookDraft" "LSnapHeaps$Book;" ∈ tblG := tg (List.mem_of_getElem? (i := 502) rfl) (by decide +kernel)
set_option maxRecDepth 100000 in
theorem kf_RX11_48 : Cond.fieldLink RX11 48 "SnapHeaps" "game" "LSnapHeaps$Game;" ∈ tblG := tg (List.mem_of_getElem? (i := 503) rfl) (by decide +kernel)
set_option maxRecDepth 100000 in
theorem kf_RX11_55 : Cond.fieldLink RX11 55 "SnapHeaps" "ends" "LSnapHeaps$Ends;" ∈ tblG := tg (List.mem_of_getElem? (i := 504) rfl) (by decide +kernel)
set_option maxRecDepth 100000 in
theorem kf_RX11_62 : Cond.fieldLink RX11 62 "SnapHeaps" "tree" "LSnapHeaps$Tree;" ∈ tblG := tg (List.mem_of_getElem? (i := 505) rfl) (by decide +kernel)
set_option maxRecDepth 100000 in
theorem kf_RX11_69 : Cond.fieldLink RX11 69 "SnapHeaps" "history" "LSnapHeaps$History;" ∈ tblG := tg (List.mem_of_getElem? (i := 506) rfl) (by decide +kernel)
set_option maxRecDepth 100000 in
theorem kf_RX11_76 : Cond.fieldLink RX11 76 "SnapHeaps" "image0" "LSnapHeaps$Image;" ∈ tblG := tg (List.mem_of_getElem? (i := 507) rfl) (by decide +kernel)
set_option maxRecDepth 100000 in
theorem kf_RX11_80 : Cond.fieldLink RX11 80 "SnapHeaps" "image1" "LSnapHeaps$Image;" ∈ tblG := tg (List.mem_of_getElem? (i := 508) rfl) (by decide +kernel)
set_option maxRecDepth 100000 in
theorem kf_RX11_83 : Cond.fieldLink RX11 83 "SnapHeaps" "image2" "LSnapHeaps$Image;" ∈ tblG := tg (List.mem_of_getElem? (i := 509) rfl) (by decide +kernel)
set_option maxRecDepth 100000 in
theorem kf_RX11_121 : Cond.fieldLink RX11 121 "SnapHeaps" "images" "I" ∈ tblG := tg (List.mem_of_getElem? (i := 510) rfl) (by decide +kernel)
set_option maxRecDepth 100000 in
theorem kf_RX11_333 : Cond.fieldLink RX11 333 "SnapHeaps" "unknownPlayers" "I" ∈ tblG := tg (List.mem_of_getElem? (i := 511) rfl) (by decide +kernel)
set_option maxRecDepth 100000 in
theorem kf_RX11_336 : Cond.fieldLink RX11 336 "SnapHeaps" "wrongNumbers" "I" ∈ tblG := tg (List.mem_of_getElem? (i := 512) rfl) (by decide +kernel)
set_option maxRecDepth 100000 in
theorem ki_yX11_feed : Cond.instanceMethod yX11_feed ∈ tblG := tg (List.mem_of_getElem? (i := 547) rfl) (by decide +kernel)
set_option maxRecDepth 100000 in
theorem kc_yX11_feed : Cond.code yX11_feed prog_1_method_2_code (6 : Nat) (Option.some FieldType.int) ∈ tblG := tg (List.mem_of_getElem? (i := 549) rfl) (by decide +kernel)
set_option maxRecDepth 100000 in
theorem ki_yX9_hasRoom : Cond.instanceMethod yX9_hasRoom ∈ tblG := tg (List.mem_of_getElem? (i := 551) rfl) (by decide +kernel)
set_option maxRecDepth 100000 in
theorem kc_yX9_hasRoom : Cond.code yX9_hasRoom prog_11_method_2_code (2 : Nat) (Option.some FieldType.boolean) ∈ tblG := tg (List.mem_of_getElem? (i := 553) rfl) (by decide +kernel)
set_option maxRecDepth 100000 in
theorem ki_yX9_addFour : Cond.instanceMethod yX9_addFour ∈ tblG := tg (List.mem_of_getElem? (i := 555) rfl) (by decide +kernel)
set_option maxRecDepth 100000 in
theorem kc_yX9_addFour : Cond.code yX9_addFour prog_11_method_3_code (3 : Nat) (Option.none : Option FieldType) ∈ tblG := tg (List.mem_of_getElem? (i := 557) rfl) (by decide +kernel)
set_option maxRecDepth 100000 in
theorem ki_yX11_fault : Cond.instanceMethod yX11_fault ∈ tblG := tg (List.mem_of_getElem? (i := 559) rfl) (by decide +kernel)
set_option maxRecDepth 100000 in
theorem kc_yX11_fault : Cond.code yX11_fault prog_1_method_7_code (1 : Nat) (Option.some FieldType.int) ∈ tblG := tg (List.mem_of_getElem? (i := 561) rfl) (by decide +kernel)
set_option maxRecDepth 100000 in
theorem ki_yX11_pool : Cond.instanceMethod yX11_pool ∈ tblG := tg (List.mem_of_getElem? (i := 563) rfl) (by decide +kernel)
set_option maxRecDepth 100000 in
theorem kc_yX11_pool : Cond.code yX11_pool prog_1_method_12_code (2 : Nat) (Option.some FieldType.int) ∈ tblG := tg (List.mem_of_getElem? (i := 565) rfl) (by decide +kernel)
set_option maxRecDepth 100000 in
theorem ki_yX6_kindAt : Cond.instanceMethod yX6_kindAt ∈ tblG := tg (List.mem_of_getElem? (i := 567) rfl) (by decide +kernel)
set_option maxRecDepth 100000 in
theorem kc_yX6_kindAt : Cond.code yX6_kindAt prog_8_method_3_code (2 : Nat) (Option.some FieldType.int) ∈ tblG := tg (List.mem_of_getElem? (i := 569) rfl) (by decide +kernel)
set_option maxRecDepth 100000 in
theorem ki_yX11_alike : Cond.instanceMethod yX11_alike ∈ tblG := tg (List.mem_of_getElem? (i := 571) rfl) (by decide +kernel)
set_option maxRecDepth 100000 in
theorem kc_yX11_alike : Cond.code yX11_alike prog_1_method_14_code (1 : Nat) (Option.some FieldType.int) ∈ tblG := tg (List.mem_of_getElem? (i := 573) rfl) (by decide +kernel)
set_option maxRecDepth 100000 in
theorem ki_yX0_likeTops : Cond.instanceMethod yX0_likeTops ∈ tblG := tg (List.mem_of_getElem? (i := 575) rfl) (by decide +kernel)
set_option maxRecDepth 100000 in
theorem kc_yX0_likeTops : Cond.code yX0_likeTops prog_2_method_16_code (1 : Nat) (Option.some FieldType.int) ∈ tblG := tg (List.mem_of_getElem? (i := 577) rfl) (by decide +kernel)
set_option maxRecDepth 100000 in
theorem ki_yX0_likeTopsIf : Cond.instanceMethod yX0_likeTopsIf ∈ tblG := tg (List.mem_of_getElem? (i := 579) rfl) (by decide +kernel)
set_option maxRecDepth 100000 in
theorem kc_yX0_likeTopsIf : Cond.code yX0_likeTopsIf prog_2_method_17_code (6 : Nat) (Option.some FieldType.int) ∈ tblG := tg (List.mem_of_getElem? (i := 581) rfl) (by decide +kernel)
set_option maxRecDepth 100000 in
theorem ki_yX6_topKind : Cond.instanceMethod yX6_topKind ∈ tblG := tg (List.mem_of_getElem? (i := 583) rfl) (by decide +kernel)
set_option maxRecDepth 100000 in
theorem kc_yX6_topKind : Cond.code yX6_topKind prog_8_method_4_code (1 : Nat) (Option.some FieldType.int) ∈ tblG := tg (List.mem_of_getElem? (i := 585) rfl) (by decide +kernel)
set_option maxRecDepth 100000 in
theorem ki_yX11_draws : Cond.instanceMethod yX11_draws ∈ tblG := tg (List.mem_of_getElem? (i := 587) rfl) (by decide +kernel)
set_option maxRecDepth 100000 in
theorem kc_yX11_draws : Cond.code yX11_draws prog_1_method_17_code (2 : Nat) (Option.none : Option FieldType) ∈ tblG := tg (List.mem_of_getElem? (i := 589) rfl) (by decide +kernel)
set_option maxRecDepth 100000 in
theorem ki_yX4_settle : Cond.instanceMethod yX4_settle ∈ tblG := tg (List.mem_of_getElem? (i := 591) rfl) (by decide +kernel)
set_option maxRecDepth 100000 in
theorem kc_yX4_settle : Cond.code yX4_settle prog_6_method_2_code (2 : Nat) (Option.none : Option FieldType) ∈ tblG := tg (List.mem_of_getElem? (i := 593) rfl) (by decide +kernel)
set_option maxRecDepth 100000 in
theorem ki_yX11_still : Cond.instanceMethod yX11_still ∈ tblG := tg (List.mem_of_getElem? (i := 595) rfl) (by decide +kernel)
set_option maxRecDepth 100000 in
theorem kc_yX11_still : Cond.code yX11_still prog_1_method_18_code (2 : Nat) (Option.some FieldType.int) ∈ tblG := tg (List.mem_of_getElem? (i := 597) rfl) (by decide +kernel)
set_option maxRecDepth 100000 in
theorem ki_yX11_where : Cond.instanceMethod yX11_where ∈ tblG := tg (List.mem_of_getElem? (i := 599) rfl) (by decide +kernel)
set_option maxRecDepth 100000 in
theorem kc_yX11_where : Cond.code yX11_where prog_1_method_25_code (2 : Nat) (Option.some FieldType.int) ∈ tblG := tg (List.mem_of_getElem? (i := 601) rfl) (by decide +kernel)
set_option maxRecDepth 100000 in
theorem ki_yX10_likeTurn : Cond.instanceMethod yX10_likeTurn ∈ tblG := tg (List.mem_of_getElem? (i := 603) rfl) (by decide +kernel)
set_option maxRecDepth 100000 in
theorem kc_yX10_likeTurn : Cond.code yX10_likeTurn prog_12_method_4_code (6 : Nat) (Option.some FieldType.int) ∈ tblG := tg (List.mem_of_getElem? (i := 605) rfl) (by decide +kernel)
set_option maxRecDepth 100000 in
theorem ki_yX10_start : Cond.instanceMethod yX10_start ∈ tblG := tg (List.mem_of_getElem? (i := 608) rfl) (by decide +kernel)
set_option maxRecDepth 100000 in
theorem kc_yX10_start : Cond.code yX10_start prog_12_method_3_code (3 : Nat) (Option.none : Option FieldType) ∈ tblG := tg (List.mem_of_getElem? (i := 609) rfl) (by decide +kernel)
set_option maxRecDepth 100000 in
theorem ki_yX10_boardAt : Cond.instanceMethod yX10_boardAt ∈ tblG := tg (List.mem_of_getElem? (i := 612) rfl) (by decide +kernel)
set_option maxRecDepth 100000 in
theorem kc_yX10_boardAt : Cond.code yX10_boardAt prog_12_method_2_code (2 : Nat) (Option.some (FieldType.object "SnapHeaps$Board")) ∈ tblG := tg (List.mem_of_getElem? (i := 613) rfl) (by decide +kernel)
set_option maxRecDepth 100000 in
theorem ki_yX0_become : Cond.instanceMethod yX0_become ∈ tblG := tg (List.mem_of_getElem? (i := 615) rfl) (by decide +kernel)
set_option maxRecDepth 100000 in
theorem kc_yX0_become : Cond.code yX0_become prog_2_method_7_code (3 : Nat) (Option.none : Option FieldType) ∈ tblG := tg (List.mem_of_getElem? (i := 617) rfl) (by decide +kernel)
set_option maxRecDepth 100000 in
theorem ki_yX0_pileOf : Cond.instanceMethod yX0_pileOf ∈ tblG := tg (List.mem_of_getElem? (i := 619) rfl) (by decide +kernel)
set_option maxRecDepth 100000 in
theorem kc_yX0_pileOf : Cond.code yX0_pileOf prog_2_method_4_code (2 : Nat) (Option.some (FieldType.object "SnapHeaps$Pile")) ∈ tblG := tg (List.mem_of_getElem? (i := 621) rfl) (by decide +kernel)
set_option maxRecDepth 100000 in
theorem ki_yX0_rowOf : Cond.instanceMethod yX0_rowOf ∈ tblG := tg (List.mem_of_getElem? (i := 623) rfl) (by decide +kernel)
set_option maxRecDepth 100000 in
theorem kc_yX0_rowOf : Cond.code yX0_rowOf prog_2_method_2_code (2 : Nat) (Option.some (FieldType.object "SnapHeaps$Pile")) ∈ tblG := tg (List.mem_of_getElem? (i := 625) rfl) (by decide +kernel)
set_option maxRecDepth 100000 in
theorem ki_yX0_heapOf : Cond.instanceMethod yX0_heapOf ∈ tblG := tg (List.mem_of_getElem? (i := 627) rfl) (by decide +kernel)
set_option maxRecDepth 100000 in
theorem kc_yX0_heapOf : Cond.code yX0_heapOf prog_2_method_3_code (2 : Nat) (Option.some (FieldType.object "SnapHeaps$Pile")) ∈ tblG := tg (List.mem_of_getElem? (i := 629) rfl) (by decide +kernel)
set_option maxRecDepth 100000 in
theorem ki_yX6_become : Cond.instanceMethod yX6_become ∈ tblG := tg (List.mem_of_getElem? (i := 631) rfl) (by decide +kernel)
set_option maxRecDepth 100000 in
theorem kc_yX6_become : Cond.code yX6_become prog_8_method_9_code (3 : Nat) (Option.none : Option FieldType) ∈ tblG := tg (List.mem_of_getElem? (i := 633) rfl) (by decide +kernel)
set_option maxRecDepth 100000 in
theorem ki_yX6_put : Cond.instanceMethod yX6_put ∈ tblG := tg (List.mem_of_getElem? (i := 635) rfl) (by decide +kernel)
set_option maxRecDepth 100000 in
theorem kc_yX6_put : Cond.code yX6_put prog_8_method_5_code (2 : Nat) (Option.none : Option FieldType) ∈ tblG := tg (List.mem_of_getElem? (i := 637) rfl) (by decide +kernel)
set_option maxRecDepth 100000 in
theorem ki_yX0_step : Cond.instanceMethod yX0_step ∈ tblG := tg (List.mem_of_getElem? (i := 639) rfl) (by decide +kernel)
set_option maxRecDepth 100000 in
theorem kc_yX0_step : Cond.code yX0_step prog_2_method_23_code (2 : Nat) (Option.some FieldType.boolean) ∈ tblG := tg (List.mem_of_getElem? (i := 641) rfl) (by decide +kernel)
set_option maxRecDepth 100000 in
theorem ki_yX0_whose : Cond.instanceMethod yX0_whose ∈ tblG := tg (List.mem_of_getElem? (i := 643) rfl) (by decide +kernel)
set_option maxRecDepth 100000 in
theorem kc_yX0_whose : Cond.code yX0_whose prog_2_method_14_code (1 : Nat) (Option.some FieldType.int) ∈ tblG := tg (List.mem_of_getElem? (i := 645) rfl) (by decide +kernel)
set_option maxRecDepth 100000 in
theorem ki_yX0_remaining : Cond.instanceMethod yX0_remaining ∈ tblG := tg (List.mem_of_getElem? (i := 647) rfl) (by decide +kernel)
set_option maxRecDepth 100000 in
theorem kc_yX0_remaining : Cond.code yX0_remaining prog_2_method_13_code (3 : Nat) (Option.some FieldType.int) ∈ tblG := tg (List.mem_of_getElem? (i := 649) rfl) (by decide +kernel)
set_option maxRecDepth 100000 in
theorem ki_yX0_isOut : Cond.instanceMethod yX0_isOut ∈ tblG := tg (List.mem_of_getElem? (i := 651) rfl) (by decide +kernel)
set_option maxRecDepth 100000 in
theorem kc_yX0_isOut : Cond.code yX0_isOut prog_2_method_10_code (2 : Nat) (Option.some FieldType.boolean) ∈ tblG := tg (List.mem_of_getElem? (i := 653) rfl) (by decide +kernel)
set_option maxRecDepth 100000 in
theorem ki_yX0_firstIn : Cond.instanceMethod yX0_firstIn ∈ tblG := tg (List.mem_of_getElem? (i := 655) rfl) (by decide +kernel)
set_option maxRecDepth 100000 in
theorem kc_yX0_firstIn : Cond.code yX0_firstIn prog_2_method_11_code (5 : Nat) (Option.some FieldType.int) ∈ tblG := tg (List.mem_of_getElem? (i := 657) rfl) (by decide +kernel)
set_option maxRecDepth 100000 in
theorem ki_yX0_turnOver : Cond.instanceMethod yX0_turnOver ∈ tblG := tg (List.mem_of_getElem? (i := 659) rfl) (by decide +kernel)
set_option maxRecDepth 100000 in
theorem kc_yX0_turnOver : Cond.code yX0_turnOver prog_2_method_21_code (2 : Nat) (Option.none : Option FieldType) ∈ tblG := tg (List.mem_of_getElem? (i := 661) rfl) (by decide +kernel)
set_option maxRecDepth 100000 in
theorem ki_yX6_takeAll : Cond.instanceMethod yX6_takeAll ∈ tblG := tg (List.mem_of_getElem? (i := 663) rfl) (by decide +kernel)
set_option maxRecDepth 100000 in
theorem kc_yX6_takeAll : Cond.code yX6_takeAll prog_8_method_8_code (3 : Nat) (Option.none : Option FieldType) ∈ tblG := tg (List.mem_of_getElem? (i := 665) rfl) (by decide +kernel)
set_option maxRecDepth 100000 in
theorem ki_yX0_lay : Cond.instanceMethod yX0_lay ∈ tblG := tg (List.mem_of_getElem? (i := 667) rfl) (by decide +kernel)
set_option maxRecDepth 100000 in
theorem kc_yX0_lay : Cond.code yX0_lay prog_2_method_22_code (3 : Nat) (Option.some FieldType.int) ∈ tblG := tg (List.mem_of_getElem? (i := 669) rfl) (by decide +kernel)
set_option maxRecDepth 100000 in
theorem ki_yX6_takeFirst : Cond.instanceMethod yX6_takeFirst ∈ tblG := tg (List.mem_of_getElem? (i := 671) rfl) (by decide +kernel)
set_option maxRecDepth 100000 in
theorem kc_yX6_takeFirst : Cond.code yX6_takeFirst prog_8_method_6_code (3 : Nat) (Option.some FieldType.int) ∈ tblG := tg (List.mem_of_getElem? (i := 673) rfl) (by decide +kernel)
set_option maxRecDepth 100000 in
theorem ki_yX11_shuffle : Cond.instanceMethod yX11_shuffle ∈ tblG := tg (List.mem_of_getElem? (i := 677) rfl) (by decide +kernel)
set_option maxRecDepth 100000 in
theorem kc_yX11_shuffle : Cond.code yX11_shuffle prog_1_method_33_code (2 : Nat) (Option.none : Option FieldType) ∈ tblG := tg (List.mem_of_getElem? (i := 679) rfl) (by decide +kernel)
set_option maxRecDepth 100000 in
theorem ki_yX0_mix : Cond.instanceMethod yX0_mix ∈ tblG := tg (List.mem_of_getElem? (i := 681) rfl) (by decide +kernel)
set_option maxRecDepth 100000 in
theorem kc_yX0_mix : Cond.code yX0_mix prog_2_method_26_code (6 : Nat) (Option.none : Option FieldType) ∈ tblG := tg (List.mem_of_getElem? (i := 683) rfl) (by decide +kernel)
set_option maxRecDepth 100000 in
theorem kk_RX0_101 : Cond.constant RX0 101 (1103515245 : Int32) ∈ tblG := tg (List.mem_of_getElem? (i := 684) rfl) (by decide +kernel)
set_option maxRecDepth 100000 in
theorem ki_yX6_exchange : Cond.instanceMethod yX6_exchange ∈ tblG := tg (List.mem_of_getElem? (i := 686) rfl) (by decide +kernel)
set_option maxRecDepth 100000 in
theorem kc_yX6_exchange : Cond.code yX6_exchange prog_8_method_10_code (4 : Nat) (Option.none : Option FieldType) ∈ tblG := tg (List.mem_of_getElem? (i := 688) rfl) (by decide +kernel)
set_option maxRecDepth 100000 in
theorem ki_yX11_right : Cond.instanceMethod yX11_right ∈ tblG := tg (List.mem_of_getElem? (i := 690) rfl) (by decide +kernel)
set_option maxRecDepth 100000 in
theorem kc_yX11_right : Cond.code yX11_right prog_1_method_37_code (3 : Nat) (Option.some FieldType.int) ∈ tblG := tg (List.mem_of_getElem? (i := 692) rfl) (by decide +kernel)
set_option maxRecDepth 100000 in
theorem ki_yX1_turnAt : Cond.instanceMethod yX1_turnAt ∈ tblG := tg (List.mem_of_getElem? (i := 694) rfl) (by decide +kernel)
set_option maxRecDepth 100000 in
theorem kc_yX1_turnAt : Cond.code yX1_turnAt prog_3_method_2_code (2 : Nat) (Option.some FieldType.int) ∈ tblG := tg (List.mem_of_getElem? (i := 696) rfl) (by decide +kernel)
set_option maxRecDepth 100000 in
theorem ki_yX4_winnerOf : Cond.instanceMethod yX4_winnerOf ∈ tblG := tg (List.mem_of_getElem? (i := 698) rfl) (by decide +kernel)
set_option maxRecDepth 100000 in
theorem kc_yX4_winnerOf : Cond.code yX4_winnerOf prog_6_method_3_code (3 : Nat) (Option.some FieldType.int) ∈ tblG := tg (List.mem_of_getElem? (i := 700) rfl) (by decide +kernel)
set_option maxRecDepth 100000 in
theorem kk_RX4_34 : Cond.constantLong RX4 34 (3 : Int64) ∈ tblG := tg (List.mem_of_getElem? (i := 701) rfl) (by decide +kernel)
set_option maxRecDepth 100000 in
theorem ki_yX1_playerAt : Cond.instanceMethod yX1_playerAt ∈ tblG := tg (List.mem_of_getElem? (i := 703) rfl) (by decide +kernel)
set_option maxRecDepth 100000 in
theorem kc_yX1_playerAt : Cond.code yX1_playerAt prog_3_method_3_code (2 : Nat) (Option.some FieldType.int) ∈ tblG := tg (List.mem_of_getElem? (i := 705) rfl) (by decide +kernel)
set_option maxRecDepth 100000 in
theorem ki_yX11_image : Cond.instanceMethod yX11_image ∈ tblG := tg (List.mem_of_getElem? (i := 707) rfl) (by decide +kernel)
set_option maxRecDepth 100000 in
theorem kc_yX11_image : Cond.code yX11_image prog_1_method_39_code (1 : Nat) (Option.some FieldType.int) ∈ tblG := tg (List.mem_of_getElem? (i := 709) rfl) (by decide +kernel)
set_option maxRecDepth 100000 in
theorem ki_yX11_imageOf : Cond.instanceMethod yX11_imageOf ∈ tblG := tg (List.mem_of_getElem? (i := 712) rfl) (by decide +kernel)
set_option maxRecDepth 100000 in
theorem kc_yX11_imageOf : Cond.code yX11_imageOf prog_1_method_47_code (2 : Nat) (Option.some (FieldType.object "SnapHeaps$Image")) ∈ tblG := tg (List.mem_of_getElem? (i := 713) rfl) (by decide +kernel)
set_option maxRecDepth 100000 in
theorem ki_yX5_take : Cond.instanceMethod yX5_take ∈ tblG := tg (List.mem_of_getElem? (i := 715) rfl) (by decide +kernel)
set_option maxRecDepth 100000 in
theorem kc_yX5_take : Cond.code yX5_take prog_7_method_2_code (5 : Nat) (Option.none : Option FieldType) ∈ tblG := tg (List.mem_of_getElem? (i := 717) rfl) (by decide +kernel)
set_option maxRecDepth 100000 in
theorem ki_yX3_become : Cond.instanceMethod yX3_become ∈ tblG := tg (List.mem_of_getElem? (i := 719) rfl) (by decide +kernel)
set_option maxRecDepth 100000 in
theorem kc_yX3_become : Cond.code yX3_become prog_5_method_3_code (3 : Nat) (Option.none : Option FieldType) ∈ tblG := tg (List.mem_of_getElem? (i := 721) rfl) (by decide +kernel)
set_option maxRecDepth 100000 in
theorem ki_yX9_become : Cond.instanceMethod yX9_become ∈ tblG := tg (List.mem_of_getElem? (i := 724) rfl) (by decide +kernel)
set_option maxRecDepth 100000 in
theorem kc_yX9_become : Cond.code yX9_become prog_11_method_4_code (3 : Nat) (Option.none : Option FieldType) ∈ tblG := tg (List.mem_of_getElem? (i := 726) rfl) (by decide +kernel)
set_option maxRecDepth 100000 in
theorem ki_yX11_restore : Cond.instanceMethod yX11_restore ∈ tblG := tg (List.mem_of_getElem? (i := 728) rfl) (by decide +kernel)
set_option maxRecDepth 100000 in
theorem kc_yX11_restore : Cond.code yX11_restore prog_1_method_40_code (1 : Nat) (Option.some FieldType.int) ∈ tblG := tg (List.mem_of_getElem? (i := 730) rfl) (by decide +kernel)
set_option maxRecDepth 100000 in
theorem ki_yX5_bring : Cond.instanceMethod yX5_bring ∈ tblG := tg (List.mem_of_getElem? (i := 732) rfl) (by decide +kernel)
set_option maxRecDepth 100000 in
theorem kc_yX5_bring : Cond.code yX5_bring prog_7_method_3_code (4 : Nat) (Option.none : Option FieldType) ∈ tblG := tg (List.mem_of_getElem? (i := 734) rfl) (by decide +kernel)
set_option maxRecDepth 100000 in
theorem ki_yX4_keepWinners : Cond.instanceMethod yX4_keepWinners ∈ tblG := tg (List.mem_of_getElem? (i := 736) rfl) (by decide +kernel)
set_option maxRecDepth 100000 in
theorem kc_yX4_keepWinners : Cond.code yX4_keepWinners prog_6_method_10_code (3 : Nat) (Option.none : Option FieldType) ∈ tblG := tg (List.mem_of_getElem? (i := 738) rfl) (by decide +kernel)
set_option maxRecDepth 100000 in
theorem ki_yX11_status : Cond.instanceMethod yX11_status ∈ tblG := tg (List.mem_of_getElem? (i := 741) rfl) (by decide +kernel)
set_option maxRecDepth 100000 in
theorem kc_yX11_status : Cond.code yX11_status prog_1_method_41_code (2 : Nat) (Option.some FieldType.int) ∈ tblG := tg (List.mem_of_getElem? (i := 743) rfl) (by decide +kernel)
set_option maxRecDepth 100000 in
theorem ki_yX11_count : Cond.instanceMethod yX11_count ∈ tblG := tg (List.mem_of_getElem? (i := 745) rfl) (by decide +kernel)
set_option maxRecDepth 100000 in
theorem kc_yX11_count : Cond.code yX11_count prog_1_method_42_code (2 : Nat) (Option.some FieldType.int) ∈ tblG := tg (List.mem_of_getElem? (i := 747) rfl) (by decide +kernel)
set_option maxRecDepth 100000 in
theorem kst_yL_table : Cond.static yL_table ∈ tblG := tg (List.mem_of_getElem? (i := 749) rfl) (by decide +kernel)
set_option maxRecDepth 100000 in
theorem kc_yL_table : Cond.codeWith yL_table method_3_code (4 : Nat) (Option.some FieldType.int) [((0 : Nat), (9 : Nat), (12 : Nat), (13 : Nat))] ∈ tblG := tg (List.mem_of_getElem? (i := 750) rfl) (by decide +kernel)
set_option maxRecDepth 100000 in
theorem ki_yX11_table : Cond.instanceMethod yX11_table ∈ tblG := tg (List.mem_of_getElem? (i := 753) rfl) (by decide +kernel)
set_option maxRecDepth 100000 in
theorem kc_yX11_table : Cond.code yX11_table prog_1_method_3_code (2 : Nat) (Option.some FieldType.int) ∈ tblG := tg (List.mem_of_getElem? (i := 755) rfl) (by decide +kernel)
set_option maxRecDepth 100000 in
theorem ki_yX11_needRange : Cond.instanceMethod yX11_needRange ∈ tblG := tg (List.mem_of_getElem? (i := 758) rfl) (by decide +kernel)
set_option maxRecDepth 100000 in
theorem kc_yX11_needRange : Cond.code yX11_needRange prog_1_method_44_code (4 : Nat) (Option.none : Option FieldType) ∈ tblG := tg (List.mem_of_getElem? (i := 759) rfl) (by decide +kernel)
set_option maxRecDepth 100000 in
theorem ki_yX9_open : Cond.instanceMethod yX9_open ∈ tblG := tg (List.mem_of_getElem? (i := 827) rfl) (by decide +kernel)
set_option maxRecDepth 100000 in
theorem kc_yX9_open : Cond.code yX9_open prog_11_method_5_code (2 : Nat) (Option.none : Option FieldType) ∈ tblG := tg (List.mem_of_getElem? (i := 829) rfl) (by decide +kernel)
set_option maxRecDepth 100000 in
theorem kst_yJ9_min_7cf53 : Cond.static yJ9_min_7cf53 ∈ tblG := tg (List.mem_of_getElem? (i := 831) rfl) (by decide +kernel)
set_option maxRecDepth 100000 in
theorem kc_yJ9_min_7cf53 : Cond.code yJ9_min_7cf53 prog_21_method_69_code (2 : Nat) (Option.some FieldType.int) ∈ tblG := tg (List.mem_of_getElem? (i := 832) rfl) (by decide +kernel)
set_option maxRecDepth 100000 in
theorem ki_yX8_read : Cond.instanceMethod yX8_read ∈ tblG := tg (List.mem_of_getElem? (i := 834) rfl) (by decide +kernel)
set_option maxRecDepth 100000 in
theorem kc_yX8_read : Cond.code yX8_read prog_10_method_6_code (3 : Nat) (Option.none : Option FieldType) ∈ tblG := tg (List.mem_of_getElem? (i := 836) rfl) (by decide +kernel)
set_option maxRecDepth 100000 in
theorem kst_yJ7_fill_53178 : Cond.static yJ7_fill_53178 ∈ tblG := tg (List.mem_of_getElem? (i := 838) rfl) (by decide +kernel)
set_option maxRecDepth 100000 in
theorem kc_yJ7_fill_53178 : Cond.code yJ7_fill_53178 prog_30_method_103_code (4 : Nat) (Option.none : Option FieldType) ∈ tblG := tg (List.mem_of_getElem? (i := 839) rfl) (by decide +kernel)
set_option maxRecDepth 100000 in
theorem ki_yX0_clear : Cond.instanceMethod yX0_clear ∈ tblG := tg (List.mem_of_getElem? (i := 841) rfl) (by decide +kernel)
set_option maxRecDepth 100000 in
theorem kc_yX0_clear : Cond.code yX0_clear prog_2_method_6_code (2 : Nat) (Option.none : Option FieldType) ∈ tblG := tg (List.mem_of_getElem? (i := 843) rfl) (by decide +kernel)
set_option maxRecDepth 100000 in
theorem ki_yX9_peek : Cond.instanceMethod yX9_peek ∈ tblG := tg (List.mem_of_getElem? (i := 845) rfl) (by decide +kernel)
set_option maxRecDepth 100000 in
theorem kc_yX9_peek : Cond.code yX9_peek prog_11_method_13_code (2 : Nat) (Option.some FieldType.int) ∈ tblG := tg (List.mem_of_getElem? (i := 847) rfl) (by decide +kernel)
set_option maxRecDepth 100000 in
theorem ki_yX8_readClause : Cond.instanceMethod yX8_readClause ∈ tblG := tg (List.mem_of_getElem? (i := 850) rfl) (by decide +kernel)
set_option maxRecDepth 100000 in
theorem kc_yX8_readClause : Cond.code yX8_readClause prog_10_method_7_code (5 : Nat) (Option.none : Option FieldType) ∈ tblG := tg (List.mem_of_getElem? (i := 851) rfl) (by decide +kernel)
set_option maxRecDepth 100000 in
theorem ki_yX9_takeWord : Cond.instanceMethod yX9_takeWord ∈ tblG := tg (List.mem_of_getElem? (i := 854) rfl) (by decide +kernel)
set_option maxRecDepth 100000 in
theorem kc_yX9_takeWord : Cond.code yX9_takeWord prog_11_method_15_code (3 : Nat) (Option.some FieldType.boolean) ∈ tblG := tg (List.mem_of_getElem? (i := 856) rfl) (by decide +kernel)
set_option maxRecDepth 100000 in
theorem ki_yX9_lettersHere : Cond.instanceMethod yX9_lettersHere ∈ tblG := tg (List.mem_of_getElem? (i := 860) rfl) (by decide +kernel)
set_option maxRecDepth 100000 in
theorem kc_yX9_lettersHere : Cond.code yX9_lettersHere prog_11_method_14_code (3 : Nat) (Option.some FieldType.int) ∈ tblG := tg (List.mem_of_getElem? (i := 861) rfl) (by decide +kernel)
set_option maxRecDepth 100000 in
theorem ki_yX9_signAt : Cond.instanceMethod yX9_signAt ∈ tblG := tg (List.mem_of_getElem? (i := 863) rfl) (by decide +kernel)
set_option maxRecDepth 100000 in
theorem kc_yX9_signAt : Cond.code yX9_signAt prog_11_method_11_code (2 : Nat) (Option.some FieldType.int) ∈ tblG := tg (List.mem_of_getElem? (i := 865) rfl) (by decide +kernel)
set_option maxRecDepth 100000 in
theorem kst_yX9_isLetter : Cond.static yX9_isLetter ∈ tblG := tg (List.mem_of_getElem? (i := 867) rfl) (by decide +kernel)
set_option maxRecDepth 100000 in
theorem kc_yX9_isLetter : Cond.code yX9_isLetter prog_11_method_9_code (1 : Nat) (Option.some FieldType.boolean) ∈ tblG := tg (List.mem_of_getElem? (i := 868) rfl) (by decide +kernel)
set_option maxRecDepth 100000 in
theorem ki_yJ0_length_8abf5 : Cond.instanceMethod yJ0_length_8abf5 ∈ tblG := tg (List.mem_of_getElem? (i := 870) rfl) (by decide +kernel)
set_option maxRecDepth 100000 in
theorem kc_yJ0_length_8abf5 : Cond.code yJ0_length_8abf5 prog_23_method_54_code (1 : Nat) (Option.some FieldType.int) ∈ tblG := tg (List.mem_of_getElem? (i := 872) rfl) (by decide +kernel)
set_option maxRecDepth 100000 in
theorem ki_yJ0_coder_7d493 : Cond.instanceMethod yJ0_coder_7d493 ∈ tblG := tg (List.mem_of_getElem? (i := 874) rfl) (by decide +kernel)
set_option maxRecDepth 100000 in
theorem kc_yJ0_coder_7d493 : Cond.code yJ0_coder_7d493 prog_23_method_152_code (1 : Nat) (Option.some FieldType.byte) ∈ tblG := tg (List.mem_of_getElem? (i := 876) rfl) (by decide +kernel)
set_option maxRecDepth 100000 in
theorem kf_RJ0_38 : Cond.fieldLink RJ0 38 "java/lang/String" "COMPACT_STRINGS" "Z" ∈ tblG := tg (List.mem_of_getElem? (i := 877) rfl) (by decide +kernel)
set_option maxRecDepth 100000 in
theorem ki_yJ0_charAt_5068e : Cond.instanceMethod yJ0_charAt_5068e ∈ tblG := tg (List.mem_of_getElem? (i := 880) rfl) (by decide +kernel)
set_option maxRecDepth 100000 in
theorem kc_yJ0_charAt_5068e : Cond.code yJ0_charAt_5068e prog_23_method_56_code (2 : Nat) (Option.some FieldType.char) ∈ tblG := tg (List.mem_of_getElem? (i := 882) rfl) (by decide +kernel)
set_option maxRecDepth 100000 in
theorem ki_yJ0_isLatin1_aae02 : Cond.instanceMethod yJ0_isLatin1_aae02 ∈ tblG := tg (List.mem_of_getElem? (i := 884) rfl) (by decide +kernel)
set_option maxRecDepth 100000 in
theorem kc_yJ0_isLatin1_aae02 : Cond.code yJ0_isLatin1_aae02 prog_23_method_154_code (1 : Nat) (Option.some FieldType.boolean) ∈ tblG := tg (List.mem_of_getElem? (i := 886) rfl) (by decide +kernel)
set_option maxRecDepth 100000 in
theorem kst_yJ1_charAt_3b067 : Cond.static yJ1_charAt_3b067 ∈ tblG := tg (List.mem_of_getElem? (i := 888) rfl) (by decide +kernel)
set_option maxRecDepth 100000 in
theorem kc_yJ1_charAt_3b067 : Cond.code yJ1_charAt_3b067 prog_24_method_2_code (2 : Nat) (Option.some FieldType.char) ∈ tblG := tg (List.mem_of_getElem? (i := 889) rfl) (by decide +kernel)
set_option maxRecDepth 100000 in
theorem kst_yJ0_checkIndex_df160 : Cond.static yJ0_checkIndex_df160 ∈ tblG := tg (List.mem_of_getElem? (i := 891) rfl) (by decide +kernel)
set_option maxRecDepth 100000 in
theorem kc_yJ0_checkIndex_df160 : Cond.code yJ0_checkIndex_df160 prog_23_method_155_code (2 : Nat) (Option.none : Option FieldType) ∈ tblG := tg (List.mem_of_getElem? (i := 892) rfl) (by decide +kernel)
set_option maxRecDepth 100000 in
theorem kf_RJ0_1053 : Cond.fieldLink RJ0 1053 "jdk/internal/util/Preconditions" "SIOOBE_FORMATTER" "Ljava/util/function/BiFunction;" ∈ tblG := tg (List.mem_of_getElem? (i := 893) rfl) (by decide +kernel)
set_option maxRecDepth 100000 in
theorem kst_yJ3_checkIndex_8e157 : Cond.static yJ3_checkIndex_8e157 ∈ tblG := tg (List.mem_of_getElem? (i := 896) rfl) (by decide +kernel)
set_option maxRecDepth 100000 in
theorem kc_yJ3_checkIndex_8e157 : Cond.code yJ3_checkIndex_8e157 prog_32_method_11_code (3 : Nat) (Option.some FieldType.int) ∈ tblG := tg (List.mem_of_getElem? (i := 897) rfl) (by decide +kernel)
set_option maxRecDepth 100000 in
theorem kst_yJ2_charAt_3b067 : Cond.static yJ2_charAt_3b067 ∈ tblG := tg (List.mem_of_getElem? (i := 899) rfl) (by decide +kernel)
set_option maxRecDepth 100000 in
theorem kc_yJ2_charAt_3b067 : Cond.code yJ2_charAt_3b067 prog_25_method_83_code (2 : Nat) (Option.some FieldType.char) ∈ tblG := tg (List.mem_of_getElem? (i := 900) rfl) (by decide +kernel)
set_option maxRecDepth 100000 in
theorem kst_yJ2_checkIndex_2214a : Cond.static yJ2_checkIndex_2214a ∈ tblG := tg (List.mem_of_getElem? (i := 902) rfl) (by decide +kernel)
set_option maxRecDepth 100000 in
theorem kc_yJ2_checkIndex_2214a : Cond.code yJ2_checkIndex_2214a prog_25_method_91_code (2 : Nat) (Option.none : Option FieldType) ∈ tblG := tg (List.mem_of_getElem? (i := 903) rfl) (by decide +kernel)
set_option maxRecDepth 100000 in
theorem kst_yJ2_length_9d52b : Cond.static yJ2_length_9d52b ∈ tblG := tg (List.mem_of_getElem? (i := 905) rfl) (by decide +kernel)
set_option maxRecDepth 100000 in
theorem kc_yJ2_length_9d52b : Cond.code yJ2_length_9d52b prog_25_method_6_code (1 : Nat) (Option.some FieldType.int) ∈ tblG := tg (List.mem_of_getElem? (i := 906) rfl) (by decide +kernel)
set_option maxRecDepth 100000 in
theorem kst_yJ2_getChar_3b067 : Cond.static yJ2_getChar_3b067 ∈ tblG := tg (List.mem_of_getElem? (i := 909) rfl) (by decide +kernel)
set_option maxRecDepth 100000 in
theorem kc_yJ2_getChar_3b067 : Cond.code yJ2_getChar_3b067 prog_25_method_5_code (2 : Nat) (Option.some FieldType.char) ∈ tblG := tg (List.mem_of_getElem? (i := 910) rfl) (by decide +kernel)
set_option maxRecDepth 100000 in
theorem kf_RJ2_44 : Cond.fieldLink RJ2 44 "java/lang/StringUTF16" "$assertionsDisabled" "Z" ∈ tblG := tg (List.mem_of_getElem? (i := 911) rfl) (by decide +kernel)
set_option maxRecDepth 100000 in
theorem kf_RJ2_59 : Cond.fieldLink RJ2 59 "java/lang/StringUTF16" "HI_BYTE_SHIFT" "I" ∈ tblG := tg (List.mem_of_getElem? (i := 913) rfl) (by decide +kernel)
set_option maxRecDepth 100000 in
theorem kf_RJ2_63 : Cond.fieldLink RJ2 63 "java/lang/StringUTF16" "LO_BYTE_SHIFT" "I" ∈ tblG := tg (List.mem_of_getElem? (i := 915) rfl) (by decide +kernel)
set_option maxRecDepth 100000 in
theorem ki_yX9_failIf : Cond.instanceMethod yX9_failIf ∈ tblG := tg (List.mem_of_getElem? (i := 918) rfl) (by decide +kernel)
set_option maxRecDepth 100000 in
theorem kc_yX9_failIf : Cond.code yX9_failIf prog_11_method_8_code (4 : Nat) (Option.none : Option FieldType) ∈ tblG := tg (List.mem_of_getElem? (i := 920) rfl) (by decide +kernel)
set_option maxRecDepth 100000 in
theorem ki_yX8_readPlayer : Cond.instanceMethod yX8_readPlayer ∈ tblG := tg (List.mem_of_getElem? (i := 923) rfl) (by decide +kernel)
set_option maxRecDepth 100000 in
theorem kc_yX8_readPlayer : Cond.code yX8_readPlayer prog_10_method_9_code (3 : Nat) (Option.none : Option FieldType) ∈ tblG := tg (List.mem_of_getElem? (i := 924) rfl) (by decide +kernel)
set_option maxRecDepth 100000 in
theorem ki_yX9_takeNumber : Cond.instanceMethod yX9_takeNumber ∈ tblG := tg (List.mem_of_getElem? (i := 926) rfl) (by decide +kernel)
set_option maxRecDepth 100000 in
theorem kc_yX9_takeNumber : Cond.code yX9_takeNumber prog_11_method_18_code (6 : Nat) (Option.some FieldType.int) ∈ tblG := tg (List.mem_of_getElem? (i := 928) rfl) (by decide +kernel)
set_option maxRecDepth 100000 in
theorem kst_yX9_isDigit : Cond.static yX9_isDigit ∈ tblG := tg (List.mem_of_getElem? (i := 930) rfl) (by decide +kernel)
set_option maxRecDepth 100000 in
theorem kc_yX9_isDigit : Cond.code yX9_isDigit prog_11_method_10_code (1 : Nat) (Option.some FieldType.boolean) ∈ tblG := tg (List.mem_of_getElem? (i := 931) rfl) (by decide +kernel)
set_option maxRecDepth 100000 in
theorem ki_yX9_here : Cond.instanceMethod yX9_here ∈ tblG := tg (List.mem_of_getElem? (i := 934) rfl) (by decide +kernel)
set_option maxRecDepth 100000 in
theorem kc_yX9_here : Cond.code yX9_here prog_11_method_12_code (1 : Nat) (Option.some FieldType.int) ∈ tblG := tg (List.mem_of_getElem? (i := 936) rfl) (by decide +kernel)
set_option maxRecDepth 100000 in
theorem kk_RX9_71 : Cond.constant RX9 71 (1000000 : Int32) ∈ tblG := tg (List.mem_of_getElem? (i := 937) rfl) (by decide +kernel)
set_option maxRecDepth 100000 in
theorem ki_yX8_setTrait : Cond.instanceMethod yX8_setTrait ∈ tblG := tg (List.mem_of_getElem? (i := 939) rfl) (by decide +kernel)
set_option maxRecDepth 100000 in
theorem kc_yX8_setTrait : Cond.code yX8_setTrait prog_10_method_3_code (5 : Nat) (Option.none : Option FieldType) ∈ tblG := tg (List.mem_of_getElem? (i := 941) rfl) (by decide +kernel)
set_option maxRecDepth 100000 in
theorem ki_yX8_readMoment : Cond.instanceMethod yX8_readMoment ∈ tblG := tg (List.mem_of_getElem? (i := 946) rfl) (by decide +kernel)
set_option maxRecDepth 100000 in
theorem kc_yX8_readMoment : Cond.code yX8_readMoment prog_10_method_10_code (3 : Nat) (Option.none : Option FieldType) ∈ tblG := tg (List.mem_of_getElem? (i := 947) rfl) (by decide +kernel)
set_option maxRecDepth 100000 in
theorem ki_yX8_readCards : Cond.instanceMethod yX8_readCards ∈ tblG := tg (List.mem_of_getElem? (i := 951) rfl) (by decide +kernel)
set_option maxRecDepth 100000 in
theorem kc_yX8_readCards : Cond.code yX8_readCards prog_10_method_11_code (5 : Nat) (Option.none : Option FieldType) ∈ tblG := tg (List.mem_of_getElem? (i := 952) rfl) (by decide +kernel)
set_option maxRecDepth 100000 in
theorem ki_yX0_allCards : Cond.instanceMethod yX0_allCards ∈ tblG := tg (List.mem_of_getElem? (i := 955) rfl) (by decide +kernel)
set_option maxRecDepth 100000 in
theorem kc_yX0_allCards : Cond.code yX0_allCards prog_2_method_9_code (3 : Nat) (Option.some FieldType.int) ∈ tblG := tg (List.mem_of_getElem? (i := 957) rfl) (by decide +kernel)
set_option maxRecDepth 100000 in
theorem ki_yX9_fail : Cond.instanceMethod yX9_fail ∈ tblG := tg (List.mem_of_getElem? (i := 960) rfl) (by decide +kernel)
set_option maxRecDepth 100000 in
theorem kc_yX9_fail : Cond.code yX9_fail prog_11_method_7_code (2 : Nat) (Option.none : Option FieldType) ∈ tblG := tg (List.mem_of_getElem? (i := 962) rfl) (by decide +kernel)
set_option maxRecDepth 100000 in
theorem ki_yX6_openFirst : Cond.instanceMethod yX6_openFirst ∈ tblG := tg (List.mem_of_getElem? (i := 968) rfl) (by decide +kernel)
set_option maxRecDepth 100000 in
theorem kc_yX6_openFirst : Cond.code yX6_openFirst prog_8_method_11_code (3 : Nat) (Option.none : Option FieldType) ∈ tblG := tg (List.mem_of_getElem? (i := 970) rfl) (by decide +kernel)
set_option maxRecDepth 100000 in
theorem ki_yX8_readLaw : Cond.instanceMethod yX8_readLaw ∈ tblG := tg (List.mem_of_getElem? (i := 973) rfl) (by decide +kernel)
set_option maxRecDepth 100000 in
theorem kc_yX8_readLaw : Cond.code yX8_readLaw prog_10_method_8_code (4 : Nat) (Option.none : Option FieldType) ∈ tblG := tg (List.mem_of_getElem? (i := 974) rfl) (by decide +kernel)
set_option maxRecDepth 100000 in
theorem ki_yX9_needSign : Cond.instanceMethod yX9_needSign ∈ tblG := tg (List.mem_of_getElem? (i := 979) rfl) (by decide +kernel)
set_option maxRecDepth 100000 in
theorem kc_yX9_needSign : Cond.code yX9_needSign prog_11_method_17_code (3 : Nat) (Option.none : Option FieldType) ∈ tblG := tg (List.mem_of_getElem? (i := 981) rfl) (by decide +kernel)
set_option maxRecDepth 100000 in
theorem ki_yX8_become : Cond.instanceMethod yX8_become ∈ tblG := tg (List.mem_of_getElem? (i := 983) rfl) (by decide +kernel)
set_option maxRecDepth 100000 in
theorem kc_yX8_become : Cond.code yX8_become prog_10_method_5_code (3 : Nat) (Option.none : Option FieldType) ∈ tblG := tg (List.mem_of_getElem? (i := 985) rfl) (by decide +kernel)
set_option maxRecDepth 100000 in
theorem ki_yX3_begin : Cond.instanceMethod yX3_begin ∈ tblG := tg (List.mem_of_getElem? (i := 988) rfl) (by decide +kernel)
set_option maxRecDepth 100000 in
theorem kc_yX3_begin : Cond.code yX3_begin prog_5_method_2_code (2 : Nat) (Option.none : Option FieldType) ∈ tblG := tg (List.mem_of_getElem? (i := 990) rfl) (by decide +kernel)
set_option maxRecDepth 100000 in
theorem ki_yX9_close : Cond.instanceMethod yX9_close ∈ tblG := tg (List.mem_of_getElem? (i := 993) rfl) (by decide +kernel)
set_option maxRecDepth 100000 in
theorem kc_yX9_close : Cond.code yX9_close prog_11_method_6_code (2 : Nat) (Option.some FieldType.int) ∈ tblG := tg (List.mem_of_getElem? (i := 995) rfl) (by decide +kernel)
set_option maxRecDepth 100000 in
theorem kst_yL_plan : Cond.static yL_plan ∈ tblG := tg (List.mem_of_getElem? (i := 997) rfl) (by decide +kernel)
set_option maxRecDepth 100000 in
theorem kc_yL_plan : Cond.codeWith yL_plan method_4_code (5 : Nat) (Option.some FieldType.int) [((0 : Nat), (10 : Nat), (13 : Nat), (19 : Nat)), ((0 : Nat), (10 : Nat), (17 : Nat), (13 : Nat))] ∈ tblG := tg (List.mem_of_getElem? (i := 998) rfl) (by decide +kernel)
set_option maxRecDepth 100000 in
theorem ki_yX11_plan : Cond.instanceMethod yX11_plan ∈ tblG := tg (List.mem_of_getElem? (i := 1001) rfl) (by decide +kernel)
set_option maxRecDepth 100000 in
theorem kc_yX11_plan : Cond.code yX11_plan prog_1_method_4_code (3 : Nat) (Option.some FieldType.int) ∈ tblG := tg (List.mem_of_getElem? (i := 1003) rfl) (by decide +kernel)
set_option maxRecDepth 100000 in
theorem ki_yX11_needPlayer : Cond.instanceMethod yX11_needPlayer ∈ tblG := tg (List.mem_of_getElem? (i := 1006) rfl) (by decide +kernel)
set_option maxRecDepth 100000 in
theorem kc_yX11_needPlayer : Cond.code yX11_needPlayer prog_1_method_43_code (2 : Nat) (Option.none : Option FieldType) ∈ tblG := tg (List.mem_of_getElem? (i := 1007) rfl) (by decide +kernel)
set_option maxRecDepth 100000 in
theorem ki_yX11_takePlan : Cond.instanceMethod yX11_takePlan ∈ tblG := tg (List.mem_of_getElem? (i := 1027) rfl) (by decide +kernel)
set_option maxRecDepth 100000 in
theorem kc_yX11_takePlan : Cond.code yX11_takePlan prog_1_method_46_code (3 : Nat) (Option.some FieldType.int) ∈ tblG := tg (List.mem_of_getElem? (i := 1028) rfl) (by decide +kernel)
set_option maxRecDepth 100000 in
theorem ki_yX7_read : Cond.instanceMethod yX7_read ∈ tblG := tg (List.mem_of_getElem? (i := 1030) rfl) (by decide +kernel)
set_option maxRecDepth 100000 in
theorem kc_yX7_read : Cond.code yX7_read prog_9_method_3_code (2 : Nat) (Option.none : Option FieldType) ∈ tblG := tg (List.mem_of_getElem? (i := 1032) rfl) (by decide +kernel)
set_option maxRecDepth 100000 in
theorem ki_yX7_readOr : Cond.instanceMethod yX7_readOr ∈ tblG := tg (List.mem_of_getElem? (i := 1035) rfl) (by decide +kernel)
set_option maxRecDepth 100000 in
theorem kc_yX7_readOr : Cond.code yX7_readOr prog_9_method_5_code (4 : Nat) (Option.none : Option FieldType) ∈ tblG := tg (List.mem_of_getElem? (i := 1036) rfl) (by decide +kernel)
set_option maxRecDepth 100000 in
theorem ki_yX7_readAnd : Cond.instanceMethod yX7_readAnd ∈ tblG := tg (List.mem_of_getElem? (i := 1039) rfl) (by decide +kernel)
set_option maxRecDepth 100000 in
theorem kc_yX7_readAnd : Cond.code yX7_readAnd prog_9_method_6_code (4 : Nat) (Option.none : Option FieldType) ∈ tblG := tg (List.mem_of_getElem? (i := 1040) rfl) (by decide +kernel)
set_option maxRecDepth 100000 in
theorem ki_yX7_readOne : Cond.instanceMethod yX7_readOne ∈ tblG := tg (List.mem_of_getElem? (i := 1043) rfl) (by decide +kernel)
set_option maxRecDepth 100000 in
theorem kc_yX7_readOne : Cond.code yX7_readOne prog_9_method_7_code (4 : Nat) (Option.none : Option FieldType) ∈ tblG := tg (List.mem_of_getElem? (i := 1044) rfl) (by decide +kernel)
set_option maxRecDepth 100000 in
theorem ki_yX9_takeSign : Cond.instanceMethod yX9_takeSign ∈ tblG := tg (List.mem_of_getElem? (i := 1047) rfl) (by decide +kernel)
set_option maxRecDepth 100000 in
theorem kc_yX9_takeSign : Cond.code yX9_takeSign prog_11_method_16_code (2 : Nat) (Option.some FieldType.boolean) ∈ tblG := tg (List.mem_of_getElem? (i := 1049) rfl) (by decide +kernel)
set_option maxRecDepth 100000 in
theorem ki_yX7_emit : Cond.instanceMethod yX7_emit ∈ tblG := tg (List.mem_of_getElem? (i := 1056) rfl) (by decide +kernel)
set_option maxRecDepth 100000 in
theorem kc_yX7_emit : Cond.code yX7_emit prog_9_method_4_code (3 : Nat) (Option.none : Option FieldType) ∈ tblG := tg (List.mem_of_getElem? (i := 1057) rfl) (by decide +kernel)
set_option maxRecDepth 100000 in
theorem ki_yX7_readFact : Cond.instanceMethod yX7_readFact ∈ tblG := tg (List.mem_of_getElem? (i := 1060) rfl) (by decide +kernel)
set_option maxRecDepth 100000 in
theorem kc_yX7_readFact : Cond.code yX7_readFact prog_9_method_8_code (3 : Nat) (Option.none : Option FieldType) ∈ tblG := tg (List.mem_of_getElem? (i := 1061) rfl) (by decide +kernel)
set_option maxRecDepth 100000 in
theorem ki_yX9_takeKind : Cond.instanceMethod yX9_takeKind ∈ tblG := tg (List.mem_of_getElem? (i := 1067) rfl) (by decide +kernel)
set_option maxRecDepth 100000 in
theorem kc_yX9_takeKind : Cond.code yX9_takeKind prog_11_method_19_code (2 : Nat) (Option.some FieldType.int) ∈ tblG := tg (List.mem_of_getElem? (i := 1069) rfl) (by decide +kernel)
set_option maxRecDepth 100000 in
theorem ki_yX7_readSize : Cond.instanceMethod yX7_readSize ∈ tblG := tg (List.mem_of_getElem? (i := 1074) rfl) (by decide +kernel)
set_option maxRecDepth 100000 in
theorem kc_yX7_readSize : Cond.code yX7_readSize prog_9_method_9_code (4 : Nat) (Option.none : Option FieldType) ∈ tblG := tg (List.mem_of_getElem? (i := 1075) rfl) (by decide +kernel)
set_option maxRecDepth 100000 in
theorem ki_yX7_init_ : Cond.instanceMethod yX7_init_ ∈ tblG := tg (List.mem_of_getElem? (i := 1084) rfl) (by decide +kernel)
set_option maxRecDepth 100000 in
theorem kc_yX7_init_ : Cond.code yX7_init_ prog_9_method_2_code (2 : Nat) (Option.none : Option FieldType) ∈ tblG := tg (List.mem_of_getElem? (i := 1085) rfl) (by decide +kernel)
set_option maxRecDepth 100000 in
theorem kst_yJ9_max_7cf53 : Cond.static yJ9_max_7cf53 ∈ tblG := tg (List.mem_of_getElem? (i := 1087) rfl) (by decide +kernel)
set_option maxRecDepth 100000 in
theorem kc_yJ9_max_7cf53 : Cond.code yJ9_max_7cf53 prog_21_method_65_code (2 : Nat) (Option.some FieldType.int) ∈ tblG := tg (List.mem_of_getElem? (i := 1088) rfl) (by decide +kernel)
set_option maxRecDepth 100000 in
theorem kst_yJ7_copyOf_59c91 : Cond.static yJ7_copyOf_59c91 ∈ tblG := tg (List.mem_of_getElem? (i := 1090) rfl) (by decide +kernel)
set_option maxRecDepth 100000 in
theorem kc_yJ7_copyOf_59c91 : Cond.code yJ7_copyOf_59c91 prog_30_method_123_code (3 : Nat) (Option.some (FieldType.array FieldType.int)) ∈ tblG := tg (List.mem_of_getElem? (i := 1091) rfl) (by decide +kernel)
set_option maxRecDepth 100000 in
theorem ki_yX3_setPlan : Cond.instanceMethod yX3_setPlan ∈ tblG := tg (List.mem_of_getElem? (i := 1104) rfl) (by decide +kernel)
set_option maxRecDepth 100000 in
theorem kc_yX3_setPlan : Cond.code yX3_setPlan prog_5_method_6_code (3 : Nat) (Option.none : Option FieldType) ∈ tblG := tg (List.mem_of_getElem? (i := 1106) rfl) (by decide +kernel)
set_option maxRecDepth 100000 in
theorem kst_yL_guess : Cond.static yL_guess ∈ tblG := tg (List.mem_of_getElem? (i := 1108) rfl) (by decide +kernel)
set_option maxRecDepth 100000 in
theorem kc_yL_guess : Cond.codeWith yL_guess method_5_code (5 : Nat) (Option.some FieldType.int) [((0 : Nat), (10 : Nat), (13 : Nat), (19 : Nat)), ((0 : Nat), (10 : Nat), (17 : Nat), (13 : Nat))] ∈ tblG := tg (List.mem_of_getElem? (i := 1109) rfl) (by decide +kernel)
set_option maxRecDepth 100000 in
theorem ki_yX11_guess : Cond.instanceMethod yX11_guess ∈ tblG := tg (List.mem_of_getElem? (i := 1111) rfl) (by decide +kernel)
set_option maxRecDepth 100000 in
theorem kc_yX11_guess : Cond.code yX11_guess prog_1_method_5_code (3 : Nat) (Option.some FieldType.int) ∈ tblG := tg (List.mem_of_getElem? (i := 1113) rfl) (by decide +kernel)
set_option maxRecDepth 100000 in
theorem kst_yL_book : Cond.static yL_book ∈ tblG := tg (List.mem_of_getElem? (i := 1115) rfl) (by decide +kernel)
set_option maxRecDepth 100000 in
theorem kc_yL_book : Cond.codeWith yL_book method_6_code (4 : Nat) (Option.some FieldType.int) [((0 : Nat), (9 : Nat), (12 : Nat), (13 : Nat))] ∈ tblG := tg (List.mem_of_getElem? (i := 1116) rfl) (by decide +kernel)
set_option maxRecDepth 100000 in
theorem ki_yX11_book : Cond.instanceMethod yX11_book ∈ tblG := tg (List.mem_of_getElem? (i := 1118) rfl) (by decide +kernel)
set_option maxRecDepth 100000 in
theorem kc_yX11_book : Cond.code yX11_book prog_1_method_6_code (2 : Nat) (Option.some FieldType.int) ∈ tblG := tg (List.mem_of_getElem? (i := 1120) rfl) (by decide +kernel)
set_option maxRecDepth 100000 in
theorem ki_yX1_read : Cond.instanceMethod yX1_read ∈ tblG := tg (List.mem_of_getElem? (i := 1122) rfl) (by decide +kernel)
set_option maxRecDepth 100000 in
theorem kc_yX1_read : Cond.code yX1_read prog_3_method_6_code (7 : Nat) (Option.none : Option FieldType) ∈ tblG := tg (List.mem_of_getElem? (i := 1124) rfl) (by decide +kernel)
set_option maxRecDepth 100000 in
theorem ki_yX1_add : Cond.instanceMethod yX1_add ∈ tblG := tg (List.mem_of_getElem? (i := 1131) rfl) (by decide +kernel)
set_option maxRecDepth 100000 in
theorem kc_yX1_add : Cond.code yX1_add prog_3_method_5_code (3 : Nat) (Option.none : Option FieldType) ∈ tblG := tg (List.mem_of_getElem? (i := 1132) rfl) (by decide +kernel)
set_option maxRecDepth 100000 in
theorem ki_yX1_become : Cond.instanceMethod yX1_become ∈ tblG := tg (List.mem_of_getElem? (i := 1134) rfl) (by decide +kernel)
set_option maxRecDepth 100000 in
theorem kc_yX1_become : Cond.code yX1_become prog_3_method_4_code (3 : Nat) (Option.none : Option FieldType) ∈ tblG := tg (List.mem_of_getElem? (i := 1136) rfl) (by decide +kernel)
set_option maxRecDepth 100000 in
theorem kst_yL_told : Cond.static yL_told ∈ tblG := tg (List.mem_of_getElem? (i := 1140) rfl) (by decide +kernel)
set_option maxRecDepth 100000 in
theorem kc_yL_told : Cond.codeWith yL_told method_7_code (4 : Nat) (Option.some FieldType.int) [((0 : Nat), (9 : Nat), (12 : Nat), (13 : Nat))] ∈ tblG := tg (List.mem_of_getElem? (i := 1141) rfl) (by decide +kernel)
set_option maxRecDepth 100000 in
theorem ki_yX11_told : Cond.instanceMethod yX11_told ∈ tblG := tg (List.mem_of_getElem? (i := 1143) rfl) (by decide +kernel)
set_option maxRecDepth 100000 in
theorem kc_yX11_told : Cond.code yX11_told prog_1_method_8_code (2 : Nat) (Option.some FieldType.int) ∈ tblG := tg (List.mem_of_getElem? (i := 1145) rfl) (by decide +kernel)
set_option maxRecDepth 100000 in
theorem ki_yX3_lawOf : Cond.instanceMethod yX3_lawOf ∈ tblG := tg (List.mem_of_getElem? (i := 1149) rfl) (by decide +kernel)
set_option maxRecDepth 100000 in
theorem kc_yX3_lawOf : Cond.code yX3_lawOf prog_5_method_4_code (2 : Nat) (Option.some FieldType.int) ∈ tblG := tg (List.mem_of_getElem? (i := 1151) rfl) (by decide +kernel)
set_option maxRecDepth 100000 in
theorem kst_yL_player : Cond.static yL_player ∈ tblG := tg (List.mem_of_getElem? (i := 1153) rfl) (by decide +kernel)
set_option maxRecDepth 100000 in
theorem kc_yL_player : Cond.codeWith yL_player method_8_code (5 : Nat) (Option.some FieldType.int) [((0 : Nat), (10 : Nat), (13 : Nat), (19 : Nat)), ((0 : Nat), (10 : Nat), (17 : Nat), (13 : Nat))] ∈ tblG := tg (List.mem_of_getElem? (i := 1154) rfl) (by decide +kernel)
set_option maxRecDepth 100000 in
theorem ki_yX11_player : Cond.instanceMethod yX11_player ∈ tblG := tg (List.mem_of_getElem? (i := 1156) rfl) (by decide +kernel)
set_option maxRecDepth 100000 in
theorem kc_yX11_player : Cond.code yX11_player prog_1_method_9_code (3 : Nat) (Option.some FieldType.int) ∈ tblG := tg (List.mem_of_getElem? (i := 1158) rfl) (by decide +kernel)
set_option maxRecDepth 100000 in
theorem ki_yX8_trait : Cond.instanceMethod yX8_trait ∈ tblG := tg (List.mem_of_getElem? (i := 1160) rfl) (by decide +kernel)
set_option maxRecDepth 100000 in
theorem kc_yX8_trait : Cond.code yX8_trait prog_10_method_2_code (4 : Nat) (Option.some FieldType.int) ∈ tblG := tg (List.mem_of_getElem? (i := 1162) rfl) (by decide +kernel)
set_option maxRecDepth 100000 in
theorem kst_yL_row : Cond.static yL_row ∈ tblG := tg (List.mem_of_getElem? (i := 1167) rfl) (by decide +kernel)
set_option maxRecDepth 100000 in
theorem kc_yL_row : Cond.codeWith yL_row method_9_code (5 : Nat) (Option.some FieldType.int) [((0 : Nat), (10 : Nat), (13 : Nat), (19 : Nat))] ∈ tblG := tg (List.mem_of_getElem? (i := 1168) rfl) (by decide +kernel)
set_option maxRecDepth 100000 in
theorem ki_yX11_row : Cond.instanceMethod yX11_row ∈ tblG := tg (List.mem_of_getElem? (i := 1170) rfl) (by decide +kernel)
set_option maxRecDepth 100000 in
theorem kc_yX11_row : Cond.code yX11_row prog_1_method_10_code (3 : Nat) (Option.some FieldType.int) ∈ tblG := tg (List.mem_of_getElem? (i := 1172) rfl) (by decide +kernel)
set_option maxRecDepth 100000 in
theorem kst_yL_heap : Cond.static yL_heap ∈ tblG := tg (List.mem_of_getElem? (i := 1174) rfl) (by decide +kernel)
set_option maxRecDepth 100000 in
theorem kc_yL_heap : Cond.codeWith yL_heap method_10_code (5 : Nat) (Option.some FieldType.int) [((0 : Nat), (10 : Nat), (13 : Nat), (19 : Nat))] ∈ tblG := tg (List.mem_of_getElem? (i := 1175) rfl) (by decide +kernel)
set_option maxRecDepth 100000 in
theorem ki_yX11_heap : Cond.instanceMethod yX11_heap ∈ tblG := tg (List.mem_of_getElem? (i := 1177) rfl) (by decide +kernel)
set_option maxRecDepth 100000 in
theorem kc_yX11_heap : Cond.code yX11_heap prog_1_method_11_code (3 : Nat) (Option.some FieldType.int) ∈ tblG := tg (List.mem_of_getElem? (i := 1179) rfl) (by decide +kernel)
set_option maxRecDepth 100000 in
theorem kst_yL_lain : Cond.static yL_lain ∈ tblG := tg (List.mem_of_getElem? (i := 1181) rfl) (by decide +kernel)
set_option maxRecDepth 100000 in
theorem kc_yL_lain : Cond.codeWith yL_lain method_11_code (5 : Nat) (Option.some FieldType.int) [((0 : Nat), (10 : Nat), (13 : Nat), (19 : Nat))] ∈ tblG := tg (List.mem_of_getElem? (i := 1182) rfl) (by decide +kernel)
set_option maxRecDepth 100000 in
theorem ki_yX11_lain : Cond.instanceMethod yX11_lain ∈ tblG := tg (List.mem_of_getElem? (i := 1184) rfl) (by decide +kernel)
set_option maxRecDepth 100000 in
theorem kc_yX11_lain : Cond.code yX11_lain prog_1_method_13_code (4 : Nat) (Option.some FieldType.int) ∈ tblG := tg (List.mem_of_getElem? (i := 1186) rfl) (by decide +kernel)
set_option maxRecDepth 100000 in
theorem ki_yX6_cardAt : Cond.instanceMethod yX6_cardAt ∈ tblG := tg (List.mem_of_getElem? (i := 1188) rfl) (by decide +kernel)
set_option maxRecDepth 100000 in
theorem kc_yX6_cardAt : Cond.code yX6_cardAt prog_8_method_2_code (2 : Nat) (Option.some FieldType.int) ∈ tblG := tg (List.mem_of_getElem? (i := 1190) rfl) (by decide +kernel)
set_option maxRecDepth 100000 in
theorem kst_yL_would : Cond.static yL_would ∈ tblG := tg (List.mem_of_getElem? (i := 1192) rfl) (by decide +kernel)
set_option maxRecDepth 100000 in
theorem kc_yL_would : Cond.codeWith yL_would method_12_code (5 : Nat) (Option.some FieldType.int) [((0 : Nat), (17 : Nat), (20 : Nat), (19 : Nat)), ((0 : Nat), (17 : Nat), (24 : Nat), (13 : Nat))] ∈ tblG := tg (List.mem_of_getElem? (i := 1193) rfl) (by decide +kernel)
set_option maxRecDepth 100000 in
theorem ki_yX11_would : Cond.instanceMethod yX11_would ∈ tblG := tg (List.mem_of_getElem? (i := 1195) rfl) (by decide +kernel)
set_option maxRecDepth 100000 in
theorem kc_yX11_would : Cond.code yX11_would prog_1_method_15_code (3 : Nat) (Option.some FieldType.boolean) ∈ tblG := tg (List.mem_of_getElem? (i := 1197) rfl) (by decide +kernel)
set_option maxRecDepth 100000 in
theorem ki_yX3_look : Cond.instanceMethod yX3_look ∈ tblG := tg (List.mem_of_getElem? (i := 1199) rfl) (by decide +kernel)
set_option maxRecDepth 100000 in
theorem kc_yX3_look : Cond.code yX3_look prog_5_method_14_code (3 : Nat) (Option.none : Option FieldType) ∈ tblG := tg (List.mem_of_getElem? (i := 1201) rfl) (by decide +kernel)
set_option maxRecDepth 100000 in
theorem ki_yX0_twins : Cond.instanceMethod yX0_twins ∈ tblG := tg (List.mem_of_getElem? (i := 1204) rfl) (by decide +kernel)
set_option maxRecDepth 100000 in
theorem kc_yX0_twins : Cond.code yX0_twins prog_2_method_19_code (5 : Nat) (Option.some FieldType.int) ∈ tblG := tg (List.mem_of_getElem? (i := 1206) rfl) (by decide +kernel)
set_option maxRecDepth 100000 in
theorem ki_yX3_wants : Cond.instanceMethod yX3_wants ∈ tblG := tg (List.mem_of_getElem? (i := 1211) rfl) (by decide +kernel)
set_option maxRecDepth 100000 in
theorem kc_yX3_wants : Cond.code yX3_wants prog_5_method_15_code (5 : Nat) (Option.some FieldType.boolean) ∈ tblG := tg (List.mem_of_getElem? (i := 1213) rfl) (by decide +kernel)
set_option maxRecDepth 100000 in
theorem ki_yX7_holds : Cond.instanceMethod yX7_holds ∈ tblG := tg (List.mem_of_getElem? (i := 1215) rfl) (by decide +kernel)
set_option maxRecDepth 100000 in
theorem kc_yX7_holds : Cond.code yX7_holds prog_9_method_10_code (7 : Nat) (Option.some FieldType.boolean) ∈ tblG := tg (List.mem_of_getElem? (i := 1217) rfl) (by decide +kernel)
set_option maxRecDepth 100000 in
theorem kk_RX7_112 : Cond.constantLong RX7 112 (-2 : Int64) ∈ tblG := tg (List.mem_of_getElem? (i := 1218) rfl) (by decide +kernel)
set_option maxRecDepth 100000 in
theorem ki_yX3_fact : Cond.instanceMethod yX3_fact ∈ tblG := tg (List.mem_of_getElem? (i := 1220) rfl) (by decide +kernel)
set_option maxRecDepth 100000 in
theorem kc_yX3_fact : Cond.code yX3_fact prog_5_method_16_code (6 : Nat) (Option.some FieldType.boolean) ∈ tblG := tg (List.mem_of_getElem? (i := 1222) rfl) (by decide +kernel)
set_option maxRecDepth 100000 in
theorem kst_yL_law : Cond.static yL_law ∈ tblG := tg (List.mem_of_getElem? (i := 1227) rfl) (by decide +kernel)
set_option maxRecDepth 100000 in
theorem kc_yL_law : Cond.codeWith yL_law method_13_code (5 : Nat) (Option.some FieldType.int) [((0 : Nat), (10 : Nat), (13 : Nat), (13 : Nat))] ∈ tblG := tg (List.mem_of_getElem? (i := 1228) rfl) (by decide +kernel)
set_option maxRecDepth 100000 in
theorem ki_yX11_law : Cond.instanceMethod yX11_law ∈ tblG := tg (List.mem_of_getElem? (i := 1230) rfl) (by decide +kernel)
set_option maxRecDepth 100000 in
theorem kc_yX11_law : Cond.code yX11_law prog_1_method_16_code (4 : Nat) (Option.some FieldType.int) ∈ tblG := tg (List.mem_of_getElem? (i := 1232) rfl) (by decide +kernel)
set_option maxRecDepth 100000 in
theorem ki_yX3_setLaw : Cond.instanceMethod yX3_setLaw ∈ tblG := tg (List.mem_of_getElem? (i := 1234) rfl) (by decide +kernel)
set_option maxRecDepth 100000 in
theorem kc_yX3_setLaw : Cond.code yX3_setLaw prog_5_method_5_code (3 : Nat) (Option.none : Option FieldType) ∈ tblG := tg (List.mem_of_getElem? (i := 1236) rfl) (by decide +kernel)
set_option maxRecDepth 100000 in
theorem kst_yL_play : Cond.static yL_play ∈ tblG := tg (List.mem_of_getElem? (i := 1238) rfl) (by decide +kernel)
set_option maxRecDepth 100000 in
theorem kc_yL_play : Cond.codeWith yL_play method_14_code (4 : Nat) (Option.some FieldType.int) [((0 : Nat), (9 : Nat), (12 : Nat), (13 : Nat))] ∈ tblG := tg (List.mem_of_getElem? (i := 1239) rfl) (by decide +kernel)
set_option maxRecDepth 100000 in
theorem ki_yX11_play : Cond.instanceMethod yX11_play ∈ tblG := tg (List.mem_of_getElem? (i := 1241) rfl) (by decide +kernel)
set_option maxRecDepth 100000 in
theorem kc_yX11_play : Cond.code yX11_play prog_1_method_19_code (2 : Nat) (Option.some FieldType.int) ∈ tblG := tg (List.mem_of_getElem? (i := 1243) rfl) (by decide +kernel)
set_option maxRecDepth 100000 in
theorem ki_yX4_playTurns : Cond.instanceMethod yX4_playTurns ∈ tblG := tg (List.mem_of_getElem? (i := 1245) rfl) (by decide +kernel)
set_option maxRecDepth 100000 in
theorem kc_yX4_playTurns : Cond.code yX4_playTurns prog_6_method_5_code (4 : Nat) (Option.some FieldType.int) ∈ tblG := tg (List.mem_of_getElem? (i := 1247) rfl) (by decide +kernel)
set_option maxRecDepth 100000 in
theorem ki_yX4_mark : Cond.instanceMethod yX4_mark ∈ tblG := tg (List.mem_of_getElem? (i := 1250) rfl) (by decide +kernel)
set_option maxRecDepth 100000 in
theorem kc_yX4_mark : Cond.code yX4_mark prog_6_method_8_code (5 : Nat) (Option.none : Option FieldType) ∈ tblG := tg (List.mem_of_getElem? (i := 1251) rfl) (by decide +kernel)
set_option maxRecDepth 100000 in
theorem ki_yX0_pack : Cond.instanceMethod yX0_pack ∈ tblG := tg (List.mem_of_getElem? (i := 1253) rfl) (by decide +kernel)
set_option maxRecDepth 100000 in
theorem kc_yX0_pack : Cond.code yX0_pack prog_2_method_27_code (12 : Nat) (Option.none : Option FieldType) ∈ tblG := tg (List.mem_of_getElem? (i := 1255) rfl) (by decide +kernel)
set_option maxRecDepth 100000 in
theorem ki_yX3_tallyOf : Cond.instanceMethod yX3_tallyOf ∈ tblG := tg (List.mem_of_getElem? (i := 1257) rfl) (by decide +kernel)
set_option maxRecDepth 100000 in
theorem kc_yX3_tallyOf : Cond.code yX3_tallyOf prog_5_method_7_code (2 : Nat) (Option.some FieldType.int) ∈ tblG := tg (List.mem_of_getElem? (i := 1259) rfl) (by decide +kernel)
set_option maxRecDepth 100000 in
theorem ki_yX3_playTurn : Cond.instanceMethod yX3_playTurn ∈ tblG := tg (List.mem_of_getElem? (i := 1261) rfl) (by decide +kernel)
set_option maxRecDepth 100000 in
theorem kc_yX3_playTurn : Cond.code yX3_playTurn prog_5_method_17_code (3 : Nat) (Option.some FieldType.boolean) ∈ tblG := tg (List.mem_of_getElem? (i := 1263) rfl) (by decide +kernel)
set_option maxRecDepth 100000 in
theorem ki_yX3_callAhead : Cond.instanceMethod yX3_callAhead ∈ tblG := tg (List.mem_of_getElem? (i := 1269) rfl) (by decide +kernel)
set_option maxRecDepth 100000 in
theorem kc_yX3_callAhead : Cond.code yX3_callAhead prog_5_method_18_code (2 : Nat) (Option.none : Option FieldType) ∈ tblG := tg (List.mem_of_getElem? (i := 1270) rfl) (by decide +kernel)
set_option maxRecDepth 100000 in
theorem ki_yX3_setDelay : Cond.instanceMethod yX3_setDelay ∈ tblG := tg (List.mem_of_getElem? (i := 1275) rfl) (by decide +kernel)
set_option maxRecDepth 100000 in
theorem kc_yX3_setDelay : Cond.code yX3_setDelay prog_5_method_12_code (3 : Nat) (Option.none : Option FieldType) ∈ tblG := tg (List.mem_of_getElem? (i := 1276) rfl) (by decide +kernel)
set_option maxRecDepth 100000 in
theorem ki_yX0_following : Cond.instanceMethod yX0_following ∈ tblG := tg (List.mem_of_getElem? (i := 1279) rfl) (by decide +kernel)
set_option maxRecDepth 100000 in
theorem kc_yX0_following : Cond.code yX0_following prog_2_method_12_code (2 : Nat) (Option.some FieldType.int) ∈ tblG := tg (List.mem_of_getElem? (i := 1281) rfl) (by decide +kernel)
set_option maxRecDepth 100000 in
theorem ki_yX3_callBehind : Cond.instanceMethod yX3_callBehind ∈ tblG := tg (List.mem_of_getElem? (i := 1284) rfl) (by decide +kernel)
set_option maxRecDepth 100000 in
theorem kc_yX3_callBehind : Cond.code yX3_callBehind prog_5_method_19_code (4 : Nat) (Option.none : Option FieldType) ∈ tblG := tg (List.mem_of_getElem? (i := 1285) rfl) (by decide +kernel)
set_option maxRecDepth 100000 in
theorem ki_yX3_delayOf : Cond.instanceMethod yX3_delayOf ∈ tblG := tg (List.mem_of_getElem? (i := 1288) rfl) (by decide +kernel)
set_option maxRecDepth 100000 in
theorem kc_yX3_delayOf : Cond.code yX3_delayOf prog_5_method_11_code (2 : Nat) (Option.some FieldType.int) ∈ tblG := tg (List.mem_of_getElem? (i := 1289) rfl) (by decide +kernel)
set_option maxRecDepth 100000 in
theorem ki_yX3_drawnDelay : Cond.instanceMethod yX3_drawnDelay ∈ tblG := tg (List.mem_of_getElem? (i := 1292) rfl) (by decide +kernel)
set_option maxRecDepth 100000 in
theorem kc_yX3_drawnDelay : Cond.code yX3_drawnDelay prog_5_method_20_code (1 : Nat) (Option.some FieldType.int) ∈ tblG := tg (List.mem_of_getElem? (i := 1293) rfl) (by decide +kernel)
set_option maxRecDepth 100000 in
theorem kk_RX3_172 : Cond.constant RX3 172 (1103515245 : Int32) ∈ tblG := tg (List.mem_of_getElem? (i := 1294) rfl) (by decide +kernel)
set_option maxRecDepth 100000 in
theorem ki_yX3_addTally : Cond.instanceMethod yX3_addTally ∈ tblG := tg (List.mem_of_getElem? (i := 1297) rfl) (by decide +kernel)
set_option maxRecDepth 100000 in
theorem kc_yX3_addTally : Cond.code yX3_addTally prog_5_method_8_code (3 : Nat) (Option.none : Option FieldType) ∈ tblG := tg (List.mem_of_getElem? (i := 1298) rfl) (by decide +kernel)
set_option maxRecDepth 100000 in
theorem ki_yX3_judge : Cond.instanceMethod yX3_judge ∈ tblG := tg (List.mem_of_getElem? (i := 1301) rfl) (by decide +kernel)
set_option maxRecDepth 100000 in
theorem kc_yX3_judge : Cond.code yX3_judge prog_5_method_21_code (8 : Nat) (Option.none : Option FieldType) ∈ tblG := tg (List.mem_of_getElem? (i := 1302) rfl) (by decide +kernel)
set_option maxRecDepth 100000 in
theorem ki_yX3_fallTogether : Cond.instanceMethod yX3_fallTogether ∈ tblG := tg (List.mem_of_getElem? (i := 1306) rfl) (by decide +kernel)
set_option maxRecDepth 100000 in
theorem kc_yX3_fallTogether : Cond.code yX3_fallTogether prog_5_method_23_code (3 : Nat) (Option.none : Option FieldType) ∈ tblG := tg (List.mem_of_getElem? (i := 1307) rfl) (by decide +kernel)
set_option maxRecDepth 100000 in
theorem ki_yX0_poolHeaps : Cond.instanceMethod yX0_poolHeaps ∈ tblG := tg (List.mem_of_getElem? (i := 1309) rfl) (by decide +kernel)
set_option maxRecDepth 100000 in
theorem kc_yX0_poolHeaps : Cond.code yX0_poolHeaps prog_2_method_25_code (2 : Nat) (Option.none : Option FieldType) ∈ tblG := tg (List.mem_of_getElem? (i := 1311) rfl) (by decide +kernel)
set_option maxRecDepth 100000 in
theorem ki_yX0_win : Cond.instanceMethod yX0_win ∈ tblG := tg (List.mem_of_getElem? (i := 1313) rfl) (by decide +kernel)
set_option maxRecDepth 100000 in
theorem kc_yX0_win : Cond.code yX0_win prog_2_method_24_code (7 : Nat) (Option.some FieldType.int) ∈ tblG := tg (List.mem_of_getElem? (i := 1315) rfl) (by decide +kernel)
set_option maxRecDepth 100000 in
theorem ki_yX3_kindOfWin : Cond.instanceMethod yX3_kindOfWin ∈ tblG := tg (List.mem_of_getElem? (i := 1318) rfl) (by decide +kernel)
set_option maxRecDepth 100000 in
theorem kc_yX3_kindOfWin : Cond.code yX3_kindOfWin prog_5_method_22_code (4 : Nat) (Option.some FieldType.int) ∈ tblG := tg (List.mem_of_getElem? (i := 1319) rfl) (by decide +kernel)
set_option maxRecDepth 100000 in
theorem ki_yX3_payForFalse : Cond.instanceMethod yX3_payForFalse ∈ tblG := tg (List.mem_of_getElem? (i := 1322) rfl) (by decide +kernel)
set_option maxRecDepth 100000 in
theorem kc_yX3_payForFalse : Cond.code yX3_payForFalse prog_5_method_24_code (5 : Nat) (Option.none : Option FieldType) ∈ tblG := tg (List.mem_of_getElem? (i := 1323) rfl) (by decide +kernel)
set_option maxRecDepth 100000 in
theorem ki_yX6_takeLast : Cond.instanceMethod yX6_takeLast ∈ tblG := tg (List.mem_of_getElem? (i := 1327) rfl) (by decide +kernel)
set_option maxRecDepth 100000 in
theorem kc_yX6_takeLast : Cond.code yX6_takeLast prog_8_method_7_code (1 : Nat) (Option.some FieldType.int) ∈ tblG := tg (List.mem_of_getElem? (i := 1329) rfl) (by decide +kernel)
set_option maxRecDepth 100000 in
theorem ki_yX3_setLast : Cond.instanceMethod yX3_setLast ∈ tblG := tg (List.mem_of_getElem? (i := 1333) rfl) (by decide +kernel)
set_option maxRecDepth 100000 in
theorem kc_yX3_setLast : Cond.code yX3_setLast prog_5_method_10_code (3 : Nat) (Option.none : Option FieldType) ∈ tblG := tg (List.mem_of_getElem? (i := 1334) rfl) (by decide +kernel)
set_option maxRecDepth 100000 in
theorem ki_yX3_lastOf : Cond.instanceMethod yX3_lastOf ∈ tblG := tg (List.mem_of_getElem? (i := 1336) rfl) (by decide +kernel)
set_option maxRecDepth 100000 in
theorem kc_yX3_lastOf : Cond.code yX3_lastOf prog_5_method_9_code (2 : Nat) (Option.some FieldType.int) ∈ tblG := tg (List.mem_of_getElem? (i := 1338) rfl) (by decide +kernel)
set_option maxRecDepth 100000 in
theorem ki_yX4_record : Cond.instanceMethod yX4_record ∈ tblG := tg (List.mem_of_getElem? (i := 1341) rfl) (by decide +kernel)
set_option maxRecDepth 100000 in
theorem kc_yX4_record : Cond.code yX4_record prog_6_method_4_code (5 : Nat) (Option.none : Option FieldType) ∈ tblG := tg (List.mem_of_getElem? (i := 1342) rfl) (by decide +kernel)
set_option maxRecDepth 100000 in
theorem kk_RX4_36 : Cond.constantLong RX4 36 (-1 : Int64) ∈ tblG := tg (List.mem_of_getElem? (i := 1343) rfl) (by decide +kernel)
set_option maxRecDepth 100000 in
theorem kst_yL_undo : Cond.static yL_undo ∈ tblG := tg (List.mem_of_getElem? (i := 1345) rfl) (by decide +kernel)
set_option maxRecDepth 100000 in
theorem kc_yL_undo : Cond.codeWith yL_undo method_15_code (4 : Nat) (Option.some FieldType.int) [((0 : Nat), (9 : Nat), (12 : Nat), (13 : Nat))] ∈ tblG := tg (List.mem_of_getElem? (i := 1346) rfl) (by decide +kernel)
set_option maxRecDepth 100000 in
theorem ki_yX11_undo : Cond.instanceMethod yX11_undo ∈ tblG := tg (List.mem_of_getElem? (i := 1348) rfl) (by decide +kernel)
set_option maxRecDepth 100000 in
theorem kc_yX11_undo : Cond.code yX11_undo prog_1_method_20_code (2 : Nat) (Option.some FieldType.int) ∈ tblG := tg (List.mem_of_getElem? (i := 1350) rfl) (by decide +kernel)
set_option maxRecDepth 100000 in
theorem ki_yX4_undoTurns : Cond.instanceMethod yX4_undoTurns ∈ tblG := tg (List.mem_of_getElem? (i := 1352) rfl) (by decide +kernel)
set_option maxRecDepth 100000 in
theorem kc_yX4_undoTurns : Cond.code yX4_undoTurns prog_6_method_6_code (7 : Nat) (Option.some FieldType.int) ∈ tblG := tg (List.mem_of_getElem? (i := 1354) rfl) (by decide +kernel)
set_option maxRecDepth 100000 in
theorem ki_yX4_turnOfMark : Cond.instanceMethod yX4_turnOfMark ∈ tblG := tg (List.mem_of_getElem? (i := 1358) rfl) (by decide +kernel)
set_option maxRecDepth 100000 in
theorem kc_yX4_turnOfMark : Cond.code yX4_turnOfMark prog_6_method_7_code (2 : Nat) (Option.some FieldType.int) ∈ tblG := tg (List.mem_of_getElem? (i := 1359) rfl) (by decide +kernel)
set_option maxRecDepth 100000 in
theorem ki_yX4_goTo : Cond.instanceMethod yX4_goTo ∈ tblG := tg (List.mem_of_getElem? (i := 1362) rfl) (by decide +kernel)
set_option maxRecDepth 100000 in
theorem kc_yX4_goTo : Cond.code yX4_goTo prog_6_method_9_code (6 : Nat) (Option.some FieldType.boolean) ∈ tblG := tg (List.mem_of_getElem? (i := 1363) rfl) (by decide +kernel)
set_option maxRecDepth 100000 in
theorem ki_yX0_unpack : Cond.instanceMethod yX0_unpack ∈ tblG := tg (List.mem_of_getElem? (i := 1365) rfl) (by decide +kernel)
set_option maxRecDepth 100000 in
theorem kc_yX0_unpack : Cond.code yX0_unpack prog_2_method_28_code (10 : Nat) (Option.none : Option FieldType) ∈ tblG := tg (List.mem_of_getElem? (i := 1367) rfl) (by decide +kernel)
set_option maxRecDepth 100000 in
theorem kst_yL_latest : Cond.static yL_latest ∈ tblG := tg (List.mem_of_getElem? (i := 1370) rfl) (by decide +kernel)
set_option maxRecDepth 100000 in
theorem kc_yL_latest : Cond.codeWith yL_latest method_16_code (4 : Nat) (Option.some FieldType.int) [((0 : Nat), (9 : Nat), (12 : Nat), (13 : Nat))] ∈ tblG := tg (List.mem_of_getElem? (i := 1371) rfl) (by decide +kernel)
set_option maxRecDepth 100000 in
theorem ki_yX11_latest : Cond.instanceMethod yX11_latest ∈ tblG := tg (List.mem_of_getElem? (i := 1373) rfl) (by decide +kernel)
set_option maxRecDepth 100000 in
theorem kc_yX11_latest : Cond.code yX11_latest prog_1_method_21_code (2 : Nat) (Option.some FieldType.int) ∈ tblG := tg (List.mem_of_getElem? (i := 1375) rfl) (by decide +kernel)
set_option maxRecDepth 100000 in
theorem kst_yL_calls : Cond.static yL_calls ∈ tblG := tg (List.mem_of_getElem? (i := 1378) rfl) (by decide +kernel)
set_option maxRecDepth 100000 in
theorem kc_yL_calls : Cond.codeWith yL_calls method_17_code (5 : Nat) (Option.some FieldType.int) [((0 : Nat), (10 : Nat), (13 : Nat), (19 : Nat)), ((0 : Nat), (10 : Nat), (17 : Nat), (13 : Nat))] ∈ tblG := tg (List.mem_of_getElem? (i := 1379) rfl) (by decide +kernel)
set_option maxRecDepth 100000 in
theorem ki_yX11_calls : Cond.instanceMethod yX11_calls ∈ tblG := tg (List.mem_of_getElem? (i := 1381) rfl) (by decide +kernel)
set_option maxRecDepth 100000 in
theorem kc_yX11_calls : Cond.code yX11_calls prog_1_method_22_code (3 : Nat) (Option.some FieldType.int) ∈ tblG := tg (List.mem_of_getElem? (i := 1383) rfl) (by decide +kernel)
set_option maxRecDepth 100000 in
theorem kst_yL_won : Cond.static yL_won ∈ tblG := tg (List.mem_of_getElem? (i := 1386) rfl) (by decide +kernel)
set_option maxRecDepth 100000 in
theorem kc_yL_won : Cond.codeWith yL_won method_18_code (4 : Nat) (Option.some FieldType.int) [((0 : Nat), (9 : Nat), (12 : Nat), (19 : Nat))] ∈ tblG := tg (List.mem_of_getElem? (i := 1387) rfl) (by decide +kernel)
set_option maxRecDepth 100000 in
theorem ki_yX11_won : Cond.instanceMethod yX11_won ∈ tblG := tg (List.mem_of_getElem? (i := 1389) rfl) (by decide +kernel)
set_option maxRecDepth 100000 in
theorem kc_yX11_won : Cond.code yX11_won prog_1_method_23_code (2 : Nat) (Option.some FieldType.int) ∈ tblG := tg (List.mem_of_getElem? (i := 1391) rfl) (by decide +kernel)
set_option maxRecDepth 100000 in
theorem kst_yL_ends : Cond.static yL_ends ∈ tblG := tg (List.mem_of_getElem? (i := 1393) rfl) (by decide +kernel)
set_option maxRecDepth 100000 in
theorem kc_yL_ends : Cond.codeWith yL_ends method_19_code (4 : Nat) (Option.some FieldType.int) [((0 : Nat), (9 : Nat), (12 : Nat), (13 : Nat))] ∈ tblG := tg (List.mem_of_getElem? (i := 1394) rfl) (by decide +kernel)
set_option maxRecDepth 100000 in
theorem ki_yX11_ends : Cond.instanceMethod yX11_ends ∈ tblG := tg (List.mem_of_getElem? (i := 1396) rfl) (by decide +kernel)
set_option maxRecDepth 100000 in
theorem kc_yX11_ends : Cond.code yX11_ends prog_1_method_24_code (2 : Nat) (Option.some FieldType.int) ∈ tblG := tg (List.mem_of_getElem? (i := 1398) rfl) (by decide +kernel)
set_option maxRecDepth 100000 in
theorem ki_yX2_begin : Cond.instanceMethod yX2_begin ∈ tblG := tg (List.mem_of_getElem? (i := 1400) rfl) (by decide +kernel)
set_option maxRecDepth 100000 in
theorem kc_yX2_begin : Cond.code yX2_begin prog_4_method_2_code (2 : Nat) (Option.none : Option FieldType) ∈ tblG := tg (List.mem_of_getElem? (i := 1402) rfl) (by decide +kernel)
set_option maxRecDepth 100000 in
theorem ki_yX2_run : Cond.instanceMethod yX2_run ∈ tblG := tg (List.mem_of_getElem? (i := 1405) rfl) (by decide +kernel)
set_option maxRecDepth 100000 in
theorem kc_yX2_run : Cond.code yX2_run prog_4_method_3_code (4 : Nat) (Option.none : Option FieldType) ∈ tblG := tg (List.mem_of_getElem? (i := 1407) rfl) (by decide +kernel)
set_option maxRecDepth 100000 in
theorem ki_yX3_cycle : Cond.instanceMethod yX3_cycle ∈ tblG := tg (List.mem_of_getElem? (i := 1409) rfl) (by decide +kernel)
set_option maxRecDepth 100000 in
theorem kc_yX3_cycle : Cond.code yX3_cycle prog_5_method_13_code (4 : Nat) (Option.some FieldType.int) ∈ tblG := tg (List.mem_of_getElem? (i := 1411) rfl) (by decide +kernel)
set_option maxRecDepth 100000 in
theorem ki_yX7_cycle : Cond.instanceMethod yX7_cycle ∈ tblG := tg (List.mem_of_getElem? (i := 1413) rfl) (by decide +kernel)
set_option maxRecDepth 100000 in
theorem kc_yX7_cycle : Cond.code yX7_cycle prog_9_method_11_code (7 : Nat) (Option.some FieldType.int) ∈ tblG := tg (List.mem_of_getElem? (i := 1415) rfl) (by decide +kernel)
set_option maxRecDepth 100000 in
theorem kst_yX11_commonDivisor : Cond.static yX11_commonDivisor ∈ tblG := tg (List.mem_of_getElem? (i := 1417) rfl) (by decide +kernel)
set_option maxRecDepth 100000 in
theorem kc_yX11_commonDivisor : Cond.code yX11_commonDivisor prog_1_method_49_code (11 : Nat) (Option.some FieldType.long) ∈ tblG := tg (List.mem_of_getElem? (i := 1418) rfl) (by decide +kernel)
set_option maxRecDepth 100000 in
theorem kk_RX7_124 : Cond.constantLong RX7 124 (3001 : Int64) ∈ tblG := tg (List.mem_of_getElem? (i := 1419) rfl) (by decide +kernel)
set_option maxRecDepth 100000 in
theorem kst_yJ9_min_f86c9 : Cond.static yJ9_min_f86c9 ∈ tblG := tg (List.mem_of_getElem? (i := 1421) rfl) (by decide +kernel)
set_option maxRecDepth 100000 in
theorem kc_yJ9_min_f86c9 : Cond.code yJ9_min_f86c9 prog_21_method_70_code (4 : Nat) (Option.some FieldType.long) ∈ tblG := tg (List.mem_of_getElem? (i := 1422) rfl) (by decide +kernel)
set_option maxRecDepth 100000 in
theorem ki_yX2_note : Cond.instanceMethod yX2_note ∈ tblG := tg (List.mem_of_getElem? (i := 1428) rfl) (by decide +kernel)
set_option maxRecDepth 100000 in
theorem kc_yX2_note : Cond.code yX2_note prog_4_method_4_code (7 : Nat) (Option.some FieldType.int) ∈ tblG := tg (List.mem_of_getElem? (i := 1429) rfl) (by decide +kernel)
set_option maxRecDepth 100000 in
theorem ki_yX2_slotOf : Cond.instanceMethod yX2_slotOf ∈ tblG := tg (List.mem_of_getElem? (i := 1433) rfl) (by decide +kernel)
set_option maxRecDepth 100000 in
theorem kc_yX2_slotOf : Cond.code yX2_slotOf prog_4_method_5_code (5 : Nat) (Option.some FieldType.int) ∈ tblG := tg (List.mem_of_getElem? (i := 1434) rfl) (by decide +kernel)
set_option maxRecDepth 100000 in
theorem kk_RX2_105 : Cond.constantLong RX2 105 (-7046029254386353131 : Int64) ∈ tblG := tg (List.mem_of_getElem? (i := 1435) rfl) (by decide +kernel)
set_option maxRecDepth 100000 in
theorem ki_yX2_isSame : Cond.instanceMethod yX2_isSame ∈ tblG := tg (List.mem_of_getElem? (i := 1438) rfl) (by decide +kernel)
set_option maxRecDepth 100000 in
theorem kc_yX2_isSame : Cond.code yX2_isSame prog_4_method_6_code (5 : Nat) (Option.some FieldType.boolean) ∈ tblG := tg (List.mem_of_getElem? (i := 1439) rfl) (by decide +kernel)
set_option maxRecDepth 100000 in
theorem ki_yX0_leftOne : Cond.instanceMethod yX0_leftOne ∈ tblG := tg (List.mem_of_getElem? (i := 1442) rfl) (by decide +kernel)
set_option maxRecDepth 100000 in
theorem kc_yX0_leftOne : Cond.code yX0_leftOne prog_2_method_15_code (1 : Nat) (Option.some FieldType.int) ∈ tblG := tg (List.mem_of_getElem? (i := 1444) rfl) (by decide +kernel)
set_option maxRecDepth 100000 in
theorem kst_yL_chance : Cond.static yL_chance ∈ tblG := tg (List.mem_of_getElem? (i := 1446) rfl) (by decide +kernel)
set_option maxRecDepth 100000 in
theorem kc_yL_chance : Cond.codeWith yL_chance method_20_code (6 : Nat) (Option.some FieldType.int) [((0 : Nat), (12 : Nat), (15 : Nat), (19 : Nat)), ((0 : Nat), (12 : Nat), (19 : Nat), (13 : Nat))] ∈ tblG := tg (List.mem_of_getElem? (i := 1447) rfl) (by decide +kernel)
set_option maxRecDepth 100000 in
theorem ki_yX11_chance : Cond.instanceMethod yX11_chance ∈ tblG := tg (List.mem_of_getElem? (i := 1449) rfl) (by decide +kernel)
set_option maxRecDepth 100000 in
theorem kc_yX11_chance : Cond.code yX11_chance prog_1_method_26_code (9 : Nat) (Option.some FieldType.int) ∈ tblG := tg (List.mem_of_getElem? (i := 1451) rfl) (by decide +kernel)
set_option maxRecDepth 100000 in
theorem ki_yX0_sourceOf : Cond.instanceMethod yX0_sourceOf ∈ tblG := tg (List.mem_of_getElem? (i := 1453) rfl) (by decide +kernel)
set_option maxRecDepth 100000 in
theorem kc_yX0_sourceOf : Cond.code yX0_sourceOf prog_2_method_5_code (3 : Nat) (Option.some (FieldType.object "SnapHeaps$Pile")) ∈ tblG := tg (List.mem_of_getElem? (i := 1455) rfl) (by decide +kernel)
set_option maxRecDepth 100000 in
theorem ki_yX0_firstHasLain : Cond.instanceMethod yX0_firstHasLain ∈ tblG := tg (List.mem_of_getElem? (i := 1457) rfl) (by decide +kernel)
set_option maxRecDepth 100000 in
theorem kc_yX0_firstHasLain : Cond.code yX0_firstHasLain prog_2_method_20_code (3 : Nat) (Option.some FieldType.boolean) ∈ tblG := tg (List.mem_of_getElem? (i := 1459) rfl) (by decide +kernel)
set_option maxRecDepth 100000 in
theorem ki_yX0_isOtherTop : Cond.instanceMethod yX0_isOtherTop ∈ tblG := tg (List.mem_of_getElem? (i := 1462) rfl) (by decide +kernel)
set_option maxRecDepth 100000 in
theorem kc_yX0_isOtherTop : Cond.code yX0_isOtherTop prog_2_method_18_code (4 : Nat) (Option.some FieldType.boolean) ∈ tblG := tg (List.mem_of_getElem? (i := 1464) rfl) (by decide +kernel)
set_option maxRecDepth 100000 in
theorem kst_yX11_leastTerm : Cond.static yX11_leastTerm ∈ tblG := tg (List.mem_of_getElem? (i := 1466) rfl) (by decide +kernel)
set_option maxRecDepth 100000 in
theorem kc_yX11_leastTerm : Cond.code yX11_leastTerm prog_1_method_48_code (7 : Nat) (Option.some FieldType.long) ∈ tblG := tg (List.mem_of_getElem? (i := 1467) rfl) (by decide +kernel)
set_option maxRecDepth 100000 in
theorem kst_yL_waits : Cond.static yL_waits ∈ tblG := tg (List.mem_of_getElem? (i := 1470) rfl) (by decide +kernel)
set_option maxRecDepth 100000 in
theorem kc_yL_waits : Cond.codeWith yL_waits method_21_code (7 : Nat) (Option.some FieldType.int) [((0 : Nat), (14 : Nat), (17 : Nat), (13 : Nat))] ∈ tblG := tg (List.mem_of_getElem? (i := 1471) rfl) (by decide +kernel)
set_option maxRecDepth 100000 in
theorem ki_yX11_waits : Cond.instanceMethod yX11_waits ∈ tblG := tg (List.mem_of_getElem? (i := 1473) rfl) (by decide +kernel)
set_option maxRecDepth 100000 in
theorem kc_yX11_waits : Cond.code yX11_waits prog_1_method_27_code (7 : Nat) (Option.some FieldType.int) ∈ tblG := tg (List.mem_of_getElem? (i := 1475) rfl) (by decide +kernel)
set_option maxRecDepth 100000 in
theorem ki_yX11_needWager : Cond.instanceMethod yX11_needWager ∈ tblG := tg (List.mem_of_getElem? (i := 1478) rfl) (by decide +kernel)
set_option maxRecDepth 100000 in
theorem kc_yX11_needWager : Cond.code yX11_needWager prog_1_method_45_code (5 : Nat) (Option.none : Option FieldType) ∈ tblG := tg (List.mem_of_getElem? (i := 1479) rfl) (by decide +kernel)
set_option maxRecDepth 100000 in
theorem kst_yL_ahead : Cond.static yL_ahead ∈ tblG := tg (List.mem_of_getElem? (i := 1481) rfl) (by decide +kernel)
set_option maxRecDepth 100000 in
theorem kc_yL_ahead : Cond.codeWith yL_ahead method_22_code (7 : Nat) (Option.some FieldType.int) [((0 : Nat), (14 : Nat), (17 : Nat), (13 : Nat))] ∈ tblG := tg (List.mem_of_getElem? (i := 1482) rfl) (by decide +kernel)
set_option maxRecDepth 100000 in
theorem ki_yX11_ahead : Cond.instanceMethod yX11_ahead ∈ tblG := tg (List.mem_of_getElem? (i := 1484) rfl) (by decide +kernel)
set_option maxRecDepth 100000 in
theorem kc_yX11_ahead : Cond.code yX11_ahead prog_1_method_28_code (5 : Nat) (Option.some FieldType.int) ∈ tblG := tg (List.mem_of_getElem? (i := 1486) rfl) (by decide +kernel)
set_option maxRecDepth 100000 in
theorem kst_yL_moments : Cond.static yL_moments ∈ tblG := tg (List.mem_of_getElem? (i := 1488) rfl) (by decide +kernel)
set_option maxRecDepth 100000 in
theorem kc_yL_moments : Cond.codeWith yL_moments method_23_code (6 : Nat) (Option.some FieldType.int) [((0 : Nat), (12 : Nat), (15 : Nat), (13 : Nat))] ∈ tblG := tg (List.mem_of_getElem? (i := 1489) rfl) (by decide +kernel)
set_option maxRecDepth 100000 in
theorem ki_yX11_moments : Cond.instanceMethod yX11_moments ∈ tblG := tg (List.mem_of_getElem? (i := 1491) rfl) (by decide +kernel)
set_option maxRecDepth 100000 in
theorem kc_yX11_moments : Cond.code yX11_moments prog_1_method_29_code (4 : Nat) (Option.some FieldType.int) ∈ tblG := tg (List.mem_of_getElem? (i := 1493) rfl) (by decide +kernel)
set_option maxRecDepth 100000 in
theorem ki_yX8_payoff : Cond.instanceMethod yX8_payoff ∈ tblG := tg (List.mem_of_getElem? (i := 1495) rfl) (by decide +kernel)
set_option maxRecDepth 100000 in
theorem kc_yX8_payoff : Cond.code yX8_payoff prog_10_method_12_code (6 : Nat) (Option.some FieldType.int) ∈ tblG := tg (List.mem_of_getElem? (i := 1497) rfl) (by decide +kernel)
set_option maxRecDepth 100000 in
theorem kst_yL_rests : Cond.static yL_rests ∈ tblG := tg (List.mem_of_getElem? (i := 1499) rfl) (by decide +kernel)
set_option maxRecDepth 100000 in
theorem kc_yL_rests : Cond.codeWith yL_rests method_24_code (5 : Nat) (Option.some FieldType.int) [((0 : Nat), (10 : Nat), (13 : Nat), (13 : Nat))] ∈ tblG := tg (List.mem_of_getElem? (i := 1500) rfl) (by decide +kernel)
set_option maxRecDepth 100000 in
theorem ki_yX11_rests : Cond.instanceMethod yX11_rests ∈ tblG := tg (List.mem_of_getElem? (i := 1502) rfl) (by decide +kernel)
set_option maxRecDepth 100000 in
theorem kc_yX11_rests : Cond.code yX11_rests prog_1_method_30_code (7 : Nat) (Option.some FieldType.int) ∈ tblG := tg (List.mem_of_getElem? (i := 1504) rfl) (by decide +kernel)
set_option maxRecDepth 100000 in
theorem ki_yX8_isBest : Cond.instanceMethod yX8_isBest ∈ tblG := tg (List.mem_of_getElem? (i := 1506) rfl) (by decide +kernel)
set_option maxRecDepth 100000 in
theorem kc_yX8_isBest : Cond.code yX8_isBest prog_10_method_13_code (6 : Nat) (Option.some FieldType.boolean) ∈ tblG := tg (List.mem_of_getElem? (i := 1508) rfl) (by decide +kernel)
set_option maxRecDepth 100000 in
theorem kst_yL_remember : Cond.static yL_remember ∈ tblG := tg (List.mem_of_getElem? (i := 1511) rfl) (by decide +kernel)
set_option maxRecDepth 100000 in
theorem kc_yL_remember : Cond.codeWith yL_remember method_25_code (6 : Nat) (Option.some FieldType.int) [((0 : Nat), (12 : Nat), (15 : Nat), (19 : Nat)), ((0 : Nat), (12 : Nat), (19 : Nat), (13 : Nat))] ∈ tblG := tg (List.mem_of_getElem? (i := 1512) rfl) (by decide +kernel)
set_option maxRecDepth 100000 in
theorem ki_yX11_remember : Cond.instanceMethod yX11_remember ∈ tblG := tg (List.mem_of_getElem? (i := 1514) rfl) (by decide +kernel)
set_option maxRecDepth 100000 in
theorem kc_yX11_remember : Cond.code yX11_remember prog_1_method_31_code (4 : Nat) (Option.some FieldType.int) ∈ tblG := tg (List.mem_of_getElem? (i := 1516) rfl) (by decide +kernel)
set_option maxRecDepth 100000 in
theorem ki_yX10_remembering : Cond.instanceMethod yX10_remembering ∈ tblG := tg (List.mem_of_getElem? (i := 1518) rfl) (by decide +kernel)
set_option maxRecDepth 100000 in
theorem kc_yX10_remembering : Cond.code yX10_remembering prog_12_method_5_code (5 : Nat) (Option.none : Option FieldType) ∈ tblG := tg (List.mem_of_getElem? (i := 1520) rfl) (by decide +kernel)
set_option maxRecDepth 100000 in
theorem ki_yX10_choose : Cond.instanceMethod yX10_choose ∈ tblG := tg (List.mem_of_getElem? (i := 1523) rfl) (by decide +kernel)
set_option maxRecDepth 100000 in
theorem kc_yX10_choose : Cond.code yX10_choose prog_12_method_6_code (8 : Nat) (Option.none : Option FieldType) ∈ tblG := tg (List.mem_of_getElem? (i := 1524) rfl) (by decide +kernel)
set_option maxRecDepth 100000 in
theorem ki_yX0_cardsOf : Cond.instanceMethod yX0_cardsOf ∈ tblG := tg (List.mem_of_getElem? (i := 1526) rfl) (by decide +kernel)
set_option maxRecDepth 100000 in
theorem kc_yX0_cardsOf : Cond.code yX0_cardsOf prog_2_method_8_code (2 : Nat) (Option.some FieldType.int) ∈ tblG := tg (List.mem_of_getElem? (i := 1528) rfl) (by decide +kernel)
set_option maxRecDepth 100000 in
theorem ki_yX10_keepBetter : Cond.instanceMethod yX10_keepBetter ∈ tblG := tg (List.mem_of_getElem? (i := 1531) rfl) (by decide +kernel)
set_option maxRecDepth 100000 in
theorem kc_yX10_keepBetter : Cond.code yX10_keepBetter prog_12_method_7_code (3 : Nat) (Option.none : Option FieldType) ∈ tblG := tg (List.mem_of_getElem? (i := 1532) rfl) (by decide +kernel)
set_option maxRecDepth 100000 in
theorem kst_yL_odds : Cond.static yL_odds ∈ tblG := tg (List.mem_of_getElem? (i := 1537) rfl) (by decide +kernel)
set_option maxRecDepth 100000 in
theorem kc_yL_odds : Cond.codeWith yL_odds method_26_code (6 : Nat) (Option.some FieldType.int) [((0 : Nat), (11 : Nat), (14 : Nat), (19 : Nat)), ((0 : Nat), (11 : Nat), (18 : Nat), (13 : Nat))] ∈ tblG := tg (List.mem_of_getElem? (i := 1538) rfl) (by decide +kernel)
set_option maxRecDepth 100000 in
theorem ki_yX11_odds : Cond.instanceMethod yX11_odds ∈ tblG := tg (List.mem_of_getElem? (i := 1540) rfl) (by decide +kernel)
set_option maxRecDepth 100000 in
theorem kc_yX11_odds : Cond.code yX11_odds prog_1_method_32_code (4 : Nat) (Option.some FieldType.long) ∈ tblG := tg (List.mem_of_getElem? (i := 1542) rfl) (by decide +kernel)
set_option maxRecDepth 100000 in
theorem ki_yX10_weighing : Cond.instanceMethod yX10_weighing ∈ tblG := tg (List.mem_of_getElem? (i := 1544) rfl) (by decide +kernel)
set_option maxRecDepth 100000 in
theorem kc_yX10_weighing : Cond.code yX10_weighing prog_12_method_8_code (6 : Nat) (Option.none : Option FieldType) ∈ tblG := tg (List.mem_of_getElem? (i := 1546) rfl) (by decide +kernel)
set_option maxRecDepth 100000 in
theorem ki_yX8_allQuickness : Cond.instanceMethod yX8_allQuickness ∈ tblG := tg (List.mem_of_getElem? (i := 1548) rfl) (by decide +kernel)
set_option maxRecDepth 100000 in
theorem kc_yX8_allQuickness : Cond.code yX8_allQuickness prog_10_method_4_code (3 : Nat) (Option.some FieldType.int) ∈ tblG := tg (List.mem_of_getElem? (i := 1550) rfl) (by decide +kernel)
set_option maxRecDepth 100000 in
theorem ki_yX10_weigh : Cond.instanceMethod yX10_weigh ∈ tblG := tg (List.mem_of_getElem? (i := 1554) rfl) (by decide +kernel)
set_option maxRecDepth 100000 in
theorem kc_yX10_weigh : Cond.code yX10_weigh prog_12_method_9_code (9 : Nat) (Option.none : Option FieldType) ∈ tblG := tg (List.mem_of_getElem? (i := 1555) rfl) (by decide +kernel)
set_option maxRecDepth 100000 in
theorem ki_yX10_leads : Cond.instanceMethod yX10_leads ∈ tblG := tg (List.mem_of_getElem? (i := 1558) rfl) (by decide +kernel)
set_option maxRecDepth 100000 in
theorem kc_yX10_leads : Cond.code yX10_leads prog_12_method_11_code (3 : Nat) (Option.some FieldType.boolean) ∈ tblG := tg (List.mem_of_getElem? (i := 1559) rfl) (by decide +kernel)
set_option maxRecDepth 100000 in
theorem ki_yX10_allWays : Cond.instanceMethod yX10_allWays ∈ tblG := tg (List.mem_of_getElem? (i := 1562) rfl) (by decide +kernel)
set_option maxRecDepth 100000 in
theorem kc_yX10_allWays : Cond.code yX10_allWays prog_12_method_10_code (7 : Nat) (Option.some FieldType.long) ∈ tblG := tg (List.mem_of_getElem? (i := 1563) rfl) (by decide +kernel)
set_option maxRecDepth 100000 in
theorem kst_yL_lot : Cond.static yL_lot ∈ tblG := tg (List.mem_of_getElem? (i := 1566) rfl) (by decide +kernel)
set_option maxRecDepth 100000 in
theorem kc_yL_lot : Cond.codeWith yL_lot method_27_code (6 : Nat) (Option.some FieldType.int) [((0 : Nat), (12 : Nat), (15 : Nat), (13 : Nat))] ∈ tblG := tg (List.mem_of_getElem? (i := 1567) rfl) (by decide +kernel)
set_option maxRecDepth 100000 in
theorem ki_yX11_lot : Cond.instanceMethod yX11_lot ∈ tblG := tg (List.mem_of_getElem? (i := 1569) rfl) (by decide +kernel)
set_option maxRecDepth 100000 in
theorem kc_yX11_lot : Cond.code yX11_lot prog_1_method_34_code (9 : Nat) (Option.some FieldType.int) ∈ tblG := tg (List.mem_of_getElem? (i := 1571) rfl) (by decide +kernel)
set_option maxRecDepth 100000 in
theorem kst_yL_film : Cond.static yL_film ∈ tblG := tg (List.mem_of_getElem? (i := 1574) rfl) (by decide +kernel)
set_option maxRecDepth 100000 in
theorem kc_yL_film : Cond.codeWith yL_film method_28_code (8 : Nat) (Option.some FieldType.int) [((0 : Nat), (16 : Nat), (19 : Nat), (13 : Nat))] ∈ tblG := tg (List.mem_of_getElem? (i := 1575) rfl) (by decide +kernel)
set_option maxRecDepth 100000 in
theorem ki_yX11_film : Cond.instanceMethod yX11_film ∈ tblG := tg (List.mem_of_getElem? (i := 1577) rfl) (by decide +kernel)
set_option maxRecDepth 100000 in
theorem kc_yX11_film : Cond.code yX11_film prog_1_method_35_code (10 : Nat) (Option.some FieldType.int) ∈ tblG := tg (List.mem_of_getElem? (i := 1579) rfl) (by decide +kernel)
set_option maxRecDepth 100000 in
theorem kst_yL_laws : Cond.static yL_laws ∈ tblG := tg (List.mem_of_getElem? (i := 1581) rfl) (by decide +kernel)
set_option maxRecDepth 100000 in
theorem kc_yL_laws : Cond.codeWith yL_laws method_29_code (5 : Nat) (Option.some FieldType.int) [((0 : Nat), (10 : Nat), (13 : Nat), (13 : Nat))] ∈ tblG := tg (List.mem_of_getElem? (i := 1582) rfl) (by decide +kernel)
set_option maxRecDepth 100000 in
theorem ki_yX11_laws : Cond.instanceMethod yX11_laws ∈ tblG := tg (List.mem_of_getElem? (i := 1584) rfl) (by decide +kernel)
set_option maxRecDepth 100000 in
theorem kc_yX11_laws : Cond.code yX11_laws prog_1_method_36_code (3 : Nat) (Option.some FieldType.int) ∈ tblG := tg (List.mem_of_getElem? (i := 1586) rfl) (by decide +kernel)
set_option maxRecDepth 100000 in
theorem kst_yL_entry : Cond.static yL_entry ∈ tblG := tg (List.mem_of_getElem? (i := 1588) rfl) (by decide +kernel)
set_option maxRecDepth 100000 in
theorem kc_yL_entry : Cond.codeWith yL_entry method_30_code (5 : Nat) (Option.some FieldType.int) [((0 : Nat), (10 : Nat), (13 : Nat), (13 : Nat))] ∈ tblG := tg (List.mem_of_getElem? (i := 1589) rfl) (by decide +kernel)
set_option maxRecDepth 100000 in
theorem ki_yX11_entry : Cond.instanceMethod yX11_entry ∈ tblG := tg (List.mem_of_getElem? (i := 1591) rfl) (by decide +kernel)
set_option maxRecDepth 100000 in
theorem kc_yX11_entry : Cond.code yX11_entry prog_1_method_38_code (3 : Nat) (Option.some FieldType.int) ∈ tblG := tg (List.mem_of_getElem? (i := 1593) rfl) (by decide +kernel)
set_option maxRecDepth 100000 in
theorem ki_yX12_thrown : Cond.instanceMethod yX12_thrown ∈ tblG := tg (List.mem_of_getElem? (i := 1595) rfl) (by decide +kernel)
set_option maxRecDepth 100000 in
theorem kc_yX12_thrown : Cond.code yX12_thrown prog_14_method_1_code (1 : Nat) (Option.some FieldType.int) ∈ tblG := tg (List.mem_of_getElem? (i := 1597) rfl) (by decide +kernel)
set_option maxRecDepth 100000 in
theorem ki_yX12_init : Cond.instanceMethod yX12_init ∈ tblG := tg (List.mem_of_getElem? (i := 1601) rfl) (by decide +kernel)
set_option maxRecDepth 100000 in
theorem kc_yX12_init : Cond.code yX12_init prog_14_method_4_code (1 : Nat) (Option.none : Option FieldType) ∈ tblG := tg (List.mem_of_getElem? (i := 1602) rfl) (by decide +kernel)
set_option maxRecDepth 100000 in
theorem kk_RX12_108 : Cond.constant RX12 108 (210070 : Int32) ∈ tblG := tg (List.mem_of_getElem? (i := 1604) rfl) (by decide +kernel)
set_option maxRecDepth 100000 in
theorem kk_RX12_124 : Cond.constant RX12 124 (39663 : Int32) ∈ tblG := tg (List.mem_of_getElem? (i := 1605) rfl) (by decide +kernel)
set_option maxRecDepth 100000 in
theorem ki_yX12_clears : Cond.instanceMethod yX12_clears ∈ tblG := tg (List.mem_of_getElem? (i := 1608) rfl) (by decide +kernel)
set_option maxRecDepth 100000 in
theorem kc_yX12_clears : Cond.code yX12_clears prog_14_method_20_code (2 : Nat) (Option.none : Option FieldType) ∈ tblG := tg (List.mem_of_getElem? (i := 1609) rfl) (by decide +kernel)
set_option maxRecDepth 100000 in
theorem ki_yX12_sets : Cond.instanceMethod yX12_sets ∈ tblG := tg (List.mem_of_getElem? (i := 1612) rfl) (by decide +kernel)
set_option maxRecDepth 100000 in
theorem kc_yX12_sets : Cond.code yX12_sets prog_14_method_21_code (4 : Nat) (Option.none : Option FieldType) ∈ tblG := tg (List.mem_of_getElem? (i := 1613) rfl) (by decide +kernel)
set_option maxRecDepth 100000 in
theorem ki_yX12_forgets : Cond.instanceMethod yX12_forgets ∈ tblG := tg (List.mem_of_getElem? (i := 1616) rfl) (by decide +kernel)
set_option maxRecDepth 100000 in
theorem kc_yX12_forgets : Cond.code yX12_forgets prog_14_method_23_code (2 : Nat) (Option.none : Option FieldType) ∈ tblG := tg (List.mem_of_getElem? (i := 1617) rfl) (by decide +kernel)
set_option maxRecDepth 100000 in
theorem ki_yX12_stays : Cond.instanceMethod yX12_stays ∈ tblG := tg (List.mem_of_getElem? (i := 1620) rfl) (by decide +kernel)
set_option maxRecDepth 100000 in
theorem kc_yX12_stays : Cond.code yX12_stays prog_14_method_22_code (2 : Nat) (Option.none : Option FieldType) ∈ tblG := tg (List.mem_of_getElem? (i := 1621) rfl) (by decide +kernel)
set_option maxRecDepth 100000 in
theorem kf_RX12_3 : Cond.fieldLink RX12 3 "SnapHeapsModel" "thrown" "I" ∈ tblG := tg (List.mem_of_getElem? (i := 1622) rfl) (by decide +kernel)
set_option maxRecDepth 100000 in
theorem kf_RX12_7 : Cond.fieldLink RX12 7 "SnapHeapsModel" "refused" "[I" ∈ tblG := tg (List.mem_of_getElem? (i := 1623) rfl) (by decide +kernel)
set_option maxRecDepth 100000 in
theorem kf_RX12_134 : Cond.fieldLink RX12 134 "SnapHeapsModel" "taped" "I" ∈ tblG := tg (List.mem_of_getElem? (i := 1624) rfl) (by decide +kernel)
set_option maxRecDepth 100000 in
theorem kf_RX12_146 : Cond.fieldLink RX12 146 "SnapHeapsModel" "size" "I" ∈ tblG := tg (List.mem_of_getElem? (i := 1625) rfl) (by decide +kernel)
set_option maxRecDepth 100000 in
theorem kf_RX12_143 : Cond.fieldLink RX12 143 "SnapHeapsModel" "at" "I" ∈ tblG := tg (List.mem_of_getElem? (i := 1626) rfl) (by decide +kernel)
set_option maxRecDepth 100000 in
theorem kf_RX12_137 : Cond.fieldLink RX12 137 "SnapHeapsModel" "bad" "I" ∈ tblG := tg (List.mem_of_getElem? (i := 1627) rfl) (by decide +kernel)
set_option maxRecDepth 100000 in
theorem kf_RX12_140 : Cond.fieldLink RX12 140 "SnapHeapsModel" "badKind" "I" ∈ tblG := tg (List.mem_of_getElem? (i := 1628) rfl) (by decide +kernel)
set_option maxRecDepth 100000 in
theorem kf_RX12_177 : Cond.fieldLink RX12 177 "SnapHeapsModel" "opens" "I" ∈ tblG := tg (List.mem_of_getElem? (i := 1629) rfl) (by decide +kernel)
set_option maxRecDepth 100000 in
theorem kf_RX12_17 : Cond.fieldLink RX12 17 "SnapHeapsModel" "faultAt" "I" ∈ tblG := tg (List.mem_of_getElem? (i := 1630) rfl) (by decide +kernel)
set_option maxRecDepth 100000 in
theorem kf_RX12_20 : Cond.fieldLink RX12 20 "SnapHeapsModel" "tape" "[I" ∈ tblG := tg (List.mem_of_getElem? (i := 1631) rfl) (by decide +kernel)
set_option maxRecDepth 100000 in
theorem kf_RX12_23 : Cond.fieldLink RX12 23 "SnapHeapsModel" "newFact" "[I" ∈ tblG := tg (List.mem_of_getElem? (i := 1632) rfl) (by decide +kernel)
set_option maxRecDepth 100000 in
theorem kf_RX12_26 : Cond.fieldLink RX12 26 "SnapHeapsModel" "newPace" "[I" ∈ tblG := tg (List.mem_of_getElem? (i := 1633) rfl) (by decide +kernel)
set_option maxRecDepth 100000 in
theorem kf_RX12_29 : Cond.fieldLink RX12 29 "SnapHeapsModel" "newRow" "[I" ∈ tblG := tg (List.mem_of_getElem? (i := 1634) rfl) (by decide +kernel)
set_option maxRecDepth 100000 in
theorem kf_RX12_32 : Cond.fieldLink RX12 32 "SnapHeapsModel" "newMany" "[I" ∈ tblG := tg (List.mem_of_getElem? (i := 1635) rfl) (by decide +kernel)
set_option maxRecDepth 100000 in
theorem kf_RX12_35 : Cond.fieldLink RX12 35 "SnapHeapsModel" "newLain" "[I" ∈ tblG := tg (List.mem_of_getElem? (i := 1636) rfl) (by decide +kernel)
set_option maxRecDepth 100000 in
theorem kf_RX12_38 : Cond.fieldLink RX12 38 "SnapHeapsModel" "newLaw" "[I" ∈ tblG := tg (List.mem_of_getElem? (i := 1637) rfl) (by decide +kernel)
set_option maxRecDepth 100000 in
theorem kf_RX12_41 : Cond.fieldLink RX12 41 "SnapHeapsModel" "newWeight" "[I" ∈ tblG := tg (List.mem_of_getElem? (i := 1638) rfl) (by decide +kernel)
set_option maxRecDepth 100000 in
theorem kf_RX12_44 : Cond.fieldLink RX12 44 "SnapHeapsModel" "fact" "[I" ∈ tblG := tg (List.mem_of_getElem? (i := 1639) rfl) (by decide +kernel)
set_option maxRecDepth 100000 in
theorem kf_RX12_47 : Cond.fieldLink RX12 47 "SnapHeapsModel" "pace" "[I" ∈ tblG := tg (List.mem_of_getElem? (i := 1640) rfl) (by decide +kernel)
set_option maxRecDepth 100000 in
theorem kf_RX12_50 : Cond.fieldLink RX12 50 "SnapHeapsModel" "kind" "[I" ∈ tblG := tg (List.mem_of_getElem? (i := 1641) rfl) (by decide +kernel)
set_option maxRecDepth 100000 in
theorem kf_RX12_53 : Cond.fieldLink RX12 53 "SnapHeapsModel" "weight" "[I" ∈ tblG := tg (List.mem_of_getElem? (i := 1642) rfl) (by decide +kernel)
set_option maxRecDepth 100000 in
theorem kf_RX12_180 : Cond.fieldLink RX12 180 "SnapHeapsModel" "newPlayers" "I" ∈ tblG := tg (List.mem_of_getElem? (i := 1643) rfl) (by decide +kernel)
set_option maxRecDepth 100000 in
theorem kf_RX12_183 : Cond.fieldLink RX12 183 "SnapHeapsModel" "newCards" "I" ∈ tblG := tg (List.mem_of_getElem? (i := 1644) rfl) (by decide +kernel)
set_option maxRecDepth 100000 in
theorem kf_RX12_186 : Cond.fieldLink RX12 186 "SnapHeapsModel" "newMoments" "I" ∈ tblG := tg (List.mem_of_getElem? (i := 1645) rfl) (by decide +kernel)
set_option maxRecDepth 100000 in
theorem kf_RX12_189 : Cond.fieldLink RX12 189 "SnapHeapsModel" "players" "I" ∈ tblG := tg (List.mem_of_getElem? (i := 1646) rfl) (by decide +kernel)
set_option maxRecDepth 100000 in
theorem kf_RX12_192 : Cond.fieldLink RX12 192 "SnapHeapsModel" "cards" "I" ∈ tblG := tg (List.mem_of_getElem? (i := 1647) rfl) (by decide +kernel)
set_option maxRecDepth 100000 in
theorem kf_RX12_195 : Cond.fieldLink RX12 195 "SnapHeapsModel" "moments" "I" ∈ tblG := tg (List.mem_of_getElem? (i := 1648) rfl) (by decide +kernel)
set_option maxRecDepth 100000 in
theorem kf_RX12_56 : Cond.fieldLink RX12 56 "SnapHeapsModel" "s" "[I" ∈ tblG := tg (List.mem_of_getElem? (i := 1649) rfl) (by decide +kernel)
set_option maxRecDepth 100000 in
theorem kf_RX12_59 : Cond.fieldLink RX12 59 "SnapHeapsModel" "base" "[I" ∈ tblG := tg (List.mem_of_getElem? (i := 1650) rfl) (by decide +kernel)
set_option maxRecDepth 100000 in
theorem kf_RX12_62 : Cond.fieldLink RX12 62 "SnapHeapsModel" "wonBy" "[I" ∈ tblG := tg (List.mem_of_getElem? (i := 1651) rfl) (by decide +kernel)
set_option maxRecDepth 100000 in
theorem kf_RX12_65 : Cond.fieldLink RX12 65 "SnapHeapsModel" "latest" "[I" ∈ tblG := tg (List.mem_of_getElem? (i := 1652) rfl) (by decide +kernel)
set_option maxRecDepth 100000 in
theorem kf_RX12_68 : Cond.fieldLink RX12 68 "SnapHeapsModel" "newCode" "[I" ∈ tblG := tg (List.mem_of_getElem? (i := 1653) rfl) (by decide +kernel)
set_option maxRecDepth 100000 in
theorem kf_RX12_71 : Cond.fieldLink RX12 71 "SnapHeapsModel" "newOne" "[I" ∈ tblG := tg (List.mem_of_getElem? (i := 1654) rfl) (by decide +kernel)
set_option maxRecDepth 100000 in
theorem kf_RX12_74 : Cond.fieldLink RX12 74 "SnapHeapsModel" "newOther" "[I" ∈ tblG := tg (List.mem_of_getElem? (i := 1655) rfl) (by decide +kernel)
set_option maxRecDepth 100000 in
theorem kf_RX12_77 : Cond.fieldLink RX12 77 "SnapHeapsModel" "code" "[I" ∈ tblG := tg (List.mem_of_getElem? (i := 1656) rfl) (by decide +kernel)
set_option maxRecDepth 100000 in
theorem kf_RX12_80 : Cond.fieldLink RX12 80 "SnapHeapsModel" "one" "[I" ∈ tblG := tg (List.mem_of_getElem? (i := 1657) rfl) (by decide +kernel)
set_option maxRecDepth 100000 in
theorem kf_RX12_83 : Cond.fieldLink RX12 83 "SnapHeapsModel" "other" "[I" ∈ tblG := tg (List.mem_of_getElem? (i := 1658) rfl) (by decide +kernel)
set_option maxRecDepth 100000 in
theorem kf_RX12_86 : Cond.fieldLink RX12 86 "SnapHeapsModel" "codes" "[I" ∈ tblG := tg (List.mem_of_getElem? (i := 1659) rfl) (by decide +kernel)
set_option maxRecDepth 100000 in
theorem kf_RX12_269 : Cond.fieldLink RX12 269 "SnapHeapsModel" "newCodes" "I" ∈ tblG := tg (List.mem_of_getElem? (i := 1660) rfl) (by decide +kernel)
set_option maxRecDepth 100000 in
theorem kf_RX12_89 : Cond.fieldLink RX12 89 "SnapHeapsModel" "newLine" "[I" ∈ tblG := tg (List.mem_of_getElem? (i := 1661) rfl) (by decide +kernel)
set_option maxRecDepth 100000 in
theorem kf_RX12_92 : Cond.fieldLink RX12 92 "SnapHeapsModel" "line" "[I" ∈ tblG := tg (List.mem_of_getElem? (i := 1662) rfl) (by decide +kernel)
set_option maxRecDepth 100000 in
theorem kf_RX12_198 : Cond.fieldLink RX12 198 "SnapHeapsModel" "lines" "I" ∈ tblG := tg (List.mem_of_getElem? (i := 1663) rfl) (by decide +kernel)
set_option maxRecDepth 100000 in
theorem kf_RX12_95 : Cond.fieldLink RX12 95 "SnapHeapsModel" "stack" "[Z" ∈ tblG := tg (List.mem_of_getElem? (i := 1664) rfl) (by decide +kernel)
set_option maxRecDepth 100000 in
theorem kf_RX12_374 : Cond.fieldLink RX12 374 "SnapHeapsModel" "laid" "I" ∈ tblG := tg (List.mem_of_getElem? (i := 1665) rfl) (by decide +kernel)
set_option maxRecDepth 100000 in
theorem kf_RX12_377 : Cond.fieldLink RX12 377 "SnapHeapsModel" "layBefore" "Z" ∈ tblG := tg (List.mem_of_getElem? (i := 1666) rfl) (by decide +kernel)
set_option maxRecDepth 100000 in
theorem kf_RX12_99 : Cond.fieldLink RX12 99 "SnapHeapsModel" "delay" "[I" ∈ tblG := tg (List.mem_of_getElem? (i := 1667) rfl) (by decide +kernel)
set_option maxRecDepth 100000 in
theorem kf_RX12_102 : Cond.fieldLink RX12 102 "SnapHeapsModel" "aside" "[I" ∈ tblG := tg (List.mem_of_getElem? (i := 1668) rfl) (by decide +kernel)
set_option maxRecDepth 100000 in
theorem kf_RX12_105 : Cond.fieldLink RX12 105 "SnapHeapsModel" "asideLatest" "[I" ∈ tblG := tg (List.mem_of_getElem? (i := 1669) rfl) (by decide +kernel)
set_option maxRecDepth 100000 in
theorem kf_RX12_109 : Cond.fieldLink RX12 109 "SnapHeapsModel" "was" "[I" ∈ tblG := tg (List.mem_of_getElem? (i := 1670) rfl) (by decide +kernel)
set_option maxRecDepth 100000 in
theorem kf_RX12_112 : Cond.fieldLink RX12 112 "SnapHeapsModel" "chain" "[I" ∈ tblG := tg (List.mem_of_getElem? (i := 1671) rfl) (by decide +kernel)
set_option maxRecDepth 100000 in
theorem kf_RX12_115 : Cond.fieldLink RX12 115 "SnapHeapsModel" "bucket" "[I" ∈ tblG := tg (List.mem_of_getElem? (i := 1672) rfl) (by decide +kernel)
set_option maxRecDepth 100000 in
theorem kf_RX12_432 : Cond.fieldLink RX12 432 "SnapHeapsModel" "endKind" "I" ∈ tblG := tg (List.mem_of_getElem? (i := 1673) rfl) (by decide +kernel)
set_option maxRecDepth 100000 in
theorem kf_RX12_429 : Cond.fieldLink RX12 429 "SnapHeapsModel" "endTurns" "I" ∈ tblG := tg (List.mem_of_getElem? (i := 1674) rfl) (by decide +kernel)
set_option maxRecDepth 100000 in
theorem kf_RX12_426 : Cond.fieldLink RX12 426 "SnapHeapsModel" "endAgain" "I" ∈ tblG := tg (List.mem_of_getElem? (i := 1675) rfl) (by decide +kernel)
set_option maxRecDepth 100000 in
theorem kf_RX12_441 : Cond.fieldLink RX12 441 "SnapHeapsModel" "endWho" "I" ∈ tblG := tg (List.mem_of_getElem? (i := 1676) rfl) (by decide +kernel)
set_option maxRecDepth 100000 in
theorem kf_RX12_118 : Cond.fieldLink RX12 118 "SnapHeapsModel" "deep" "[I" ∈ tblG := tg (List.mem_of_getElem? (i := 1677) rfl) (by decide +kernel)
set_option maxRecDepth 100000 in
theorem kf_RX12_121 : Cond.fieldLink RX12 121 "SnapHeapsModel" "lots" "[I" ∈ tblG := tg (List.mem_of_getElem? (i := 1678) rfl) (by decide +kernel)
set_option maxRecDepth 100000 in
theorem kf_RX12_125 : Cond.fieldLink RX12 125 "SnapHeapsModel" "image" "[I" ∈ tblG := tg (List.mem_of_getElem? (i := 1679) rfl) (by decide +kernel)
set_option maxRecDepth 100000 in
theorem kf_RX12_201 : Cond.fieldLink RX12 201 "SnapHeapsModel" "images" "I" ∈ tblG := tg (List.mem_of_getElem? (i := 1680) rfl) (by decide +kernel)
set_option maxRecDepth 100000 in
theorem ka_boolean : Cond.arrayClass .boolean ∈ tblG := tg (List.mem_of_getElem? (i := 1800) rfl) (by decide +kernel)
set_option maxRecDepth 100000 in
theorem ki_yX12_feed : Cond.instanceMethod yX12_feed ∈ tblG := tg (List.mem_of_getElem? (i := 1802) rfl) (by decide +kernel)
set_option maxRecDepth 100000 in
theorem kc_yX12_feed : Cond.code yX12_feed prog_14_method_5_code (8 : Nat) (Option.some FieldType.int) ∈ tblG := tg (List.mem_of_getElem? (i := 1804) rfl) (by decide +kernel)
set_option maxRecDepth 100000 in
theorem ki_yX12_fault : Cond.instanceMethod yX12_fault ∈ tblG := tg (List.mem_of_getElem? (i := 1806) rfl) (by decide +kernel)
set_option maxRecDepth 100000 in
theorem kc_yX12_fault : Cond.code yX12_fault prog_14_method_19_code (1 : Nat) (Option.some FieldType.int) ∈ tblG := tg (List.mem_of_getElem? (i := 1808) rfl) (by decide +kernel)
set_option maxRecDepth 100000 in
theorem ki_yX12_table : Cond.instanceMethod yX12_table ∈ tblG := tg (List.mem_of_getElem? (i := 1810) rfl) (by decide +kernel)
set_option maxRecDepth 100000 in
theorem kc_yX12_table : Cond.code yX12_table prog_14_method_28_code (4 : Nat) (Option.some FieldType.int) ∈ tblG := tg (List.mem_of_getElem? (i := 1812) rfl) (by decide +kernel)
set_option maxRecDepth 100000 in
theorem ki_yX12_may : Cond.instanceMethod yX12_may ∈ tblG := tg (List.mem_of_getElem? (i := 1815) rfl) (by decide +kernel)
set_option maxRecDepth 100000 in
theorem kc_yX12_may : Cond.code yX12_may prog_14_method_2_code (4 : Nat) (Option.some FieldType.boolean) ∈ tblG := tg (List.mem_of_getElem? (i := 1816) rfl) (by decide +kernel)
set_option maxRecDepth 100000 in
theorem ki_yX12_begins : Cond.instanceMethod yX12_begins ∈ tblG := tg (List.mem_of_getElem? (i := 1819) rfl) (by decide +kernel)
set_option maxRecDepth 100000 in
theorem kc_yX12_begins : Cond.code yX12_begins prog_14_method_17_code (2 : Nat) (Option.none : Option FieldType) ∈ tblG := tg (List.mem_of_getElem? (i := 1820) rfl) (by decide +kernel)
set_option maxRecDepth 100000 in
theorem ki_yX12_fine : Cond.instanceMethod yX12_fine ∈ tblG := tg (List.mem_of_getElem? (i := 1823) rfl) (by decide +kernel)
set_option maxRecDepth 100000 in
theorem kc_yX12_fine : Cond.code yX12_fine prog_14_method_6_code (1 : Nat) (Option.some FieldType.boolean) ∈ tblG := tg (List.mem_of_getElem? (i := 1824) rfl) (by decide +kernel)
set_option maxRecDepth 100000 in
theorem ki_yX12_isMore : Cond.instanceMethod yX12_isMore ∈ tblG := tg (List.mem_of_getElem? (i := 1827) rfl) (by decide +kernel)
set_option maxRecDepth 100000 in
theorem kc_yX12_isMore : Cond.code yX12_isMore prog_14_method_16_code (1 : Nat) (Option.some FieldType.boolean) ∈ tblG := tg (List.mem_of_getElem? (i := 1828) rfl) (by decide +kernel)
set_option maxRecDepth 100000 in
theorem ki_yX12_here : Cond.instanceMethod yX12_here ∈ tblG := tg (List.mem_of_getElem? (i := 1831) rfl) (by decide +kernel)
set_option maxRecDepth 100000 in
theorem kc_yX12_here : Cond.code yX12_here prog_14_method_8_code (1 : Nat) (Option.some FieldType.int) ∈ tblG := tg (List.mem_of_getElem? (i := 1832) rfl) (by decide +kernel)
set_option maxRecDepth 100000 in
theorem ki_yX12_word : Cond.instanceMethod yX12_word ∈ tblG := tg (List.mem_of_getElem? (i := 1835) rfl) (by decide +kernel)
set_option maxRecDepth 100000 in
theorem kc_yX12_word : Cond.code yX12_word prog_14_method_11_code (4 : Nat) (Option.some FieldType.int) ∈ tblG := tg (List.mem_of_getElem? (i := 1836) rfl) (by decide +kernel)
set_option maxRecDepth 100000 in
theorem kst_yX12_isSmall : Cond.static yX12_isSmall ∈ tblG := tg (List.mem_of_getElem? (i := 1838) rfl) (by decide +kernel)
set_option maxRecDepth 100000 in
theorem kc_yX12_isSmall : Cond.code yX12_isSmall prog_14_method_9_code (1 : Nat) (Option.some FieldType.boolean) ∈ tblG := tg (List.mem_of_getElem? (i := 1839) rfl) (by decide +kernel)
set_option maxRecDepth 100000 in
theorem kst_yX12_isClause : Cond.static yX12_isClause ∈ tblG := tg (List.mem_of_getElem? (i := 1841) rfl) (by decide +kernel)
set_option maxRecDepth 100000 in
theorem kc_yX12_isClause : Cond.code yX12_isClause prog_14_method_27_code (1 : Nat) (Option.some FieldType.boolean) ∈ tblG := tg (List.mem_of_getElem? (i := 1842) rfl) (by decide +kernel)
set_option maxRecDepth 100000 in
theorem kst_yX12_of : Cond.static yX12_of ∈ tblG := tg (List.mem_of_getElem? (i := 1845) rfl) (by decide +kernel)
set_option maxRecDepth 100000 in
theorem kc_yX12_of : Cond.code yX12_of prog_14_method_12_code (3 : Nat) (Option.some FieldType.int) ∈ tblG := tg (List.mem_of_getElem? (i := 1846) rfl) (by decide +kernel)
set_option maxRecDepth 100000 in
theorem ki_yX12_wrong : Cond.instanceMethod yX12_wrong ∈ tblG := tg (List.mem_of_getElem? (i := 1858) rfl) (by decide +kernel)
set_option maxRecDepth 100000 in
theorem kc_yX12_wrong : Cond.code yX12_wrong prog_14_method_7_code (3 : Nat) (Option.none : Option FieldType) ∈ tblG := tg (List.mem_of_getElem? (i := 1859) rfl) (by decide +kernel)
set_option maxRecDepth 100000 in
theorem ki_yX12_pass : Cond.instanceMethod yX12_pass ∈ tblG := tg (List.mem_of_getElem? (i := 1862) rfl) (by decide +kernel)
set_option maxRecDepth 100000 in
theorem kc_yX12_pass : Cond.code yX12_pass prog_14_method_13_code (1 : Nat) (Option.none : Option FieldType) ∈ tblG := tg (List.mem_of_getElem? (i := 1863) rfl) (by decide +kernel)
set_option maxRecDepth 100000 in
theorem ki_yX12_readClause : Cond.instanceMethod yX12_readClause ∈ tblG := tg (List.mem_of_getElem? (i := 1866) rfl) (by decide +kernel)
set_option maxRecDepth 100000 in
theorem kc_yX12_readClause : Cond.code yX12_readClause prog_14_method_26_code (4 : Nat) (Option.none : Option FieldType) ∈ tblG := tg (List.mem_of_getElem? (i := 1867) rfl) (by decide +kernel)
set_option maxRecDepth 100000 in
theorem ki_yX12_readNumber : Cond.instanceMethod yX12_readNumber ∈ tblG := tg (List.mem_of_getElem? (i := 1870) rfl) (by decide +kernel)
set_option maxRecDepth 100000 in
theorem kc_yX12_readNumber : Cond.code yX12_readNumber prog_14_method_14_code (6 : Nat) (Option.some FieldType.int) ∈ tblG := tg (List.mem_of_getElem? (i := 1871) rfl) (by decide +kernel)
set_option maxRecDepth 100000 in
theorem kst_yX12_isDigit : Cond.static yX12_isDigit ∈ tblG := tg (List.mem_of_getElem? (i := 1873) rfl) (by decide +kernel)
set_option maxRecDepth 100000 in
theorem kc_yX12_isDigit : Cond.code yX12_isDigit prog_14_method_10_code (1 : Nat) (Option.some FieldType.boolean) ∈ tblG := tg (List.mem_of_getElem? (i := 1874) rfl) (by decide +kernel)
set_option maxRecDepth 100000 in
theorem ki_yX12_readCards : Cond.instanceMethod yX12_readCards ∈ tblG := tg (List.mem_of_getElem? (i := 1877) rfl) (by decide +kernel)
set_option maxRecDepth 100000 in
theorem kc_yX12_readCards : Cond.code yX12_readCards prog_14_method_25_code (2 : Nat) (Option.none : Option FieldType) ∈ tblG := tg (List.mem_of_getElem? (i := 1878) rfl) (by decide +kernel)
set_option maxRecDepth 100000 in
theorem kst_yX12_isKind : Cond.static yX12_isKind ∈ tblG := tg (List.mem_of_getElem? (i := 1880) rfl) (by decide +kernel)
set_option maxRecDepth 100000 in
theorem kc_yX12_isKind : Cond.code yX12_isKind prog_14_method_24_code (1 : Nat) (Option.some FieldType.boolean) ∈ tblG := tg (List.mem_of_getElem? (i := 1881) rfl) (by decide +kernel)
set_option maxRecDepth 100000 in
theorem ki_yX12_sign : Cond.instanceMethod yX12_sign ∈ tblG := tg (List.mem_of_getElem? (i := 1884) rfl) (by decide +kernel)
set_option maxRecDepth 100000 in
theorem kc_yX12_sign : Cond.code yX12_sign prog_14_method_15_code (2 : Nat) (Option.none : Option FieldType) ∈ tblG := tg (List.mem_of_getElem? (i := 1885) rfl) (by decide +kernel)
set_option maxRecDepth 100000 in
theorem ki_yX12_result : Cond.instanceMethod yX12_result ∈ tblG := tg (List.mem_of_getElem? (i := 1888) rfl) (by decide +kernel)
set_option maxRecDepth 100000 in
theorem kc_yX12_result : Cond.code yX12_result prog_14_method_18_code (2 : Nat) (Option.some FieldType.int) ∈ tblG := tg (List.mem_of_getElem? (i := 1889) rfl) (by decide +kernel)
set_option maxRecDepth 100000 in
theorem ki_yX12_plan : Cond.instanceMethod yX12_plan ∈ tblG := tg (List.mem_of_getElem? (i := 1891) rfl) (by decide +kernel)
set_option maxRecDepth 100000 in
theorem kc_yX12_plan : Cond.code yX12_plan prog_14_method_37_code (3 : Nat) (Option.some FieldType.int) ∈ tblG := tg (List.mem_of_getElem? (i := 1893) rfl) (by decide +kernel)
set_option maxRecDepth 100000 in
theorem ki_yX12_readPlan : Cond.instanceMethod yX12_readPlan ∈ tblG := tg (List.mem_of_getElem? (i := 1896) rfl) (by decide +kernel)
set_option maxRecDepth 100000 in
theorem kc_yX12_readPlan : Cond.code yX12_readPlan prog_14_method_36_code (6 : Nat) (Option.some FieldType.int) ∈ tblG := tg (List.mem_of_getElem? (i := 1897) rfl) (by decide +kernel)
set_option maxRecDepth 100000 in
theorem kst_yX12_within : Cond.static yX12_within ∈ tblG := tg (List.mem_of_getElem? (i := 1899) rfl) (by decide +kernel)
set_option maxRecDepth 100000 in
theorem kc_yX12_within : Cond.code yX12_within prog_14_method_3_code (3 : Nat) (Option.some FieldType.boolean) ∈ tblG := tg (List.mem_of_getElem? (i := 1900) rfl) (by decide +kernel)
set_option maxRecDepth 100000 in
theorem ki_yX12_readAny : Cond.instanceMethod yX12_readAny ∈ tblG := tg (List.mem_of_getElem? (i := 1903) rfl) (by decide +kernel)
set_option maxRecDepth 100000 in
theorem kc_yX12_readAny : Cond.code yX12_readAny prog_14_method_30_code (1 : Nat) (Option.none : Option FieldType) ∈ tblG := tg (List.mem_of_getElem? (i := 1904) rfl) (by decide +kernel)
set_option maxRecDepth 100000 in
theorem ki_yX12_readAll : Cond.instanceMethod yX12_readAll ∈ tblG := tg (List.mem_of_getElem? (i := 1907) rfl) (by decide +kernel)
set_option maxRecDepth 100000 in
theorem kc_yX12_readAll : Cond.code yX12_readAll prog_14_method_31_code (1 : Nat) (Option.none : Option FieldType) ∈ tblG := tg (List.mem_of_getElem? (i := 1908) rfl) (by decide +kernel)
set_option maxRecDepth 100000 in
theorem ki_yX12_readOne : Cond.instanceMethod yX12_readOne ∈ tblG := tg (List.mem_of_getElem? (i := 1911) rfl) (by decide +kernel)
set_option maxRecDepth 100000 in
theorem kc_yX12_readOne : Cond.code yX12_readOne prog_14_method_35_code (4 : Nat) (Option.none : Option FieldType) ∈ tblG := tg (List.mem_of_getElem? (i := 1912) rfl) (by decide +kernel)
set_option maxRecDepth 100000 in
theorem ki_yX12_opensOne : Cond.instanceMethod yX12_opensOne ∈ tblG := tg (List.mem_of_getElem? (i := 1915) rfl) (by decide +kernel)
set_option maxRecDepth 100000 in
theorem kc_yX12_opensOne : Cond.code yX12_opensOne prog_14_method_32_code (2 : Nat) (Option.none : Option FieldType) ∈ tblG := tg (List.mem_of_getElem? (i := 1916) rfl) (by decide +kernel)
set_option maxRecDepth 100000 in
theorem ki_yX12_emit : Cond.instanceMethod yX12_emit ∈ tblG := tg (List.mem_of_getElem? (i := 1920) rfl) (by decide +kernel)
set_option maxRecDepth 100000 in
theorem kc_yX12_emit : Cond.code yX12_emit prog_14_method_29_code (4 : Nat) (Option.none : Option FieldType) ∈ tblG := tg (List.mem_of_getElem? (i := 1921) rfl) (by decide +kernel)
set_option maxRecDepth 100000 in
theorem ki_yX12_readKind : Cond.instanceMethod yX12_readKind ∈ tblG := tg (List.mem_of_getElem? (i := 1931) rfl) (by decide +kernel)
set_option maxRecDepth 100000 in
theorem kc_yX12_readKind : Cond.code yX12_readKind prog_14_method_33_code (3 : Nat) (Option.some FieldType.int) ∈ tblG := tg (List.mem_of_getElem? (i := 1932) rfl) (by decide +kernel)
set_option maxRecDepth 100000 in
theorem ki_yX12_readHeld : Cond.instanceMethod yX12_readHeld ∈ tblG := tg (List.mem_of_getElem? (i := 1935) rfl) (by decide +kernel)
set_option maxRecDepth 100000 in
theorem kc_yX12_readHeld : Cond.code yX12_readHeld prog_14_method_34_code (5 : Nat) (Option.none : Option FieldType) ∈ tblG := tg (List.mem_of_getElem? (i := 1936) rfl) (by decide +kernel)
set_option maxRecDepth 100000 in
theorem ki_yX12_guess : Cond.instanceMethod yX12_guess ∈ tblG := tg (List.mem_of_getElem? (i := 1940) rfl) (by decide +kernel)
set_option maxRecDepth 100000 in
theorem kc_yX12_guess : Cond.code yX12_guess prog_14_method_38_code (3 : Nat) (Option.some FieldType.int) ∈ tblG := tg (List.mem_of_getElem? (i := 1942) rfl) (by decide +kernel)
set_option maxRecDepth 100000 in
theorem ki_yX12_book : Cond.instanceMethod yX12_book ∈ tblG := tg (List.mem_of_getElem? (i := 1944) rfl) (by decide +kernel)
set_option maxRecDepth 100000 in
theorem kc_yX12_book : Cond.code yX12_book prog_14_method_39_code (6 : Nat) (Option.some FieldType.int) ∈ tblG := tg (List.mem_of_getElem? (i := 1946) rfl) (by decide +kernel)
set_option maxRecDepth 100000 in
theorem ki_yX12_told : Cond.instanceMethod yX12_told ∈ tblG := tg (List.mem_of_getElem? (i := 1948) rfl) (by decide +kernel)
set_option maxRecDepth 100000 in
theorem kc_yX12_told : Cond.code yX12_told prog_14_method_48_code (2 : Nat) (Option.some FieldType.int) ∈ tblG := tg (List.mem_of_getElem? (i := 1950) rfl) (by decide +kernel)
set_option maxRecDepth 100000 in
theorem ki_yX12_whose : Cond.instanceMethod yX12_whose ∈ tblG := tg (List.mem_of_getElem? (i := 1953) rfl) (by decide +kernel)
set_option maxRecDepth 100000 in
theorem kc_yX12_whose : Cond.code yX12_whose prog_14_method_45_code (1 : Nat) (Option.some FieldType.int) ∈ tblG := tg (List.mem_of_getElem? (i := 1954) rfl) (by decide +kernel)
set_option maxRecDepth 100000 in
theorem ki_yX12_isOver : Cond.instanceMethod yX12_isOver ∈ tblG := tg (List.mem_of_getElem? (i := 1957) rfl) (by decide +kernel)
set_option maxRecDepth 100000 in
theorem kc_yX12_isOver : Cond.code yX12_isOver prog_14_method_44_code (3 : Nat) (Option.some FieldType.boolean) ∈ tblG := tg (List.mem_of_getElem? (i := 1958) rfl) (by decide +kernel)
set_option maxRecDepth 100000 in
theorem ki_yX12_isOut : Cond.instanceMethod yX12_isOut ∈ tblG := tg (List.mem_of_getElem? (i := 1961) rfl) (by decide +kernel)
set_option maxRecDepth 100000 in
theorem kc_yX12_isOut : Cond.code yX12_isOut prog_14_method_42_code (2 : Nat) (Option.some FieldType.boolean) ∈ tblG := tg (List.mem_of_getElem? (i := 1962) rfl) (by decide +kernel)
set_option maxRecDepth 100000 in
theorem ki_yX12_held : Cond.instanceMethod yX12_held ∈ tblG := tg (List.mem_of_getElem? (i := 1965) rfl) (by decide +kernel)
set_option maxRecDepth 100000 in
theorem kc_yX12_held : Cond.code yX12_held prog_14_method_41_code (2 : Nat) (Option.some FieldType.int) ∈ tblG := tg (List.mem_of_getElem? (i := 1966) rfl) (by decide +kernel)
set_option maxRecDepth 100000 in
theorem ki_yX12_next : Cond.instanceMethod yX12_next ∈ tblG := tg (List.mem_of_getElem? (i := 1969) rfl) (by decide +kernel)
set_option maxRecDepth 100000 in
theorem kc_yX12_next : Cond.code yX12_next prog_14_method_43_code (3 : Nat) (Option.some FieldType.int) ∈ tblG := tg (List.mem_of_getElem? (i := 1970) rfl) (by decide +kernel)
set_option maxRecDepth 100000 in
theorem ki_yX12_player : Cond.instanceMethod yX12_player ∈ tblG := tg (List.mem_of_getElem? (i := 1972) rfl) (by decide +kernel)
set_option maxRecDepth 100000 in
theorem kc_yX12_player : Cond.code yX12_player prog_14_method_49_code (3 : Nat) (Option.some FieldType.int) ∈ tblG := tg (List.mem_of_getElem? (i := 1974) rfl) (by decide +kernel)
set_option maxRecDepth 100000 in
theorem ki_yX12_isPlayer : Cond.instanceMethod yX12_isPlayer ∈ tblG := tg (List.mem_of_getElem? (i := 1977) rfl) (by decide +kernel)
set_option maxRecDepth 100000 in
theorem kc_yX12_isPlayer : Cond.code yX12_isPlayer prog_14_method_40_code (3 : Nat) (Option.some FieldType.boolean) ∈ tblG := tg (List.mem_of_getElem? (i := 1978) rfl) (by decide +kernel)
set_option maxRecDepth 100000 in
theorem ki_yX12_row : Cond.instanceMethod yX12_row ∈ tblG := tg (List.mem_of_getElem? (i := 1980) rfl) (by decide +kernel)
set_option maxRecDepth 100000 in
theorem kc_yX12_row : Cond.code yX12_row prog_14_method_50_code (3 : Nat) (Option.some FieldType.int) ∈ tblG := tg (List.mem_of_getElem? (i := 1982) rfl) (by decide +kernel)
set_option maxRecDepth 100000 in
theorem ki_yX12_heap : Cond.instanceMethod yX12_heap ∈ tblG := tg (List.mem_of_getElem? (i := 1984) rfl) (by decide +kernel)
set_option maxRecDepth 100000 in
theorem kc_yX12_heap : Cond.code yX12_heap prog_14_method_51_code (3 : Nat) (Option.some FieldType.int) ∈ tblG := tg (List.mem_of_getElem? (i := 1986) rfl) (by decide +kernel)
set_option maxRecDepth 100000 in
theorem ki_yX12_pool : Cond.instanceMethod yX12_pool ∈ tblG := tg (List.mem_of_getElem? (i := 1988) rfl) (by decide +kernel)
set_option maxRecDepth 100000 in
theorem kc_yX12_pool : Cond.code yX12_pool prog_14_method_52_code (2 : Nat) (Option.some FieldType.int) ∈ tblG := tg (List.mem_of_getElem? (i := 1990) rfl) (by decide +kernel)
set_option maxRecDepth 100000 in
theorem ki_yX12_lain : Cond.instanceMethod yX12_lain ∈ tblG := tg (List.mem_of_getElem? (i := 1992) rfl) (by decide +kernel)
set_option maxRecDepth 100000 in
theorem kc_yX12_lain : Cond.code yX12_lain prog_14_method_53_code (3 : Nat) (Option.some FieldType.int) ∈ tblG := tg (List.mem_of_getElem? (i := 1994) rfl) (by decide +kernel)
set_option maxRecDepth 100000 in
theorem ki_yX12_alike : Cond.instanceMethod yX12_alike ∈ tblG := tg (List.mem_of_getElem? (i := 1996) rfl) (by decide +kernel)
set_option maxRecDepth 100000 in
theorem kc_yX12_alike : Cond.code yX12_alike prog_14_method_54_code (1 : Nat) (Option.some FieldType.int) ∈ tblG := tg (List.mem_of_getElem? (i := 1998) rfl) (by decide +kernel)
set_option maxRecDepth 100000 in
theorem ki_yX12_alikes : Cond.instanceMethod yX12_alikes ∈ tblG := tg (List.mem_of_getElem? (i := 2001) rfl) (by decide +kernel)
set_option maxRecDepth 100000 in
theorem kc_yX12_alikes : Cond.code yX12_alikes prog_14_method_47_code (3 : Nat) (Option.some FieldType.int) ∈ tblG := tg (List.mem_of_getElem? (i := 2002) rfl) (by decide +kernel)
set_option maxRecDepth 100000 in
theorem ki_yX12_top : Cond.instanceMethod yX12_top ∈ tblG := tg (List.mem_of_getElem? (i := 2005) rfl) (by decide +kernel)
set_option maxRecDepth 100000 in
theorem kc_yX12_top : Cond.code yX12_top prog_14_method_46_code (2 : Nat) (Option.some FieldType.int) ∈ tblG := tg (List.mem_of_getElem? (i := 2006) rfl) (by decide +kernel)
set_option maxRecDepth 100000 in
theorem ki_yX12_would : Cond.instanceMethod yX12_would ∈ tblG := tg (List.mem_of_getElem? (i := 2008) rfl) (by decide +kernel)
set_option maxRecDepth 100000 in
theorem kc_yX12_would : Cond.code yX12_would prog_14_method_60_code (3 : Nat) (Option.some FieldType.boolean) ∈ tblG := tg (List.mem_of_getElem? (i := 2010) rfl) (by decide +kernel)
set_option maxRecDepth 100000 in
theorem ki_yX12_holds : Cond.instanceMethod yX12_holds ∈ tblG := tg (List.mem_of_getElem? (i := 2013) rfl) (by decide +kernel)
set_option maxRecDepth 100000 in
theorem kc_yX12_holds : Cond.code yX12_holds prog_14_method_59_code (6 : Nat) (Option.some FieldType.boolean) ∈ tblG := tg (List.mem_of_getElem? (i := 2014) rfl) (by decide +kernel)
set_option maxRecDepth 100000 in
theorem ki_yX12_asks : Cond.instanceMethod yX12_asks ∈ tblG := tg (List.mem_of_getElem? (i := 2017) rfl) (by decide +kernel)
set_option maxRecDepth 100000 in
theorem kc_yX12_asks : Cond.code yX12_asks prog_14_method_58_code (5 : Nat) (Option.some FieldType.boolean) ∈ tblG := tg (List.mem_of_getElem? (i := 2018) rfl) (by decide +kernel)
set_option maxRecDepth 100000 in
theorem ki_yX12_isMine : Cond.instanceMethod yX12_isMine ∈ tblG := tg (List.mem_of_getElem? (i := 2021) rfl) (by decide +kernel)
set_option maxRecDepth 100000 in
theorem kc_yX12_isMine : Cond.code yX12_isMine prog_14_method_57_code (3 : Nat) (Option.some FieldType.boolean) ∈ tblG := tg (List.mem_of_getElem? (i := 2022) rfl) (by decide +kernel)
set_option maxRecDepth 100000 in
theorem ki_yX12_remembers : Cond.instanceMethod yX12_remembers ∈ tblG := tg (List.mem_of_getElem? (i := 2025) rfl) (by decide +kernel)
set_option maxRecDepth 100000 in
theorem kc_yX12_remembers : Cond.code yX12_remembers prog_14_method_55_code (3 : Nat) (Option.some FieldType.boolean) ∈ tblG := tg (List.mem_of_getElem? (i := 2026) rfl) (by decide +kernel)
set_option maxRecDepth 100000 in
theorem ki_yX12_wouldBe : Cond.instanceMethod yX12_wouldBe ∈ tblG := tg (List.mem_of_getElem? (i := 2029) rfl) (by decide +kernel)
set_option maxRecDepth 100000 in
theorem kc_yX12_wouldBe : Cond.code yX12_wouldBe prog_14_method_56_code (7 : Nat) (Option.some FieldType.boolean) ∈ tblG := tg (List.mem_of_getElem? (i := 2030) rfl) (by decide +kernel)
set_option maxRecDepth 100000 in
theorem ki_yX12_law : Cond.instanceMethod yX12_law ∈ tblG := tg (List.mem_of_getElem? (i := 2032) rfl) (by decide +kernel)
set_option maxRecDepth 100000 in
theorem kc_yX12_law : Cond.code yX12_law prog_14_method_61_code (4 : Nat) (Option.some FieldType.int) ∈ tblG := tg (List.mem_of_getElem? (i := 2034) rfl) (by decide +kernel)
set_option maxRecDepth 100000 in
theorem ki_yX12_draws : Cond.instanceMethod yX12_draws ∈ tblG := tg (List.mem_of_getElem? (i := 2036) rfl) (by decide +kernel)
set_option maxRecDepth 100000 in
theorem kc_yX12_draws : Cond.code yX12_draws prog_14_method_62_code (2 : Nat) (Option.none : Option FieldType) ∈ tblG := tg (List.mem_of_getElem? (i := 2038) rfl) (by decide +kernel)
set_option maxRecDepth 100000 in
theorem ki_yX12_still : Cond.instanceMethod yX12_still ∈ tblG := tg (List.mem_of_getElem? (i := 2040) rfl) (by decide +kernel)
set_option maxRecDepth 100000 in
theorem kc_yX12_still : Cond.code yX12_still prog_14_method_63_code (2 : Nat) (Option.some FieldType.int) ∈ tblG := tg (List.mem_of_getElem? (i := 2042) rfl) (by decide +kernel)
set_option maxRecDepth 100000 in
theorem ki_yX12_play : Cond.instanceMethod yX12_play ∈ tblG := tg (List.mem_of_getElem? (i := 2044) rfl) (by decide +kernel)
set_option maxRecDepth 100000 in
theorem kc_yX12_play : Cond.code yX12_play prog_14_method_81_code (3 : Nat) (Option.some FieldType.int) ∈ tblG := tg (List.mem_of_getElem? (i := 2046) rfl) (by decide +kernel)
set_option maxRecDepth 100000 in
theorem ki_yX12_turn : Cond.instanceMethod yX12_turn ∈ tblG := tg (List.mem_of_getElem? (i := 2049) rfl) (by decide +kernel)
set_option maxRecDepth 100000 in
theorem kc_yX12_turn : Cond.code yX12_turn prog_14_method_78_code (2 : Nat) (Option.some FieldType.boolean) ∈ tblG := tg (List.mem_of_getElem? (i := 2050) rfl) (by decide +kernel)
set_option maxRecDepth 100000 in
theorem ki_yX12_turnsOver : Cond.instanceMethod yX12_turnsOver ∈ tblG := tg (List.mem_of_getElem? (i := 2053) rfl) (by decide +kernel)
set_option maxRecDepth 100000 in
theorem kc_yX12_turnsOver : Cond.code yX12_turnsOver prog_14_method_67_code (2 : Nat) (Option.none : Option FieldType) ∈ tblG := tg (List.mem_of_getElem? (i := 2054) rfl) (by decide +kernel)
set_option maxRecDepth 100000 in
theorem ki_yX12_comesToRow : Cond.instanceMethod yX12_comesToRow ∈ tblG := tg (List.mem_of_getElem? (i := 2057) rfl) (by decide +kernel)
set_option maxRecDepth 100000 in
theorem kc_yX12_comesToRow : Cond.code yX12_comesToRow prog_14_method_66_code (3 : Nat) (Option.none : Option FieldType) ∈ tblG := tg (List.mem_of_getElem? (i := 2058) rfl) (by decide +kernel)
set_option maxRecDepth 100000 in
theorem ki_yX12_comes : Cond.instanceMethod yX12_comes ∈ tblG := tg (List.mem_of_getElem? (i := 2061) rfl) (by decide +kernel)
set_option maxRecDepth 100000 in
theorem kc_yX12_comes : Cond.code yX12_comes prog_14_method_65_code (4 : Nat) (Option.none : Option FieldType) ∈ tblG := tg (List.mem_of_getElem? (i := 2062) rfl) (by decide +kernel)
set_option maxRecDepth 100000 in
theorem ki_yX12_take : Cond.instanceMethod yX12_take ∈ tblG := tg (List.mem_of_getElem? (i := 2065) rfl) (by decide +kernel)
set_option maxRecDepth 100000 in
theorem kc_yX12_take : Cond.code yX12_take prog_14_method_64_code (6 : Nat) (Option.none : Option FieldType) ∈ tblG := tg (List.mem_of_getElem? (i := 2066) rfl) (by decide +kernel)
set_option maxRecDepth 100000 in
theorem ki_yX12_guesses : Cond.instanceMethod yX12_guesses ∈ tblG := tg (List.mem_of_getElem? (i := 2069) rfl) (by decide +kernel)
set_option maxRecDepth 100000 in
theorem kc_yX12_guesses : Cond.code yX12_guesses prog_14_method_75_code (3 : Nat) (Option.none : Option FieldType) ∈ tblG := tg (List.mem_of_getElem? (i := 2070) rfl) (by decide +kernel)
set_option maxRecDepth 100000 in
theorem ki_yX12_lays : Cond.instanceMethod yX12_lays ∈ tblG := tg (List.mem_of_getElem? (i := 2073) rfl) (by decide +kernel)
set_option maxRecDepth 100000 in
theorem kc_yX12_lays : Cond.code yX12_lays prog_14_method_69_code (2 : Nat) (Option.none : Option FieldType) ∈ tblG := tg (List.mem_of_getElem? (i := 2074) rfl) (by decide +kernel)
set_option maxRecDepth 100000 in
theorem ki_yX12_takesFirst : Cond.instanceMethod yX12_takesFirst ∈ tblG := tg (List.mem_of_getElem? (i := 2077) rfl) (by decide +kernel)
set_option maxRecDepth 100000 in
theorem kc_yX12_takesFirst : Cond.code yX12_takesFirst prog_14_method_68_code (4 : Nat) (Option.some FieldType.int) ∈ tblG := tg (List.mem_of_getElem? (i := 2078) rfl) (by decide +kernel)
set_option maxRecDepth 100000 in
theorem ki_yX12_plans : Cond.instanceMethod yX12_plans ∈ tblG := tg (List.mem_of_getElem? (i := 2081) rfl) (by decide +kernel)
set_option maxRecDepth 100000 in
theorem kc_yX12_plans : Cond.code yX12_plans prog_14_method_76_code (5 : Nat) (Option.none : Option FieldType) ∈ tblG := tg (List.mem_of_getElem? (i := 2082) rfl) (by decide +kernel)
set_option maxRecDepth 100000 in
theorem ki_yX12_drawn : Cond.instanceMethod yX12_drawn ∈ tblG := tg (List.mem_of_getElem? (i := 2085) rfl) (by decide +kernel)
set_option maxRecDepth 100000 in
theorem kc_yX12_drawn : Cond.code yX12_drawn prog_14_method_73_code (1 : Nat) (Option.some FieldType.int) ∈ tblG := tg (List.mem_of_getElem? (i := 2086) rfl) (by decide +kernel)
set_option maxRecDepth 100000 in
theorem kk_RX12_384 : Cond.constant RX12 384 (1103515245 : Int32) ∈ tblG := tg (List.mem_of_getElem? (i := 2087) rfl) (by decide +kernel)
set_option maxRecDepth 100000 in
theorem ki_yX12_counts : Cond.instanceMethod yX12_counts ∈ tblG := tg (List.mem_of_getElem? (i := 2090) rfl) (by decide +kernel)
set_option maxRecDepth 100000 in
theorem kc_yX12_counts : Cond.code yX12_counts prog_14_method_74_code (3 : Nat) (Option.none : Option FieldType) ∈ tblG := tg (List.mem_of_getElem? (i := 2091) rfl) (by decide +kernel)
set_option maxRecDepth 100000 in
theorem ki_yX12_judges : Cond.instanceMethod yX12_judges ∈ tblG := tg (List.mem_of_getElem? (i := 2094) rfl) (by decide +kernel)
set_option maxRecDepth 100000 in
theorem kc_yX12_judges : Cond.code yX12_judges prog_14_method_77_code (6 : Nat) (Option.none : Option FieldType) ∈ tblG := tg (List.mem_of_getElem? (i := 2095) rfl) (by decide +kernel)
set_option maxRecDepth 100000 in
theorem ki_yX12_falls : Cond.instanceMethod yX12_falls ∈ tblG := tg (List.mem_of_getElem? (i := 2098) rfl) (by decide +kernel)
set_option maxRecDepth 100000 in
theorem kc_yX12_falls : Cond.code yX12_falls prog_14_method_72_code (4 : Nat) (Option.none : Option FieldType) ∈ tblG := tg (List.mem_of_getElem? (i := 2099) rfl) (by decide +kernel)
set_option maxRecDepth 100000 in
theorem ki_yX12_pools : Cond.instanceMethod yX12_pools ∈ tblG := tg (List.mem_of_getElem? (i := 2102) rfl) (by decide +kernel)
set_option maxRecDepth 100000 in
theorem kc_yX12_pools : Cond.code yX12_pools prog_14_method_71_code (2 : Nat) (Option.none : Option FieldType) ∈ tblG := tg (List.mem_of_getElem? (i := 2103) rfl) (by decide +kernel)
set_option maxRecDepth 100000 in
theorem ki_yX12_wins : Cond.instanceMethod yX12_wins ∈ tblG := tg (List.mem_of_getElem? (i := 2106) rfl) (by decide +kernel)
set_option maxRecDepth 100000 in
theorem kc_yX12_wins : Cond.code yX12_wins prog_14_method_70_code (6 : Nat) (Option.some FieldType.int) ∈ tblG := tg (List.mem_of_getElem? (i := 2107) rfl) (by decide +kernel)
set_option maxRecDepth 100000 in
theorem ki_yX12_notes : Cond.instanceMethod yX12_notes ∈ tblG := tg (List.mem_of_getElem? (i := 2110) rfl) (by decide +kernel)
set_option maxRecDepth 100000 in
theorem kc_yX12_notes : Cond.code yX12_notes prog_14_method_80_code (1 : Nat) (Option.none : Option FieldType) ∈ tblG := tg (List.mem_of_getElem? (i := 2111) rfl) (by decide +kernel)
set_option maxRecDepth 100000 in
theorem ki_yX12_undo : Cond.instanceMethod yX12_undo ∈ tblG := tg (List.mem_of_getElem? (i := 2113) rfl) (by decide +kernel)
set_option maxRecDepth 100000 in
theorem kc_yX12_undo : Cond.code yX12_undo prog_14_method_82_code (5 : Nat) (Option.some FieldType.int) ∈ tblG := tg (List.mem_of_getElem? (i := 2115) rfl) (by decide +kernel)
set_option maxRecDepth 100000 in
theorem ki_yX12_latest : Cond.instanceMethod yX12_latest ∈ tblG := tg (List.mem_of_getElem? (i := 2117) rfl) (by decide +kernel)
set_option maxRecDepth 100000 in
theorem kc_yX12_latest : Cond.code yX12_latest prog_14_method_83_code (2 : Nat) (Option.some FieldType.int) ∈ tblG := tg (List.mem_of_getElem? (i := 2119) rfl) (by decide +kernel)
set_option maxRecDepth 100000 in
theorem ki_yX12_ends : Cond.instanceMethod yX12_ends ∈ tblG := tg (List.mem_of_getElem? (i := 2121) rfl) (by decide +kernel)
set_option maxRecDepth 100000 in
theorem kc_yX12_ends : Cond.code yX12_ends prog_14_method_92_code (2 : Nat) (Option.some FieldType.int) ∈ tblG := tg (List.mem_of_getElem? (i := 2123) rfl) (by decide +kernel)
set_option maxRecDepth 100000 in
theorem ki_yX12_keeps : Cond.instanceMethod yX12_keeps ∈ tblG := tg (List.mem_of_getElem? (i := 2126) rfl) (by decide +kernel)
set_option maxRecDepth 100000 in
theorem kc_yX12_keeps : Cond.code yX12_keeps prog_14_method_84_code (2 : Nat) (Option.none : Option FieldType) ∈ tblG := tg (List.mem_of_getElem? (i := 2127) rfl) (by decide +kernel)
set_option maxRecDepth 100000 in
theorem ki_yX12_findEnds : Cond.instanceMethod yX12_findEnds ∈ tblG := tg (List.mem_of_getElem? (i := 2130) rfl) (by decide +kernel)
set_option maxRecDepth 100000 in
theorem kc_yX12_findEnds : Cond.code yX12_findEnds prog_14_method_91_code (2 : Nat) (Option.none : Option FieldType) ∈ tblG := tg (List.mem_of_getElem? (i := 2131) rfl) (by decide +kernel)
set_option maxRecDepth 100000 in
theorem ki_yX12_writes : Cond.instanceMethod yX12_writes ∈ tblG := tg (List.mem_of_getElem? (i := 2134) rfl) (by decide +kernel)
set_option maxRecDepth 100000 in
theorem kc_yX12_writes : Cond.code yX12_writes prog_14_method_87_code (5 : Nat) (Option.none : Option FieldType) ∈ tblG := tg (List.mem_of_getElem? (i := 2135) rfl) (by decide +kernel)
set_option maxRecDepth 100000 in
theorem ki_yX12_puts : Cond.instanceMethod yX12_puts ∈ tblG := tg (List.mem_of_getElem? (i := 2138) rfl) (by decide +kernel)
set_option maxRecDepth 100000 in
theorem kc_yX12_puts : Cond.code yX12_puts prog_14_method_86_code (5 : Nat) (Option.some FieldType.int) ∈ tblG := tg (List.mem_of_getElem? (i := 2139) rfl) (by decide +kernel)
set_option maxRecDepth 100000 in
theorem ki_yX12_earlier : Cond.instanceMethod yX12_earlier ∈ tblG := tg (List.mem_of_getElem? (i := 2142) rfl) (by decide +kernel)
set_option maxRecDepth 100000 in
theorem kc_yX12_earlier : Cond.code yX12_earlier prog_14_method_90_code (5 : Nat) (Option.some FieldType.int) ∈ tblG := tg (List.mem_of_getElem? (i := 2143) rfl) (by decide +kernel)
set_option maxRecDepth 100000 in
theorem ki_yX12_isSame : Cond.instanceMethod yX12_isSame ∈ tblG := tg (List.mem_of_getElem? (i := 2146) rfl) (by decide +kernel)
set_option maxRecDepth 100000 in
theorem kc_yX12_isSame : Cond.code yX12_isSame prog_14_method_89_code (4 : Nat) (Option.some FieldType.boolean) ∈ tblG := tg (List.mem_of_getElem? (i := 2147) rfl) (by decide +kernel)
set_option maxRecDepth 100000 in
theorem ki_yX12_leaveSame : Cond.instanceMethod yX12_leaveSame ∈ tblG := tg (List.mem_of_getElem? (i := 2150) rfl) (by decide +kernel)
set_option maxRecDepth 100000 in
theorem kc_yX12_leaveSame : Cond.code yX12_leaveSame prog_14_method_88_code (5 : Nat) (Option.some FieldType.boolean) ∈ tblG := tg (List.mem_of_getElem? (i := 2151) rfl) (by decide +kernel)
set_option maxRecDepth 100000 in
theorem ki_yX12_back : Cond.instanceMethod yX12_back ∈ tblG := tg (List.mem_of_getElem? (i := 2154) rfl) (by decide +kernel)
set_option maxRecDepth 100000 in
theorem kc_yX12_back : Cond.code yX12_back prog_14_method_85_code (2 : Nat) (Option.none : Option FieldType) ∈ tblG := tg (List.mem_of_getElem? (i := 2155) rfl) (by decide +kernel)
set_option maxRecDepth 100000 in
theorem ki_yX12_where : Cond.instanceMethod yX12_where ∈ tblG := tg (List.mem_of_getElem? (i := 2157) rfl) (by decide +kernel)
set_option maxRecDepth 100000 in
theorem kc_yX12_where : Cond.code yX12_where prog_14_method_93_code (5 : Nat) (Option.some FieldType.int) ∈ tblG := tg (List.mem_of_getElem? (i := 2159) rfl) (by decide +kernel)
set_option maxRecDepth 100000 in
theorem ki_yX12_turnFor : Cond.instanceMethod yX12_turnFor ∈ tblG := tg (List.mem_of_getElem? (i := 2162) rfl) (by decide +kernel)
set_option maxRecDepth 100000 in
theorem kc_yX12_turnFor : Cond.code yX12_turnFor prog_14_method_79_code (4 : Nat) (Option.some FieldType.boolean) ∈ tblG := tg (List.mem_of_getElem? (i := 2163) rfl) (by decide +kernel)
set_option maxRecDepth 100000 in
theorem ki_yX12_chance : Cond.instanceMethod yX12_chance ∈ tblG := tg (List.mem_of_getElem? (i := 2165) rfl) (by decide +kernel)
set_option maxRecDepth 100000 in
theorem kc_yX12_chance : Cond.code yX12_chance prog_14_method_97_code (9 : Nat) (Option.some FieldType.int) ∈ tblG := tg (List.mem_of_getElem? (i := 2167) rfl) (by decide +kernel)
set_option maxRecDepth 100000 in
theorem ki_yX12_isOther : Cond.instanceMethod yX12_isOther ∈ tblG := tg (List.mem_of_getElem? (i := 2170) rfl) (by decide +kernel)
set_option maxRecDepth 100000 in
theorem kc_yX12_isOther : Cond.code yX12_isOther prog_14_method_96_code (4 : Nat) (Option.some FieldType.boolean) ∈ tblG := tg (List.mem_of_getElem? (i := 2171) rfl) (by decide +kernel)
set_option maxRecDepth 100000 in
theorem kst_yX12_fraction : Cond.static yX12_fraction ∈ tblG := tg (List.mem_of_getElem? (i := 2173) rfl) (by decide +kernel)
set_option maxRecDepth 100000 in
theorem kc_yX12_fraction : Cond.code yX12_fraction prog_14_method_95_code (3 : Nat) (Option.some FieldType.int) ∈ tblG := tg (List.mem_of_getElem? (i := 2174) rfl) (by decide +kernel)
set_option maxRecDepth 100000 in
theorem kst_yX12_divisor : Cond.static yX12_divisor ∈ tblG := tg (List.mem_of_getElem? (i := 2176) rfl) (by decide +kernel)
set_option maxRecDepth 100000 in
theorem kc_yX12_divisor : Cond.code yX12_divisor prog_14_method_94_code (5 : Nat) (Option.some FieldType.int) ∈ tblG := tg (List.mem_of_getElem? (i := 2177) rfl) (by decide +kernel)
set_option maxRecDepth 100000 in
theorem ki_yX12_waits : Cond.instanceMethod yX12_waits ∈ tblG := tg (List.mem_of_getElem? (i := 2179) rfl) (by decide +kernel)
set_option maxRecDepth 100000 in
theorem kc_yX12_waits : Cond.code yX12_waits prog_14_method_99_code (6 : Nat) (Option.some FieldType.int) ∈ tblG := tg (List.mem_of_getElem? (i := 2181) rfl) (by decide +kernel)
set_option maxRecDepth 100000 in
theorem ki_yX12_isWorth : Cond.instanceMethod yX12_isWorth ∈ tblG := tg (List.mem_of_getElem? (i := 2184) rfl) (by decide +kernel)
set_option maxRecDepth 100000 in
theorem kc_yX12_isWorth : Cond.code yX12_isWorth prog_14_method_98_code (5 : Nat) (Option.some FieldType.boolean) ∈ tblG := tg (List.mem_of_getElem? (i := 2185) rfl) (by decide +kernel)
set_option maxRecDepth 100000 in
theorem ki_yX12_ahead : Cond.instanceMethod yX12_ahead ∈ tblG := tg (List.mem_of_getElem? (i := 2187) rfl) (by decide +kernel)
set_option maxRecDepth 100000 in
theorem kc_yX12_ahead : Cond.code yX12_ahead prog_14_method_100_code (5 : Nat) (Option.some FieldType.int) ∈ tblG := tg (List.mem_of_getElem? (i := 2189) rfl) (by decide +kernel)
set_option maxRecDepth 100000 in
theorem ki_yX12_moments : Cond.instanceMethod yX12_moments ∈ tblG := tg (List.mem_of_getElem? (i := 2191) rfl) (by decide +kernel)
set_option maxRecDepth 100000 in
theorem kc_yX12_moments : Cond.code yX12_moments prog_14_method_102_code (4 : Nat) (Option.some FieldType.int) ∈ tblG := tg (List.mem_of_getElem? (i := 2193) rfl) (by decide +kernel)
set_option maxRecDepth 100000 in
theorem ki_yX12_gets : Cond.instanceMethod yX12_gets ∈ tblG := tg (List.mem_of_getElem? (i := 2196) rfl) (by decide +kernel)
set_option maxRecDepth 100000 in
theorem kc_yX12_gets : Cond.code yX12_gets prog_14_method_101_code (6 : Nat) (Option.some FieldType.int) ∈ tblG := tg (List.mem_of_getElem? (i := 2197) rfl) (by decide +kernel)
set_option maxRecDepth 100000 in
theorem ki_yX12_rests : Cond.instanceMethod yX12_rests ∈ tblG := tg (List.mem_of_getElem? (i := 2199) rfl) (by decide +kernel)
set_option maxRecDepth 100000 in
theorem kc_yX12_rests : Cond.code yX12_rests prog_14_method_104_code (7 : Nat) (Option.some FieldType.int) ∈ tblG := tg (List.mem_of_getElem? (i := 2201) rfl) (by decide +kernel)
set_option maxRecDepth 100000 in
theorem ki_yX12_isBest : Cond.instanceMethod yX12_isBest ∈ tblG := tg (List.mem_of_getElem? (i := 2204) rfl) (by decide +kernel)
set_option maxRecDepth 100000 in
theorem kc_yX12_isBest : Cond.code yX12_isBest prog_14_method_103_code (5 : Nat) (Option.some FieldType.boolean) ∈ tblG := tg (List.mem_of_getElem? (i := 2205) rfl) (by decide +kernel)
set_option maxRecDepth 100000 in
theorem ki_yX12_remember : Cond.instanceMethod yX12_remember ∈ tblG := tg (List.mem_of_getElem? (i := 2207) rfl) (by decide +kernel)
set_option maxRecDepth 100000 in
theorem kc_yX12_remember : Cond.code yX12_remember prog_14_method_107_code (8 : Nat) (Option.some FieldType.int) ∈ tblG := tg (List.mem_of_getElem? (i := 2209) rfl) (by decide +kernel)
set_option maxRecDepth 100000 in
theorem kst_yX12_ones : Cond.static yX12_ones ∈ tblG := tg (List.mem_of_getElem? (i := 2211) rfl) (by decide +kernel)
set_option maxRecDepth 100000 in
theorem kc_yX12_ones : Cond.code yX12_ones prog_14_method_105_code (3 : Nat) (Option.some FieldType.int) ∈ tblG := tg (List.mem_of_getElem? (i := 2212) rfl) (by decide +kernel)
set_option maxRecDepth 100000 in
theorem ki_yX12_rememberedBy : Cond.instanceMethod yX12_rememberedBy ∈ tblG := tg (List.mem_of_getElem? (i := 2215) rfl) (by decide +kernel)
set_option maxRecDepth 100000 in
theorem kc_yX12_rememberedBy : Cond.code yX12_rememberedBy prog_14_method_106_code (6 : Nat) (Option.some FieldType.int) ∈ tblG := tg (List.mem_of_getElem? (i := 2216) rfl) (by decide +kernel)
set_option maxRecDepth 100000 in
theorem ki_yX12_odds : Cond.instanceMethod yX12_odds ∈ tblG := tg (List.mem_of_getElem? (i := 2218) rfl) (by decide +kernel)
set_option maxRecDepth 100000 in
theorem kc_yX12_odds : Cond.code yX12_odds prog_14_method_112_code (9 : Nat) (Option.some FieldType.long) ∈ tblG := tg (List.mem_of_getElem? (i := 2220) rfl) (by decide +kernel)
set_option maxRecDepth 100000 in
theorem ki_yX12_waysOf : Cond.instanceMethod yX12_waysOf ∈ tblG := tg (List.mem_of_getElem? (i := 2223) rfl) (by decide +kernel)
set_option maxRecDepth 100000 in
theorem kc_yX12_waysOf : Cond.code yX12_waysOf prog_14_method_110_code (8 : Nat) (Option.some FieldType.long) ∈ tblG := tg (List.mem_of_getElem? (i := 2224) rfl) (by decide +kernel)
set_option maxRecDepth 100000 in
theorem ki_yX12_hasMost : Cond.instanceMethod yX12_hasMost ∈ tblG := tg (List.mem_of_getElem? (i := 2227) rfl) (by decide +kernel)
set_option maxRecDepth 100000 in
theorem kc_yX12_hasMost : Cond.code yX12_hasMost prog_14_method_108_code (3 : Nat) (Option.some FieldType.boolean) ∈ tblG := tg (List.mem_of_getElem? (i := 2228) rfl) (by decide +kernel)
set_option maxRecDepth 100000 in
theorem ki_yX12_quickness : Cond.instanceMethod yX12_quickness ∈ tblG := tg (List.mem_of_getElem? (i := 2231) rfl) (by decide +kernel)
set_option maxRecDepth 100000 in
theorem kc_yX12_quickness : Cond.code yX12_quickness prog_14_method_109_code (3 : Nat) (Option.some FieldType.int) ∈ tblG := tg (List.mem_of_getElem? (i := 2232) rfl) (by decide +kernel)
set_option maxRecDepth 100000 in
theorem kst_yX12_longDivisor : Cond.static yX12_longDivisor ∈ tblG := tg (List.mem_of_getElem? (i := 2234) rfl) (by decide +kernel)
set_option maxRecDepth 100000 in
theorem kc_yX12_longDivisor : Cond.code yX12_longDivisor prog_14_method_111_code (10 : Nat) (Option.some FieldType.long) ∈ tblG := tg (List.mem_of_getElem? (i := 2235) rfl) (by decide +kernel)
set_option maxRecDepth 100000 in
theorem ki_yX12_shuffle : Cond.instanceMethod yX12_shuffle ∈ tblG := tg (List.mem_of_getElem? (i := 2237) rfl) (by decide +kernel)
set_option maxRecDepth 100000 in
theorem kc_yX12_shuffle : Cond.code yX12_shuffle prog_14_method_114_code (2 : Nat) (Option.none : Option FieldType) ∈ tblG := tg (List.mem_of_getElem? (i := 2239) rfl) (by decide +kernel)
set_option maxRecDepth 100000 in
theorem ki_yX12_shuffles : Cond.instanceMethod yX12_shuffles ∈ tblG := tg (List.mem_of_getElem? (i := 2242) rfl) (by decide +kernel)
set_option maxRecDepth 100000 in
theorem kc_yX12_shuffles : Cond.code yX12_shuffles prog_14_method_113_code (8 : Nat) (Option.none : Option FieldType) ∈ tblG := tg (List.mem_of_getElem? (i := 2243) rfl) (by decide +kernel)
set_option maxRecDepth 100000 in
theorem ki_yX12_lot : Cond.instanceMethod yX12_lot ∈ tblG := tg (List.mem_of_getElem? (i := 2245) rfl) (by decide +kernel)
set_option maxRecDepth 100000 in
theorem kc_yX12_lot : Cond.code yX12_lot prog_14_method_115_code (5 : Nat) (Option.some FieldType.int) ∈ tblG := tg (List.mem_of_getElem? (i := 2247) rfl) (by decide +kernel)
set_option maxRecDepth 100000 in
theorem ki_yX12_film : Cond.instanceMethod yX12_film ∈ tblG := tg (List.mem_of_getElem? (i := 2249) rfl) (by decide +kernel)
set_option maxRecDepth 100000 in
theorem kc_yX12_film : Cond.code yX12_film prog_14_method_116_code (10 : Nat) (Option.some FieldType.int) ∈ tblG := tg (List.mem_of_getElem? (i := 2251) rfl) (by decide +kernel)
set_option maxRecDepth 100000 in
theorem ki_yX12_laws : Cond.instanceMethod yX12_laws ∈ tblG := tg (List.mem_of_getElem? (i := 2253) rfl) (by decide +kernel)
set_option maxRecDepth 100000 in
theorem kc_yX12_laws : Cond.code yX12_laws prog_14_method_117_code (3 : Nat) (Option.some FieldType.int) ∈ tblG := tg (List.mem_of_getElem? (i := 2255) rfl) (by decide +kernel)
set_option maxRecDepth 100000 in
theorem ki_yX12_right : Cond.instanceMethod yX12_right ∈ tblG := tg (List.mem_of_getElem? (i := 2257) rfl) (by decide +kernel)
set_option maxRecDepth 100000 in
theorem kc_yX12_right : Cond.code yX12_right prog_14_method_118_code (2 : Nat) (Option.some FieldType.int) ∈ tblG := tg (List.mem_of_getElem? (i := 2259) rfl) (by decide +kernel)
set_option maxRecDepth 100000 in
theorem ki_yX12_entry : Cond.instanceMethod yX12_entry ∈ tblG := tg (List.mem_of_getElem? (i := 2261) rfl) (by decide +kernel)
set_option maxRecDepth 100000 in
theorem kc_yX12_entry : Cond.code yX12_entry prog_14_method_119_code (3 : Nat) (Option.some FieldType.int) ∈ tblG := tg (List.mem_of_getElem? (i := 2263) rfl) (by decide +kernel)
set_option maxRecDepth 100000 in
theorem ki_yX12_calls : Cond.instanceMethod yX12_calls ∈ tblG := tg (List.mem_of_getElem? (i := 2265) rfl) (by decide +kernel)
set_option maxRecDepth 100000 in
theorem kc_yX12_calls : Cond.code yX12_calls prog_14_method_120_code (3 : Nat) (Option.some FieldType.int) ∈ tblG := tg (List.mem_of_getElem? (i := 2267) rfl) (by decide +kernel)
set_option maxRecDepth 100000 in
theorem ki_yX12_won : Cond.instanceMethod yX12_won ∈ tblG := tg (List.mem_of_getElem? (i := 2269) rfl) (by decide +kernel)
set_option maxRecDepth 100000 in
theorem kc_yX12_won : Cond.code yX12_won prog_14_method_121_code (2 : Nat) (Option.some FieldType.int) ∈ tblG := tg (List.mem_of_getElem? (i := 2271) rfl) (by decide +kernel)
set_option maxRecDepth 100000 in
theorem ki_yX12_image : Cond.instanceMethod yX12_image ∈ tblG := tg (List.mem_of_getElem? (i := 2273) rfl) (by decide +kernel)
set_option maxRecDepth 100000 in
theorem kc_yX12_image : Cond.code yX12_image prog_14_method_124_code (1 : Nat) (Option.some FieldType.int) ∈ tblG := tg (List.mem_of_getElem? (i := 2275) rfl) (by decide +kernel)
set_option maxRecDepth 100000 in
theorem ki_yX12_keepsAll : Cond.instanceMethod yX12_keepsAll ∈ tblG := tg (List.mem_of_getElem? (i := 2278) rfl) (by decide +kernel)
set_option maxRecDepth 100000 in
theorem kc_yX12_keepsAll : Cond.code yX12_keepsAll prog_14_method_123_code (4 : Nat) (Option.none : Option FieldType) ∈ tblG := tg (List.mem_of_getElem? (i := 2279) rfl) (by decide +kernel)
set_option maxRecDepth 100000 in
theorem ki_yX12_keepsRow : Cond.instanceMethod yX12_keepsRow ∈ tblG := tg (List.mem_of_getElem? (i := 2282) rfl) (by decide +kernel)
set_option maxRecDepth 100000 in
theorem kc_yX12_keepsRow : Cond.code yX12_keepsRow prog_14_method_122_code (6 : Nat) (Option.some FieldType.int) ∈ tblG := tg (List.mem_of_getElem? (i := 2283) rfl) (by decide +kernel)
set_option maxRecDepth 100000 in
theorem ki_yX12_restore : Cond.instanceMethod yX12_restore ∈ tblG := tg (List.mem_of_getElem? (i := 2285) rfl) (by decide +kernel)
set_option maxRecDepth 100000 in
theorem kc_yX12_restore : Cond.code yX12_restore prog_14_method_125_code (1 : Nat) (Option.some FieldType.int) ∈ tblG := tg (List.mem_of_getElem? (i := 2287) rfl) (by decide +kernel)
set_option maxRecDepth 100000 in
theorem ki_yX12_status : Cond.instanceMethod yX12_status ∈ tblG := tg (List.mem_of_getElem? (i := 2289) rfl) (by decide +kernel)
set_option maxRecDepth 100000 in
theorem kc_yX12_status : Cond.code yX12_status prog_14_method_126_code (2 : Nat) (Option.some FieldType.int) ∈ tblG := tg (List.mem_of_getElem? (i := 2291) rfl) (by decide +kernel)
set_option maxRecDepth 100000 in
theorem ki_yX12_count : Cond.instanceMethod yX12_count ∈ tblG := tg (List.mem_of_getElem? (i := 2293) rfl) (by decide +kernel)
set_option maxRecDepth 100000 in
theorem kc_yX12_count : Cond.code yX12_count prog_14_method_127_code (2 : Nat) (Option.some FieldType.int) ∈ tblG := tg (List.mem_of_getElem? (i := 2295) rfl) (by decide +kernel)
set_option maxRecDepth 100000 in
theorem kf_RJ0_9 : Cond.fieldLink RJ0 9 "java/lang/String" "value" "[B" ∈ tblG := tg (List.mem_of_getElem? (i := 2314) rfl) (by decide +kernel)
set_option maxRecDepth 100000 in
theorem kf_RJ0_15 : Cond.fieldLink RJ0 15 "java/lang/String" "coder" "B" ∈ tblG := tg (List.mem_of_getElem? (i := 2315) rfl) (by decide +kernel)
