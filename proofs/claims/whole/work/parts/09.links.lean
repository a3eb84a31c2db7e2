set_option maxRecDepth 100000 in
theorem zk_X4_148 : Cond.constant RX4 148 (-2000000012) ∈ zw_good := zw_in (by decide +kernel) rfl
set_option maxRecDepth 100000 in
theorem zk_X4_209 : Cond.constant RX4 209 (100000) ∈ zw_good := zw_in (by decide +kernel) rfl
set_option maxRecDepth 100000 in
theorem zk_X5_97 : Cond.constant RX5 97 (100000) ∈ zw_good := zw_in (by decide +kernel) rfl
set_option maxRecDepth 100000 in
theorem zk_X5_136 : Cond.constant RX5 136 (-2000000012) ∈ zw_good := zw_in (by decide +kernel) rfl
set_option maxRecDepth 100000 in
theorem zk_X5_137 : Cond.constant RX5 137 (200000) ∈ zw_good := zw_in (by decide +kernel) rfl
set_option maxRecDepth 100000 in
theorem zk_X4_11 : Cond.fieldLink RX4 11 "SourcePositions" "parts" "[LSourcePositions$Part;" ∈ zw_good := zw_in (by decide +kernel) rfl
set_option maxRecDepth 100000 in
theorem zk_X4_17 : Cond.fieldLink RX4 17 "SourcePositions" "marks" "[LSourcePositions$Mark;" ∈ zw_good := zw_in (by decide +kernel) rfl
set_option maxRecDepth 100000 in
theorem zk_X4_24 : Cond.fieldLink RX4 24 "SourcePositions" "findings" "LSourcePositions$Findings;" ∈ zw_good := zw_in (by decide +kernel) rfl
set_option maxRecDepth 100000 in
theorem zk_X4_31 : Cond.fieldLink RX4 31 "SourcePositions" "deliveries" "LSourcePositions$Deliveries;" ∈ zw_good := zw_in (by decide +kernel) rfl
set_option maxRecDepth 100000 in
theorem zk_X4_35 : Cond.fieldLink RX4 35 "SourcePositions" "latestRead" "[I" ∈ zw_good := zw_in (by decide +kernel) rfl
set_option maxRecDepth 100000 in
theorem zk_X4_44 : Cond.fieldLink RX4 44 "SourcePositions" "partCount" "I" ∈ zw_good := zw_in (by decide +kernel) rfl
set_option maxRecDepth 100000 in
theorem zk_X4_62 : Cond.fieldLinkNest RX4 62 "SourcePositions$Part" "ended" "Z" "SourcePositions" ∈ zw_nest := zw_inN (by decide +kernel) rfl
set_option maxRecDepth 100000 in
theorem zk_X4_66 : Cond.fieldLinkNest RX4 66 "SourcePositions$Part" "rowCount" "I" "SourcePositions" ∈ zw_nest := zw_inN (by decide +kernel) rfl
set_option maxRecDepth 100000 in
theorem zk_X4_76 : Cond.fieldLinkNest RX4 76 "SourcePositions$Part" "position" "I" "SourcePositions" ∈ zw_nest := zw_inN (by decide +kernel) rfl
set_option maxRecDepth 100000 in
theorem zk_X4_79 : Cond.fieldLinkNest RX4 79 "SourcePositions$Part" "share" "I" "SourcePositions" ∈ zw_nest := zw_inN (by decide +kernel) rfl
set_option maxRecDepth 100000 in
theorem zk_X4_93 : Cond.fieldLinkNest RX4 93 "SourcePositions$Part" "reader" "I" "SourcePositions" ∈ zw_nest := zw_inN (by decide +kernel) rfl
set_option maxRecDepth 100000 in
theorem zk_X4_107 : Cond.fieldLink RX4 107 "SourcePositions" "markCount" "I" ∈ zw_good := zw_in (by decide +kernel) rfl
set_option maxRecDepth 100000 in
theorem zk_X4_114 : Cond.fieldLink RX4 114 "SourcePositions" "taskCount" "I" ∈ zw_good := zw_in (by decide +kernel) rfl
set_option maxRecDepth 100000 in
theorem zk_X4_121 : Cond.fieldLinkNest RX4 121 "SourcePositions$Mark" "findings" "LSourcePositions$Findings;" "SourcePositions" ∈ zw_nest := zw_inN (by decide +kernel) rfl
set_option maxRecDepth 100000 in
theorem zk_X4_139 : Cond.fieldLinkNest RX4 139 "SourcePositions$Part" "water" "I" "SourcePositions" ∈ zw_nest := zw_inN (by decide +kernel) rfl
set_option maxRecDepth 100000 in
theorem zk_X4_142 : Cond.fieldLinkNest RX4 142 "SourcePositions$Part" "credit" "I" "SourcePositions" ∈ zw_nest := zw_inN (by decide +kernel) rfl
set_option maxRecDepth 100000 in
theorem zk_X4_145 : Cond.fieldLinkNest RX4 145 "SourcePositions$Part" "origin" "I" "SourcePositions" ∈ zw_nest := zw_inN (by decide +kernel) rfl
set_option maxRecDepth 100000 in
theorem zk_X4_164 : Cond.fieldLinkNest RX4 164 "SourcePositions$Part" "numbers" "[I" "SourcePositions" ∈ zw_nest := zw_inN (by decide +kernel) rfl
set_option maxRecDepth 100000 in
theorem zk_X4_167 : Cond.fieldLinkNest RX4 167 "SourcePositions$Findings" "asideCount" "I" "SourcePositions" ∈ zw_nest := zw_inN (by decide +kernel) rfl
set_option maxRecDepth 100000 in
theorem zk_X4_170 : Cond.fieldLinkNest RX4 170 "SourcePositions$Findings" "asideParts" "[I" "SourcePositions" ∈ zw_nest := zw_inN (by decide +kernel) rfl
set_option maxRecDepth 100000 in
theorem zk_X4_173 : Cond.fieldLinkNest RX4 173 "SourcePositions$Findings" "asidePlaces" "[I" "SourcePositions" ∈ zw_nest := zw_inN (by decide +kernel) rfl
set_option maxRecDepth 100000 in
theorem zk_X4_189 : Cond.fieldLinkNest RX4 189 "SourcePositions$Deliveries" "made" "I" "SourcePositions" ∈ zw_nest := zw_inN (by decide +kernel) rfl
set_option maxRecDepth 100000 in
theorem zk_X4_192 : Cond.fieldLinkNest RX4 192 "SourcePositions$Findings" "givenCount" "I" "SourcePositions" ∈ zw_nest := zw_inN (by decide +kernel) rfl
set_option maxRecDepth 100000 in
theorem zk_X4_199 : Cond.fieldLinkNest RX4 199 "SourcePositions$Deliveries" "lost" "I" "SourcePositions" ∈ zw_nest := zw_inN (by decide +kernel) rfl
set_option maxRecDepth 100000 in
theorem zk_X4_202 : Cond.fieldLinkNest RX4 202 "SourcePositions$Deliveries" "doubled" "I" "SourcePositions" ∈ zw_nest := zw_inN (by decide +kernel) rfl
set_option maxRecDepth 100000 in
theorem zk_X4_205 : Cond.fieldLinkNest RX4 205 "SourcePositions$Deliveries" "toldToCome" "I" "SourcePositions" ∈ zw_nest := zw_inN (by decide +kernel) rfl
set_option maxRecDepth 100000 in
theorem zk_X4_217 : Cond.fieldLinkNest RX4 217 "SourcePositions$Deliveries" "toLose" "[Z" "SourcePositions" ∈ zw_nest := zw_inN (by decide +kernel) rfl
set_option maxRecDepth 100000 in
theorem zk_X4_225 : Cond.fieldLinkNest RX4 225 "SourcePositions$Deliveries" "toRepeat" "[Z" "SourcePositions" ∈ zw_nest := zw_inN (by decide +kernel) rfl
set_option maxRecDepth 100000 in
theorem zk_X4_228 : Cond.fieldLinkNest RX4 228 "SourcePositions$Part" "sounds" "[Z" "SourcePositions" ∈ zw_nest := zw_inN (by decide +kernel) rfl
set_option maxRecDepth 100000 in
theorem zk_X4_241 : Cond.fieldLinkNest RX4 241 "SourcePositions$Part" "times" "[I" "SourcePositions" ∈ zw_nest := zw_inN (by decide +kernel) rfl
set_option maxRecDepth 100000 in
theorem zk_X0_9 : Cond.fieldLink RX0 9 "SourcePositions$Deliveries" "toLose" "[Z" ∈ zw_good := zw_in (by decide +kernel) rfl
set_option maxRecDepth 100000 in
theorem zk_X0_15 : Cond.fieldLink RX0 15 "SourcePositions$Deliveries" "toRepeat" "[Z" ∈ zw_good := zw_in (by decide +kernel) rfl
set_option maxRecDepth 100000 in
theorem zk_X0_18 : Cond.fieldLink RX0 18 "SourcePositions$Deliveries" "made" "I" ∈ zw_good := zw_in (by decide +kernel) rfl
set_option maxRecDepth 100000 in
theorem zk_X0_22 : Cond.fieldLink RX0 22 "SourcePositions$Deliveries" "lost" "I" ∈ zw_good := zw_in (by decide +kernel) rfl
set_option maxRecDepth 100000 in
theorem zk_X0_25 : Cond.fieldLink RX0 25 "SourcePositions$Deliveries" "doubled" "I" ∈ zw_good := zw_in (by decide +kernel) rfl
set_option maxRecDepth 100000 in
theorem zk_X0_28 : Cond.fieldLink RX0 28 "SourcePositions$Deliveries" "toldToCome" "I" ∈ zw_good := zw_in (by decide +kernel) rfl
set_option maxRecDepth 100000 in
theorem zk_X1_9 : Cond.fieldLink RX1 9 "SourcePositions$Findings" "isGiven" "[Z" ∈ zw_good := zw_in (by decide +kernel) rfl
set_option maxRecDepth 100000 in
theorem zk_X1_15 : Cond.fieldLink RX1 15 "SourcePositions$Findings" "asideParts" "[I" ∈ zw_good := zw_in (by decide +kernel) rfl
set_option maxRecDepth 100000 in
theorem zk_X1_19 : Cond.fieldLink RX1 19 "SourcePositions$Findings" "asidePlaces" "[I" ∈ zw_good := zw_in (by decide +kernel) rfl
set_option maxRecDepth 100000 in
theorem zk_X1_22 : Cond.fieldLink RX1 22 "SourcePositions$Findings" "givenCount" "I" ∈ zw_good := zw_in (by decide +kernel) rfl
set_option maxRecDepth 100000 in
theorem zk_X1_26 : Cond.fieldLink RX1 26 "SourcePositions$Findings" "asideCount" "I" ∈ zw_good := zw_in (by decide +kernel) rfl
set_option maxRecDepth 100000 in
theorem zk_X2_9 : Cond.fieldLink RX2 9 "SourcePositions$Mark" "positions" "[I" ∈ zw_good := zw_in (by decide +kernel) rfl
set_option maxRecDepth 100000 in
theorem zk_X2_15 : Cond.fieldLink RX2 15 "SourcePositions$Mark" "waters" "[I" ∈ zw_good := zw_in (by decide +kernel) rfl
set_option maxRecDepth 100000 in
theorem zk_X2_18 : Cond.fieldLink RX2 18 "SourcePositions$Mark" "credits" "[I" ∈ zw_good := zw_in (by decide +kernel) rfl
set_option maxRecDepth 100000 in
theorem zk_X2_21 : Cond.fieldLink RX2 21 "SourcePositions$Mark" "readers" "[I" ∈ zw_good := zw_in (by decide +kernel) rfl
set_option maxRecDepth 100000 in
theorem zk_X2_27 : Cond.fieldLink RX2 27 "SourcePositions$Mark" "findings" "LSourcePositions$Findings;" ∈ zw_good := zw_in (by decide +kernel) rfl
set_option maxRecDepth 100000 in
theorem zk_X2_37 : Cond.fieldLink RX2 37 "SourcePositions$Mark" "keptParts" "I" ∈ zw_good := zw_in (by decide +kernel) rfl
set_option maxRecDepth 100000 in
theorem zk_X2_41 : Cond.fieldLinkNest RX2 41 "SourcePositions$Part" "position" "I" "SourcePositions" ∈ zw_nest := zw_inN (by decide +kernel) rfl
set_option maxRecDepth 100000 in
theorem zk_X2_46 : Cond.fieldLinkNest RX2 46 "SourcePositions$Part" "water" "I" "SourcePositions" ∈ zw_nest := zw_inN (by decide +kernel) rfl
set_option maxRecDepth 100000 in
theorem zk_X2_49 : Cond.fieldLinkNest RX2 49 "SourcePositions$Part" "credit" "I" "SourcePositions" ∈ zw_nest := zw_inN (by decide +kernel) rfl
set_option maxRecDepth 100000 in
theorem zk_X2_52 : Cond.fieldLinkNest RX2 52 "SourcePositions$Part" "reader" "I" "SourcePositions" ∈ zw_nest := zw_inN (by decide +kernel) rfl
set_option maxRecDepth 100000 in
theorem zk_X3_9 : Cond.fieldLink RX3 9 "SourcePositions$Part" "numbers" "[I" ∈ zw_good := zw_in (by decide +kernel) rfl
set_option maxRecDepth 100000 in
theorem zk_X3_15 : Cond.fieldLink RX3 15 "SourcePositions$Part" "times" "[I" ∈ zw_good := zw_in (by decide +kernel) rfl
set_option maxRecDepth 100000 in
theorem zk_X3_18 : Cond.fieldLink RX3 18 "SourcePositions$Part" "sounds" "[Z" ∈ zw_good := zw_in (by decide +kernel) rfl
set_option maxRecDepth 100000 in
theorem zk_X3_22 : Cond.fieldLink RX3 22 "SourcePositions$Part" "rowCount" "I" ∈ zw_good := zw_in (by decide +kernel) rfl
set_option maxRecDepth 100000 in
theorem zk_X3_26 : Cond.fieldLink RX3 26 "SourcePositions$Part" "ended" "Z" ∈ zw_good := zw_in (by decide +kernel) rfl
set_option maxRecDepth 100000 in
theorem zk_X3_30 : Cond.fieldLink RX3 30 "SourcePositions$Part" "share" "I" ∈ zw_good := zw_in (by decide +kernel) rfl
set_option maxRecDepth 100000 in
theorem zk_X3_33 : Cond.fieldLink RX3 33 "SourcePositions$Part" "origin" "I" ∈ zw_good := zw_in (by decide +kernel) rfl
set_option maxRecDepth 100000 in
theorem zk_X3_36 : Cond.fieldLink RX3 36 "SourcePositions$Part" "reader" "I" ∈ zw_good := zw_in (by decide +kernel) rfl
set_option maxRecDepth 100000 in
theorem zk_X3_43 : Cond.fieldLink RX3 43 "SourcePositions$Part" "position" "I" ∈ zw_good := zw_in (by decide +kernel) rfl
set_option maxRecDepth 100000 in
theorem zk_X3_46 : Cond.fieldLink RX3 46 "SourcePositions$Part" "water" "I" ∈ zw_good := zw_in (by decide +kernel) rfl
set_option maxRecDepth 100000 in
theorem zk_X3_49 : Cond.fieldLink RX3 49 "SourcePositions$Part" "credit" "I" ∈ zw_good := zw_in (by decide +kernel) rfl
set_option maxRecDepth 100000 in
theorem zk_X5_7 : Cond.fieldLink RX5 7 "SourcePositionsModel" "tasks" "I" ∈ zw_good := zw_in (by decide +kernel) rfl
set_option maxRecDepth 100000 in
theorem zk_X5_13 : Cond.fieldLink RX5 13 "SourcePositionsModel" "numbers" "[I" ∈ zw_good := zw_in (by decide +kernel) rfl
set_option maxRecDepth 100000 in
theorem zk_X5_17 : Cond.fieldLink RX5 17 "SourcePositionsModel" "times" "[I" ∈ zw_good := zw_in (by decide +kernel) rfl
set_option maxRecDepth 100000 in
theorem zk_X5_20 : Cond.fieldLink RX5 20 "SourcePositionsModel" "sound" "[Z" ∈ zw_good := zw_in (by decide +kernel) rfl
set_option maxRecDepth 100000 in
theorem zk_X5_24 : Cond.fieldLink RX5 24 "SourcePositionsModel" "rows" "[I" ∈ zw_good := zw_in (by decide +kernel) rfl
set_option maxRecDepth 100000 in
theorem zk_X5_27 : Cond.fieldLink RX5 27 "SourcePositionsModel" "ended" "[Z" ∈ zw_good := zw_in (by decide +kernel) rfl
set_option maxRecDepth 100000 in
theorem zk_X5_30 : Cond.fieldLink RX5 30 "SourcePositionsModel" "shares" "[I" ∈ zw_good := zw_in (by decide +kernel) rfl
set_option maxRecDepth 100000 in
theorem zk_X5_33 : Cond.fieldLink RX5 33 "SourcePositionsModel" "origins" "[I" ∈ zw_good := zw_in (by decide +kernel) rfl
set_option maxRecDepth 100000 in
theorem zk_X5_36 : Cond.fieldLink RX5 36 "SourcePositionsModel" "at" "[I" ∈ zw_good := zw_in (by decide +kernel) rfl
set_option maxRecDepth 100000 in
theorem zk_X5_39 : Cond.fieldLink RX5 39 "SourcePositionsModel" "given" "[Z" ∈ zw_good := zw_in (by decide +kernel) rfl
set_option maxRecDepth 100000 in
theorem zk_X5_42 : Cond.fieldLink RX5 42 "SourcePositionsModel" "noted" "[I" ∈ zw_good := zw_in (by decide +kernel) rfl
set_option maxRecDepth 100000 in
theorem zk_X5_45 : Cond.fieldLink RX5 45 "SourcePositionsModel" "markAt" "[I" ∈ zw_good := zw_in (by decide +kernel) rfl
set_option maxRecDepth 100000 in
theorem zk_X5_48 : Cond.fieldLink RX5 48 "SourcePositionsModel" "markGiven" "[Z" ∈ zw_good := zw_in (by decide +kernel) rfl
set_option maxRecDepth 100000 in
theorem zk_X5_51 : Cond.fieldLink RX5 51 "SourcePositionsModel" "markNoted" "[I" ∈ zw_good := zw_in (by decide +kernel) rfl
set_option maxRecDepth 100000 in
theorem zk_X5_54 : Cond.fieldLink RX5 54 "SourcePositionsModel" "markNotes" "[I" ∈ zw_good := zw_in (by decide +kernel) rfl
set_option maxRecDepth 100000 in
theorem zk_X5_57 : Cond.fieldLink RX5 57 "SourcePositionsModel" "markParts" "[I" ∈ zw_good := zw_in (by decide +kernel) rfl
set_option maxRecDepth 100000 in
theorem zk_X5_60 : Cond.fieldLink RX5 60 "SourcePositionsModel" "isLost" "[Z" ∈ zw_good := zw_in (by decide +kernel) rfl
set_option maxRecDepth 100000 in
theorem zk_X5_63 : Cond.fieldLink RX5 63 "SourcePositionsModel" "isTwice" "[Z" ∈ zw_good := zw_in (by decide +kernel) rfl
set_option maxRecDepth 100000 in
theorem zk_X5_66 : Cond.fieldLink RX5 66 "SourcePositionsModel" "latest" "[I" ∈ zw_good := zw_in (by decide +kernel) rfl
set_option maxRecDepth 100000 in
theorem zk_X5_72 : Cond.fieldLink RX5 72 "SourcePositionsModel" "fault" "I" ∈ zw_good := zw_in (by decide +kernel) rfl
set_option maxRecDepth 100000 in
theorem zk_X5_75 : Cond.fieldLink RX5 75 "SourcePositionsModel" "parts" "I" ∈ zw_good := zw_in (by decide +kernel) rfl
set_option maxRecDepth 100000 in
theorem zk_X5_112 : Cond.fieldLink RX5 112 "SourcePositionsModel" "deliveries" "I" ∈ zw_good := zw_in (by decide +kernel) rfl
set_option maxRecDepth 100000 in
theorem zk_X5_115 : Cond.fieldLink RX5 115 "SourcePositionsModel" "lost" "I" ∈ zw_good := zw_in (by decide +kernel) rfl
set_option maxRecDepth 100000 in
theorem zk_X5_125 : Cond.fieldLink RX5 125 "SourcePositionsModel" "doubles" "I" ∈ zw_good := zw_in (by decide +kernel) rfl
set_option maxRecDepth 100000 in
theorem zk_X5_128 : Cond.fieldLink RX5 128 "SourcePositionsModel" "notes" "I" ∈ zw_good := zw_in (by decide +kernel) rfl
set_option maxRecDepth 100000 in
theorem zk_X5_130 : Cond.fieldLink RX5 130 "SourcePositionsModel" "marks" "I" ∈ zw_good := zw_in (by decide +kernel) rfl
set_option maxRecDepth 100000 in
theorem zk_X4_9 : Cond.classLink RX4 9 RX3 ∈ zw_good := zw_in (by decide +kernel) rfl
set_option maxRecDepth 100000 in
theorem zk_X4_15 : Cond.classLink RX4 15 RX2 ∈ zw_good := zw_in (by decide +kernel) rfl
set_option maxRecDepth 100000 in
theorem zk_X4_21 : Cond.classLink RX4 21 RX1 ∈ zw_good := zw_in (by decide +kernel) rfl
set_option maxRecDepth 100000 in
theorem zk_X4_28 : Cond.classLink RX4 28 RX0 ∈ zw_good := zw_in (by decide +kernel) rfl
set_option maxRecDepth 100000 in
theorem zk_X2_24 : Cond.classLink RX2 24 RX1 ∈ zw_good := zw_in (by decide +kernel) rfl
set_option maxRecDepth 100000 in
theorem zk_L_8 : Cond.classLink RL 8 RX4 ∈ zw_good := zw_in (by decide +kernel) rfl
set_option maxRecDepth 100000 in
theorem zk_L_22 : Cond.classLink RL 22 RX5 ∈ zw_good := zw_in (by decide +kernel) rfl
set_option maxRecDepth 100000 in
theorem zk_X4_1 : Cond.methodLink RX4 1 objectInit ∈ zw_good := zw_in (by decide +kernel) rfl
set_option maxRecDepth 100000 in
theorem zk_X4_23 : Cond.methodLinkNest RX4 23 yX1_init "SourcePositions" ∈ zw_nest := zw_inN (by decide +kernel) rfl
set_option maxRecDepth 100000 in
theorem zk_X4_30 : Cond.methodLinkNest RX4 30 yX0_init "SourcePositions" ∈ zw_nest := zw_inN (by decide +kernel) rfl
set_option maxRecDepth 100000 in
theorem zk_X4_39 : Cond.methodLinkNest RX4 39 yX3_init "SourcePositions" ∈ zw_nest := zw_inN (by decide +kernel) rfl
set_option maxRecDepth 100000 in
theorem zk_X4_40 : Cond.methodLinkNest RX4 40 yX2_init "SourcePositions" ∈ zw_nest := zw_inN (by decide +kernel) rfl
set_option maxRecDepth 100000 in
theorem zk_X4_41 : Cond.methodLink RX4 41 yX4_begin ∈ zw_good := zw_in (by decide +kernel) rfl
set_option maxRecDepth 100000 in
theorem zk_X4_48 : Cond.methodLink RX4 48 yX4_addPart ∈ zw_good := zw_in (by decide +kernel) rfl
set_option maxRecDepth 100000 in
theorem zk_X4_52 : Cond.methodLink RX4 52 yX4_isPart ∈ zw_good := zw_in (by decide +kernel) rfl
set_option maxRecDepth 100000 in
theorem zk_X4_56 : Cond.methodLink RX4 56 yX4_isNumber ∈ zw_good := zw_in (by decide +kernel) rfl
set_option maxRecDepth 100000 in
theorem zk_X4_59 : Cond.methodLink RX4 59 yX4_isTime ∈ zw_good := zw_in (by decide +kernel) rfl
set_option maxRecDepth 100000 in
theorem zk_X4_69 : Cond.methodLinkNest RX4 69 yX3_addRow "SourcePositions" ∈ zw_nest := zw_inN (by decide +kernel) rfl
set_option maxRecDepth 100000 in
theorem zk_X4_73 : Cond.methodLinkNest RX4 73 yX3_hasRow "SourcePositions" ∈ zw_nest := zw_inN (by decide +kernel) rfl
set_option maxRecDepth 100000 in
theorem zk_X4_82 : Cond.methodLinkNest RX4 82 yX3_moveRowsFrom "SourcePositions" ∈ zw_nest := zw_inN (by decide +kernel) rfl
set_option maxRecDepth 100000 in
theorem zk_X4_86 : Cond.methodLink RX4 86 yX4_isTask ∈ zw_good := zw_in (by decide +kernel) rfl
set_option maxRecDepth 100000 in
theorem zk_X4_89 : Cond.methodLinkNest RX4 89 yX3_isDone "SourcePositions" ∈ zw_nest := zw_inN (by decide +kernel) rfl
set_option maxRecDepth 100000 in
theorem zk_X4_96 : Cond.methodLink RX4 96 yX4_chooseByCredit ∈ zw_good := zw_in (by decide +kernel) rfl
set_option maxRecDepth 100000 in
theorem zk_X4_100 : Cond.methodLink RX4 100 yX4_deliverFrom ∈ zw_good := zw_in (by decide +kernel) rfl
set_option maxRecDepth 100000 in
theorem zk_X4_103 : Cond.methodLinkNest RX4 103 yX0_tell "SourcePositions" ∈ zw_nest := zw_inN (by decide +kernel) rfl
set_option maxRecDepth 100000 in
theorem zk_X4_110 : Cond.methodLinkNest RX4 110 yX2_keep "SourcePositions" ∈ zw_nest := zw_inN (by decide +kernel) rfl
set_option maxRecDepth 100000 in
theorem zk_X4_117 : Cond.methodLinkNest RX4 117 yX2_bringBack "SourcePositions" ∈ zw_nest := zw_inN (by decide +kernel) rfl
set_option maxRecDepth 100000 in
theorem zk_X4_122 : Cond.methodLinkNest RX4 122 yX1_copyFrom "SourcePositions" ∈ zw_nest := zw_inN (by decide +kernel) rfl
set_option maxRecDepth 100000 in
theorem zk_X4_126 : Cond.methodLinkNest RX4 126 yX1_forget "SourcePositions" ∈ zw_nest := zw_inN (by decide +kernel) rfl
set_option maxRecDepth 100000 in
theorem zk_X4_129 : Cond.methodLinkNest RX4 129 yX3_firstPlaceFrom "SourcePositions" ∈ zw_nest := zw_inN (by decide +kernel) rfl
set_option maxRecDepth 100000 in
theorem zk_X4_132 : Cond.methodLinkNest RX4 132 yX3_stand "SourcePositions" ∈ zw_nest := zw_inN (by decide +kernel) rfl
set_option maxRecDepth 100000 in
theorem zk_X4_136 : Cond.methodLinkNest RX4 136 yX3_isReady "SourcePositions" ∈ zw_nest := zw_inN (by decide +kernel) rfl
set_option maxRecDepth 100000 in
theorem zk_X4_149 : Cond.methodLinkNest RX4 149 yX1_wasGiven "SourcePositions" ∈ zw_nest := zw_inN (by decide +kernel) rfl
set_option maxRecDepth 100000 in
theorem zk_X4_178 : Cond.methodLinkNest RX4 178 yX3_isReadyFor "SourcePositions" ∈ zw_nest := zw_inN (by decide +kernel) rfl
set_option maxRecDepth 100000 in
theorem zk_X4_181 : Cond.methodLink RX4 181 Lib.Math.max.name ∈ zw_good := zw_in (by decide +kernel) rfl
set_option maxRecDepth 100000 in
theorem zk_X4_186 : Cond.methodLink RX4 186 Lib.Math.min.name ∈ zw_good := zw_in (by decide +kernel) rfl
set_option maxRecDepth 100000 in
theorem zk_X4_195 : Cond.methodLink RX4 195 yX4_countDone ∈ zw_good := zw_in (by decide +kernel) rfl
set_option maxRecDepth 100000 in
theorem zk_X4_208 : Cond.methodLinkNest RX4 208 yX0_forget "SourcePositions" ∈ zw_nest := zw_inN (by decide +kernel) rfl
set_option maxRecDepth 100000 in
theorem zk_X4_210 : Cond.methodLinkNest RX4 210 yX3_beginAnew "SourcePositions" ∈ zw_nest := zw_inN (by decide +kernel) rfl
set_option maxRecDepth 100000 in
theorem zk_X4_214 : Cond.methodLink RX4 214 yX4_noteLatest ∈ zw_good := zw_in (by decide +kernel) rfl
set_option maxRecDepth 100000 in
theorem zk_X4_221 : Cond.methodLinkNest RX4 221 yX0_take "SourcePositions" ∈ zw_nest := zw_inN (by decide +kernel) rfl
set_option maxRecDepth 100000 in
theorem zk_X4_231 : Cond.methodLinkNest RX4 231 yX1_setAside "SourcePositions" ∈ zw_nest := zw_inN (by decide +kernel) rfl
set_option maxRecDepth 100000 in
theorem zk_X4_234 : Cond.methodLinkNest RX4 234 yX3_pass "SourcePositions" ∈ zw_nest := zw_inN (by decide +kernel) rfl
set_option maxRecDepth 100000 in
theorem zk_X4_237 : Cond.methodLinkNest RX4 237 yX1_addGiven "SourcePositions" ∈ zw_nest := zw_inN (by decide +kernel) rfl
set_option maxRecDepth 100000 in
theorem zk_X0_3 : Cond.methodLink RX0 3 objectInit ∈ zw_good := zw_in (by decide +kernel) rfl
set_option maxRecDepth 100000 in
theorem zk_X1_3 : Cond.methodLink RX1 3 objectInit ∈ zw_good := zw_in (by decide +kernel) rfl
set_option maxRecDepth 100000 in
theorem zk_X1_29 : Cond.methodLink RX1 29 arraycopyName ∈ zw_good := zw_in (by decide +kernel) rfl
set_option maxRecDepth 100000 in
theorem zk_X1_35 : Cond.methodLinkNest RX1 35 yX4_isNumber "SourcePositions" ∈ zw_nest := zw_inN (by decide +kernel) rfl
set_option maxRecDepth 100000 in
theorem zk_X2_3 : Cond.methodLink RX2 3 objectInit ∈ zw_good := zw_in (by decide +kernel) rfl
set_option maxRecDepth 100000 in
theorem zk_X2_26 : Cond.methodLinkNest RX2 26 yX1_init "SourcePositions" ∈ zw_nest := zw_inN (by decide +kernel) rfl
set_option maxRecDepth 100000 in
theorem zk_X2_31 : Cond.methodLink RX2 31 Lib.Math.min.name ∈ zw_good := zw_in (by decide +kernel) rfl
set_option maxRecDepth 100000 in
theorem zk_X2_55 : Cond.methodLinkNest RX2 55 yX1_copyFrom "SourcePositions" ∈ zw_nest := zw_inN (by decide +kernel) rfl
set_option maxRecDepth 100000 in
theorem zk_X2_59 : Cond.methodLinkNest RX2 59 yX3_stand "SourcePositions" ∈ zw_nest := zw_inN (by decide +kernel) rfl
set_option maxRecDepth 100000 in
theorem zk_X3_3 : Cond.methodLink RX3 3 objectInit ∈ zw_good := zw_in (by decide +kernel) rfl
set_option maxRecDepth 100000 in
theorem zk_X3_39 : Cond.methodLink RX3 39 yX3_stand ∈ zw_good := zw_in (by decide +kernel) rfl
set_option maxRecDepth 100000 in
theorem zk_X3_52 : Cond.methodLink RX3 52 yX3_hasRow ∈ zw_good := zw_in (by decide +kernel) rfl
set_option maxRecDepth 100000 in
theorem zk_X3_56 : Cond.methodLink RX3 56 yX3_isReady ∈ zw_good := zw_in (by decide +kernel) rfl
set_option maxRecDepth 100000 in
theorem zk_X3_60 : Cond.methodLink RX3 60 yX3_addRow ∈ zw_good := zw_in (by decide +kernel) rfl
set_option maxRecDepth 100000 in
theorem zk_X3_64 : Cond.methodLink RX3 64 Lib.Math.max.name ∈ zw_good := zw_in (by decide +kernel) rfl
set_option maxRecDepth 100000 in
theorem zk_L_7 : Cond.methodLink RL 7 yX4_number ∈ zw_good := zw_in (by decide +kernel) rfl
set_option maxRecDepth 100000 in
theorem zk_L_17 : Cond.methodLink RL 17 yX4_rate ∈ zw_good := zw_in (by decide +kernel) rfl
set_option maxRecDepth 100000 in
theorem zk_L_21 : Cond.methodLink RL 21 yX4_init ∈ zw_good := zw_in (by decide +kernel) rfl
set_option maxRecDepth 100000 in
theorem zk_L_24 : Cond.methodLink RL 24 yX5_init ∈ zw_good := zw_in (by decide +kernel) rfl
set_option maxRecDepth 100000 in
theorem zk_L_25 : Cond.methodLink RL 25 yX4_part ∈ zw_good := zw_in (by decide +kernel) rfl
set_option maxRecDepth 100000 in
theorem zk_L_28 : Cond.methodLink RL 28 yX5_part ∈ zw_good := zw_in (by decide +kernel) rfl
set_option maxRecDepth 100000 in
theorem zk_L_29 : Cond.methodLink RL 29 yX4_row ∈ zw_good := zw_in (by decide +kernel) rfl
set_option maxRecDepth 100000 in
theorem zk_L_33 : Cond.methodLink RL 33 yX5_row ∈ zw_good := zw_in (by decide +kernel) rfl
set_option maxRecDepth 100000 in
theorem zk_L_34 : Cond.methodLink RL 34 yX4_end ∈ zw_good := zw_in (by decide +kernel) rfl
set_option maxRecDepth 100000 in
theorem zk_L_37 : Cond.methodLink RL 37 yX5_end ∈ zw_good := zw_in (by decide +kernel) rfl
set_option maxRecDepth 100000 in
theorem zk_L_38 : Cond.methodLink RL 38 yX4_split ∈ zw_good := zw_in (by decide +kernel) rfl
set_option maxRecDepth 100000 in
theorem zk_L_41 : Cond.methodLink RL 41 yX5_split ∈ zw_good := zw_in (by decide +kernel) rfl
set_option maxRecDepth 100000 in
theorem zk_L_42 : Cond.methodLink RL 42 yX4_give ∈ zw_good := zw_in (by decide +kernel) rfl
set_option maxRecDepth 100000 in
theorem zk_L_45 : Cond.methodLink RL 45 yX5_give ∈ zw_good := zw_in (by decide +kernel) rfl
set_option maxRecDepth 100000 in
theorem zk_L_46 : Cond.methodLink RL 46 yX4_read ∈ zw_good := zw_in (by decide +kernel) rfl
set_option maxRecDepth 100000 in
theorem zk_L_49 : Cond.methodLink RL 49 yX5_read ∈ zw_good := zw_in (by decide +kernel) rfl
set_option maxRecDepth 100000 in
theorem zk_L_50 : Cond.methodLink RL 50 yX4_latest ∈ zw_good := zw_in (by decide +kernel) rfl
set_option maxRecDepth 100000 in
theorem zk_L_53 : Cond.methodLink RL 53 yX5_latest ∈ zw_good := zw_in (by decide +kernel) rfl
set_option maxRecDepth 100000 in
theorem zk_L_54 : Cond.methodLink RL 54 yX4_lose ∈ zw_good := zw_in (by decide +kernel) rfl
set_option maxRecDepth 100000 in
theorem zk_L_58 : Cond.methodLink RL 58 yX5_lose ∈ zw_good := zw_in (by decide +kernel) rfl
set_option maxRecDepth 100000 in
theorem zk_L_59 : Cond.methodLink RL 59 yX4_mark ∈ zw_good := zw_in (by decide +kernel) rfl
set_option maxRecDepth 100000 in
theorem zk_L_63 : Cond.methodLink RL 63 yX5_mark ∈ zw_good := zw_in (by decide +kernel) rfl
set_option maxRecDepth 100000 in
theorem zk_L_64 : Cond.methodLink RL 64 yX4_restore ∈ zw_good := zw_in (by decide +kernel) rfl
set_option maxRecDepth 100000 in
theorem zk_L_67 : Cond.methodLink RL 67 yX5_restore ∈ zw_good := zw_in (by decide +kernel) rfl
set_option maxRecDepth 100000 in
theorem zk_L_68 : Cond.methodLink RL 68 yX4_start ∈ zw_good := zw_in (by decide +kernel) rfl
set_option maxRecDepth 100000 in
theorem zk_L_71 : Cond.methodLink RL 71 yX5_start ∈ zw_good := zw_in (by decide +kernel) rfl
set_option maxRecDepth 100000 in
theorem zk_L_72 : Cond.methodLink RL 72 yX4_scale ∈ zw_good := zw_in (by decide +kernel) rfl
set_option maxRecDepth 100000 in
theorem zk_L_75 : Cond.methodLink RL 75 yX5_scale ∈ zw_good := zw_in (by decide +kernel) rfl
set_option maxRecDepth 100000 in
theorem zk_L_76 : Cond.methodLink RL 76 yX4_told ∈ zw_good := zw_in (by decide +kernel) rfl
set_option maxRecDepth 100000 in
theorem zk_L_79 : Cond.methodLink RL 79 yX5_told ∈ zw_good := zw_in (by decide +kernel) rfl
set_option maxRecDepth 100000 in
theorem zk_L_80 : Cond.methodLink RL 80 yX4_given ∈ zw_good := zw_in (by decide +kernel) rfl
set_option maxRecDepth 100000 in
theorem zk_L_83 : Cond.methodLink RL 83 yX5_given ∈ zw_good := zw_in (by decide +kernel) rfl
set_option maxRecDepth 100000 in
theorem zk_L_84 : Cond.methodLink RL 84 yL_number ∈ zw_good := zw_in (by decide +kernel) rfl
set_option maxRecDepth 100000 in
theorem zk_L_89 : Cond.methodLink RL 89 yX5_number ∈ zw_good := zw_in (by decide +kernel) rfl
set_option maxRecDepth 100000 in
theorem zk_L_90 : Cond.methodLink RL 90 yX5_thrown ∈ zw_good := zw_in (by decide +kernel) rfl
set_option maxRecDepth 100000 in
theorem zk_L_93 : Cond.methodLink RL 93 yX4_aside ∈ zw_good := zw_in (by decide +kernel) rfl
set_option maxRecDepth 100000 in
theorem zk_L_96 : Cond.methodLink RL 96 yX5_aside ∈ zw_good := zw_in (by decide +kernel) rfl
set_option maxRecDepth 100000 in
theorem zk_L_97 : Cond.methodLink RL 97 yL_rate ∈ zw_good := zw_in (by decide +kernel) rfl
set_option maxRecDepth 100000 in
theorem zk_L_100 : Cond.methodLink RL 100 yX5_rate ∈ zw_good := zw_in (by decide +kernel) rfl
set_option maxRecDepth 100000 in
theorem zk_L_101 : Cond.methodLink RL 101 yX4_water ∈ zw_good := zw_in (by decide +kernel) rfl
set_option maxRecDepth 100000 in
theorem zk_L_104 : Cond.methodLink RL 104 yX5_water ∈ zw_good := zw_in (by decide +kernel) rfl
set_option maxRecDepth 100000 in
theorem zk_L_105 : Cond.methodLink RL 105 yX4_count ∈ zw_good := zw_in (by decide +kernel) rfl
set_option maxRecDepth 100000 in
theorem zk_L_108 : Cond.methodLink RL 108 yX5_count ∈ zw_good := zw_in (by decide +kernel) rfl
set_option maxRecDepth 100000 in
theorem zk_L_109 : Cond.methodLink RL 109 yX4_clear ∈ zw_good := zw_in (by decide +kernel) rfl
set_option maxRecDepth 100000 in
theorem zk_L_112 : Cond.methodLink RL 112 yX5_clear ∈ zw_good := zw_in (by decide +kernel) rfl
set_option maxRecDepth 100000 in
theorem zk_X5_1 : Cond.methodLink RX5 1 objectInit ∈ zw_good := zw_in (by decide +kernel) rfl
set_option maxRecDepth 100000 in
theorem zk_X5_69 : Cond.methodLink RX5 69 yX5_forgets ∈ zw_good := zw_in (by decide +kernel) rfl
set_option maxRecDepth 100000 in
theorem zk_X5_78 : Cond.methodLink RX5 78 yX5_in ∈ zw_good := zw_in (by decide +kernel) rfl
set_option maxRecDepth 100000 in
theorem zk_X5_82 : Cond.methodLink RX5 82 yX5_isReady ∈ zw_good := zw_in (by decide +kernel) rfl
set_option maxRecDepth 100000 in
theorem zk_X5_86 : Cond.methodLink RX5 86 yX5_fresh ∈ zw_good := zw_in (by decide +kernel) rfl
set_option maxRecDepth 100000 in
theorem zk_X5_90 : Cond.methodLink RX5 90 yX5_adds ∈ zw_good := zw_in (by decide +kernel) rfl
set_option maxRecDepth 100000 in
theorem zk_X5_94 : Cond.methodLink RX5 94 yX5_isPart ∈ zw_good := zw_in (by decide +kernel) rfl
set_option maxRecDepth 100000 in
theorem zk_X5_98 : Cond.methodLink RX5 98 yX5_lays ∈ zw_good := zw_in (by decide +kernel) rfl
set_option maxRecDepth 100000 in
theorem zk_X5_102 : Cond.methodLink RX5 102 yX5_isDone ∈ zw_good := zw_in (by decide +kernel) rfl
set_option maxRecDepth 100000 in
theorem zk_X5_105 : Cond.methodLink RX5 105 yX5_reader ∈ zw_good := zw_in (by decide +kernel) rfl
set_option maxRecDepth 100000 in
theorem zk_X5_109 : Cond.methodLink RX5 109 yX5_nextOf ∈ zw_good := zw_in (by decide +kernel) rfl
set_option maxRecDepth 100000 in
theorem zk_X5_118 : Cond.methodLink RX5 118 yX5_notes ∈ zw_good := zw_in (by decide +kernel) rfl
set_option maxRecDepth 100000 in
theorem zk_X5_122 : Cond.methodLink RX5 122 yX5_passes ∈ zw_good := zw_in (by decide +kernel) rfl
set_option maxRecDepth 100000 in
theorem zk_X5_133 : Cond.methodLink RX5 133 yX5_givesNone ∈ zw_good := zw_in (by decide +kernel) rfl
set_option maxRecDepth 100000 in
theorem zmX4_init : Cond.code yX4_init cX4_init 2 none ∈ zw_good ∧ Cond.instanceMethod yX4_init ∈ zw_good ∧ Cond.initialized RX4 ∈ zw_good := ⟨(zw_in (List.mem_of_getElem? (i := 62) rfl) rfl), (zw_in (by decide +kernel) rfl), (zw_in (by decide +kernel) rfl)⟩
set_option maxRecDepth 100000 in
theorem zmX4_addPart : zmV yX4_addPart cX4_addPart 3 (some .int) 2 := ⟨(zw_in (List.mem_of_getElem? (i := 254) rfl) rfl), ⟨by decide +kernel, by decide +kernel, by decide +kernel⟩, by decide, (zw_in (by decide +kernel) rfl), (zw_in (by decide +kernel) rfl), (zw_in (by decide +kernel) rfl)⟩
set_option maxRecDepth 100000 in
theorem zmX4_aside : zmV yX4_aside cX4_aside 3 (some .int) 2 := ⟨(zw_in (List.mem_of_getElem? (i := 426) rfl) rfl), ⟨by decide +kernel, by decide +kernel, by decide +kernel⟩, by decide, (zw_in (by decide +kernel) rfl), (zw_in (by decide +kernel) rfl), (zw_in (by decide +kernel) rfl)⟩
set_option maxRecDepth 100000 in
theorem zmX4_begin : zmV yX4_begin cX4_begin 2 none 0 := ⟨(zw_in (List.mem_of_getElem? (i := 213) rfl) rfl), ⟨by decide +kernel, by decide +kernel, by decide +kernel⟩, by decide, (zw_in (by decide +kernel) rfl), (zw_in (by decide +kernel) rfl), (zw_in (by decide +kernel) rfl)⟩
set_option maxRecDepth 100000 in
theorem zmX4_chooseByCredit : zmV yX4_chooseByCredit cX4_chooseByCredit 6 (some .int) 1 := ⟨(zw_in (List.mem_of_getElem? (i := 323) rfl) rfl), ⟨by decide +kernel, by decide +kernel, by decide +kernel⟩, by decide, (zw_in (by decide +kernel) rfl), (zw_in (by decide +kernel) rfl), (zw_in (by decide +kernel) rfl)⟩
set_option maxRecDepth 100000 in
theorem zmX4_clear : zmV yX4_clear cX4_clear 2 (some .int) 0 := ⟨(zw_in (List.mem_of_getElem? (i := 444) rfl) rfl), ⟨by decide +kernel, by decide +kernel, by decide +kernel⟩, by decide, (zw_in (by decide +kernel) rfl), (zw_in (by decide +kernel) rfl), (zw_in (by decide +kernel) rfl)⟩
set_option maxRecDepth 100000 in
theorem zmX4_count : zmV yX4_count cX4_count 2 (some .int) 1 := ⟨(zw_in (List.mem_of_getElem? (i := 436) rfl) rfl), ⟨by decide +kernel, by decide +kernel, by decide +kernel⟩, by decide, (zw_in (by decide +kernel) rfl), (zw_in (by decide +kernel) rfl), (zw_in (by decide +kernel) rfl)⟩
set_option maxRecDepth 100000 in
theorem zmX4_countDone : zmV yX4_countDone cX4_countDone 3 (some .int) 0 := ⟨(zw_in (List.mem_of_getElem? (i := 440) rfl) rfl), ⟨by decide +kernel, by decide +kernel, by decide +kernel⟩, by decide, (zw_in (by decide +kernel) rfl), (zw_in (by decide +kernel) rfl), (zw_in (by decide +kernel) rfl)⟩
set_option maxRecDepth 100000 in
theorem zmX4_deliverFrom : zmV yX4_deliverFrom cX4_deliverFrom 7 (some .int) 1 := ⟨(zw_in (List.mem_of_getElem? (i := 331) rfl) rfl), ⟨by decide +kernel, by decide +kernel, by decide +kernel⟩, by decide, (zw_in (by decide +kernel) rfl), (zw_in (by decide +kernel) rfl), (zw_in (by decide +kernel) rfl)⟩
set_option maxRecDepth 100000 in
theorem zmX4_end : zmV yX4_end cX4_end 3 (some .int) 1 := ⟨(zw_in (List.mem_of_getElem? (i := 285) rfl) rfl), ⟨by decide +kernel, by decide +kernel, by decide +kernel⟩, by decide, (zw_in (by decide +kernel) rfl), (zw_in (by decide +kernel) rfl), (zw_in (by decide +kernel) rfl)⟩
set_option maxRecDepth 100000 in
theorem zmX4_give : zmV yX4_give cX4_give 5 (some .int) 2 := ⟨(zw_in (List.mem_of_getElem? (i := 302) rfl) rfl), ⟨by decide +kernel, by decide +kernel, by decide +kernel⟩, by decide, (zw_in (by decide +kernel) rfl), (zw_in (by decide +kernel) rfl), (zw_in (by decide +kernel) rfl)⟩
set_option maxRecDepth 100000 in
theorem zmX4_given : zmV yX4_given cX4_given 2 (some .int) 1 := ⟨(zw_in (List.mem_of_getElem? (i := 422) rfl) rfl), ⟨by decide +kernel, by decide +kernel, by decide +kernel⟩, by decide, (zw_in (by decide +kernel) rfl), (zw_in (by decide +kernel) rfl), (zw_in (by decide +kernel) rfl)⟩
set_option maxRecDepth 100000 in
theorem zmX4_isNumber : zmS yX4_isNumber cX4_isNumber 1 (some .boolean) 1 := ⟨(zw_in (List.mem_of_getElem? (i := 273) rfl) rfl), ⟨by decide +kernel, by decide +kernel, by decide +kernel⟩, by decide, (zw_in (by decide +kernel) rfl), (zw_in (by decide +kernel) rfl)⟩
set_option maxRecDepth 100000 in
theorem zmX4_isPart : zmV yX4_isPart cX4_isPart 2 (some .boolean) 1 := ⟨(zw_in (List.mem_of_getElem? (i := 270) rfl) rfl), ⟨by decide +kernel, by decide +kernel, by decide +kernel⟩, by decide, (zw_in (by decide +kernel) rfl), (zw_in (by decide +kernel) rfl), (zw_in (by decide +kernel) rfl)⟩
set_option maxRecDepth 100000 in
theorem zmX4_isTask : zmV yX4_isTask cX4_isTask 2 (some .boolean) 1 := ⟨(zw_in (List.mem_of_getElem? (i := 306) rfl) rfl), ⟨by decide +kernel, by decide +kernel, by decide +kernel⟩, by decide, (zw_in (by decide +kernel) rfl), (zw_in (by decide +kernel) rfl), (zw_in (by decide +kernel) rfl)⟩
set_option maxRecDepth 100000 in
theorem zmX4_isTime : zmS yX4_isTime cX4_isTime 1 (some .boolean) 1 := ⟨(zw_in (List.mem_of_getElem? (i := 276) rfl) rfl), ⟨by decide +kernel, by decide +kernel, by decide +kernel⟩, by decide, (zw_in (by decide +kernel) rfl), (zw_in (by decide +kernel) rfl)⟩
set_option maxRecDepth 100000 in
theorem zmX4_latest : zmV yX4_latest cX4_latest 2 (some .int) 1 := ⟨(zw_in (List.mem_of_getElem? (i := 364) rfl) rfl), ⟨by decide +kernel, by decide +kernel, by decide +kernel⟩, by decide, (zw_in (by decide +kernel) rfl), (zw_in (by decide +kernel) rfl), (zw_in (by decide +kernel) rfl)⟩
set_option maxRecDepth 100000 in
theorem zmX4_lose : zmV yX4_lose cX4_lose 3 (some .int) 2 := ⟨(zw_in (List.mem_of_getElem? (i := 368) rfl) rfl), ⟨by decide +kernel, by decide +kernel, by decide +kernel⟩, by decide, (zw_in (by decide +kernel) rfl), (zw_in (by decide +kernel) rfl), (zw_in (by decide +kernel) rfl)⟩
set_option maxRecDepth 100000 in
theorem zmX4_mark : zmV yX4_mark cX4_mark 1 (some .int) 0 := ⟨(zw_in (List.mem_of_getElem? (i := 376) rfl) rfl), ⟨by decide +kernel, by decide +kernel, by decide +kernel⟩, by decide, (zw_in (by decide +kernel) rfl), (zw_in (by decide +kernel) rfl), (zw_in (by decide +kernel) rfl)⟩
set_option maxRecDepth 100000 in
theorem zmX4_noteLatest : zmV yX4_noteLatest cX4_noteLatest 3 none 2 := ⟨(zw_in (List.mem_of_getElem? (i := 336) rfl) rfl), ⟨by decide +kernel, by decide +kernel, by decide +kernel⟩, by decide, (zw_in (by decide +kernel) rfl), (zw_in (by decide +kernel) rfl), (zw_in (by decide +kernel) rfl)⟩
set_option maxRecDepth 100000 in
theorem zmX4_number : zmV yX4_number cX4_number 3 (some .int) 2 := ⟨(zw_in (List.mem_of_getElem? (i := 562) rfl) rfl), ⟨by decide +kernel, by decide +kernel, by decide +kernel⟩, by decide, (zw_in (by decide +kernel) rfl), (zw_in (by decide +kernel) rfl), (zw_in (by decide +kernel) rfl)⟩
set_option maxRecDepth 100000 in
theorem zmX4_part : zmV yX4_part cX4_part 2 (some .int) 1 := ⟨(zw_in (List.mem_of_getElem? (i := 250) rfl) rfl), ⟨by decide +kernel, by decide +kernel, by decide +kernel⟩, by decide, (zw_in (by decide +kernel) rfl), (zw_in (by decide +kernel) rfl), (zw_in (by decide +kernel) rfl)⟩
set_option maxRecDepth 100000 in
theorem zmX4_rate : zmV yX4_rate cX4_rate 5 (some .int) 1 := ⟨(zw_in (List.mem_of_getElem? (i := 578) rfl) rfl), ⟨by decide +kernel, by decide +kernel, by decide +kernel⟩, by decide, (zw_in (by decide +kernel) rfl), (zw_in (by decide +kernel) rfl), (zw_in (by decide +kernel) rfl)⟩
set_option maxRecDepth 100000 in
theorem zmX4_read : zmV yX4_read cX4_read 3 (some .int) 1 := ⟨(zw_in (List.mem_of_getElem? (i := 319) rfl) rfl), ⟨by decide +kernel, by decide +kernel, by decide +kernel⟩, by decide, (zw_in (by decide +kernel) rfl), (zw_in (by decide +kernel) rfl), (zw_in (by decide +kernel) rfl)⟩
set_option maxRecDepth 100000 in
theorem zmX4_restore : zmV yX4_restore cX4_restore 6 (some .int) 1 := ⟨(zw_in (List.mem_of_getElem? (i := 394) rfl) rfl), ⟨by decide +kernel, by decide +kernel, by decide +kernel⟩, by decide, (zw_in (by decide +kernel) rfl), (zw_in (by decide +kernel) rfl), (zw_in (by decide +kernel) rfl)⟩
set_option maxRecDepth 100000 in
theorem zmX4_row : zmV yX4_row cX4_row 6 (some .int) 4 := ⟨(zw_in (List.mem_of_getElem? (i := 266) rfl) rfl), ⟨by decide +kernel, by decide +kernel, by decide +kernel⟩, by decide, (zw_in (by decide +kernel) rfl), (zw_in (by decide +kernel) rfl), (zw_in (by decide +kernel) rfl)⟩
set_option maxRecDepth 100000 in
theorem zmX4_scale : zmV yX4_scale cX4_scale 5 (some .int) 1 := ⟨(zw_in (List.mem_of_getElem? (i := 413) rfl) rfl), ⟨by decide +kernel, by decide +kernel, by decide +kernel⟩, by decide, (zw_in (by decide +kernel) rfl), (zw_in (by decide +kernel) rfl), (zw_in (by decide +kernel) rfl)⟩
set_option maxRecDepth 100000 in
theorem zmX4_split : zmV yX4_split cX4_split 5 (some .int) 2 := ⟨(zw_in (List.mem_of_getElem? (i := 289) rfl) rfl), ⟨by decide +kernel, by decide +kernel, by decide +kernel⟩, by decide, (zw_in (by decide +kernel) rfl), (zw_in (by decide +kernel) rfl), (zw_in (by decide +kernel) rfl)⟩
set_option maxRecDepth 100000 in
theorem zmX4_start : zmV yX4_start cX4_start 4 (some .int) 1 := ⟨(zw_in (List.mem_of_getElem? (i := 404) rfl) rfl), ⟨by decide +kernel, by decide +kernel, by decide +kernel⟩, by decide, (zw_in (by decide +kernel) rfl), (zw_in (by decide +kernel) rfl), (zw_in (by decide +kernel) rfl)⟩
set_option maxRecDepth 100000 in
theorem zmX4_told : zmV yX4_told cX4_told 4 (some .int) 2 := ⟨(zw_in (List.mem_of_getElem? (i := 417) rfl) rfl), ⟨by decide +kernel, by decide +kernel, by decide +kernel⟩, by decide, (zw_in (by decide +kernel) rfl), (zw_in (by decide +kernel) rfl), (zw_in (by decide +kernel) rfl)⟩
set_option maxRecDepth 100000 in
theorem zmX4_water : zmV yX4_water cX4_water 6 (some .int) 0 := ⟨(zw_in (List.mem_of_getElem? (i := 430) rfl) rfl), ⟨by decide +kernel, by decide +kernel, by decide +kernel⟩, by decide, (zw_in (by decide +kernel) rfl), (zw_in (by decide +kernel) rfl), (zw_in (by decide +kernel) rfl)⟩
set_option maxRecDepth 100000 in
theorem zmX0_init : Cond.code yX0_init cX0_init 1 none ∈ zw_good ∧ Cond.instanceMethod yX0_init ∈ zw_good ∧ Cond.initialized RX0 ∈ zw_good := ⟨(zw_in (List.mem_of_getElem? (i := 102) rfl) rfl), (zw_in (by decide +kernel) rfl), (zw_in (by decide +kernel) rfl)⟩
set_option maxRecDepth 100000 in
theorem zmX0_forget : zmV yX0_forget cX0_forget 2 none 0 := ⟨(zw_in (List.mem_of_getElem? (i := 221) rfl) rfl), ⟨by decide +kernel, by decide +kernel, by decide +kernel⟩, by decide, (zw_in (by decide +kernel) rfl), (zw_in (by decide +kernel) rfl), (zw_in (by decide +kernel) rfl)⟩
set_option maxRecDepth 100000 in
theorem zmX0_take : zmV yX0_take cX0_take 3 (some .boolean) 1 := ⟨(zw_in (List.mem_of_getElem? (i := 340) rfl) rfl), ⟨by decide +kernel, by decide +kernel, by decide +kernel⟩, by decide, (zw_in (by decide +kernel) rfl), (zw_in (by decide +kernel) rfl), (zw_in (by decide +kernel) rfl)⟩
set_option maxRecDepth 100000 in
theorem zmX0_tell : zmV yX0_tell cX0_tell 5 (some .boolean) 2 := ⟨(zw_in (List.mem_of_getElem? (i := 372) rfl) rfl), ⟨by decide +kernel, by decide +kernel, by decide +kernel⟩, by decide, (zw_in (by decide +kernel) rfl), (zw_in (by decide +kernel) rfl), (zw_in (by decide +kernel) rfl)⟩
set_option maxRecDepth 100000 in
theorem zmX1_init : Cond.code yX1_init cX1_init 1 none ∈ zw_good ∧ Cond.instanceMethod yX1_init ∈ zw_good ∧ Cond.initialized RX1 ∈ zw_good := ⟨(zw_in (List.mem_of_getElem? (i := 74) rfl) rfl), (zw_in (by decide +kernel) rfl), (zw_in (by decide +kernel) rfl)⟩
set_option maxRecDepth 100000 in
theorem zmX1_addGiven : zmV yX1_addGiven cX1_addGiven 2 none 1 := ⟨(zw_in (List.mem_of_getElem? (i := 360) rfl) rfl), ⟨by decide +kernel, by decide +kernel, by decide +kernel⟩, by decide, (zw_in (by decide +kernel) rfl), (zw_in (by decide +kernel) rfl), (zw_in (by decide +kernel) rfl)⟩
set_option maxRecDepth 100000 in
theorem zmX1_copyFrom : zmV yX1_copyFrom cX1_copyFrom 2 none 1 := ⟨(zw_in (List.mem_of_getElem? (i := 387) rfl) rfl), ⟨by decide +kernel, by decide +kernel, by decide +kernel⟩, by decide, (zw_in (by decide +kernel) rfl), (zw_in (by decide +kernel) rfl), (zw_in (by decide +kernel) rfl)⟩
set_option maxRecDepth 100000 in
theorem zmX1_forget : zmV yX1_forget cX1_forget 2 none 0 := ⟨(zw_in (List.mem_of_getElem? (i := 217) rfl) rfl), ⟨by decide +kernel, by decide +kernel, by decide +kernel⟩, by decide, (zw_in (by decide +kernel) rfl), (zw_in (by decide +kernel) rfl), (zw_in (by decide +kernel) rfl)⟩
set_option maxRecDepth 100000 in
theorem zmX1_setAside : zmV yX1_setAside cX1_setAside 3 none 2 := ⟨(zw_in (List.mem_of_getElem? (i := 344) rfl) rfl), ⟨by decide +kernel, by decide +kernel, by decide +kernel⟩, by decide, (zw_in (by decide +kernel) rfl), (zw_in (by decide +kernel) rfl), (zw_in (by decide +kernel) rfl)⟩
set_option maxRecDepth 100000 in
theorem zmX1_wasGiven : zmV yX1_wasGiven cX1_wasGiven 2 (some .boolean) 1 := ⟨(zw_in (List.mem_of_getElem? (i := 355) rfl) rfl), ⟨by decide +kernel, by decide +kernel, by decide +kernel⟩, by decide, (zw_in (by decide +kernel) rfl), (zw_in (by decide +kernel) rfl), (zw_in (by decide +kernel) rfl)⟩
set_option maxRecDepth 100000 in
theorem zmX2_init : Cond.code yX2_init cX2_init 1 none ∈ zw_good ∧ Cond.instanceMethod yX2_init ∈ zw_good ∧ Cond.initialized RX2 ∈ zw_good := ⟨(zw_in (List.mem_of_getElem? (i := 186) rfl) rfl), (zw_in (by decide +kernel) rfl), (zw_in (by decide +kernel) rfl)⟩
set_option maxRecDepth 100000 in
theorem zmX2_bringBack : zmV yX2_bringBack cX2_bringBack 4 none 3 := ⟨(zw_in (List.mem_of_getElem? (i := 398) rfl) rfl), ⟨by decide +kernel, by decide +kernel, by decide +kernel⟩, by decide, (zw_in (by decide +kernel) rfl), (zw_in (by decide +kernel) rfl), (zw_in (by decide +kernel) rfl)⟩
set_option maxRecDepth 100000 in
theorem zmX2_keep : zmV yX2_keep cX2_keep 5 none 3 := ⟨(zw_in (List.mem_of_getElem? (i := 380) rfl) rfl), ⟨by decide +kernel, by decide +kernel, by decide +kernel⟩, by decide, (zw_in (by decide +kernel) rfl), (zw_in (by decide +kernel) rfl), (zw_in (by decide +kernel) rfl)⟩
set_option maxRecDepth 100000 in
theorem zmX3_init : Cond.code yX3_init cX3_init 1 none ∈ zw_good ∧ Cond.instanceMethod yX3_init ∈ zw_good ∧ Cond.initialized RX3 ∈ zw_good := ⟨(zw_in (List.mem_of_getElem? (i := 132) rfl) rfl), (zw_in (by decide +kernel) rfl), (zw_in (by decide +kernel) rfl)⟩
set_option maxRecDepth 100000 in
theorem zmX3_addRow : zmV yX3_addRow cX3_addRow 4 none 3 := ⟨(zw_in (List.mem_of_getElem? (i := 281) rfl) rfl), ⟨by decide +kernel, by decide +kernel, by decide +kernel⟩, by decide, (zw_in (by decide +kernel) rfl), (zw_in (by decide +kernel) rfl), (zw_in (by decide +kernel) rfl)⟩
set_option maxRecDepth 100000 in
theorem zmX3_beginAnew : zmV yX3_beginAnew cX3_beginAnew 3 none 2 := ⟨(zw_in (List.mem_of_getElem? (i := 258) rfl) rfl), ⟨by decide +kernel, by decide +kernel, by decide +kernel⟩, by decide, (zw_in (by decide +kernel) rfl), (zw_in (by decide +kernel) rfl), (zw_in (by decide +kernel) rfl)⟩
set_option maxRecDepth 100000 in
theorem zmX3_firstPlaceFrom : zmV yX3_firstPlaceFrom cX3_firstPlaceFrom 3 (some .int) 1 := ⟨(zw_in (List.mem_of_getElem? (i := 408) rfl) rfl), ⟨by decide +kernel, by decide +kernel, by decide +kernel⟩, by decide, (zw_in (by decide +kernel) rfl), (zw_in (by decide +kernel) rfl), (zw_in (by decide +kernel) rfl)⟩
set_option maxRecDepth 100000 in
theorem zmX3_hasRow : zmV yX3_hasRow cX3_hasRow 2 (some .boolean) 1 := ⟨(zw_in (List.mem_of_getElem? (i := 293) rfl) rfl), ⟨by decide +kernel, by decide +kernel, by decide +kernel⟩, by decide, (zw_in (by decide +kernel) rfl), (zw_in (by decide +kernel) rfl), (zw_in (by decide +kernel) rfl)⟩
set_option maxRecDepth 100000 in
theorem zmX3_isDone : zmV yX3_isDone cX3_isDone 1 (some .boolean) 0 := ⟨(zw_in (List.mem_of_getElem? (i := 310) rfl) rfl), ⟨by decide +kernel, by decide +kernel, by decide +kernel⟩, by decide, (zw_in (by decide +kernel) rfl), (zw_in (by decide +kernel) rfl), (zw_in (by decide +kernel) rfl)⟩
set_option maxRecDepth 100000 in
theorem zmX3_isReady : zmV yX3_isReady cX3_isReady 1 (some .boolean) 0 := ⟨(zw_in (List.mem_of_getElem? (i := 314) rfl) rfl), ⟨by decide +kernel, by decide +kernel, by decide +kernel⟩, by decide, (zw_in (by decide +kernel) rfl), (zw_in (by decide +kernel) rfl), (zw_in (by decide +kernel) rfl)⟩
set_option maxRecDepth 100000 in
theorem zmX3_isReadyFor : zmV yX3_isReadyFor cX3_isReadyFor 2 (some .boolean) 1 := ⟨(zw_in (List.mem_of_getElem? (i := 327) rfl) rfl), ⟨by decide +kernel, by decide +kernel, by decide +kernel⟩, by decide, (zw_in (by decide +kernel) rfl), (zw_in (by decide +kernel) rfl), (zw_in (by decide +kernel) rfl)⟩
set_option maxRecDepth 100000 in
theorem zmX3_moveRowsFrom : zmV yX3_moveRowsFrom cX3_moveRowsFrom 4 none 2 := ⟨(zw_in (List.mem_of_getElem? (i := 297) rfl) rfl), ⟨by decide +kernel, by decide +kernel, by decide +kernel⟩, by decide, (zw_in (by decide +kernel) rfl), (zw_in (by decide +kernel) rfl), (zw_in (by decide +kernel) rfl)⟩
set_option maxRecDepth 100000 in
theorem zmX3_pass : zmV yX3_pass cX3_pass 1 none 0 := ⟨(zw_in (List.mem_of_getElem? (i := 348) rfl) rfl), ⟨by decide +kernel, by decide +kernel, by decide +kernel⟩, by decide, (zw_in (by decide +kernel) rfl), (zw_in (by decide +kernel) rfl), (zw_in (by decide +kernel) rfl)⟩
set_option maxRecDepth 100000 in
theorem zmX3_stand : zmV yX3_stand cX3_stand 4 none 3 := ⟨(zw_in (List.mem_of_getElem? (i := 262) rfl) rfl), ⟨by decide +kernel, by decide +kernel, by decide +kernel⟩, by decide, (zw_in (by decide +kernel) rfl), (zw_in (by decide +kernel) rfl), (zw_in (by decide +kernel) rfl)⟩
set_option maxRecDepth 100000 in
theorem zmX5_init : Cond.code yX5_init cX5_init 1 none ∈ zw_good ∧ Cond.instanceMethod yX5_init ∈ zw_good ∧ Cond.initialized RX5 ∈ zw_good := ⟨(zw_in (List.mem_of_getElem? (i := 584) rfl) rfl), (zw_in (by decide +kernel) rfl), (zw_in (by decide +kernel) rfl)⟩
set_option maxRecDepth 100000 in
theorem zmX5_adds : zmV yX5_adds cX5_adds 3 (some .int) 2 := ⟨(zw_in (List.mem_of_getElem? (i := 683) rfl) rfl), ⟨by decide +kernel, by decide +kernel, by decide +kernel⟩, by decide, (zw_in (by decide +kernel) rfl), (zw_in (by decide +kernel) rfl), (zw_in (by decide +kernel) rfl)⟩
set_option maxRecDepth 100000 in
theorem zmX5_aside : zmV yX5_aside cX5_aside 3 (some .int) 2 := ⟨(zw_in (List.mem_of_getElem? (i := 785) rfl) rfl), ⟨by decide +kernel, by decide +kernel, by decide +kernel⟩, by decide, (zw_in (by decide +kernel) rfl), (zw_in (by decide +kernel) rfl), (zw_in (by decide +kernel) rfl)⟩
set_option maxRecDepth 100000 in
theorem zmX5_clear : zmV yX5_clear cX5_clear 3 (some .int) 0 := ⟨(zw_in (List.mem_of_getElem? (i := 802) rfl) rfl), ⟨by decide +kernel, by decide +kernel, by decide +kernel⟩, by decide, (zw_in (by decide +kernel) rfl), (zw_in (by decide +kernel) rfl), (zw_in (by decide +kernel) rfl)⟩
set_option maxRecDepth 100000 in
theorem zmX5_count : zmV yX5_count cX5_count 4 (some .int) 1 := ⟨(zw_in (List.mem_of_getElem? (i := 798) rfl) rfl), ⟨by decide +kernel, by decide +kernel, by decide +kernel⟩, by decide, (zw_in (by decide +kernel) rfl), (zw_in (by decide +kernel) rfl), (zw_in (by decide +kernel) rfl)⟩
set_option maxRecDepth 100000 in
theorem zmX5_end : zmV yX5_end cX5_end 2 (some .int) 1 := ⟨(zw_in (List.mem_of_getElem? (i := 704) rfl) rfl), ⟨by decide +kernel, by decide +kernel, by decide +kernel⟩, by decide, (zw_in (by decide +kernel) rfl), (zw_in (by decide +kernel) rfl), (zw_in (by decide +kernel) rfl)⟩
set_option maxRecDepth 100000 in
theorem zmX5_forgets : zmV yX5_forgets cX5_forgets 2 none 0 := ⟨(zw_in (List.mem_of_getElem? (i := 589) rfl) rfl), ⟨by decide +kernel, by decide +kernel, by decide +kernel⟩, by decide, (zw_in (by decide +kernel) rfl), (zw_in (by decide +kernel) rfl), (zw_in (by decide +kernel) rfl)⟩
set_option maxRecDepth 100000 in
theorem zmX5_fresh : zmV yX5_fresh cX5_fresh 2 none 1 := ⟨(zw_in (List.mem_of_getElem? (i := 687) rfl) rfl), ⟨by decide +kernel, by decide +kernel, by decide +kernel⟩, by decide, (zw_in (by decide +kernel) rfl), (zw_in (by decide +kernel) rfl), (zw_in (by decide +kernel) rfl)⟩
set_option maxRecDepth 100000 in
theorem zmX5_give : zmV yX5_give cX5_give 4 (some .int) 2 := ⟨(zw_in (List.mem_of_getElem? (i := 712) rfl) rfl), ⟨by decide +kernel, by decide +kernel, by decide +kernel⟩, by decide, (zw_in (by decide +kernel) rfl), (zw_in (by decide +kernel) rfl), (zw_in (by decide +kernel) rfl)⟩
set_option maxRecDepth 100000 in
theorem zmX5_given : zmV yX5_given cX5_given 2 (some .int) 1 := ⟨(zw_in (List.mem_of_getElem? (i := 777) rfl) rfl), ⟨by decide +kernel, by decide +kernel, by decide +kernel⟩, by decide, (zw_in (by decide +kernel) rfl), (zw_in (by decide +kernel) rfl), (zw_in (by decide +kernel) rfl)⟩
set_option maxRecDepth 100000 in
theorem zmX5_givesNone : zmV yX5_givesNone cX5_givesNone 2 none 0 := ⟨(zw_in (List.mem_of_getElem? (i := 764) rfl) rfl), ⟨by decide +kernel, by decide +kernel, by decide +kernel⟩, by decide, (zw_in (by decide +kernel) rfl), (zw_in (by decide +kernel) rfl), (zw_in (by decide +kernel) rfl)⟩
set_option maxRecDepth 100000 in
theorem zmX5_in : zmS yX5_in cX5_in 3 (some .boolean) 3 := ⟨(zw_in (List.mem_of_getElem? (i := 679) rfl) rfl), ⟨by decide +kernel, by decide +kernel, by decide +kernel⟩, by decide, (zw_in (by decide +kernel) rfl), (zw_in (by decide +kernel) rfl)⟩
set_option maxRecDepth 100000 in
theorem zmX5_isDone : zmV yX5_isDone cX5_isDone 2 (some .boolean) 1 := ⟨(zw_in (List.mem_of_getElem? (i := 716) rfl) rfl), ⟨by decide +kernel, by decide +kernel, by decide +kernel⟩, by decide, (zw_in (by decide +kernel) rfl), (zw_in (by decide +kernel) rfl), (zw_in (by decide +kernel) rfl)⟩
set_option maxRecDepth 100000 in
theorem zmX5_isPart : zmV yX5_isPart cX5_isPart 2 (some .boolean) 1 := ⟨(zw_in (List.mem_of_getElem? (i := 695) rfl) rfl), ⟨by decide +kernel, by decide +kernel, by decide +kernel⟩, by decide, (zw_in (by decide +kernel) rfl), (zw_in (by decide +kernel) rfl), (zw_in (by decide +kernel) rfl)⟩
set_option maxRecDepth 100000 in
theorem zmX5_isReady : zmV yX5_isReady cX5_isReady 2 (some .boolean) 1 := ⟨(zw_in (List.mem_of_getElem? (i := 720) rfl) rfl), ⟨by decide +kernel, by decide +kernel, by decide +kernel⟩, by decide, (zw_in (by decide +kernel) rfl), (zw_in (by decide +kernel) rfl), (zw_in (by decide +kernel) rfl)⟩
set_option maxRecDepth 100000 in
theorem zmX5_latest : zmV yX5_latest cX5_latest 2 (some .int) 1 := ⟨(zw_in (List.mem_of_getElem? (i := 744) rfl) rfl), ⟨by decide +kernel, by decide +kernel, by decide +kernel⟩, by decide, (zw_in (by decide +kernel) rfl), (zw_in (by decide +kernel) rfl), (zw_in (by decide +kernel) rfl)⟩
set_option maxRecDepth 100000 in
theorem zmX5_lays : zmV yX5_lays cX5_lays 6 none 4 := ⟨(zw_in (List.mem_of_getElem? (i := 700) rfl) rfl), ⟨by decide +kernel, by decide +kernel, by decide +kernel⟩, by decide, (zw_in (by decide +kernel) rfl), (zw_in (by decide +kernel) rfl), (zw_in (by decide +kernel) rfl)⟩
set_option maxRecDepth 100000 in
theorem zmX5_lose : zmV yX5_lose cX5_lose 5 (some .int) 2 := ⟨(zw_in (List.mem_of_getElem? (i := 748) rfl) rfl), ⟨by decide +kernel, by decide +kernel, by decide +kernel⟩, by decide, (zw_in (by decide +kernel) rfl), (zw_in (by decide +kernel) rfl), (zw_in (by decide +kernel) rfl)⟩
set_option maxRecDepth 100000 in
theorem zmX5_mark : zmV yX5_mark cX5_mark 2 (some .int) 0 := ⟨(zw_in (List.mem_of_getElem? (i := 752) rfl) rfl), ⟨by decide +kernel, by decide +kernel, by decide +kernel⟩, by decide, (zw_in (by decide +kernel) rfl), (zw_in (by decide +kernel) rfl), (zw_in (by decide +kernel) rfl)⟩
set_option maxRecDepth 100000 in
theorem zmX5_nextOf : zmV yX5_nextOf cX5_nextOf 5 (some .int) 1 := ⟨(zw_in (List.mem_of_getElem? (i := 732) rfl) rfl), ⟨by decide +kernel, by decide +kernel, by decide +kernel⟩, by decide, (zw_in (by decide +kernel) rfl), (zw_in (by decide +kernel) rfl), (zw_in (by decide +kernel) rfl)⟩
set_option maxRecDepth 100000 in
theorem zmX5_notes : zmV yX5_notes cX5_notes 3 none 2 := ⟨(zw_in (List.mem_of_getElem? (i := 736) rfl) rfl), ⟨by decide +kernel, by decide +kernel, by decide +kernel⟩, by decide, (zw_in (by decide +kernel) rfl), (zw_in (by decide +kernel) rfl), (zw_in (by decide +kernel) rfl)⟩
set_option maxRecDepth 100000 in
theorem zmX5_number : zmV yX5_number cX5_number 3 (some .int) 2 := ⟨(zw_in (List.mem_of_getElem? (i := 781) rfl) rfl), ⟨by decide +kernel, by decide +kernel, by decide +kernel⟩, by decide, (zw_in (by decide +kernel) rfl), (zw_in (by decide +kernel) rfl), (zw_in (by decide +kernel) rfl)⟩
set_option maxRecDepth 100000 in
theorem zmX5_part : zmV yX5_part cX5_part 2 (some .int) 1 := ⟨(zw_in (List.mem_of_getElem? (i := 676) rfl) rfl), ⟨by decide +kernel, by decide +kernel, by decide +kernel⟩, by decide, (zw_in (by decide +kernel) rfl), (zw_in (by decide +kernel) rfl), (zw_in (by decide +kernel) rfl)⟩
set_option maxRecDepth 100000 in
theorem zmX5_passes : zmV yX5_passes cX5_passes 3 none 1 := ⟨(zw_in (List.mem_of_getElem? (i := 740) rfl) rfl), ⟨by decide +kernel, by decide +kernel, by decide +kernel⟩, by decide, (zw_in (by decide +kernel) rfl), (zw_in (by decide +kernel) rfl), (zw_in (by decide +kernel) rfl)⟩
set_option maxRecDepth 100000 in
theorem zmX5_rate : zmV yX5_rate cX5_rate 4 (some .int) 1 := ⟨(zw_in (List.mem_of_getElem? (i := 789) rfl) rfl), ⟨by decide +kernel, by decide +kernel, by decide +kernel⟩, by decide, (zw_in (by decide +kernel) rfl), (zw_in (by decide +kernel) rfl), (zw_in (by decide +kernel) rfl)⟩
set_option maxRecDepth 100000 in
theorem zmX5_read : zmV yX5_read cX5_read 7 (some .int) 1 := ⟨(zw_in (List.mem_of_getElem? (i := 728) rfl) rfl), ⟨by decide +kernel, by decide +kernel, by decide +kernel⟩, by decide, (zw_in (by decide +kernel) rfl), (zw_in (by decide +kernel) rfl), (zw_in (by decide +kernel) rfl)⟩
set_option maxRecDepth 100000 in
theorem zmX5_reader : zmV yX5_reader cX5_reader 2 (some .int) 1 := ⟨(zw_in (List.mem_of_getElem? (i := 724) rfl) rfl), ⟨by decide +kernel, by decide +kernel, by decide +kernel⟩, by decide, (zw_in (by decide +kernel) rfl), (zw_in (by decide +kernel) rfl), (zw_in (by decide +kernel) rfl)⟩
set_option maxRecDepth 100000 in
theorem zmX5_restore : zmV yX5_restore cX5_restore 6 (some .int) 1 := ⟨(zw_in (List.mem_of_getElem? (i := 756) rfl) rfl), ⟨by decide +kernel, by decide +kernel, by decide +kernel⟩, by decide, (zw_in (by decide +kernel) rfl), (zw_in (by decide +kernel) rfl), (zw_in (by decide +kernel) rfl)⟩
set_option maxRecDepth 100000 in
theorem zmX5_row : zmV yX5_row cX5_row 5 (some .int) 4 := ⟨(zw_in (List.mem_of_getElem? (i := 691) rfl) rfl), ⟨by decide +kernel, by decide +kernel, by decide +kernel⟩, by decide, (zw_in (by decide +kernel) rfl), (zw_in (by decide +kernel) rfl), (zw_in (by decide +kernel) rfl)⟩
set_option maxRecDepth 100000 in
theorem zmX5_scale : zmV yX5_scale cX5_scale 4 (some .int) 1 := ⟨(zw_in (List.mem_of_getElem? (i := 768) rfl) rfl), ⟨by decide +kernel, by decide +kernel, by decide +kernel⟩, by decide, (zw_in (by decide +kernel) rfl), (zw_in (by decide +kernel) rfl), (zw_in (by decide +kernel) rfl)⟩
set_option maxRecDepth 100000 in
theorem zmX5_split : zmV yX5_split cX5_split 5 (some .int) 2 := ⟨(zw_in (List.mem_of_getElem? (i := 708) rfl) rfl), ⟨by decide +kernel, by decide +kernel, by decide +kernel⟩, by decide, (zw_in (by decide +kernel) rfl), (zw_in (by decide +kernel) rfl), (zw_in (by decide +kernel) rfl)⟩
set_option maxRecDepth 100000 in
theorem zmX5_start : zmV yX5_start cX5_start 5 (some .int) 1 := ⟨(zw_in (List.mem_of_getElem? (i := 760) rfl) rfl), ⟨by decide +kernel, by decide +kernel, by decide +kernel⟩, by decide, (zw_in (by decide +kernel) rfl), (zw_in (by decide +kernel) rfl), (zw_in (by decide +kernel) rfl)⟩
set_option maxRecDepth 100000 in
theorem zmX5_thrown : zmV yX5_thrown cX5_thrown 1 (some .int) 0 := ⟨(zw_in (List.mem_of_getElem? (i := 672) rfl) rfl), ⟨by decide +kernel, by decide +kernel, by decide +kernel⟩, by decide, (zw_in (by decide +kernel) rfl), (zw_in (by decide +kernel) rfl), (zw_in (by decide +kernel) rfl)⟩
set_option maxRecDepth 100000 in
theorem zmX5_told : zmV yX5_told cX5_told 3 (some .int) 2 := ⟨(zw_in (List.mem_of_getElem? (i := 772) rfl) rfl), ⟨by decide +kernel, by decide +kernel, by decide +kernel⟩, by decide, (zw_in (by decide +kernel) rfl), (zw_in (by decide +kernel) rfl), (zw_in (by decide +kernel) rfl)⟩
set_option maxRecDepth 100000 in
theorem zmX5_water : zmV yX5_water cX5_water 4 (some .int) 0 := ⟨(zw_in (List.mem_of_getElem? (i := 793) rfl) rfl), ⟨by decide +kernel, by decide +kernel, by decide +kernel⟩, by decide, (zw_in (by decide +kernel) rfl), (zw_in (by decide +kernel) rfl), (zw_in (by decide +kernel) rfl)⟩
