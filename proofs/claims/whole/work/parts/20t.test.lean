def wsX0_isUpTo : List Cond := .code yX0_isUpTo cX0_isUpTo 2 (some .boolean) :: ([])
def wsX0_isStressed : List Cond := .code yX0_isStressed cX0_isStressed 1 (some .boolean) :: ([.fieldLink RX0 51 "OwnMemory" "stressEvery" "I", .fieldLink RX0 54 "OwnMemory" "made" "I"] ++ wsX00)
def wsX0_touch : List Cond := .code yX0_touch cX0_touch 3 (some .int) :: ([.fieldLink RX0 23 "OwnMemory" "words" "[I", .fieldLink RX0 48 "OwnMemory" "waiting" "I"] ++ wsX00)
def wsX0_touchRoots : List Cond := .code yX0_touchRoots cX0_touchRoots 3 none :: ([.fieldLink RX0 30 "OwnMemory" "roots" "[I", .methodLink RX0 237 yX0_touch, .instanceMethod yX0_touch, .selects RX0 yX0_touch yX0_touch, .initialized RX0, .code yX0_touch cX0_touch 3 (some .int), .fieldLink RX0 23 "OwnMemory" "words" "[I", .fieldLink RX0 48 "OwnMemory" "waiting" "I"] ++ wsX00)
def wsX0_linksAt : List Cond := .code yX0_linksAt cX0_linksAt 2 (some .int) :: ([.fieldLink RX0 23 "OwnMemory" "words" "[I"] ++ wsX00)
def wsX0_valuesAt : List Cond := .code yX0_valuesAt cX0_valuesAt 2 (some .int) :: ([.fieldLink RX0 23 "OwnMemory" "words" "[I"] ++ wsX00)
def wsX0_isReference : List Cond := .code yX0_isReference cX0_isReference 1 (some .boolean) :: ([.constant RX0 186 (65530)])
def wsX0_touchLeads : List Cond := .code yX0_touchLeads cX0_touchLeads 6 none :: ([.fieldLink RX0 23 "OwnMemory" "words" "[I", .methodLink RX0 171 yX0_linksAt, .instanceMethod yX0_linksAt, .selects RX0 yX0_linksAt yX0_linksAt, .initialized RX0, .code yX0_linksAt cX0_linksAt 2 (some .int), .methodLink RX0 237 yX0_touch, .instanceMethod yX0_touch, .selects RX0 yX0_touch yX0_touch, .code yX0_touch cX0_touch 3 (some .int), .fieldLink RX0 48 "OwnMemory" "waiting" "I", .methodLink RX0 176 yX0_valuesAt, .instanceMethod yX0_valuesAt, .selects RX0 yX0_valuesAt yX0_valuesAt, .code yX0_valuesAt cX0_valuesAt 2 (some .int), .methodLink RX0 86 yX0_isReference, .static yX0_isReference, .code yX0_isReference cX0_isReference 1 (some .boolean), .constant RX0 186 (65530)] ++ wsX00)
def wsX0_sizeAt : List Cond := .code yX0_sizeAt cX0_sizeAt 2 (some .int) :: ([.fieldLink RX0 23 "OwnMemory" "words" "[I"] ++ wsX00)
def wsX0_planMoves : List Cond := .code yX0_planMoves cX0_planMoves 3 (some .int) :: ([.fieldLink RX0 27 "OwnMemory" "used" "I", .fieldLink RX0 23 "OwnMemory" "words" "[I", .methodLink RX0 181 yX0_sizeAt, .instanceMethod yX0_sizeAt, .selects RX0 yX0_sizeAt yX0_sizeAt, .initialized RX0, .code yX0_sizeAt cX0_sizeAt 2 (some .int)] ++ wsX00)
def wsX0_keepNames : List Cond := .code yX0_keepNames cX0_keepNames 4 none :: ([.fieldLink RX0 42 "OwnMemory" "nameCount" "I", .fieldLink RX0 23 "OwnMemory" "words" "[I", .fieldLink RX0 39 "OwnMemory" "names" "[I"] ++ wsX00)
def wsX0_shapeOf : List Cond := .code yX0_shapeOf cX0_shapeOf 4 (some .int) :: ([])
def wsX0_kindAt : List Cond := .code yX0_kindAt cX0_kindAt 2 (some .int) :: ([.fieldLink RX0 23 "OwnMemory" "words" "[I"] ++ wsX00)
def wsX0_putLength : List Cond := .code yX0_putLength cX0_putLength 3 none :: ([.fieldLink RX0 23 "OwnMemory" "words" "[I", .methodLink RX0 171 yX0_linksAt, .instanceMethod yX0_linksAt, .selects RX0 yX0_linksAt yX0_linksAt, .initialized RX0, .code yX0_linksAt cX0_linksAt 2 (some .int)] ++ wsX00)
def wsX0_putUnit : List Cond := .code yX0_putUnit cX0_putUnit 4 none :: ([.fieldLink RX0 23 "OwnMemory" "words" "[I"] ++ wsX00)
def wsX0_lengthAt : List Cond := .code yX0_lengthAt cX0_lengthAt 2 (some .int) :: ([.fieldLink RX0 23 "OwnMemory" "words" "[I", .methodLink RX0 171 yX0_linksAt, .instanceMethod yX0_linksAt, .selects RX0 yX0_linksAt yX0_linksAt, .initialized RX0, .code yX0_linksAt cX0_linksAt 2 (some .int)] ++ wsX00)
def wsX0_lengthIn : List Cond := .code yX0_lengthIn cX0_lengthIn 2 (some .int) :: ([.fieldLink RX0 30 "OwnMemory" "roots" "[I", .methodLink RX0 187 yX0_lengthAt, .instanceMethod yX0_lengthAt, .selects RX0 yX0_lengthAt yX0_lengthAt, .initialized RX0, .code yX0_lengthAt cX0_lengthAt 2 (some .int), .fieldLink RX0 23 "OwnMemory" "words" "[I", .methodLink RX0 171 yX0_linksAt, .instanceMethod yX0_linksAt, .selects RX0 yX0_linksAt yX0_linksAt, .code yX0_linksAt cX0_linksAt 2 (some .int)] ++ wsX00)
def wsX0_unitAt : List Cond := .code yX0_unitAt cX0_unitAt 3 (some .int) :: ([.fieldLink RX0 23 "OwnMemory" "words" "[I", .constant RX0 107 (65535)] ++ wsX00)
def wsX0_copyUnits : List Cond := .code yX0_copyUnits cX0_copyUnits 7 none :: ([.methodLink RX0 143 yX0_unitAt, .instanceMethod yX0_unitAt, .selects RX0 yX0_unitAt yX0_unitAt, .initialized RX0, .code yX0_unitAt cX0_unitAt 3 (some .int), .fieldLink RX0 23 "OwnMemory" "words" "[I", .constant RX0 107 (65535), .methodLink RX0 108 yX0_putUnit, .instanceMethod yX0_putUnit, .selects RX0 yX0_putUnit yX0_putUnit, .code yX0_putUnit cX0_putUnit 4 none] ++ wsX00)
def wsX0_flatOf : List Cond := .code yX0_flatOf cX0_flatOf 2 (some .int) :: ([.fieldLink RX0 23 "OwnMemory" "words" "[I", .methodLink RX0 76 yX0_kindAt, .instanceMethod yX0_kindAt, .selects RX0 yX0_kindAt yX0_kindAt, .initialized RX0, .code yX0_kindAt cX0_kindAt 2 (some .int)] ++ wsX00)
def wsX0_copyAllUnits_r1 : List Cond := [Cond.fieldLink RX0 45 "OwnMemory" "pending" "[I", Cond.fieldLink RX0 23 "OwnMemory" "words" "[I", Cond.methodLink RX0 76 yX0_kindAt, Cond.instanceMethod yX0_kindAt, Cond.selects RX0 yX0_kindAt yX0_kindAt, Cond.initialized RX0, Cond.code yX0_kindAt cX0_kindAt 2 (some .int), Cond.methodLink RX0 134 yX0_flatOf, Cond.instanceMethod yX0_flatOf, Cond.selects RX0 yX0_flatOf yX0_flatOf, Cond.code yX0_flatOf cX0_flatOf 2 (some .int), Cond.methodLink RX0 187 yX0_lengthAt, Cond.instanceMethod yX0_lengthAt, Cond.selects RX0 yX0_lengthAt yX0_lengthAt, Cond.code yX0_lengthAt cX0_lengthAt 2 (some .int), Cond.methodLink RX0 171 yX0_linksAt, Cond.instanceMethod yX0_linksAt, Cond.selects RX0 yX0_linksAt yX0_linksAt, Cond.code yX0_linksAt cX0_linksAt 2 (some .int), Cond.methodLink RX0 137 yX0_copyUnits, Cond.instanceMethod yX0_copyUnits, Cond.selects RX0 yX0_copyUnits yX0_copyUnits, Cond.code yX0_copyUnits cX0_copyUnits 7 none, Cond.methodLink RX0 143 yX0_unitAt]
def wsX0_copyAllUnits_r2 : List Cond := [Cond.instanceMethod yX0_unitAt, Cond.selects RX0 yX0_unitAt yX0_unitAt, Cond.code yX0_unitAt cX0_unitAt 3 (some .int), Cond.constant RX0 107 (65535), Cond.methodLink RX0 108 yX0_putUnit, Cond.instanceMethod yX0_putUnit, Cond.selects RX0 yX0_putUnit yX0_putUnit, Cond.code yX0_putUnit cX0_putUnit 4 none]
def wsX0_copyAllUnits : List Cond := .code yX0_copyAllUnits cX0_copyAllUnits 7 none :: ((wsX0_copyAllUnits_r1 ++ wsX0_copyAllUnits_r2) ++ wsX00)
def wsX0_hasSameUnits : List Cond := .code yX0_hasSameUnits cX0_hasSameUnits 5 (some .boolean) :: ([.fieldLink RX0 23 "OwnMemory" "words" "[I", .methodLink RX0 187 yX0_lengthAt, .instanceMethod yX0_lengthAt, .selects RX0 yX0_lengthAt yX0_lengthAt, .initialized RX0, .code yX0_lengthAt cX0_lengthAt 2 (some .int), .methodLink RX0 171 yX0_linksAt, .instanceMethod yX0_linksAt, .selects RX0 yX0_linksAt yX0_linksAt, .code yX0_linksAt cX0_linksAt 2 (some .int), .methodLink RX0 181 yX0_sizeAt, .instanceMethod yX0_sizeAt, .selects RX0 yX0_sizeAt yX0_sizeAt, .code yX0_sizeAt cX0_sizeAt 2 (some .int)] ++ wsX00)
def wsX0_findName : List Cond := .code yX0_findName cX0_findName 3 (some .int) :: ([.fieldLink RX0 42 "OwnMemory" "nameCount" "I", .fieldLink RX0 39 "OwnMemory" "names" "[I", .methodLink RX0 200 yX0_hasSameUnits, .instanceMethod yX0_hasSameUnits, .selects RX0 yX0_hasSameUnits yX0_hasSameUnits, .initialized RX0, .code yX0_hasSameUnits cX0_hasSameUnits 5 (some .boolean), .fieldLink RX0 23 "OwnMemory" "words" "[I", .methodLink RX0 187 yX0_lengthAt, .instanceMethod yX0_lengthAt, .selects RX0 yX0_lengthAt yX0_lengthAt, .code yX0_lengthAt cX0_lengthAt 2 (some .int), .methodLink RX0 171 yX0_linksAt, .instanceMethod yX0_linksAt, .selects RX0 yX0_linksAt yX0_linksAt, .code yX0_linksAt cX0_linksAt 2 (some .int), .methodLink RX0 181 yX0_sizeAt, .instanceMethod yX0_sizeAt, .selects RX0 yX0_sizeAt yX0_sizeAt, .code yX0_sizeAt cX0_sizeAt 2 (some .int)] ++ wsX00)
theorem dX0_isUpTo_0 : decode cX0_isUpTo 0 = .ok (.iload_n 0, 1) := by decide +kernel
theorem dX0_isUpTo_1 : decode cX0_isUpTo 1 = .ok (.ifCond .lt 12, 3) := by decide +kernel
theorem dX0_isUpTo_4 : decode cX0_isUpTo 4 = .ok (.iload_n 0, 1) := by decide +kernel
theorem dX0_isUpTo_5 : decode cX0_isUpTo 5 = .ok (.iload_n 1, 1) := by decide +kernel
theorem dX0_isUpTo_6 : decode cX0_isUpTo 6 = .ok (.if_icmp .gt 7, 3) := by decide +kernel
theorem dX0_isUpTo_9 : decode cX0_isUpTo 9 = .ok (.iconst 1, 1) := by decide +kernel
theorem dX0_isUpTo_10 : decode cX0_isUpTo 10 = .ok (.goto 4, 3) := by decide +kernel
theorem dX0_isUpTo_13 : decode cX0_isUpTo 13 = .ok (.iconst 0, 1) := by decide +kernel
theorem dX0_isUpTo_14 : decode cX0_isUpTo 14 = .ok (.ireturn, 1) := by decide +kernel
theorem dX0_shapeOf_0 : decode cX0_shapeOf 0 = .ok (.iload_n 0, 1) := by decide +kernel
theorem dX0_shapeOf_1 : decode cX0_shapeOf 1 = .ok (.iload_n 1, 1) := by decide +kernel
theorem dX0_shapeOf_2 : decode cX0_shapeOf 2 = .ok (.iconst 4, 1) := by decide +kernel
theorem dX0_shapeOf_3 : decode cX0_shapeOf 3 = .ok (.ishl, 1) := by decide +kernel
theorem dX0_shapeOf_4 : decode cX0_shapeOf 4 = .ok (.ior, 1) := by decide +kernel
theorem dX0_shapeOf_5 : decode cX0_shapeOf 5 = .ok (.iload_n 2, 1) := by decide +kernel
theorem dX0_shapeOf_6 : decode cX0_shapeOf 6 = .ok (.bipush 8, 2) := by decide +kernel
theorem dX0_shapeOf_8 : decode cX0_shapeOf 8 = .ok (.ishl, 1) := by decide +kernel
theorem dX0_shapeOf_9 : decode cX0_shapeOf 9 = .ok (.ior, 1) := by decide +kernel
theorem dX0_shapeOf_10 : decode cX0_shapeOf 10 = .ok (.iload_n 3, 1) := by decide +kernel
theorem dX0_shapeOf_11 : decode cX0_shapeOf 11 = .ok (.bipush 12, 2) := by decide +kernel
theorem dX0_shapeOf_13 : decode cX0_shapeOf 13 = .ok (.ishl, 1) := by decide +kernel
theorem dX0_shapeOf_14 : decode cX0_shapeOf 14 = .ok (.ior, 1) := by decide +kernel
theorem dX0_shapeOf_15 : decode cX0_shapeOf 15 = .ok (.ireturn, 1) := by decide +kernel
theorem dX0_kindAt_0 : decode cX0_kindAt 0 = .ok (.iload_n 1, 1) := by decide +kernel
theorem dX0_kindAt_1 : decode cX0_kindAt 1 = .ok (.iconst (-1), 1) := by decide +kernel
theorem dX0_kindAt_2 : decode cX0_kindAt 2 = .ok (.if_icmp .ne 7, 3) := by decide +kernel
theorem dX0_kindAt_5 : decode cX0_kindAt 5 = .ok (.iconst 0, 1) := by decide +kernel
theorem dX0_kindAt_6 : decode cX0_kindAt 6 = .ok (.goto 14, 3) := by decide +kernel
theorem dX0_kindAt_9 : decode cX0_kindAt 9 = .ok (.aload_n 0, 1) := by decide +kernel
theorem dX0_kindAt_10 : decode cX0_kindAt 10 = .ok (.getfield 23, 3) := by decide +kernel
theorem dX0_kindAt_13 : decode cX0_kindAt 13 = .ok (.iload_n 1, 1) := by decide +kernel
theorem dX0_kindAt_14 : decode cX0_kindAt 14 = .ok (.iconst 0, 1) := by decide +kernel
theorem dX0_kindAt_15 : decode cX0_kindAt 15 = .ok (.iadd, 1) := by decide +kernel
theorem dX0_kindAt_16 : decode cX0_kindAt 16 = .ok (.iaload, 1) := by decide +kernel
theorem dX0_kindAt_17 : decode cX0_kindAt 17 = .ok (.bipush 15, 2) := by decide +kernel
theorem dX0_kindAt_19 : decode cX0_kindAt 19 = .ok (.iand, 1) := by decide +kernel
theorem dX0_kindAt_20 : decode cX0_kindAt 20 = .ok (.ireturn, 1) := by decide +kernel
theorem dX0_linksAt_0 : decode cX0_linksAt 0 = .ok (.aload_n 0, 1) := by decide +kernel
theorem dX0_linksAt_1 : decode cX0_linksAt 1 = .ok (.getfield 23, 3) := by decide +kernel
theorem dX0_linksAt_4 : decode cX0_linksAt 4 = .ok (.iload_n 1, 1) := by decide +kernel
theorem dX0_linksAt_5 : decode cX0_linksAt 5 = .ok (.iconst 0, 1) := by decide +kernel
theorem dX0_linksAt_6 : decode cX0_linksAt 6 = .ok (.iadd, 1) := by decide +kernel
theorem dX0_linksAt_7 : decode cX0_linksAt 7 = .ok (.iaload, 1) := by decide +kernel
theorem dX0_linksAt_8 : decode cX0_linksAt 8 = .ok (.iconst 4, 1) := by decide +kernel
theorem dX0_linksAt_9 : decode cX0_linksAt 9 = .ok (.ishr, 1) := by decide +kernel
theorem dX0_linksAt_10 : decode cX0_linksAt 10 = .ok (.bipush 15, 2) := by decide +kernel
theorem dX0_linksAt_12 : decode cX0_linksAt 12 = .ok (.iand, 1) := by decide +kernel
theorem dX0_linksAt_13 : decode cX0_linksAt 13 = .ok (.ireturn, 1) := by decide +kernel
theorem dX0_valuesAt_0 : decode cX0_valuesAt 0 = .ok (.aload_n 0, 1) := by decide +kernel
theorem dX0_valuesAt_1 : decode cX0_valuesAt 1 = .ok (.getfield 23, 3) := by decide +kernel
theorem dX0_valuesAt_4 : decode cX0_valuesAt 4 = .ok (.iload_n 1, 1) := by decide +kernel
theorem dX0_valuesAt_5 : decode cX0_valuesAt 5 = .ok (.iconst 0, 1) := by decide +kernel
theorem dX0_valuesAt_6 : decode cX0_valuesAt 6 = .ok (.iadd, 1) := by decide +kernel
theorem dX0_valuesAt_7 : decode cX0_valuesAt 7 = .ok (.iaload, 1) := by decide +kernel
theorem dX0_valuesAt_8 : decode cX0_valuesAt 8 = .ok (.bipush 8, 2) := by decide +kernel
theorem dX0_valuesAt_10 : decode cX0_valuesAt 10 = .ok (.ishr, 1) := by decide +kernel
theorem dX0_valuesAt_11 : decode cX0_valuesAt 11 = .ok (.bipush 15, 2) := by decide +kernel
theorem dX0_valuesAt_13 : decode cX0_valuesAt 13 = .ok (.iand, 1) := by decide +kernel
theorem dX0_valuesAt_14 : decode cX0_valuesAt 14 = .ok (.ireturn, 1) := by decide +kernel
theorem dX0_sizeAt_0 : decode cX0_sizeAt 0 = .ok (.aload_n 0, 1) := by decide +kernel
theorem dX0_sizeAt_1 : decode cX0_sizeAt 1 = .ok (.getfield 23, 3) := by decide +kernel
theorem dX0_sizeAt_4 : decode cX0_sizeAt 4 = .ok (.iload_n 1, 1) := by decide +kernel
theorem dX0_sizeAt_5 : decode cX0_sizeAt 5 = .ok (.iconst 0, 1) := by decide +kernel
theorem dX0_sizeAt_6 : decode cX0_sizeAt 6 = .ok (.iadd, 1) := by decide +kernel
theorem dX0_sizeAt_7 : decode cX0_sizeAt 7 = .ok (.iaload, 1) := by decide +kernel
theorem dX0_sizeAt_8 : decode cX0_sizeAt 8 = .ok (.bipush 12, 2) := by decide +kernel
theorem dX0_sizeAt_10 : decode cX0_sizeAt 10 = .ok (.ishr, 1) := by decide +kernel
theorem dX0_sizeAt_11 : decode cX0_sizeAt 11 = .ok (.ireturn, 1) := by decide +kernel
theorem dX0_isReference_0 : decode cX0_isReference 0 = .ok (.iload_n 0, 1) := by decide +kernel
theorem dX0_isReference_1 : decode cX0_isReference 1 = .ok (.bipush 16, 2) := by decide +kernel
theorem dX0_isReference_3 : decode cX0_isReference 3 = .ok (.iushr, 1) := by decide +kernel
theorem dX0_isReference_4 : decode cX0_isReference 4 = .ok (.ldc 186, 2) := by decide +kernel
theorem dX0_isReference_6 : decode cX0_isReference 6 = .ok (.if_icmp .ne 7, 3) := by decide +kernel
theorem dX0_isReference_9 : decode cX0_isReference 9 = .ok (.iconst 1, 1) := by decide +kernel
theorem dX0_isReference_10 : decode cX0_isReference 10 = .ok (.goto 4, 3) := by decide +kernel
theorem dX0_isReference_13 : decode cX0_isReference 13 = .ok (.iconst 0, 1) := by decide +kernel
theorem dX0_isReference_14 : decode cX0_isReference 14 = .ok (.ireturn, 1) := by decide +kernel
set_option maxRecDepth 20000 in
theorem ggX0_lengthAt_X0_linksAt : GoodIn wsX0_lengthAt wsX0_linksAt := goodIn_r _ [6, 1, 7, 8, 9, 10, 11, 12, 13, 14, 15, 16] (by decide +kernel) (by decide +kernel)
set_option maxRecDepth 20000 in
theorem gX0_lengthAt_X0_linksAt : GoodIn wsX0_lengthAt (wsV RX0 171 RX0 yX0_linksAt wsX0_linksAt) := goodIn_app (goodIn_of _ (by decide +kernel)) ggX0_lengthAt_X0_linksAt
theorem dX0_lengthAt_0 : decode cX0_lengthAt 0 = .ok (.aload_n 0, 1) := by decide +kernel
theorem dX0_lengthAt_1 : decode cX0_lengthAt 1 = .ok (.getfield 23, 3) := by decide +kernel
theorem dX0_lengthAt_4 : decode cX0_lengthAt 4 = .ok (.iload_n 1, 1) := by decide +kernel
theorem dX0_lengthAt_5 : decode cX0_lengthAt 5 = .ok (.iconst 3, 1) := by decide +kernel
theorem dX0_lengthAt_6 : decode cX0_lengthAt 6 = .ok (.iadd, 1) := by decide +kernel
theorem dX0_lengthAt_7 : decode cX0_lengthAt 7 = .ok (.aload_n 0, 1) := by decide +kernel
theorem dX0_lengthAt_8 : decode cX0_lengthAt 8 = .ok (.iload_n 1, 1) := by decide +kernel
theorem dX0_lengthAt_9 : decode cX0_lengthAt 9 = .ok (.invokevirtual 171, 3) := by decide +kernel
theorem dX0_lengthAt_12 : decode cX0_lengthAt 12 = .ok (.iadd, 1) := by decide +kernel
theorem dX0_lengthAt_13 : decode cX0_lengthAt 13 = .ok (.iaload, 1) := by decide +kernel
theorem dX0_lengthAt_14 : decode cX0_lengthAt 14 = .ok (.ireturn, 1) := by decide +kernel
set_option maxRecDepth 20000 in
theorem ggX0_putLength_X0_linksAt : GoodIn wsX0_putLength wsX0_linksAt := goodIn_r _ [6, 1, 7, 8, 9, 10, 11, 12, 13, 14, 15, 16] (by decide +kernel) (by decide +kernel)
set_option maxRecDepth 20000 in
theorem gX0_putLength_X0_linksAt : GoodIn wsX0_putLength (wsV RX0 171 RX0 yX0_linksAt wsX0_linksAt) := goodIn_app (goodIn_of _ (by decide +kernel)) ggX0_putLength_X0_linksAt
theorem dX0_putLength_0 : decode cX0_putLength 0 = .ok (.aload_n 0, 1) := by decide +kernel
theorem dX0_putLength_1 : decode cX0_putLength 1 = .ok (.getfield 23, 3) := by decide +kernel
theorem dX0_putLength_4 : decode cX0_putLength 4 = .ok (.iload_n 1, 1) := by decide +kernel
theorem dX0_putLength_5 : decode cX0_putLength 5 = .ok (.iconst 3, 1) := by decide +kernel
theorem dX0_putLength_6 : decode cX0_putLength 6 = .ok (.iadd, 1) := by decide +kernel
theorem dX0_putLength_7 : decode cX0_putLength 7 = .ok (.aload_n 0, 1) := by decide +kernel
theorem dX0_putLength_8 : decode cX0_putLength 8 = .ok (.iload_n 1, 1) := by decide +kernel
theorem dX0_putLength_9 : decode cX0_putLength 9 = .ok (.invokevirtual 171, 3) := by decide +kernel
theorem dX0_putLength_12 : decode cX0_putLength 12 = .ok (.iadd, 1) := by decide +kernel
theorem dX0_putLength_13 : decode cX0_putLength 13 = .ok (.iload_n 2, 1) := by decide +kernel
theorem dX0_putLength_14 : decode cX0_putLength 14 = .ok (.iastore, 1) := by decide +kernel
theorem dX0_putLength_15 : decode cX0_putLength 15 = .ok (.return_, 1) := by decide +kernel
set_option maxRecDepth 20000 in
theorem ggX0_lengthIn_X0_lengthAt : GoodIn wsX0_lengthIn wsX0_lengthAt := goodIn_r _ [6, 7, 8, 9, 10, 5, 11, 12, 13, 14, 15, 16, 17, 18, 19, 20, 21] (by decide +kernel) (by decide +kernel)
set_option maxRecDepth 20000 in
theorem gX0_lengthIn_X0_lengthAt : GoodIn wsX0_lengthIn (wsV RX0 187 RX0 yX0_lengthAt wsX0_lengthAt) := goodIn_app (goodIn_of _ (by decide +kernel)) ggX0_lengthIn_X0_lengthAt
theorem dX0_lengthIn_0 : decode cX0_lengthIn 0 = .ok (.aload_n 0, 1) := by decide +kernel
theorem dX0_lengthIn_1 : decode cX0_lengthIn 1 = .ok (.aload_n 0, 1) := by decide +kernel
theorem dX0_lengthIn_2 : decode cX0_lengthIn 2 = .ok (.getfield 30, 3) := by decide +kernel
theorem dX0_lengthIn_5 : decode cX0_lengthIn 5 = .ok (.iload_n 1, 1) := by decide +kernel
theorem dX0_lengthIn_6 : decode cX0_lengthIn 6 = .ok (.iaload, 1) := by decide +kernel
theorem dX0_lengthIn_7 : decode cX0_lengthIn 7 = .ok (.invokevirtual 187, 3) := by decide +kernel
theorem dX0_lengthIn_10 : decode cX0_lengthIn 10 = .ok (.ireturn, 1) := by decide +kernel
set_option maxRecDepth 20000 in
theorem ggX0_flatOf_X0_kindAt : GoodIn wsX0_flatOf wsX0_kindAt := goodIn_r _ [6, 1, 7, 8, 9, 10, 11, 12, 13, 14, 15, 16] (by decide +kernel) (by decide +kernel)
set_option maxRecDepth 20000 in
theorem gX0_flatOf_X0_kindAt : GoodIn wsX0_flatOf (wsV RX0 76 RX0 yX0_kindAt wsX0_kindAt) := goodIn_app (goodIn_of _ (by decide +kernel)) ggX0_flatOf_X0_kindAt
theorem dX0_flatOf_0 : decode cX0_flatOf 0 = .ok (.aload_n 0, 1) := by decide +kernel
theorem dX0_flatOf_1 : decode cX0_flatOf 1 = .ok (.iload_n 1, 1) := by decide +kernel
theorem dX0_flatOf_2 : decode cX0_flatOf 2 = .ok (.invokevirtual 76, 3) := by decide +kernel
theorem dX0_flatOf_5 : decode cX0_flatOf 5 = .ok (.iconst 4, 1) := by decide +kernel
theorem dX0_flatOf_6 : decode cX0_flatOf 6 = .ok (.if_icmp .ne 14, 3) := by decide +kernel
theorem dX0_flatOf_9 : decode cX0_flatOf 9 = .ok (.aload_n 0, 1) := by decide +kernel
theorem dX0_flatOf_10 : decode cX0_flatOf 10 = .ok (.getfield 23, 3) := by decide +kernel
theorem dX0_flatOf_13 : decode cX0_flatOf 13 = .ok (.iload_n 1, 1) := by decide +kernel
theorem dX0_flatOf_14 : decode cX0_flatOf 14 = .ok (.iconst 3, 1) := by decide +kernel
theorem dX0_flatOf_15 : decode cX0_flatOf 15 = .ok (.iadd, 1) := by decide +kernel
theorem dX0_flatOf_16 : decode cX0_flatOf 16 = .ok (.iaload, 1) := by decide +kernel
theorem dX0_flatOf_17 : decode cX0_flatOf 17 = .ok (.goto 4, 3) := by decide +kernel
theorem dX0_flatOf_20 : decode cX0_flatOf 20 = .ok (.iload_n 1, 1) := by decide +kernel
theorem dX0_flatOf_21 : decode cX0_flatOf 21 = .ok (.ireturn, 1) := by decide +kernel
theorem dX0_unitAt_0 : decode cX0_unitAt 0 = .ok (.aload_n 0, 1) := by decide +kernel
theorem dX0_unitAt_1 : decode cX0_unitAt 1 = .ok (.getfield 23, 3) := by decide +kernel
theorem dX0_unitAt_4 : decode cX0_unitAt 4 = .ok (.iload_n 1, 1) := by decide +kernel
theorem dX0_unitAt_5 : decode cX0_unitAt 5 = .ok (.iconst 4, 1) := by decide +kernel
theorem dX0_unitAt_6 : decode cX0_unitAt 6 = .ok (.iadd, 1) := by decide +kernel
theorem dX0_unitAt_7 : decode cX0_unitAt 7 = .ok (.iload_n 2, 1) := by decide +kernel
theorem dX0_unitAt_8 : decode cX0_unitAt 8 = .ok (.iconst 2, 1) := by decide +kernel
theorem dX0_unitAt_9 : decode cX0_unitAt 9 = .ok (.idiv, 1) := by decide +kernel
theorem dX0_unitAt_10 : decode cX0_unitAt 10 = .ok (.iadd, 1) := by decide +kernel
theorem dX0_unitAt_11 : decode cX0_unitAt 11 = .ok (.iaload, 1) := by decide +kernel
theorem dX0_unitAt_12 : decode cX0_unitAt 12 = .ok (.bipush 16, 2) := by decide +kernel
theorem dX0_unitAt_14 : decode cX0_unitAt 14 = .ok (.iload_n 2, 1) := by decide +kernel
theorem dX0_unitAt_15 : decode cX0_unitAt 15 = .ok (.iconst 2, 1) := by decide +kernel
theorem dX0_unitAt_16 : decode cX0_unitAt 16 = .ok (.irem, 1) := by decide +kernel
theorem dX0_unitAt_17 : decode cX0_unitAt 17 = .ok (.imul, 1) := by decide +kernel
theorem dX0_unitAt_18 : decode cX0_unitAt 18 = .ok (.iushr, 1) := by decide +kernel
theorem dX0_unitAt_19 : decode cX0_unitAt 19 = .ok (.ldc 107, 2) := by decide +kernel
theorem dX0_unitAt_21 : decode cX0_unitAt 21 = .ok (.iand, 1) := by decide +kernel
theorem dX0_unitAt_22 : decode cX0_unitAt 22 = .ok (.ireturn, 1) := by decide +kernel
theorem dX0_putUnit_0 : decode cX0_putUnit 0 = .ok (.aload_n 0, 1) := by decide +kernel
theorem dX0_putUnit_1 : decode cX0_putUnit 1 = .ok (.getfield 23, 3) := by decide +kernel
theorem dX0_putUnit_4 : decode cX0_putUnit 4 = .ok (.iload_n 1, 1) := by decide +kernel
theorem dX0_putUnit_5 : decode cX0_putUnit 5 = .ok (.iconst 4, 1) := by decide +kernel
theorem dX0_putUnit_6 : decode cX0_putUnit 6 = .ok (.iadd, 1) := by decide +kernel
theorem dX0_putUnit_7 : decode cX0_putUnit 7 = .ok (.iload_n 2, 1) := by decide +kernel
theorem dX0_putUnit_8 : decode cX0_putUnit 8 = .ok (.iconst 2, 1) := by decide +kernel
theorem dX0_putUnit_9 : decode cX0_putUnit 9 = .ok (.idiv, 1) := by decide +kernel
theorem dX0_putUnit_10 : decode cX0_putUnit 10 = .ok (.iadd, 1) := by decide +kernel
theorem dX0_putUnit_11 : decode cX0_putUnit 11 = .ok (.dup2, 1) := by decide +kernel
theorem dX0_putUnit_12 : decode cX0_putUnit 12 = .ok (.iaload, 1) := by decide +kernel
theorem dX0_putUnit_13 : decode cX0_putUnit 13 = .ok (.iload_n 3, 1) := by decide +kernel
theorem dX0_putUnit_14 : decode cX0_putUnit 14 = .ok (.bipush 16, 2) := by decide +kernel
theorem dX0_putUnit_16 : decode cX0_putUnit 16 = .ok (.iload_n 2, 1) := by decide +kernel
theorem dX0_putUnit_17 : decode cX0_putUnit 17 = .ok (.iconst 2, 1) := by decide +kernel
theorem dX0_putUnit_18 : decode cX0_putUnit 18 = .ok (.irem, 1) := by decide +kernel
theorem dX0_putUnit_19 : decode cX0_putUnit 19 = .ok (.imul, 1) := by decide +kernel
theorem dX0_putUnit_20 : decode cX0_putUnit 20 = .ok (.ishl, 1) := by decide +kernel
theorem dX0_putUnit_21 : decode cX0_putUnit 21 = .ok (.ior, 1) := by decide +kernel
theorem dX0_putUnit_22 : decode cX0_putUnit 22 = .ok (.iastore, 1) := by decide +kernel
theorem dX0_putUnit_23 : decode cX0_putUnit 23 = .ok (.return_, 1) := by decide +kernel
set_option maxRecDepth 20000 in
theorem ggX0_copyUnits_X0_unitAt : GoodIn wsX0_copyUnits wsX0_unitAt := goodIn_r _ [5, 6, 7, 12, 13, 14, 15, 16, 17, 18, 19, 20, 21] (by decide +kernel) (by decide +kernel)
set_option maxRecDepth 20000 in
theorem gX0_copyUnits_X0_unitAt : GoodIn wsX0_copyUnits (wsV RX0 143 RX0 yX0_unitAt wsX0_unitAt) := goodIn_app (goodIn_of _ (by decide +kernel)) ggX0_copyUnits_X0_unitAt
set_option maxRecDepth 20000 in
theorem ggX0_copyUnits_X0_putUnit : GoodIn wsX0_copyUnits wsX0_putUnit := goodIn_r _ [11, 6, 12, 13, 14, 15, 16, 17, 18, 19, 20, 21] (by decide +kernel) (by decide +kernel)
set_option maxRecDepth 20000 in
theorem gX0_copyUnits_X0_putUnit : GoodIn wsX0_copyUnits (wsV RX0 108 RX0 yX0_putUnit wsX0_putUnit) := goodIn_app (goodIn_of _ (by decide +kernel)) ggX0_copyUnits_X0_putUnit
theorem dX0_copyUnits_0 : decode cX0_copyUnits 0 = .ok (.iload_n 2, 1) := by decide +kernel
theorem dX0_copyUnits_1 : decode cX0_copyUnits 1 = .ok (.istore 6, 2) := by decide +kernel
theorem dX0_copyUnits_3 : decode cX0_copyUnits 3 = .ok (.iload 6, 2) := by decide +kernel
theorem dX0_copyUnits_5 : decode cX0_copyUnits 5 = .ok (.iload_n 3, 1) := by decide +kernel
theorem dX0_copyUnits_6 : decode cX0_copyUnits 6 = .ok (.if_icmp .ge 29, 3) := by decide +kernel
theorem dX0_copyUnits_9 : decode cX0_copyUnits 9 = .ok (.aload_n 0, 1) := by decide +kernel
theorem dX0_copyUnits_10 : decode cX0_copyUnits 10 = .ok (.iload 4, 2) := by decide +kernel
theorem dX0_copyUnits_12 : decode cX0_copyUnits 12 = .ok (.iload 5, 2) := by decide +kernel
theorem dX0_copyUnits_14 : decode cX0_copyUnits 14 = .ok (.iload 6, 2) := by decide +kernel
theorem dX0_copyUnits_16 : decode cX0_copyUnits 16 = .ok (.iadd, 1) := by decide +kernel
theorem dX0_copyUnits_17 : decode cX0_copyUnits 17 = .ok (.iload_n 2, 1) := by decide +kernel
theorem dX0_copyUnits_18 : decode cX0_copyUnits 18 = .ok (.isub, 1) := by decide +kernel
theorem dX0_copyUnits_19 : decode cX0_copyUnits 19 = .ok (.aload_n 0, 1) := by decide +kernel
theorem dX0_copyUnits_20 : decode cX0_copyUnits 20 = .ok (.iload_n 1, 1) := by decide +kernel
theorem dX0_copyUnits_21 : decode cX0_copyUnits 21 = .ok (.iload 6, 2) := by decide +kernel
theorem dX0_copyUnits_23 : decode cX0_copyUnits 23 = .ok (.invokevirtual 143, 3) := by decide +kernel
theorem dX0_copyUnits_26 : decode cX0_copyUnits 26 = .ok (.invokevirtual 108, 3) := by decide +kernel
theorem dX0_copyUnits_29 : decode cX0_copyUnits 29 = .ok (.iinc 6 1, 3) := by decide +kernel
theorem dX0_copyUnits_32 : decode cX0_copyUnits 32 = .ok (.goto (-29), 3) := by decide +kernel
theorem dX0_copyUnits_35 : decode cX0_copyUnits 35 = .ok (.return_, 1) := by decide +kernel
set_option maxRecDepth 20000 in
theorem ggX0_copyAllUnits_X0_kindAt : GoodIn wsX0_copyAllUnits wsX0_kindAt := goodIn_r _ [7, 2, 33, 34, 35, 36, 37, 38, 39, 40, 41, 42] (by decide +kernel) (by decide +kernel)
set_option maxRecDepth 20000 in
theorem gX0_copyAllUnits_X0_kindAt : GoodIn wsX0_copyAllUnits (wsV RX0 76 RX0 yX0_kindAt wsX0_kindAt) := goodIn_app (goodIn_of _ (by decide +kernel)) ggX0_copyAllUnits_X0_kindAt
set_option maxRecDepth 20000 in
theorem ggX0_copyAllUnits_X0_flatOf : GoodIn wsX0_copyAllUnits wsX0_flatOf := goodIn_r _ [11, 2, 3, 4, 5, 6, 7, 33, 34, 35, 36, 37, 38, 39, 40, 41, 42] (by decide +kernel) (by decide +kernel)
set_option maxRecDepth 20000 in
theorem gX0_copyAllUnits_X0_flatOf : GoodIn wsX0_copyAllUnits (wsV RX0 134 RX0 yX0_flatOf wsX0_flatOf) := goodIn_app (goodIn_of _ (by decide +kernel)) ggX0_copyAllUnits_X0_flatOf
set_option maxRecDepth 20000 in
theorem ggX0_copyAllUnits_X0_lengthAt : GoodIn wsX0_copyAllUnits wsX0_lengthAt := goodIn_r _ [15, 2, 16, 17, 18, 6, 19, 33, 34, 35, 36, 37, 38, 39, 40, 41, 42] (by decide +kernel) (by decide +kernel)
set_option maxRecDepth 20000 in
theorem gX0_copyAllUnits_X0_lengthAt : GoodIn wsX0_copyAllUnits (wsV RX0 187 RX0 yX0_lengthAt wsX0_lengthAt) := goodIn_app (goodIn_of _ (by decide +kernel)) ggX0_copyAllUnits_X0_lengthAt
set_option maxRecDepth 20000 in
theorem ggX0_copyAllUnits_X0_copyUnits : GoodIn wsX0_copyAllUnits wsX0_copyUnits := goodIn_r _ [23, 24, 25, 26, 6, 27, 2, 28, 29, 30, 31, 32, 33, 34, 35, 36, 37, 38, 39, 40, 41, 42] (by decide +kernel) (by decide +kernel)
set_option maxRecDepth 20000 in
theorem gX0_copyAllUnits_X0_copyUnits : GoodIn wsX0_copyAllUnits (wsV RX0 137 RX0 yX0_copyUnits wsX0_copyUnits) := goodIn_app (goodIn_of _ (by decide +kernel)) ggX0_copyAllUnits_X0_copyUnits
theorem dX0_copyAllUnits_0 : decode cX0_copyAllUnits 0 = .ok (.iconst 0, 1) := by decide +kernel
theorem dX0_copyAllUnits_1 : decode cX0_copyAllUnits 1 = .ok (.istore_n 3, 1) := by decide +kernel
theorem dX0_copyAllUnits_2 : decode cX0_copyAllUnits 2 = .ok (.iconst 1, 1) := by decide +kernel
theorem dX0_copyAllUnits_3 : decode cX0_copyAllUnits 3 = .ok (.istore 4, 2) := by decide +kernel
theorem dX0_copyAllUnits_5 : decode cX0_copyAllUnits 5 = .ok (.aload_n 0, 1) := by decide +kernel
theorem dX0_copyAllUnits_6 : decode cX0_copyAllUnits 6 = .ok (.getfield 45, 3) := by decide +kernel
theorem dX0_copyAllUnits_9 : decode cX0_copyAllUnits 9 = .ok (.iconst 0, 1) := by decide +kernel
theorem dX0_copyAllUnits_10 : decode cX0_copyAllUnits 10 = .ok (.iload_n 1, 1) := by decide +kernel
theorem dX0_copyAllUnits_11 : decode cX0_copyAllUnits 11 = .ok (.iastore, 1) := by decide +kernel
theorem dX0_copyAllUnits_12 : decode cX0_copyAllUnits 12 = .ok (.sipush 8000, 3) := by decide +kernel
theorem dX0_copyAllUnits_15 : decode cX0_copyAllUnits 15 = .ok (.istore 5, 2) := by decide +kernel
theorem dX0_copyAllUnits_17 : decode cX0_copyAllUnits 17 = .ok (.iload 5, 2) := by decide +kernel
theorem dX0_copyAllUnits_19 : decode cX0_copyAllUnits 19 = .ok (.ifCond .le 114, 3) := by decide +kernel
theorem dX0_copyAllUnits_22 : decode cX0_copyAllUnits 22 = .ok (.iload 4, 2) := by decide +kernel
theorem dX0_copyAllUnits_24 : decode cX0_copyAllUnits 24 = .ok (.ifCond .le 109, 3) := by decide +kernel
theorem dX0_copyAllUnits_27 : decode cX0_copyAllUnits 27 = .ok (.iload 4, 2) := by decide +kernel
theorem dX0_copyAllUnits_29 : decode cX0_copyAllUnits 29 = .ok (.sipush 4000, 3) := by decide +kernel
theorem dX0_copyAllUnits_32 : decode cX0_copyAllUnits 32 = .ok (.if_icmp .ge 101, 3) := by decide +kernel
theorem dX0_copyAllUnits_35 : decode cX0_copyAllUnits 35 = .ok (.aload_n 0, 1) := by decide +kernel
theorem dX0_copyAllUnits_36 : decode cX0_copyAllUnits 36 = .ok (.getfield 45, 3) := by decide +kernel
theorem dX0_copyAllUnits_39 : decode cX0_copyAllUnits 39 = .ok (.iload 4, 2) := by decide +kernel
theorem dX0_copyAllUnits_41 : decode cX0_copyAllUnits 41 = .ok (.iconst 1, 1) := by decide +kernel
theorem dX0_copyAllUnits_42 : decode cX0_copyAllUnits 42 = .ok (.isub, 1) := by decide +kernel
theorem dX0_copyAllUnits_43 : decode cX0_copyAllUnits 43 = .ok (.iaload, 1) := by decide +kernel
theorem dX0_copyAllUnits_44 : decode cX0_copyAllUnits 44 = .ok (.istore 6, 2) := by decide +kernel
theorem dX0_copyAllUnits_46 : decode cX0_copyAllUnits 46 = .ok (.aload_n 0, 1) := by decide +kernel
theorem dX0_copyAllUnits_47 : decode cX0_copyAllUnits 47 = .ok (.iload 6, 2) := by decide +kernel
theorem dX0_copyAllUnits_49 : decode cX0_copyAllUnits 49 = .ok (.invokevirtual 76, 3) := by decide +kernel
theorem dX0_copyAllUnits_52 : decode cX0_copyAllUnits 52 = .ok (.iconst 3, 1) := by decide +kernel
theorem dX0_copyAllUnits_53 : decode cX0_copyAllUnits 53 = .ok (.if_icmp .ne 43, 3) := by decide +kernel
theorem dX0_copyAllUnits_56 : decode cX0_copyAllUnits 56 = .ok (.aload_n 0, 1) := by decide +kernel
theorem dX0_copyAllUnits_57 : decode cX0_copyAllUnits 57 = .ok (.getfield 45, 3) := by decide +kernel
theorem dX0_copyAllUnits_60 : decode cX0_copyAllUnits 60 = .ok (.iload 4, 2) := by decide +kernel
theorem dX0_copyAllUnits_62 : decode cX0_copyAllUnits 62 = .ok (.iconst 1, 1) := by decide +kernel
theorem dX0_copyAllUnits_63 : decode cX0_copyAllUnits 63 = .ok (.isub, 1) := by decide +kernel
theorem dX0_copyAllUnits_64 : decode cX0_copyAllUnits 64 = .ok (.aload_n 0, 1) := by decide +kernel
theorem dX0_copyAllUnits_65 : decode cX0_copyAllUnits 65 = .ok (.getfield 23, 3) := by decide +kernel
theorem dX0_copyAllUnits_68 : decode cX0_copyAllUnits 68 = .ok (.iload 6, 2) := by decide +kernel
theorem dX0_copyAllUnits_70 : decode cX0_copyAllUnits 70 = .ok (.iconst 4, 1) := by decide +kernel
theorem dX0_copyAllUnits_71 : decode cX0_copyAllUnits 71 = .ok (.iadd, 1) := by decide +kernel
theorem dX0_copyAllUnits_72 : decode cX0_copyAllUnits 72 = .ok (.iaload, 1) := by decide +kernel
theorem dX0_copyAllUnits_73 : decode cX0_copyAllUnits 73 = .ok (.iastore, 1) := by decide +kernel
theorem dX0_copyAllUnits_74 : decode cX0_copyAllUnits 74 = .ok (.aload_n 0, 1) := by decide +kernel
theorem dX0_copyAllUnits_75 : decode cX0_copyAllUnits 75 = .ok (.getfield 45, 3) := by decide +kernel
theorem dX0_copyAllUnits_78 : decode cX0_copyAllUnits 78 = .ok (.iload 4, 2) := by decide +kernel
theorem dX0_copyAllUnits_80 : decode cX0_copyAllUnits 80 = .ok (.aload_n 0, 1) := by decide +kernel
theorem dX0_copyAllUnits_81 : decode cX0_copyAllUnits 81 = .ok (.getfield 23, 3) := by decide +kernel
theorem dX0_copyAllUnits_84 : decode cX0_copyAllUnits 84 = .ok (.iload 6, 2) := by decide +kernel
theorem dX0_copyAllUnits_86 : decode cX0_copyAllUnits 86 = .ok (.iconst 3, 1) := by decide +kernel
theorem dX0_copyAllUnits_87 : decode cX0_copyAllUnits 87 = .ok (.iadd, 1) := by decide +kernel
theorem dX0_copyAllUnits_88 : decode cX0_copyAllUnits 88 = .ok (.iaload, 1) := by decide +kernel
theorem dX0_copyAllUnits_89 : decode cX0_copyAllUnits 89 = .ok (.iastore, 1) := by decide +kernel
theorem dX0_copyAllUnits_90 : decode cX0_copyAllUnits 90 = .ok (.iinc 4 1, 3) := by decide +kernel
theorem dX0_copyAllUnits_93 : decode cX0_copyAllUnits 93 = .ok (.goto 34, 3) := by decide +kernel
theorem dX0_copyAllUnits_96 : decode cX0_copyAllUnits 96 = .ok (.aload_n 0, 1) := by decide +kernel
theorem dX0_copyAllUnits_97 : decode cX0_copyAllUnits 97 = .ok (.aload_n 0, 1) := by decide +kernel
theorem dX0_copyAllUnits_98 : decode cX0_copyAllUnits 98 = .ok (.iload 6, 2) := by decide +kernel
theorem dX0_copyAllUnits_100 : decode cX0_copyAllUnits 100 = .ok (.invokevirtual 134, 3) := by decide +kernel
theorem dX0_copyAllUnits_103 : decode cX0_copyAllUnits 103 = .ok (.iconst 0, 1) := by decide +kernel
theorem dX0_copyAllUnits_104 : decode cX0_copyAllUnits 104 = .ok (.aload_n 0, 1) := by decide +kernel
theorem dX0_copyAllUnits_105 : decode cX0_copyAllUnits 105 = .ok (.iload 6, 2) := by decide +kernel
theorem dX0_copyAllUnits_107 : decode cX0_copyAllUnits 107 = .ok (.invokevirtual 187, 3) := by decide +kernel
theorem dX0_copyAllUnits_110 : decode cX0_copyAllUnits 110 = .ok (.iload_n 2, 1) := by decide +kernel
theorem dX0_copyAllUnits_111 : decode cX0_copyAllUnits 111 = .ok (.iload_n 3, 1) := by decide +kernel
theorem dX0_copyAllUnits_112 : decode cX0_copyAllUnits 112 = .ok (.invokevirtual 137, 3) := by decide +kernel
theorem dX0_copyAllUnits_115 : decode cX0_copyAllUnits 115 = .ok (.iload_n 3, 1) := by decide +kernel
theorem dX0_copyAllUnits_116 : decode cX0_copyAllUnits 116 = .ok (.aload_n 0, 1) := by decide +kernel
theorem dX0_copyAllUnits_117 : decode cX0_copyAllUnits 117 = .ok (.iload 6, 2) := by decide +kernel
theorem dX0_copyAllUnits_119 : decode cX0_copyAllUnits 119 = .ok (.invokevirtual 187, 3) := by decide +kernel
theorem dX0_copyAllUnits_122 : decode cX0_copyAllUnits 122 = .ok (.iadd, 1) := by decide +kernel
theorem dX0_copyAllUnits_123 : decode cX0_copyAllUnits 123 = .ok (.istore_n 3, 1) := by decide +kernel
theorem dX0_copyAllUnits_124 : decode cX0_copyAllUnits 124 = .ok (.iinc 4 (-1), 3) := by decide +kernel
theorem dX0_copyAllUnits_127 : decode cX0_copyAllUnits 127 = .ok (.iinc 5 (-1), 3) := by decide +kernel
theorem dX0_copyAllUnits_130 : decode cX0_copyAllUnits 130 = .ok (.goto (-113), 3) := by decide +kernel
theorem dX0_copyAllUnits_133 : decode cX0_copyAllUnits 133 = .ok (.return_, 1) := by decide +kernel
set_option maxRecDepth 20000 in
theorem ggX0_findName_X0_hasSameUnits : GoodIn wsX0_findName wsX0_hasSameUnits := goodIn_r _ [7, 8, 9, 10, 11, 6, 12, 13, 14, 15, 16, 17, 18, 19, 20, 21, 22, 23, 24, 25, 26, 27, 28, 29, 30] (by decide +kernel) (by decide +kernel)
set_option maxRecDepth 20000 in
theorem gX0_findName_X0_hasSameUnits : GoodIn wsX0_findName (wsV RX0 200 RX0 yX0_hasSameUnits wsX0_hasSameUnits) := goodIn_app (goodIn_of _ (by decide +kernel)) ggX0_findName_X0_hasSameUnits
theorem dX0_findName_0 : decode cX0_findName 0 = .ok (.iconst 0, 1) := by decide +kernel
theorem dX0_findName_1 : decode cX0_findName 1 = .ok (.istore_n 2, 1) := by decide +kernel
theorem dX0_findName_2 : decode cX0_findName 2 = .ok (.iload_n 2, 1) := by decide +kernel
theorem dX0_findName_3 : decode cX0_findName 3 = .ok (.aload_n 0, 1) := by decide +kernel
theorem dX0_findName_4 : decode cX0_findName 4 = .ok (.getfield 42, 3) := by decide +kernel
theorem dX0_findName_7 : decode cX0_findName 7 = .ok (.if_icmp .ge 30, 3) := by decide +kernel
theorem dX0_findName_10 : decode cX0_findName 10 = .ok (.aload_n 0, 1) := by decide +kernel
theorem dX0_findName_11 : decode cX0_findName 11 = .ok (.aload_n 0, 1) := by decide +kernel
theorem dX0_findName_12 : decode cX0_findName 12 = .ok (.getfield 39, 3) := by decide +kernel
theorem dX0_findName_15 : decode cX0_findName 15 = .ok (.iload_n 2, 1) := by decide +kernel
theorem dX0_findName_16 : decode cX0_findName 16 = .ok (.iaload, 1) := by decide +kernel
theorem dX0_findName_17 : decode cX0_findName 17 = .ok (.iload_n 1, 1) := by decide +kernel
theorem dX0_findName_18 : decode cX0_findName 18 = .ok (.invokevirtual 200, 3) := by decide +kernel
theorem dX0_findName_21 : decode cX0_findName 21 = .ok (.ifCond .eq 10, 3) := by decide +kernel
theorem dX0_findName_24 : decode cX0_findName 24 = .ok (.aload_n 0, 1) := by decide +kernel
theorem dX0_findName_25 : decode cX0_findName 25 = .ok (.getfield 39, 3) := by decide +kernel
theorem dX0_findName_28 : decode cX0_findName 28 = .ok (.iload_n 2, 1) := by decide +kernel
theorem dX0_findName_29 : decode cX0_findName 29 = .ok (.iaload, 1) := by decide +kernel
theorem dX0_findName_30 : decode cX0_findName 30 = .ok (.ireturn, 1) := by decide +kernel
theorem dX0_findName_31 : decode cX0_findName 31 = .ok (.iinc 2 1, 3) := by decide +kernel
theorem dX0_findName_34 : decode cX0_findName 34 = .ok (.goto (-32), 3) := by decide +kernel
theorem dX0_findName_37 : decode cX0_findName 37 = .ok (.iconst (-1), 1) := by decide +kernel
theorem dX0_findName_38 : decode cX0_findName 38 = .ok (.ireturn, 1) := by decide +kernel
set_option maxRecDepth 20000 in
theorem ggX0_hasSameUnits_X0_lengthAt : GoodIn wsX0_hasSameUnits wsX0_lengthAt := goodIn_r _ [6, 1, 7, 8, 9, 5, 10, 15, 16, 17, 18, 19, 20, 21, 22, 23, 24] (by decide +kernel) (by decide +kernel)
set_option maxRecDepth 20000 in
theorem gX0_hasSameUnits_X0_lengthAt : GoodIn wsX0_hasSameUnits (wsV RX0 187 RX0 yX0_lengthAt wsX0_lengthAt) := goodIn_app (goodIn_of _ (by decide +kernel)) ggX0_hasSameUnits_X0_lengthAt
set_option maxRecDepth 20000 in
theorem ggX0_hasSameUnits_X0_sizeAt : GoodIn wsX0_hasSameUnits wsX0_sizeAt := goodIn_r _ [14, 1, 15, 16, 17, 18, 19, 20, 21, 22, 23, 24] (by decide +kernel) (by decide +kernel)
set_option maxRecDepth 20000 in
theorem gX0_hasSameUnits_X0_sizeAt : GoodIn wsX0_hasSameUnits (wsV RX0 181 RX0 yX0_sizeAt wsX0_sizeAt) := goodIn_app (goodIn_of _ (by decide +kernel)) ggX0_hasSameUnits_X0_sizeAt
theorem dX0_hasSameUnits_0 : decode cX0_hasSameUnits 0 = .ok (.aload_n 0, 1) := by decide +kernel
theorem dX0_hasSameUnits_1 : decode cX0_hasSameUnits 1 = .ok (.iload_n 1, 1) := by decide +kernel
theorem dX0_hasSameUnits_2 : decode cX0_hasSameUnits 2 = .ok (.invokevirtual 187, 3) := by decide +kernel
theorem dX0_hasSameUnits_5 : decode cX0_hasSameUnits 5 = .ok (.aload_n 0, 1) := by decide +kernel
theorem dX0_hasSameUnits_6 : decode cX0_hasSameUnits 6 = .ok (.iload_n 2, 1) := by decide +kernel
theorem dX0_hasSameUnits_7 : decode cX0_hasSameUnits 7 = .ok (.invokevirtual 187, 3) := by decide +kernel
theorem dX0_hasSameUnits_10 : decode cX0_hasSameUnits 10 = .ok (.if_icmp .eq 5, 3) := by decide +kernel
theorem dX0_hasSameUnits_13 : decode cX0_hasSameUnits 13 = .ok (.iconst 0, 1) := by decide +kernel
theorem dX0_hasSameUnits_14 : decode cX0_hasSameUnits 14 = .ok (.ireturn, 1) := by decide +kernel
theorem dX0_hasSameUnits_15 : decode cX0_hasSameUnits 15 = .ok (.aload_n 0, 1) := by decide +kernel
theorem dX0_hasSameUnits_16 : decode cX0_hasSameUnits 16 = .ok (.iload_n 1, 1) := by decide +kernel
theorem dX0_hasSameUnits_17 : decode cX0_hasSameUnits 17 = .ok (.invokevirtual 181, 3) := by decide +kernel
theorem dX0_hasSameUnits_20 : decode cX0_hasSameUnits 20 = .ok (.istore_n 3, 1) := by decide +kernel
theorem dX0_hasSameUnits_21 : decode cX0_hasSameUnits 21 = .ok (.iconst 4, 1) := by decide +kernel
theorem dX0_hasSameUnits_22 : decode cX0_hasSameUnits 22 = .ok (.istore 4, 2) := by decide +kernel
theorem dX0_hasSameUnits_24 : decode cX0_hasSameUnits 24 = .ok (.iload 4, 2) := by decide +kernel
theorem dX0_hasSameUnits_26 : decode cX0_hasSameUnits 26 = .ok (.iload_n 3, 1) := by decide +kernel
theorem dX0_hasSameUnits_27 : decode cX0_hasSameUnits 27 = .ok (.if_icmp .ge 32, 3) := by decide +kernel
theorem dX0_hasSameUnits_30 : decode cX0_hasSameUnits 30 = .ok (.aload_n 0, 1) := by decide +kernel
theorem dX0_hasSameUnits_31 : decode cX0_hasSameUnits 31 = .ok (.getfield 23, 3) := by decide +kernel
theorem dX0_hasSameUnits_34 : decode cX0_hasSameUnits 34 = .ok (.iload_n 1, 1) := by decide +kernel
theorem dX0_hasSameUnits_35 : decode cX0_hasSameUnits 35 = .ok (.iload 4, 2) := by decide +kernel
theorem dX0_hasSameUnits_37 : decode cX0_hasSameUnits 37 = .ok (.iadd, 1) := by decide +kernel
theorem dX0_hasSameUnits_38 : decode cX0_hasSameUnits 38 = .ok (.iaload, 1) := by decide +kernel
theorem dX0_hasSameUnits_39 : decode cX0_hasSameUnits 39 = .ok (.aload_n 0, 1) := by decide +kernel
theorem dX0_hasSameUnits_40 : decode cX0_hasSameUnits 40 = .ok (.getfield 23, 3) := by decide +kernel
theorem dX0_hasSameUnits_43 : decode cX0_hasSameUnits 43 = .ok (.iload_n 2, 1) := by decide +kernel
theorem dX0_hasSameUnits_44 : decode cX0_hasSameUnits 44 = .ok (.iload 4, 2) := by decide +kernel
theorem dX0_hasSameUnits_46 : decode cX0_hasSameUnits 46 = .ok (.iadd, 1) := by decide +kernel
theorem dX0_hasSameUnits_47 : decode cX0_hasSameUnits 47 = .ok (.iaload, 1) := by decide +kernel
theorem dX0_hasSameUnits_48 : decode cX0_hasSameUnits 48 = .ok (.if_icmp .eq 5, 3) := by decide +kernel
theorem dX0_hasSameUnits_51 : decode cX0_hasSameUnits 51 = .ok (.iconst 0, 1) := by decide +kernel
theorem dX0_hasSameUnits_52 : decode cX0_hasSameUnits 52 = .ok (.ireturn, 1) := by decide +kernel
theorem dX0_hasSameUnits_53 : decode cX0_hasSameUnits 53 = .ok (.iinc 4 1, 3) := by decide +kernel
theorem dX0_hasSameUnits_56 : decode cX0_hasSameUnits 56 = .ok (.goto (-32), 3) := by decide +kernel
theorem dX0_hasSameUnits_59 : decode cX0_hasSameUnits 59 = .ok (.iconst 1, 1) := by decide +kernel
theorem dX0_hasSameUnits_60 : decode cX0_hasSameUnits 60 = .ok (.ireturn, 1) := by decide +kernel
theorem dX0_isStressed_0 : decode cX0_isStressed 0 = .ok (.aload_n 0, 1) := by decide +kernel
theorem dX0_isStressed_1 : decode cX0_isStressed 1 = .ok (.getfield 51, 3) := by decide +kernel
theorem dX0_isStressed_4 : decode cX0_isStressed 4 = .ok (.ifCond .le 21, 3) := by decide +kernel
theorem dX0_isStressed_7 : decode cX0_isStressed 7 = .ok (.aload_n 0, 1) := by decide +kernel
theorem dX0_isStressed_8 : decode cX0_isStressed 8 = .ok (.getfield 54, 3) := by decide +kernel
theorem dX0_isStressed_11 : decode cX0_isStressed 11 = .ok (.iconst 1, 1) := by decide +kernel
theorem dX0_isStressed_12 : decode cX0_isStressed 12 = .ok (.iadd, 1) := by decide +kernel
theorem dX0_isStressed_13 : decode cX0_isStressed 13 = .ok (.aload_n 0, 1) := by decide +kernel
theorem dX0_isStressed_14 : decode cX0_isStressed 14 = .ok (.getfield 51, 3) := by decide +kernel
theorem dX0_isStressed_17 : decode cX0_isStressed 17 = .ok (.irem, 1) := by decide +kernel
theorem dX0_isStressed_18 : decode cX0_isStressed 18 = .ok (.ifCond .ne 7, 3) := by decide +kernel
theorem dX0_isStressed_21 : decode cX0_isStressed 21 = .ok (.iconst 1, 1) := by decide +kernel
theorem dX0_isStressed_22 : decode cX0_isStressed 22 = .ok (.goto 4, 3) := by decide +kernel
theorem dX0_isStressed_25 : decode cX0_isStressed 25 = .ok (.iconst 0, 1) := by decide +kernel
theorem dX0_isStressed_26 : decode cX0_isStressed 26 = .ok (.ireturn, 1) := by decide +kernel
set_option maxRecDepth 20000 in
theorem ggX0_touchRoots_X0_touch : GoodIn wsX0_touchRoots wsX0_touch := goodIn_r _ [6, 7, 8, 9, 10, 11, 12, 13, 14, 15, 16, 17, 18] (by decide +kernel) (by decide +kernel)
set_option maxRecDepth 20000 in
theorem gX0_touchRoots_X0_touch : GoodIn wsX0_touchRoots (wsV RX0 237 RX0 yX0_touch wsX0_touch) := goodIn_app (goodIn_of _ (by decide +kernel)) ggX0_touchRoots_X0_touch
theorem dX0_touchRoots_0 : decode cX0_touchRoots 0 = .ok (.iconst 0, 1) := by decide +kernel
theorem dX0_touchRoots_1 : decode cX0_touchRoots 1 = .ok (.istore_n 2, 1) := by decide +kernel
theorem dX0_touchRoots_2 : decode cX0_touchRoots 2 = .ok (.iload_n 2, 1) := by decide +kernel
theorem dX0_touchRoots_3 : decode cX0_touchRoots 3 = .ok (.bipush 24, 2) := by decide +kernel
theorem dX0_touchRoots_5 : decode cX0_touchRoots 5 = .ok (.if_icmp .ge 26, 3) := by decide +kernel
theorem dX0_touchRoots_8 : decode cX0_touchRoots 8 = .ok (.aload_n 0, 1) := by decide +kernel
theorem dX0_touchRoots_9 : decode cX0_touchRoots 9 = .ok (.getfield 30, 3) := by decide +kernel
theorem dX0_touchRoots_12 : decode cX0_touchRoots 12 = .ok (.iload_n 2, 1) := by decide +kernel
theorem dX0_touchRoots_13 : decode cX0_touchRoots 13 = .ok (.aload_n 0, 1) := by decide +kernel
theorem dX0_touchRoots_14 : decode cX0_touchRoots 14 = .ok (.aload_n 0, 1) := by decide +kernel
theorem dX0_touchRoots_15 : decode cX0_touchRoots 15 = .ok (.getfield 30, 3) := by decide +kernel
theorem dX0_touchRoots_18 : decode cX0_touchRoots 18 = .ok (.iload_n 2, 1) := by decide +kernel
theorem dX0_touchRoots_19 : decode cX0_touchRoots 19 = .ok (.iaload, 1) := by decide +kernel
theorem dX0_touchRoots_20 : decode cX0_touchRoots 20 = .ok (.iload_n 1, 1) := by decide +kernel
theorem dX0_touchRoots_21 : decode cX0_touchRoots 21 = .ok (.invokevirtual 237, 3) := by decide +kernel
theorem dX0_touchRoots_24 : decode cX0_touchRoots 24 = .ok (.iastore, 1) := by decide +kernel
theorem dX0_touchRoots_25 : decode cX0_touchRoots 25 = .ok (.iinc 2 1, 3) := by decide +kernel
theorem dX0_touchRoots_28 : decode cX0_touchRoots 28 = .ok (.goto (-26), 3) := by decide +kernel
theorem dX0_touchRoots_31 : decode cX0_touchRoots 31 = .ok (.return_, 1) := by decide +kernel
set_option maxRecDepth 20000 in
theorem ggX0_touchLeads_X0_linksAt : GoodIn wsX0_touchLeads wsX0_linksAt := goodIn_r _ [6, 1, 20, 21, 22, 23, 24, 25, 26, 27, 28, 29] (by decide +kernel) (by decide +kernel)
set_option maxRecDepth 20000 in
theorem gX0_touchLeads_X0_linksAt : GoodIn wsX0_touchLeads (wsV RX0 171 RX0 yX0_linksAt wsX0_linksAt) := goodIn_app (goodIn_of _ (by decide +kernel)) ggX0_touchLeads_X0_linksAt
set_option maxRecDepth 20000 in
theorem ggX0_touchLeads_X0_touch : GoodIn wsX0_touchLeads wsX0_touch := goodIn_r _ [10, 1, 11, 20, 21, 22, 23, 24, 25, 26, 27, 28, 29] (by decide +kernel) (by decide +kernel)
set_option maxRecDepth 20000 in
theorem gX0_touchLeads_X0_touch : GoodIn wsX0_touchLeads (wsV RX0 237 RX0 yX0_touch wsX0_touch) := goodIn_app (goodIn_of _ (by decide +kernel)) ggX0_touchLeads_X0_touch
set_option maxRecDepth 20000 in
theorem ggX0_touchLeads_X0_valuesAt : GoodIn wsX0_touchLeads wsX0_valuesAt := goodIn_r _ [15, 1, 20, 21, 22, 23, 24, 25, 26, 27, 28, 29] (by decide +kernel) (by decide +kernel)
set_option maxRecDepth 20000 in
theorem gX0_touchLeads_X0_valuesAt : GoodIn wsX0_touchLeads (wsV RX0 176 RX0 yX0_valuesAt wsX0_valuesAt) := goodIn_app (goodIn_of _ (by decide +kernel)) ggX0_touchLeads_X0_valuesAt
set_option maxRecDepth 20000 in
theorem ggX0_touchLeads_X0_isReference : GoodIn wsX0_touchLeads wsX0_isReference := goodIn_r _ [18, 19] (by decide +kernel) (by decide +kernel)
set_option maxRecDepth 20000 in
theorem gX0_touchLeads_X0_isReference : GoodIn wsX0_touchLeads (va_wsS RX0 86 yX0_isReference wsX0_isReference) := goodIn_app (goodIn_of _ (by decide +kernel)) ggX0_touchLeads_X0_isReference
theorem dX0_touchLeads_0 : decode cX0_touchLeads 0 = .ok (.iload_n 1, 1) := by decide +kernel
theorem dX0_touchLeads_1 : decode cX0_touchLeads 1 = .ok (.iconst 3, 1) := by decide +kernel
theorem dX0_touchLeads_2 : decode cX0_touchLeads 2 = .ok (.iadd, 1) := by decide +kernel
theorem dX0_touchLeads_3 : decode cX0_touchLeads 3 = .ok (.aload_n 0, 1) := by decide +kernel
theorem dX0_touchLeads_4 : decode cX0_touchLeads 4 = .ok (.iload_n 1, 1) := by decide +kernel
theorem dX0_touchLeads_5 : decode cX0_touchLeads 5 = .ok (.invokevirtual 171, 3) := by decide +kernel
theorem dX0_touchLeads_8 : decode cX0_touchLeads 8 = .ok (.iadd, 1) := by decide +kernel
theorem dX0_touchLeads_9 : decode cX0_touchLeads 9 = .ok (.istore_n 3, 1) := by decide +kernel
theorem dX0_touchLeads_10 : decode cX0_touchLeads 10 = .ok (.iload_n 1, 1) := by decide +kernel
theorem dX0_touchLeads_11 : decode cX0_touchLeads 11 = .ok (.iconst 3, 1) := by decide +kernel
theorem dX0_touchLeads_12 : decode cX0_touchLeads 12 = .ok (.iadd, 1) := by decide +kernel
theorem dX0_touchLeads_13 : decode cX0_touchLeads 13 = .ok (.istore 4, 2) := by decide +kernel
theorem dX0_touchLeads_15 : decode cX0_touchLeads 15 = .ok (.iload 4, 2) := by decide +kernel
theorem dX0_touchLeads_17 : decode cX0_touchLeads 17 = .ok (.iload_n 3, 1) := by decide +kernel
theorem dX0_touchLeads_18 : decode cX0_touchLeads 18 = .ok (.if_icmp .ge 28, 3) := by decide +kernel
theorem dX0_touchLeads_21 : decode cX0_touchLeads 21 = .ok (.aload_n 0, 1) := by decide +kernel
theorem dX0_touchLeads_22 : decode cX0_touchLeads 22 = .ok (.getfield 23, 3) := by decide +kernel
theorem dX0_touchLeads_25 : decode cX0_touchLeads 25 = .ok (.iload 4, 2) := by decide +kernel
theorem dX0_touchLeads_27 : decode cX0_touchLeads 27 = .ok (.aload_n 0, 1) := by decide +kernel
theorem dX0_touchLeads_28 : decode cX0_touchLeads 28 = .ok (.aload_n 0, 1) := by decide +kernel
theorem dX0_touchLeads_29 : decode cX0_touchLeads 29 = .ok (.getfield 23, 3) := by decide +kernel
theorem dX0_touchLeads_32 : decode cX0_touchLeads 32 = .ok (.iload 4, 2) := by decide +kernel
theorem dX0_touchLeads_34 : decode cX0_touchLeads 34 = .ok (.iaload, 1) := by decide +kernel
theorem dX0_touchLeads_35 : decode cX0_touchLeads 35 = .ok (.iload_n 2, 1) := by decide +kernel
theorem dX0_touchLeads_36 : decode cX0_touchLeads 36 = .ok (.invokevirtual 237, 3) := by decide +kernel
theorem dX0_touchLeads_39 : decode cX0_touchLeads 39 = .ok (.iastore, 1) := by decide +kernel
theorem dX0_touchLeads_40 : decode cX0_touchLeads 40 = .ok (.iinc 4 1, 3) := by decide +kernel
theorem dX0_touchLeads_43 : decode cX0_touchLeads 43 = .ok (.goto (-28), 3) := by decide +kernel
theorem dX0_touchLeads_46 : decode cX0_touchLeads 46 = .ok (.iload_n 3, 1) := by decide +kernel
theorem dX0_touchLeads_47 : decode cX0_touchLeads 47 = .ok (.iconst 2, 1) := by decide +kernel
theorem dX0_touchLeads_48 : decode cX0_touchLeads 48 = .ok (.aload_n 0, 1) := by decide +kernel
theorem dX0_touchLeads_49 : decode cX0_touchLeads 49 = .ok (.iload_n 1, 1) := by decide +kernel
theorem dX0_touchLeads_50 : decode cX0_touchLeads 50 = .ok (.invokevirtual 176, 3) := by decide +kernel
theorem dX0_touchLeads_53 : decode cX0_touchLeads 53 = .ok (.imul, 1) := by decide +kernel
theorem dX0_touchLeads_54 : decode cX0_touchLeads 54 = .ok (.iadd, 1) := by decide +kernel
theorem dX0_touchLeads_55 : decode cX0_touchLeads 55 = .ok (.istore 4, 2) := by decide +kernel
theorem dX0_touchLeads_57 : decode cX0_touchLeads 57 = .ok (.iload_n 3, 1) := by decide +kernel
theorem dX0_touchLeads_58 : decode cX0_touchLeads 58 = .ok (.istore 5, 2) := by decide +kernel
theorem dX0_touchLeads_60 : decode cX0_touchLeads 60 = .ok (.iload 5, 2) := by decide +kernel
theorem dX0_touchLeads_62 : decode cX0_touchLeads 62 = .ok (.iload 4, 2) := by decide +kernel
theorem dX0_touchLeads_64 : decode cX0_touchLeads 64 = .ok (.if_icmp .ge 45, 3) := by decide +kernel
theorem dX0_touchLeads_67 : decode cX0_touchLeads 67 = .ok (.aload_n 0, 1) := by decide +kernel
theorem dX0_touchLeads_68 : decode cX0_touchLeads 68 = .ok (.getfield 23, 3) := by decide +kernel
theorem dX0_touchLeads_71 : decode cX0_touchLeads 71 = .ok (.iload 5, 2) := by decide +kernel
theorem dX0_touchLeads_73 : decode cX0_touchLeads 73 = .ok (.iaload, 1) := by decide +kernel
theorem dX0_touchLeads_74 : decode cX0_touchLeads 74 = .ok (.invokestatic 86, 3) := by decide +kernel
theorem dX0_touchLeads_77 : decode cX0_touchLeads 77 = .ok (.ifCond .eq 26, 3) := by decide +kernel
theorem dX0_touchLeads_80 : decode cX0_touchLeads 80 = .ok (.aload_n 0, 1) := by decide +kernel
theorem dX0_touchLeads_81 : decode cX0_touchLeads 81 = .ok (.getfield 23, 3) := by decide +kernel
theorem dX0_touchLeads_84 : decode cX0_touchLeads 84 = .ok (.iload 5, 2) := by decide +kernel
theorem dX0_touchLeads_86 : decode cX0_touchLeads 86 = .ok (.iconst 1, 1) := by decide +kernel
theorem dX0_touchLeads_87 : decode cX0_touchLeads 87 = .ok (.iadd, 1) := by decide +kernel
theorem dX0_touchLeads_88 : decode cX0_touchLeads 88 = .ok (.aload_n 0, 1) := by decide +kernel
theorem dX0_touchLeads_89 : decode cX0_touchLeads 89 = .ok (.aload_n 0, 1) := by decide +kernel
theorem dX0_touchLeads_90 : decode cX0_touchLeads 90 = .ok (.getfield 23, 3) := by decide +kernel
theorem dX0_touchLeads_93 : decode cX0_touchLeads 93 = .ok (.iload 5, 2) := by decide +kernel
theorem dX0_touchLeads_95 : decode cX0_touchLeads 95 = .ok (.iconst 1, 1) := by decide +kernel
theorem dX0_touchLeads_96 : decode cX0_touchLeads 96 = .ok (.iadd, 1) := by decide +kernel
theorem dX0_touchLeads_97 : decode cX0_touchLeads 97 = .ok (.iaload, 1) := by decide +kernel
theorem dX0_touchLeads_98 : decode cX0_touchLeads 98 = .ok (.iload_n 2, 1) := by decide +kernel
theorem dX0_touchLeads_99 : decode cX0_touchLeads 99 = .ok (.invokevirtual 237, 3) := by decide +kernel
theorem dX0_touchLeads_102 : decode cX0_touchLeads 102 = .ok (.iastore, 1) := by decide +kernel
theorem dX0_touchLeads_103 : decode cX0_touchLeads 103 = .ok (.iinc 5 2, 3) := by decide +kernel
theorem dX0_touchLeads_106 : decode cX0_touchLeads 106 = .ok (.goto (-46), 3) := by decide +kernel
theorem dX0_touchLeads_109 : decode cX0_touchLeads 109 = .ok (.return_, 1) := by decide +kernel
theorem dX0_touch_0 : decode cX0_touch 0 = .ok (.iload_n 1, 1) := by decide +kernel
theorem dX0_touch_1 : decode cX0_touch 1 = .ok (.iconst (-1), 1) := by decide +kernel
theorem dX0_touch_2 : decode cX0_touch 2 = .ok (.if_icmp .ne 5, 3) := by decide +kernel
theorem dX0_touch_5 : decode cX0_touch 5 = .ok (.iconst (-1), 1) := by decide +kernel
theorem dX0_touch_6 : decode cX0_touch 6 = .ok (.ireturn, 1) := by decide +kernel
theorem dX0_touch_7 : decode cX0_touch 7 = .ok (.iload_n 2, 1) := by decide +kernel
theorem dX0_touch_8 : decode cX0_touch 8 = .ok (.ifCond .eq 12, 3) := by decide +kernel
theorem dX0_touch_11 : decode cX0_touch 11 = .ok (.aload_n 0, 1) := by decide +kernel
theorem dX0_touch_12 : decode cX0_touch 12 = .ok (.getfield 23, 3) := by decide +kernel
theorem dX0_touch_15 : decode cX0_touch 15 = .ok (.iload_n 1, 1) := by decide +kernel
theorem dX0_touch_16 : decode cX0_touch 16 = .ok (.iconst 1, 1) := by decide +kernel
theorem dX0_touch_17 : decode cX0_touch 17 = .ok (.iadd, 1) := by decide +kernel
theorem dX0_touch_18 : decode cX0_touch 18 = .ok (.iaload, 1) := by decide +kernel
theorem dX0_touch_19 : decode cX0_touch 19 = .ok (.ireturn, 1) := by decide +kernel
theorem dX0_touch_20 : decode cX0_touch 20 = .ok (.aload_n 0, 1) := by decide +kernel
theorem dX0_touch_21 : decode cX0_touch 21 = .ok (.getfield 23, 3) := by decide +kernel
theorem dX0_touch_24 : decode cX0_touch 24 = .ok (.iload_n 1, 1) := by decide +kernel
theorem dX0_touch_25 : decode cX0_touch 25 = .ok (.iconst 1, 1) := by decide +kernel
theorem dX0_touch_26 : decode cX0_touch 26 = .ok (.iadd, 1) := by decide +kernel
theorem dX0_touch_27 : decode cX0_touch 27 = .ok (.iaload, 1) := by decide +kernel
theorem dX0_touch_28 : decode cX0_touch 28 = .ok (.iconst (-1), 1) := by decide +kernel
theorem dX0_touch_29 : decode cX0_touch 29 = .ok (.if_icmp .ne 29, 3) := by decide +kernel
theorem dX0_touch_32 : decode cX0_touch 32 = .ok (.aload_n 0, 1) := by decide +kernel
theorem dX0_touch_33 : decode cX0_touch 33 = .ok (.getfield 23, 3) := by decide +kernel
theorem dX0_touch_36 : decode cX0_touch 36 = .ok (.iload_n 1, 1) := by decide +kernel
theorem dX0_touch_37 : decode cX0_touch 37 = .ok (.iconst 1, 1) := by decide +kernel
theorem dX0_touch_38 : decode cX0_touch 38 = .ok (.iadd, 1) := by decide +kernel
theorem dX0_touch_39 : decode cX0_touch 39 = .ok (.iload_n 1, 1) := by decide +kernel
theorem dX0_touch_40 : decode cX0_touch 40 = .ok (.iastore, 1) := by decide +kernel
theorem dX0_touch_41 : decode cX0_touch 41 = .ok (.aload_n 0, 1) := by decide +kernel
theorem dX0_touch_42 : decode cX0_touch 42 = .ok (.getfield 23, 3) := by decide +kernel
theorem dX0_touch_45 : decode cX0_touch 45 = .ok (.iload_n 1, 1) := by decide +kernel
theorem dX0_touch_46 : decode cX0_touch 46 = .ok (.iconst 2, 1) := by decide +kernel
theorem dX0_touch_47 : decode cX0_touch 47 = .ok (.iadd, 1) := by decide +kernel
theorem dX0_touch_48 : decode cX0_touch 48 = .ok (.aload_n 0, 1) := by decide +kernel
theorem dX0_touch_49 : decode cX0_touch 49 = .ok (.getfield 48, 3) := by decide +kernel
theorem dX0_touch_52 : decode cX0_touch 52 = .ok (.iastore, 1) := by decide +kernel
theorem dX0_touch_53 : decode cX0_touch 53 = .ok (.aload_n 0, 1) := by decide +kernel
theorem dX0_touch_54 : decode cX0_touch 54 = .ok (.iload_n 1, 1) := by decide +kernel
theorem dX0_touch_55 : decode cX0_touch 55 = .ok (.putfield 48, 3) := by decide +kernel
theorem dX0_touch_58 : decode cX0_touch 58 = .ok (.iload_n 1, 1) := by decide +kernel
theorem dX0_touch_59 : decode cX0_touch 59 = .ok (.ireturn, 1) := by decide +kernel
set_option maxRecDepth 20000 in
theorem ggX0_planMoves_X0_sizeAt : GoodIn wsX0_planMoves wsX0_sizeAt := goodIn_r _ [7, 2, 8, 9, 10, 11, 12, 13, 14, 15, 16, 17] (by decide +kernel) (by decide +kernel)
set_option maxRecDepth 20000 in
theorem gX0_planMoves_X0_sizeAt : GoodIn wsX0_planMoves (wsV RX0 181 RX0 yX0_sizeAt wsX0_sizeAt) := goodIn_app (goodIn_of _ (by decide +kernel)) ggX0_planMoves_X0_sizeAt
theorem dX0_planMoves_0 : decode cX0_planMoves 0 = .ok (.iconst 0, 1) := by decide +kernel
theorem dX0_planMoves_1 : decode cX0_planMoves 1 = .ok (.istore_n 1, 1) := by decide +kernel
theorem dX0_planMoves_2 : decode cX0_planMoves 2 = .ok (.iconst 0, 1) := by decide +kernel
theorem dX0_planMoves_3 : decode cX0_planMoves 3 = .ok (.istore_n 2, 1) := by decide +kernel
theorem dX0_planMoves_4 : decode cX0_planMoves 4 = .ok (.iload_n 2, 1) := by decide +kernel
theorem dX0_planMoves_5 : decode cX0_planMoves 5 = .ok (.aload_n 0, 1) := by decide +kernel
theorem dX0_planMoves_6 : decode cX0_planMoves 6 = .ok (.getfield 27, 3) := by decide +kernel
theorem dX0_planMoves_9 : decode cX0_planMoves 9 = .ok (.if_icmp .ge 43, 3) := by decide +kernel
theorem dX0_planMoves_12 : decode cX0_planMoves 12 = .ok (.aload_n 0, 1) := by decide +kernel
theorem dX0_planMoves_13 : decode cX0_planMoves 13 = .ok (.getfield 23, 3) := by decide +kernel
theorem dX0_planMoves_16 : decode cX0_planMoves 16 = .ok (.iload_n 2, 1) := by decide +kernel
theorem dX0_planMoves_17 : decode cX0_planMoves 17 = .ok (.iconst 1, 1) := by decide +kernel
theorem dX0_planMoves_18 : decode cX0_planMoves 18 = .ok (.iadd, 1) := by decide +kernel
theorem dX0_planMoves_19 : decode cX0_planMoves 19 = .ok (.iaload, 1) := by decide +kernel
theorem dX0_planMoves_20 : decode cX0_planMoves 20 = .ok (.iconst (-1), 1) := by decide +kernel
theorem dX0_planMoves_21 : decode cX0_planMoves 21 = .ok (.if_icmp .eq 20, 3) := by decide +kernel
theorem dX0_planMoves_24 : decode cX0_planMoves 24 = .ok (.aload_n 0, 1) := by decide +kernel
theorem dX0_planMoves_25 : decode cX0_planMoves 25 = .ok (.getfield 23, 3) := by decide +kernel
theorem dX0_planMoves_28 : decode cX0_planMoves 28 = .ok (.iload_n 2, 1) := by decide +kernel
theorem dX0_planMoves_29 : decode cX0_planMoves 29 = .ok (.iconst 1, 1) := by decide +kernel
theorem dX0_planMoves_30 : decode cX0_planMoves 30 = .ok (.iadd, 1) := by decide +kernel
theorem dX0_planMoves_31 : decode cX0_planMoves 31 = .ok (.iload_n 1, 1) := by decide +kernel
theorem dX0_planMoves_32 : decode cX0_planMoves 32 = .ok (.iastore, 1) := by decide +kernel
theorem dX0_planMoves_33 : decode cX0_planMoves 33 = .ok (.iload_n 1, 1) := by decide +kernel
theorem dX0_planMoves_34 : decode cX0_planMoves 34 = .ok (.aload_n 0, 1) := by decide +kernel
theorem dX0_planMoves_35 : decode cX0_planMoves 35 = .ok (.iload_n 2, 1) := by decide +kernel
theorem dX0_planMoves_36 : decode cX0_planMoves 36 = .ok (.invokevirtual 181, 3) := by decide +kernel
theorem dX0_planMoves_39 : decode cX0_planMoves 39 = .ok (.iadd, 1) := by decide +kernel
theorem dX0_planMoves_40 : decode cX0_planMoves 40 = .ok (.istore_n 1, 1) := by decide +kernel
theorem dX0_planMoves_41 : decode cX0_planMoves 41 = .ok (.iload_n 2, 1) := by decide +kernel
theorem dX0_planMoves_42 : decode cX0_planMoves 42 = .ok (.aload_n 0, 1) := by decide +kernel
theorem dX0_planMoves_43 : decode cX0_planMoves 43 = .ok (.iload_n 2, 1) := by decide +kernel
theorem dX0_planMoves_44 : decode cX0_planMoves 44 = .ok (.invokevirtual 181, 3) := by decide +kernel
theorem dX0_planMoves_47 : decode cX0_planMoves 47 = .ok (.iadd, 1) := by decide +kernel
theorem dX0_planMoves_48 : decode cX0_planMoves 48 = .ok (.istore_n 2, 1) := by decide +kernel
theorem dX0_planMoves_49 : decode cX0_planMoves 49 = .ok (.goto (-45), 3) := by decide +kernel
theorem dX0_planMoves_52 : decode cX0_planMoves 52 = .ok (.iload_n 1, 1) := by decide +kernel
theorem dX0_planMoves_53 : decode cX0_planMoves 53 = .ok (.ireturn, 1) := by decide +kernel
theorem dX0_keepNames_0 : decode cX0_keepNames 0 = .ok (.iconst 0, 1) := by decide +kernel
theorem dX0_keepNames_1 : decode cX0_keepNames 1 = .ok (.istore_n 1, 1) := by decide +kernel
theorem dX0_keepNames_2 : decode cX0_keepNames 2 = .ok (.iconst 0, 1) := by decide +kernel
theorem dX0_keepNames_3 : decode cX0_keepNames 3 = .ok (.istore_n 2, 1) := by decide +kernel
theorem dX0_keepNames_4 : decode cX0_keepNames 4 = .ok (.iload_n 2, 1) := by decide +kernel
theorem dX0_keepNames_5 : decode cX0_keepNames 5 = .ok (.aload_n 0, 1) := by decide +kernel
theorem dX0_keepNames_6 : decode cX0_keepNames 6 = .ok (.getfield 42, 3) := by decide +kernel
theorem dX0_keepNames_9 : decode cX0_keepNames 9 = .ok (.if_icmp .ge 38, 3) := by decide +kernel
theorem dX0_keepNames_12 : decode cX0_keepNames 12 = .ok (.aload_n 0, 1) := by decide +kernel
theorem dX0_keepNames_13 : decode cX0_keepNames 13 = .ok (.getfield 23, 3) := by decide +kernel
theorem dX0_keepNames_16 : decode cX0_keepNames 16 = .ok (.aload_n 0, 1) := by decide +kernel
theorem dX0_keepNames_17 : decode cX0_keepNames 17 = .ok (.getfield 39, 3) := by decide +kernel
theorem dX0_keepNames_20 : decode cX0_keepNames 20 = .ok (.iload_n 2, 1) := by decide +kernel
theorem dX0_keepNames_21 : decode cX0_keepNames 21 = .ok (.iaload, 1) := by decide +kernel
theorem dX0_keepNames_22 : decode cX0_keepNames 22 = .ok (.iconst 1, 1) := by decide +kernel
theorem dX0_keepNames_23 : decode cX0_keepNames 23 = .ok (.iadd, 1) := by decide +kernel
theorem dX0_keepNames_24 : decode cX0_keepNames 24 = .ok (.iaload, 1) := by decide +kernel
theorem dX0_keepNames_25 : decode cX0_keepNames 25 = .ok (.istore_n 3, 1) := by decide +kernel
theorem dX0_keepNames_26 : decode cX0_keepNames 26 = .ok (.iload_n 3, 1) := by decide +kernel
theorem dX0_keepNames_27 : decode cX0_keepNames 27 = .ok (.iconst (-1), 1) := by decide +kernel
theorem dX0_keepNames_28 : decode cX0_keepNames 28 = .ok (.if_icmp .eq 13, 3) := by decide +kernel
theorem dX0_keepNames_31 : decode cX0_keepNames 31 = .ok (.aload_n 0, 1) := by decide +kernel
theorem dX0_keepNames_32 : decode cX0_keepNames 32 = .ok (.getfield 39, 3) := by decide +kernel
theorem dX0_keepNames_35 : decode cX0_keepNames 35 = .ok (.iload_n 1, 1) := by decide +kernel
theorem dX0_keepNames_36 : decode cX0_keepNames 36 = .ok (.iload_n 3, 1) := by decide +kernel
theorem dX0_keepNames_37 : decode cX0_keepNames 37 = .ok (.iastore, 1) := by decide +kernel
theorem dX0_keepNames_38 : decode cX0_keepNames 38 = .ok (.iinc 1 1, 3) := by decide +kernel
theorem dX0_keepNames_41 : decode cX0_keepNames 41 = .ok (.iinc 2 1, 3) := by decide +kernel
theorem dX0_keepNames_44 : decode cX0_keepNames 44 = .ok (.goto (-40), 3) := by decide +kernel
theorem dX0_keepNames_47 : decode cX0_keepNames 47 = .ok (.aload_n 0, 1) := by decide +kernel
theorem dX0_keepNames_48 : decode cX0_keepNames 48 = .ok (.iload_n 1, 1) := by decide +kernel
theorem dX0_keepNames_49 : decode cX0_keepNames 49 = .ok (.putfield 42, 3) := by decide +kernel
theorem dX0_keepNames_52 : decode cX0_keepNames 52 = .ok (.return_, 1) := by decide +kernel
/-! contracts: leaf -/
-- OwnMemory.isReference
abbrev rX0_isReference : Room := { frames := 0, cells := 0, slots := 0, locals := 0 }
theorem nX0_isReference : yX0_isReference.cls ≠ "java/lang/invoke/MethodHandle" ∧ yX0_isReference.cls ≠ "java/lang/invoke/VarHandle" ∧ (parseMethodDescriptor yX0_isReference.desc).map (fun d => d.parameters.length) = some 1 := by decide +kernel
noncomputable def fX0_isReference (F : Nat) (p1 : Int32) : Option Int32 := cIf ((p1.toUInt32 >>> ((16 : Int32).toUInt32 &&& Int32.toUInt32 31)).toInt32 = 65530) (some 1) (some 0)
set_option maxHeartbeats 4000000 in
set_option maxRecDepth 100000 in
theorem kX0_isReference (l : Launch) (sz F : Nat) (p1 : Int32) (r : Int32) (hg : fX0_isReference F p1 = some r) : Met l yX0_isReference wsX0_isReference rX0_isReference (sPre sz [.int p1]) (sQi r sz) 0 0 (fun q => sz ≤ q) := by
  refine sMet (own := RX0) (Qc := sQi r) (by decide +kernel) rfl rfl (Nat.le_of_ble_eq_true rfl) ?_
  intro p e s m args below meth c S hr hlocks H locs hS ls hl
  have hl : lv_has ls 1 [(0, .int p1)] := hl
  have hx := S.1
  have hb := S.2.1
  have hts := S.2.2.2.2
  have hown := S.2.2.2.1
  unfold fX0_isReference at hg
  refine lv_iload_n hx hb dX0_isReference_0 rfl (lv_at hl 0 rfl) ?_
  refine lv_bipush (v := 16) hx hb dX0_isReference_1 (by decide) ?_
  refine lv_iushr (v := (p1.toUInt32 >>> ((16 : Int32).toUInt32 &&& Int32.toUInt32 31)).toInt32) hx hb dX0_isReference_3 rfl ?_
  refine lv_ldc (v := 65530) hx hb hown (hts (.constant RX0 186 (65530)) (by decide +kernel)) dX0_isReference_4 ?_
  refine lv_icmp_ne (tgt := 13) hx hb dX0_isReference_6 (by decide) (fun c1 => ?_) (fun c1 => ?_)
  · have hg := cIf_fe c1 hg
    refine lv_iconst (v := 0) hx hb dX0_isReference_13 (by decide) ?_
    exact se_z S hr hlocks hS rfl hg dX0_isReference_14
  · have hg := cIf_te c1 hg
    refine lv_iconst (v := 1) hx hb dX0_isReference_9 (by decide) ?_
    refine lv_goto (tgt := 14) hx hb dX0_isReference_10 (by decide) ?_
    exact se_z S hr hlocks hS rfl hg dX0_isReference_14
-- OwnMemory.isUpTo
abbrev rX0_isUpTo : Room := { frames := 0, cells := 0, slots := 0, locals := 0 }
theorem nX0_isUpTo : yX0_isUpTo.cls ≠ "java/lang/invoke/MethodHandle" ∧ yX0_isUpTo.cls ≠ "java/lang/invoke/VarHandle" ∧ (parseMethodDescriptor yX0_isUpTo.desc).map (fun d => d.parameters.length) = some 2 := by decide +kernel
noncomputable def fX0_isUpTo (F : Nat) (p1 : Int32) (p2 : Int32) : Option Int32 := cIf (p1 < 0) (some 0) (cIf (p2 < p1) (some 0) (some 1))
set_option maxHeartbeats 4000000 in
set_option maxRecDepth 100000 in
theorem kX0_isUpTo (l : Launch) (sz F : Nat) (p1 : Int32) (p2 : Int32) (r : Int32) (hg : fX0_isUpTo F p1 p2 = some r) : Met l yX0_isUpTo wsX0_isUpTo rX0_isUpTo (sPre sz [.int p1, .int p2]) (sQi r sz) 0 0 (fun q => sz ≤ q) := by
  refine sMet (own := RX0) (Qc := sQi r) (by decide +kernel) rfl rfl (Nat.le_of_ble_eq_true rfl) ?_
  intro p e s m args below meth c S hr hlocks H locs hS ls hl
  have hl : lv_has ls 2 [(0, .int p1), (1, .int p2)] := hl
  have hx := S.1
  have hb := S.2.1
  have hts := S.2.2.2.2
  have hown := S.2.2.2.1
  unfold fX0_isUpTo at hg
  refine lv_iload_n hx hb dX0_isUpTo_0 rfl (lv_at hl 0 rfl) ?_
  refine lv_if_lt (tgt := 13) hx hb dX0_isUpTo_1 (by decide) (fun c1 => ?_) (fun c1 => ?_)
  · have hg := cIf_te c1 hg
    refine lv_iconst (v := 0) hx hb dX0_isUpTo_13 (by decide) ?_
    exact se_z S hr hlocks hS rfl hg dX0_isUpTo_14
  · have hg := cIf_fe c1 hg
    refine lv_iload_n hx hb dX0_isUpTo_4 rfl (lv_at hl 0 rfl) ?_
    refine lv_iload_n hx hb dX0_isUpTo_5 rfl (lv_at hl 1 rfl) ?_
    refine lv_icmp_gt (tgt := 13) hx hb dX0_isUpTo_6 (by decide) (fun c2 => ?_) (fun c2 => ?_)
    · have hg := cIf_te c2 hg
      refine lv_iconst (v := 0) hx hb dX0_isUpTo_13 (by decide) ?_
      exact se_z S hr hlocks hS rfl hg dX0_isUpTo_14
    · have hg := cIf_fe c2 hg
      refine lv_iconst (v := 1) hx hb dX0_isUpTo_9 (by decide) ?_
      refine lv_goto (tgt := 14) hx hb dX0_isUpTo_10 (by decide) ?_
      exact se_z S hr hlocks hS rfl hg dX0_isUpTo_14
-- OwnMemory.shapeOf
abbrev rX0_shapeOf : Room := { frames := 0, cells := 0, slots := 0, locals := 0 }
theorem nX0_shapeOf : yX0_shapeOf.cls ≠ "java/lang/invoke/MethodHandle" ∧ yX0_shapeOf.cls ≠ "java/lang/invoke/VarHandle" ∧ (parseMethodDescriptor yX0_shapeOf.desc).map (fun d => d.parameters.length) = some 4 := by decide +kernel
noncomputable def fX0_shapeOf (F : Nat) (p1 : Int32) (p2 : Int32) (p3 : Int32) (p4 : Int32) : Option Int32 := some (((p1 ||| (p2 <<< (4 &&& 31))) ||| (p3 <<< (8 &&& 31))) ||| (p4 <<< (12 &&& 31)))
set_option maxHeartbeats 4000000 in
set_option maxRecDepth 100000 in
theorem kX0_shapeOf (l : Launch) (sz F : Nat) (p1 : Int32) (p2 : Int32) (p3 : Int32) (p4 : Int32) (r : Int32) (hg : fX0_shapeOf F p1 p2 p3 p4 = some r) : Met l yX0_shapeOf wsX0_shapeOf rX0_shapeOf (sPre sz [.int p1, .int p2, .int p3, .int p4]) (sQi r sz) 0 0 (fun q => sz ≤ q) := by
  refine sMet (own := RX0) (Qc := sQi r) (by decide +kernel) rfl rfl (Nat.le_of_ble_eq_true rfl) ?_
  intro p e s m args below meth c S hr hlocks H locs hS ls hl
  have hl : lv_has ls 4 [(0, .int p1), (1, .int p2), (2, .int p3), (3, .int p4)] := hl
  have hx := S.1
  have hb := S.2.1
  have hts := S.2.2.2.2
  have hown := S.2.2.2.1
  unfold fX0_shapeOf at hg
  refine lv_iload_n hx hb dX0_shapeOf_0 rfl (lv_at hl 0 rfl) ?_
  refine lv_iload_n hx hb dX0_shapeOf_1 rfl (lv_at hl 1 rfl) ?_
  refine lv_iconst (v := 4) hx hb dX0_shapeOf_2 (by decide) ?_
  refine lv_ishl hx hb dX0_shapeOf_3 ?_
  refine lv_ior hx hb dX0_shapeOf_4 ?_
  refine lv_iload_n hx hb dX0_shapeOf_5 rfl (lv_at hl 2 rfl) ?_
  refine lv_bipush (v := 8) hx hb dX0_shapeOf_6 (by decide) ?_
  refine lv_ishl hx hb dX0_shapeOf_8 ?_
  refine lv_ior hx hb dX0_shapeOf_9 ?_
  refine lv_iload_n hx hb dX0_shapeOf_10 rfl (lv_at hl 3 rfl) ?_
  refine lv_bipush (v := 12) hx hb dX0_shapeOf_11 (by decide) ?_
  refine lv_ishl hx hb dX0_shapeOf_13 ?_
  refine lv_ior hx hb dX0_shapeOf_14 ?_
  exact se_i S hr hlocks hS hg dX0_shapeOf_15
-- OwnMemory.kindAt
abbrev rX0_kindAt : Room := { frames := 0, cells := 0, slots := 0, locals := 0 }
theorem nX0_kindAt : yX0_kindAt.cls = RX0 ∧ yX0_kindAt.cls ≠ "java/lang/invoke/MethodHandle" ∧ yX0_kindAt.cls ≠ "java/lang/invoke/VarHandle" ∧ (parseMethodDescriptor yX0_kindAt.desc).map (fun d => d.parameters.length) = some 1 := by decide +kernel
noncomputable def fX0_kindAt (F : Nat) (σ : oS) (p1 : Int32) : Option (Int32 × oS) := cIf (p1 = (-1)) (some (0, σ)) (ck (vp_in (p1 + 0) (o_lw σ)) (nmd (o_fw σ (p1 + 0).toNatClampNeg) (fun x3 => some ((x3 &&& 15), σ))))
set_option maxHeartbeats 4000000 in
set_option maxRecDepth 100000 in
theorem kX0_kindAt (l : Launch) (G : gT) (h0 : Nat) (h : oH) (sz F : Nat) (σ : oS) (p1 : Int32) (r : Int32) (σr : oS) (hg : fX0_kindAt F σ p1 = some (r, σr)) : Met l yX0_kindAt wsX0_kindAt rX0_kindAt (oPre G h0 h σ sz [.int p1]) (oQi G h0 h r σr (oA G h0 h σ sz)) 0 0 (oA G h0 h σ sz) := by
  refine oMet (Qc := oQi G h0 h r σr) (by decide +kernel) rfl rfl (Nat.le_of_ble_eq_true rfl) ?_
  intro p e s m args below meth c A S hr hlocks hK hA H locs hI ls hl
  have hl : lv_has ls 2 [(0, .ref h0), (1, .int p1)] := hl
  have hin : ∀ w ∈ wsX00, w ∈ wsX0_kindAt := in_ws
  have hx := S.1
  have hb := S.2.1
  have hts := S.2.2.2.2
  have hown := S.2.2.2.1
  unfold fX0_kindAt at hg
  refine lv_iload_n hx hb dX0_kindAt_0 rfl (lv_at hl 1 rfl) ?_
  refine lv_iconst (v := (-1)) hx hb dX0_kindAt_1 (by decide) ?_
  refine lv_icmp_ne (tgt := 9) hx hb dX0_kindAt_2 (by decide) (fun c1 => ?_) (fun c1 => ?_)
  · have hg := cIf_fe c1 hg
    refine lv_aload_n hx hb dX0_kindAt_9 rfl (lv_at hl 0 rfl) ?_
    refine og_words S hin hK hI (ix := 23) (by decide +kernel) dX0_kindAt_10 ?_
    refine lv_iload_n hx hb dX0_kindAt_13 rfl (lv_at hl 1 rfl) ?_
    refine lv_iconst (v := 0) hx hb dX0_kindAt_14 (by decide) ?_
    refine lv_iadd hx hb dX0_kindAt_15 ?_
    obtain ⟨c2, hg⟩ := ck_e hg
    obtain ⟨x3, ex3, hg⟩ := nmd_e hg
    refine or_words S hK hI c2 ex3 dX0_kindAt_16 ?_
    refine lv_bipush (v := 15) hx hb dX0_kindAt_17 (by decide) ?_
    refine lv_iand hx hb dX0_kindAt_19 ?_
    exact oe_i S hr hlocks hK hI hg dX0_kindAt_20
  · have hg := cIf_te c1 hg
    refine lv_iconst (v := 0) hx hb dX0_kindAt_5 (by decide) ?_
    refine lv_goto (tgt := 20) hx hb dX0_kindAt_6 (by decide) ?_
    exact oe_i S hr hlocks hK hI hg dX0_kindAt_20
-- OwnMemory.linksAt
abbrev rX0_linksAt : Room := { frames := 0, cells := 0, slots := 0, locals := 0 }
theorem nX0_linksAt : yX0_linksAt.cls = RX0 ∧ yX0_linksAt.cls ≠ "java/lang/invoke/MethodHandle" ∧ yX0_linksAt.cls ≠ "java/lang/invoke/VarHandle" ∧ (parseMethodDescriptor yX0_linksAt.desc).map (fun d => d.parameters.length) = some 1 := by decide +kernel
noncomputable def fX0_linksAt (F : Nat) (σ : oS) (p1 : Int32) : Option (Int32 × oS) := ck (vp_in (p1 + 0) (o_lw σ)) (nmd (o_fw σ (p1 + 0).toNatClampNeg) (fun x2 => some (((x2 >>> (4 &&& 31)) &&& 15), σ)))
set_option maxHeartbeats 4000000 in
set_option maxRecDepth 100000 in
theorem kX0_linksAt (l : Launch) (G : gT) (h0 : Nat) (h : oH) (sz F : Nat) (σ : oS) (p1 : Int32) (r : Int32) (σr : oS) (hg : fX0_linksAt F σ p1 = some (r, σr)) : Met l yX0_linksAt wsX0_linksAt rX0_linksAt (oPre G h0 h σ sz [.int p1]) (oQi G h0 h r σr (oA G h0 h σ sz)) 0 0 (oA G h0 h σ sz) := by
  refine oMet (Qc := oQi G h0 h r σr) (by decide +kernel) rfl rfl (Nat.le_of_ble_eq_true rfl) ?_
  intro p e s m args below meth c A S hr hlocks hK hA H locs hI ls hl
  have hl : lv_has ls 2 [(0, .ref h0), (1, .int p1)] := hl
  have hin : ∀ w ∈ wsX00, w ∈ wsX0_linksAt := in_ws
  have hx := S.1
  have hb := S.2.1
  have hts := S.2.2.2.2
  have hown := S.2.2.2.1
  unfold fX0_linksAt at hg
  refine lv_aload_n hx hb dX0_linksAt_0 rfl (lv_at hl 0 rfl) ?_
  refine og_words S hin hK hI (ix := 23) (by decide +kernel) dX0_linksAt_1 ?_
  refine lv_iload_n hx hb dX0_linksAt_4 rfl (lv_at hl 1 rfl) ?_
  refine lv_iconst (v := 0) hx hb dX0_linksAt_5 (by decide) ?_
  refine lv_iadd hx hb dX0_linksAt_6 ?_
  obtain ⟨c1, hg⟩ := ck_e hg
  obtain ⟨x2, ex2, hg⟩ := nmd_e hg
  refine or_words S hK hI c1 ex2 dX0_linksAt_7 ?_
  refine lv_iconst (v := 4) hx hb dX0_linksAt_8 (by decide) ?_
  refine lv_ishr hx hb dX0_linksAt_9 ?_
  refine lv_bipush (v := 15) hx hb dX0_linksAt_10 (by decide) ?_
  refine lv_iand hx hb dX0_linksAt_12 ?_
  exact oe_i S hr hlocks hK hI hg dX0_linksAt_13
-- OwnMemory.valuesAt
abbrev rX0_valuesAt : Room := { frames := 0, cells := 0, slots := 0, locals := 0 }
theorem nX0_valuesAt : yX0_valuesAt.cls = RX0 ∧ yX0_valuesAt.cls ≠ "java/lang/invoke/MethodHandle" ∧ yX0_valuesAt.cls ≠ "java/lang/invoke/VarHandle" ∧ (parseMethodDescriptor yX0_valuesAt.desc).map (fun d => d.parameters.length) = some 1 := by decide +kernel
noncomputable def fX0_valuesAt (F : Nat) (σ : oS) (p1 : Int32) : Option (Int32 × oS) := ck (vp_in (p1 + 0) (o_lw σ)) (nmd (o_fw σ (p1 + 0).toNatClampNeg) (fun x2 => some (((x2 >>> (8 &&& 31)) &&& 15), σ)))
set_option maxHeartbeats 4000000 in
set_option maxRecDepth 100000 in
theorem kX0_valuesAt (l : Launch) (G : gT) (h0 : Nat) (h : oH) (sz F : Nat) (σ : oS) (p1 : Int32) (r : Int32) (σr : oS) (hg : fX0_valuesAt F σ p1 = some (r, σr)) : Met l yX0_valuesAt wsX0_valuesAt rX0_valuesAt (oPre G h0 h σ sz [.int p1]) (oQi G h0 h r σr (oA G h0 h σ sz)) 0 0 (oA G h0 h σ sz) := by
  refine oMet (Qc := oQi G h0 h r σr) (by decide +kernel) rfl rfl (Nat.le_of_ble_eq_true rfl) ?_
  intro p e s m args below meth c A S hr hlocks hK hA H locs hI ls hl
  have hl : lv_has ls 2 [(0, .ref h0), (1, .int p1)] := hl
  have hin : ∀ w ∈ wsX00, w ∈ wsX0_valuesAt := in_ws
  have hx := S.1
  have hb := S.2.1
  have hts := S.2.2.2.2
  have hown := S.2.2.2.1
  unfold fX0_valuesAt at hg
  refine lv_aload_n hx hb dX0_valuesAt_0 rfl (lv_at hl 0 rfl) ?_
  refine og_words S hin hK hI (ix := 23) (by decide +kernel) dX0_valuesAt_1 ?_
  refine lv_iload_n hx hb dX0_valuesAt_4 rfl (lv_at hl 1 rfl) ?_
  refine lv_iconst (v := 0) hx hb dX0_valuesAt_5 (by decide) ?_
  refine lv_iadd hx hb dX0_valuesAt_6 ?_
  obtain ⟨c1, hg⟩ := ck_e hg
  obtain ⟨x2, ex2, hg⟩ := nmd_e hg
  refine or_words S hK hI c1 ex2 dX0_valuesAt_7 ?_
  refine lv_bipush (v := 8) hx hb dX0_valuesAt_8 (by decide) ?_
  refine lv_ishr hx hb dX0_valuesAt_10 ?_
  refine lv_bipush (v := 15) hx hb dX0_valuesAt_11 (by decide) ?_
  refine lv_iand hx hb dX0_valuesAt_13 ?_
  exact oe_i S hr hlocks hK hI hg dX0_valuesAt_14
-- OwnMemory.sizeAt
abbrev rX0_sizeAt : Room := { frames := 0, cells := 0, slots := 0, locals := 0 }
theorem nX0_sizeAt : yX0_sizeAt.cls = RX0 ∧ yX0_sizeAt.cls ≠ "java/lang/invoke/MethodHandle" ∧ yX0_sizeAt.cls ≠ "java/lang/invoke/VarHandle" ∧ (parseMethodDescriptor yX0_sizeAt.desc).map (fun d => d.parameters.length) = some 1 := by decide +kernel
noncomputable def fX0_sizeAt (F : Nat) (σ : oS) (p1 : Int32) : Option (Int32 × oS) := ck (vp_in (p1 + 0) (o_lw σ)) (nmd (o_fw σ (p1 + 0).toNatClampNeg) (fun x2 => some ((x2 >>> (12 &&& 31)), σ)))
set_option maxHeartbeats 4000000 in
set_option maxRecDepth 100000 in
theorem kX0_sizeAt (l : Launch) (G : gT) (h0 : Nat) (h : oH) (sz F : Nat) (σ : oS) (p1 : Int32) (r : Int32) (σr : oS) (hg : fX0_sizeAt F σ p1 = some (r, σr)) : Met l yX0_sizeAt wsX0_sizeAt rX0_sizeAt (oPre G h0 h σ sz [.int p1]) (oQi G h0 h r σr (oA G h0 h σ sz)) 0 0 (oA G h0 h σ sz) := by
  refine oMet (Qc := oQi G h0 h r σr) (by decide +kernel) rfl rfl (Nat.le_of_ble_eq_true rfl) ?_
  intro p e s m args below meth c A S hr hlocks hK hA H locs hI ls hl
  have hl : lv_has ls 2 [(0, .ref h0), (1, .int p1)] := hl
  have hin : ∀ w ∈ wsX00, w ∈ wsX0_sizeAt := in_ws
  have hx := S.1
  have hb := S.2.1
  have hts := S.2.2.2.2
  have hown := S.2.2.2.1
  unfold fX0_sizeAt at hg
  refine lv_aload_n hx hb dX0_sizeAt_0 rfl (lv_at hl 0 rfl) ?_
  refine og_words S hin hK hI (ix := 23) (by decide +kernel) dX0_sizeAt_1 ?_
  refine lv_iload_n hx hb dX0_sizeAt_4 rfl (lv_at hl 1 rfl) ?_
  refine lv_iconst (v := 0) hx hb dX0_sizeAt_5 (by decide) ?_
  refine lv_iadd hx hb dX0_sizeAt_6 ?_
  obtain ⟨c1, hg⟩ := ck_e hg
  obtain ⟨x2, ex2, hg⟩ := nmd_e hg
  refine or_words S hK hI c1 ex2 dX0_sizeAt_7 ?_
  refine lv_bipush (v := 12) hx hb dX0_sizeAt_8 (by decide) ?_
  refine lv_ishr hx hb dX0_sizeAt_10 ?_
  exact oe_i S hr hlocks hK hI hg dX0_sizeAt_11
-- OwnMemory.touch
abbrev rX0_touch : Room := { frames := 0, cells := 0, slots := 0, locals := 0 }
theorem nX0_touch : yX0_touch.cls = RX0 ∧ yX0_touch.cls ≠ "java/lang/invoke/MethodHandle" ∧ yX0_touch.cls ≠ "java/lang/invoke/VarHandle" ∧ (parseMethodDescriptor yX0_touch.desc).map (fun d => d.parameters.length) = some 2 := by decide +kernel
noncomputable def fX0_touch (F : Nat) (σ : oS) (p1 : Int32) (p2 : Int32) : Option (Int32 × oS) := cIf (p1 = (-1)) (some ((-1), σ)) (cIf (p2 = 0) (ck (vp_in (p1 + 1) (o_lw σ)) (nmd (o_fw σ (p1 + 1).toNatClampNeg) (fun x4 => cIf (x4 = (-1)) (ck (vp_in (p1 + 1) (o_lw σ)) (nmd (o_s_fw σ (upd (o_fw σ) (p1 + 1).toNatClampNeg p1)) (fun σ7 => ck (vp_in (p1 + 2) (o_lw σ7)) (nmd (o_s_fw σ7 (upd (o_fw σ7) (p1 + 2).toNatClampNeg (o_wt σ7))) (fun σ9 => nmd (o_s_wt σ9 p1) (fun σ10 => some (p1, σ10))))))) (some (p1, σ))))) (ck (vp_in (p1 + 1) (o_lw σ)) (nmd (o_fw σ (p1 + 1).toNatClampNeg) (fun x12 => some (x12, σ)))))
set_option maxHeartbeats 4000000 in
set_option maxRecDepth 100000 in
theorem kX0_touch (l : Launch) (G : gT) (h0 : Nat) (h : oH) (sz F : Nat) (σ : oS) (p1 : Int32) (p2 : Int32) (r : Int32) (σr : oS) (hg : fX0_touch F σ p1 p2 = some (r, σr)) : Met l yX0_touch wsX0_touch rX0_touch (oPre G h0 h σ sz [.int p1, .int p2]) (oQi G h0 h r σr (oA G h0 h σ sz)) 0 0 (oA G h0 h σ sz) := by
  refine oMet (Qc := oQi G h0 h r σr) (by decide +kernel) rfl rfl (Nat.le_of_ble_eq_true rfl) ?_
  intro p e s m args below meth c A S hr hlocks hK hA H locs hI ls hl
  have hl : lv_has ls 3 [(0, .ref h0), (1, .int p1), (2, .int p2)] := hl
  have hin : ∀ w ∈ wsX00, w ∈ wsX0_touch := in_ws
  have hx := S.1
  have hb := S.2.1
  have hts := S.2.2.2.2
  have hown := S.2.2.2.1
  unfold fX0_touch at hg
  refine lv_iload_n hx hb dX0_touch_0 rfl (lv_at hl 1 rfl) ?_
  refine lv_iconst (v := (-1)) hx hb dX0_touch_1 (by decide) ?_
  refine lv_icmp_ne (tgt := 7) hx hb dX0_touch_2 (by decide) (fun c1 => ?_) (fun c1 => ?_)
  · have hg := cIf_fe c1 hg
    refine lv_iload_n hx hb dX0_touch_7 rfl (lv_at hl 2 rfl) ?_
    refine lv_if_eq (tgt := 20) hx hb dX0_touch_8 (by decide) (fun c2 => ?_) (fun c2 => ?_)
    · have hg := cIf_te c2 hg
      refine lv_aload_n hx hb dX0_touch_20 rfl (lv_at hl 0 rfl) ?_
      refine og_words S hin hK hI (ix := 23) (by decide +kernel) dX0_touch_21 ?_
      refine lv_iload_n hx hb dX0_touch_24 rfl (lv_at hl 1 rfl) ?_
      refine lv_iconst (v := 1) hx hb dX0_touch_25 (by decide) ?_
      refine lv_iadd hx hb dX0_touch_26 ?_
      obtain ⟨c3, hg⟩ := ck_e hg
      obtain ⟨x4, ex4, hg⟩ := nmd_e hg
      refine or_words S hK hI c3 ex4 dX0_touch_27 ?_
      refine lv_iconst (v := (-1)) hx hb dX0_touch_28 (by decide) ?_
      refine lv_icmp_ne (tgt := 58) hx hb dX0_touch_29 (by decide) (fun c5 => ?_) (fun c5 => ?_)
      · have hg := cIf_fe c5 hg
        refine lv_iload_n hx hb dX0_touch_58 rfl (lv_at hl 1 rfl) ?_
        exact oe_i S hr hlocks hK hI hg dX0_touch_59
      · have hg := cIf_te c5 hg
        refine lv_aload_n hx hb dX0_touch_32 rfl (lv_at hl 0 rfl) ?_
        refine og_words S hin hK hI (ix := 23) (by decide +kernel) dX0_touch_33 ?_
        refine lv_iload_n hx hb dX0_touch_36 rfl (lv_at hl 1 rfl) ?_
        refine lv_iconst (v := 1) hx hb dX0_touch_37 (by decide) ?_
        refine lv_iadd hx hb dX0_touch_38 ?_
        refine lv_iload_n hx hb dX0_touch_39 rfl (lv_at hl 1 rfl) ?_
        obtain ⟨c6, hg⟩ := ck_e hg
        obtain ⟨σ7, eσ7, hg⟩ := nmd_e hg
        refine ou_words S hK hI c6 eσ7 dX0_touch_40 (fun H locs hI => ?_)
        refine lv_aload_n hx hb dX0_touch_41 rfl (lv_at hl 0 rfl) ?_
        refine og_words S hin hK hI (ix := 23) (by decide +kernel) dX0_touch_42 ?_
        refine lv_iload_n hx hb dX0_touch_45 rfl (lv_at hl 1 rfl) ?_
        refine lv_iconst (v := 2) hx hb dX0_touch_46 (by decide) ?_
        refine lv_iadd hx hb dX0_touch_47 ?_
        refine lv_aload_n hx hb dX0_touch_48 rfl (lv_at hl 0 rfl) ?_
        refine og_waiting S hin hK hI (ix := 48) (by decide +kernel) dX0_touch_49 ?_
        obtain ⟨c8, hg⟩ := ck_e hg
        obtain ⟨σ9, eσ9, hg⟩ := nmd_e hg
        refine ou_words S hK hI c8 eσ9 dX0_touch_52 (fun H locs hI => ?_)
        refine lv_aload_n hx hb dX0_touch_53 rfl (lv_at hl 0 rfl) ?_
        refine lv_iload_n hx hb dX0_touch_54 rfl (lv_at hl 1 rfl) ?_
        obtain ⟨σ10, eσ10, hg⟩ := nmd_e hg
        refine op_waiting S hin hK hI (ix := 48) (by decide +kernel) eσ10 dX0_touch_55 (fun H locs hI => ?_)
        refine lv_iload_n hx hb dX0_touch_58 rfl (lv_at hl 1 rfl) ?_
        exact oe_i S hr hlocks hK hI hg dX0_touch_59
    · have hg := cIf_fe c2 hg
      refine lv_aload_n hx hb dX0_touch_11 rfl (lv_at hl 0 rfl) ?_
      refine og_words S hin hK hI (ix := 23) (by decide +kernel) dX0_touch_12 ?_
      refine lv_iload_n hx hb dX0_touch_15 rfl (lv_at hl 1 rfl) ?_
      refine lv_iconst (v := 1) hx hb dX0_touch_16 (by decide) ?_
      refine lv_iadd hx hb dX0_touch_17 ?_
      obtain ⟨c11, hg⟩ := ck_e hg
      obtain ⟨x12, ex12, hg⟩ := nmd_e hg
      refine or_words S hK hI c11 ex12 dX0_touch_18 ?_
      exact oe_i S hr hlocks hK hI hg dX0_touch_19
  · have hg := cIf_te c1 hg
    refine lv_iconst (v := (-1)) hx hb dX0_touch_5 (by decide) ?_
    exact oe_i S hr hlocks hK hI hg dX0_touch_6
-- OwnMemory.touchRoots
abbrev rX0_touchRoots : Room := { frames := 1, cells := 0, slots := 0, locals := 22 }
theorem nX0_touchRoots : yX0_touchRoots.cls = RX0 ∧ yX0_touchRoots.cls ≠ "java/lang/invoke/MethodHandle" ∧ yX0_touchRoots.cls ≠ "java/lang/invoke/VarHandle" ∧ (parseMethodDescriptor yX0_touchRoots.desc).map (fun d => d.parameters.length) = some 1 := by decide +kernel
noncomputable def LX0_touchRoots_2 (F : Nat) (K : Int32 → oS → Option oS) (v1 : Int32) : Nat → Int32 → oS → Option oS
  | 0, _, _ => none
  | n + 1, v2, σ => cIf (24 ≤ v2) (K v2 σ) (ck (vp_in v2 24) (nmd (o_fr σ v2.toNatClampNeg) (fun x3 => bnd (fX0_touch F σ x3 v1) (fun r5 σ4 => ck (vp_in v2 24) (nmd (o_s_fr σ4 (upd (o_fr σ4) v2.toNatClampNeg r5)) (fun σ7 => nmd (v2 + 1) (fun x8 => LX0_touchRoots_2 F K v1 n x8 σ7)))))))
noncomputable def fX0_touchRoots (F : Nat) (σ : oS) (p1 : Int32) : Option oS := LX0_touchRoots_2 F (fun w9 σ10 => some σ10) p1 F 0 σ
set_option maxHeartbeats 4000000 in
set_option maxRecDepth 100000 in
theorem lX0_touchRoots_2 {p : Program} {l : Launch} {e : Env} {s : State} {m : MethodId} {args : Array Value} {below : List Frame} {meth : Method} {c : Code} {A : Nat → Prop} {G : gT} {h0 : Nat} {h : oH} {F : Nat} (S : CallFix p m c cX0_touchRoots 3 s args wsX0_touchRoots RX0) (hr : meth.sig.returnType = none) (hlocks : meth.locks = false) (hin : ∀ w ∈ wsX00, w ∈ wsX0_touchRoots) (hK : gK G s) (hA : ∀ q, s.heap.size ≤ q → A q) {K : Int32 → oS → Option oS} {res : oS} (v1 : Int32) (n : Nat) : ∀ (v2 : Int32) (σ : oS) (H : Heap) (locs : List Loc) (ls : Array Slot), LX0_touchRoots_2 F K v1 n v2 σ = some res → oI s A G h0 h σ H locs → lv_has ls 3 [(0, .ref h0), (1, .int v1), (2, .int v2)] → (∀ (v2 : Int32) (σ : oS) (H : Heap) (locs : List Loc) (ls : Array Slot), K v2 σ = some res → oI s A G h0 h σ H locs → lv_has ls 3 [(0, .ref h0), (1, .int v1), (2, .int v2)] → W p l e rX0_touchRoots s m args below meth c H locs 0 0 (MQ below (oQv G h0 h res A) args s 0 0 A) (F0 m 31 ls [])) → W p l e rX0_touchRoots s m args below meth c H locs 0 0 (MQ below (oQv G h0 h res A) args s 0 0 A) (F0 m 2 ls []) := by
  have hx := S.1
  have hb := S.2.1
  have hts := S.2.2.2.2
  have hown := S.2.2.2.1
  induction n with
  | zero => intro v2 σ H locs ls hg; rw [LX0_touchRoots_2] at hg; cases hg
  | succ n ih =>
    intro v2 σ H locs ls hg hI hl kk
    rw [LX0_touchRoots_2] at hg
    refine lv_iload_n hx hb dX0_touchRoots_2 rfl (lv_at hl 2 rfl) ?_
    refine lv_bipush (v := 24) hx hb dX0_touchRoots_3 (by decide) ?_
    refine lv_icmp_ge (tgt := 31) hx hb dX0_touchRoots_5 (by decide) (fun c1 => ?_) (fun c1 => ?_)
    · have hg := cIf_te c1 hg
      exact kk v2 σ H locs ls hg hI (lv_sub hl [0, 1, 2] rfl)
    · have hg := cIf_fe c1 hg
      refine lv_aload_n hx hb dX0_touchRoots_8 rfl (lv_at hl 0 rfl) ?_
      refine og_roots S hin hK hI (ix := 30) (by decide +kernel) dX0_touchRoots_9 ?_
      refine lv_iload_n hx hb dX0_touchRoots_12 rfl (lv_at hl 2 rfl) ?_
      refine lv_aload_n hx hb dX0_touchRoots_13 rfl (lv_at hl 0 rfl) ?_
      refine lv_aload_n hx hb dX0_touchRoots_14 rfl (lv_at hl 0 rfl) ?_
      refine og_roots S hin hK hI (ix := 30) (by decide +kernel) dX0_touchRoots_15 ?_
      refine lv_iload_n hx hb dX0_touchRoots_18 rfl (lv_at hl 2 rfl) ?_
      obtain ⟨c2, hg⟩ := ck_e hg
      obtain ⟨x3, ex3, hg⟩ := nmd_e hg
      refine or_roots S hK hI c2 ex3 dX0_touchRoots_19 ?_
      refine lv_iload_n hx hb dX0_touchRoots_20 rfl (lv_at hl 1 rfl) ?_
      obtain ⟨r5, σ4, er5, hg⟩ := bnd_e hg
      refine oc_i S hK hA hI (As := [.int x3, .int v1]) (rest := [.int v2, .ref h.2.1]) (kX0_touch l G h0 h H.size F σ x3 v1  r5 σ4 er5) (cwV 2 hts gX0_touchRoots_X0_touch rfl rfl rfl nX0_touch ⟨Nat.le_of_ble_eq_true rfl, Nat.le_of_ble_eq_true rfl⟩) rfl hl.1 rfl (Nat.le_of_ble_eq_true rfl) dX0_touchRoots_21 ⟨Nat.le_refl _, Nat.le_refl _⟩ (fun H locs hI => ?_)
      obtain ⟨c6, hg⟩ := ck_e hg
      obtain ⟨σ7, eσ7, hg⟩ := nmd_e hg
      refine ou_roots S hK hI c6 eσ7 dX0_touchRoots_24 (fun H locs hI => ?_)
      obtain ⟨x8, ex8, hg⟩ := nmd_e hg
      refine lv_iinc (v := x8) (lv' := [(2, .int x8), (0, .ref h0), (1, .int v1)]) hx hb dX0_touchRoots_25 hl (k := 2) rfl (by rw [ex8]; rfl) (by decide) rfl (fun ls hl => ?_)
      refine lv_goto (tgt := 2) hx hb dX0_touchRoots_28 (by decide) ?_
      exact ih x8 σ7 H locs ls hg hI (lv_sub hl [1, 2, 0] rfl) kk
set_option maxHeartbeats 4000000 in
set_option maxRecDepth 100000 in
theorem kX0_touchRoots (l : Launch) (G : gT) (h0 : Nat) (h : oH) (sz F : Nat) (σ : oS) (p1 : Int32) (σr : oS) (hg : fX0_touchRoots F σ p1 = some σr) : Met l yX0_touchRoots wsX0_touchRoots rX0_touchRoots (oPre G h0 h σ sz [.int p1]) (oQv G h0 h σr (oA G h0 h σ sz)) 0 0 (oA G h0 h σ sz) := by
  refine oMet (Qc := oQv G h0 h σr) (by decide +kernel) rfl rfl (Nat.le_of_ble_eq_true rfl) ?_
  intro p e s m args below meth c A S hr hlocks hK hA H locs hI ls hl
  have hl : lv_has ls 3 [(0, .ref h0), (1, .int p1)] := hl
  have hin : ∀ w ∈ wsX00, w ∈ wsX0_touchRoots := in_ws
  have hx := S.1
  have hb := S.2.1
  have hts := S.2.2.2.2
  have hown := S.2.2.2.1
  unfold fX0_touchRoots at hg
  refine lv_iconst (v := 0) hx hb dX0_touchRoots_0 (by decide) ?_
  refine lv_istore_n (lv' := [(2, .int 0), (0, .ref h0), (1, .int p1)]) hx hb dX0_touchRoots_1 rfl hl (by decide) rfl (fun ls hl => ?_)
  refine lX0_touchRoots_2 S hr hlocks hin hK hA p1 F 0 σ H locs ls hg hI (lv_sub hl [1, 2, 0] rfl) (fun w9 σ10 H locs ls hg hI hl => ?_)
  exact oe_v S hr hlocks hK hI hg dX0_touchRoots_31
-- OwnMemory.touchLeads
abbrev rX0_touchLeads : Room := { frames := 1, cells := 0, slots := 0, locals := 22 }
theorem nX0_touchLeads : yX0_touchLeads.cls = RX0 ∧ yX0_touchLeads.cls ≠ "java/lang/invoke/MethodHandle" ∧ yX0_touchLeads.cls ≠ "java/lang/invoke/VarHandle" ∧ (parseMethodDescriptor yX0_touchLeads.desc).map (fun d => d.parameters.length) = some 2 := by decide +kernel
noncomputable def LX0_touchLeads_15 (F : Nat) (K : Int32 → oS → Option oS) (v1 : Int32) (v2 : Int32) (v3 : Int32) : Nat → Int32 → oS → Option oS
  | 0, _, _ => none
  | n + 1, v4, σ => cIf (v3 ≤ v4) (K v4 σ) (ck (vp_in v4 (o_lw σ)) (nmd (o_fw σ v4.toNatClampNeg) (fun x7 => bnd (fX0_touch F σ x7 v2) (fun r9 σ8 => ck (vp_in v4 (o_lw σ8)) (nmd (o_s_fw σ8 (upd (o_fw σ8) v4.toNatClampNeg r9)) (fun σ11 => nmd (v4 + 1) (fun x12 => LX0_touchLeads_15 F K v1 v2 v3 n x12 σ11)))))))
noncomputable def LX0_touchLeads_60 (F : Nat) (K : Int32 → oS → Option oS) (v1 : Int32) (v2 : Int32) (v3 : Int32) (v4 : Int32) : Nat → Int32 → oS → Option oS
  | 0, _, _ => none
  | n + 1, v5, σ => cIf (v4 ≤ v5) (K v5 σ) (ck (vp_in v5 (o_lw σ)) (nmd (o_fw σ v5.toNatClampNeg) (fun x20 => bnp (fX0_isReference F x20) (fun r21 => cIf (r21 = 0) (nmd (v5 + 2) (fun x23 => LX0_touchLeads_60 F K v1 v2 v3 v4 n x23 σ)) (ck (vp_in (v5 + 1) (o_lw σ)) (nmd (o_fw σ (v5 + 1).toNatClampNeg) (fun x25 => bnd (fX0_touch F σ x25 v2) (fun r27 σ26 => ck (vp_in (v5 + 1) (o_lw σ26)) (nmd (o_s_fw σ26 (upd (o_fw σ26) (v5 + 1).toNatClampNeg r27)) (fun σ29 => nmd (v5 + 2) (fun x30 => LX0_touchLeads_60 F K v1 v2 v3 v4 n x30 σ29)))))))))))
noncomputable def fX0_touchLeads (F : Nat) (σ : oS) (p1 : Int32) (p2 : Int32) : Option oS := bnd (fX0_linksAt F σ p1) (fun r2 σ1 => nmd ((p1 + 3) + r2) (fun x3 => nmd (p1 + 3) (fun x4 => LX0_touchLeads_15 F (fun w13 σ14 => bnd (fX0_valuesAt F σ14 p1) (fun r16 σ15 => nmd (x3 + (2 * r16)) (fun x17 => LX0_touchLeads_60 F (fun w31 σ32 => some σ32) p1 p2 x3 x17 F x3 σ15))) p1 p2 x3 F x4 σ1)))
set_option maxHeartbeats 4000000 in
set_option maxRecDepth 100000 in
theorem lX0_touchLeads_15 {p : Program} {l : Launch} {e : Env} {s : State} {m : MethodId} {args : Array Value} {below : List Frame} {meth : Method} {c : Code} {A : Nat → Prop} {G : gT} {h0 : Nat} {h : oH} {F : Nat} (S : CallFix p m c cX0_touchLeads 6 s args wsX0_touchLeads RX0) (hr : meth.sig.returnType = none) (hlocks : meth.locks = false) (hin : ∀ w ∈ wsX00, w ∈ wsX0_touchLeads) (hK : gK G s) (hA : ∀ q, s.heap.size ≤ q → A q) {K : Int32 → oS → Option oS} {res : oS} (v1 : Int32) (v2 : Int32) (v3 : Int32) (n : Nat) : ∀ (v4 : Int32) (σ : oS) (H : Heap) (locs : List Loc) (ls : Array Slot), LX0_touchLeads_15 F K v1 v2 v3 n v4 σ = some res → oI s A G h0 h σ H locs → lv_has ls 6 [(0, .ref h0), (1, .int v1), (2, .int v2), (3, .int v3), (4, .int v4)] → (∀ (v4 : Int32) (σ : oS) (H : Heap) (locs : List Loc) (ls : Array Slot), K v4 σ = some res → oI s A G h0 h σ H locs → lv_has ls 6 [(0, .ref h0), (1, .int v1), (2, .int v2), (3, .int v3), (4, .int v4)] → W p l e rX0_touchLeads s m args below meth c H locs 0 0 (MQ below (oQv G h0 h res A) args s 0 0 A) (F0 m 46 ls [])) → W p l e rX0_touchLeads s m args below meth c H locs 0 0 (MQ below (oQv G h0 h res A) args s 0 0 A) (F0 m 15 ls []) := by
  have hx := S.1
  have hb := S.2.1
  have hts := S.2.2.2.2
  have hown := S.2.2.2.1
  induction n with
  | zero => intro v4 σ H locs ls hg; rw [LX0_touchLeads_15] at hg; cases hg
  | succ n ih =>
    intro v4 σ H locs ls hg hI hl kk
    rw [LX0_touchLeads_15] at hg
    refine lv_iload hx hb dX0_touchLeads_15 (lv_at hl 4 rfl) ?_
    refine lv_iload_n hx hb dX0_touchLeads_17 rfl (lv_at hl 3 rfl) ?_
    refine lv_icmp_ge (tgt := 46) hx hb dX0_touchLeads_18 (by decide) (fun c5 => ?_) (fun c5 => ?_)
    · have hg := cIf_te c5 hg
      exact kk v4 σ H locs ls hg hI (lv_sub hl [0, 1, 2, 3, 4] rfl)
    · have hg := cIf_fe c5 hg
      refine lv_aload_n hx hb dX0_touchLeads_21 rfl (lv_at hl 0 rfl) ?_
      refine og_words S hin hK hI (ix := 23) (by decide +kernel) dX0_touchLeads_22 ?_
      refine lv_iload hx hb dX0_touchLeads_25 (lv_at hl 4 rfl) ?_
      refine lv_aload_n hx hb dX0_touchLeads_27 rfl (lv_at hl 0 rfl) ?_
      refine lv_aload_n hx hb dX0_touchLeads_28 rfl (lv_at hl 0 rfl) ?_
      refine og_words S hin hK hI (ix := 23) (by decide +kernel) dX0_touchLeads_29 ?_
      refine lv_iload hx hb dX0_touchLeads_32 (lv_at hl 4 rfl) ?_
      obtain ⟨c6, hg⟩ := ck_e hg
      obtain ⟨x7, ex7, hg⟩ := nmd_e hg
      refine or_words S hK hI c6 ex7 dX0_touchLeads_34 ?_
      refine lv_iload_n hx hb dX0_touchLeads_35 rfl (lv_at hl 2 rfl) ?_
      obtain ⟨r9, σ8, er9, hg⟩ := bnd_e hg
      refine oc_i S hK hA hI (As := [.int x7, .int v2]) (rest := [.int v4, .ref h.1]) (kX0_touch l G h0 h H.size F σ x7 v2  r9 σ8 er9) (cwV 2 hts gX0_touchLeads_X0_touch rfl rfl rfl nX0_touch ⟨Nat.le_of_ble_eq_true rfl, Nat.le_of_ble_eq_true rfl⟩) rfl hl.1 rfl (Nat.le_of_ble_eq_true rfl) dX0_touchLeads_36 ⟨Nat.le_refl _, Nat.le_refl _⟩ (fun H locs hI => ?_)
      obtain ⟨c10, hg⟩ := ck_e hg
      obtain ⟨σ11, eσ11, hg⟩ := nmd_e hg
      refine ou_words S hK hI c10 eσ11 dX0_touchLeads_39 (fun H locs hI => ?_)
      obtain ⟨x12, ex12, hg⟩ := nmd_e hg
      refine lv_iinc (v := x12) (lv' := [(4, .int x12), (0, .ref h0), (1, .int v1), (2, .int v2), (3, .int v3)]) hx hb dX0_touchLeads_40 hl (k := 4) rfl (by rw [ex12]; rfl) (by decide) rfl (fun ls hl => ?_)
      refine lv_goto (tgt := 15) hx hb dX0_touchLeads_43 (by decide) ?_
      exact ih x12 σ11 H locs ls hg hI (lv_sub hl [1, 2, 3, 4, 0] rfl) kk
set_option maxHeartbeats 4000000 in
set_option maxRecDepth 100000 in
theorem lX0_touchLeads_60 {p : Program} {l : Launch} {e : Env} {s : State} {m : MethodId} {args : Array Value} {below : List Frame} {meth : Method} {c : Code} {A : Nat → Prop} {G : gT} {h0 : Nat} {h : oH} {F : Nat} (S : CallFix p m c cX0_touchLeads 6 s args wsX0_touchLeads RX0) (hr : meth.sig.returnType = none) (hlocks : meth.locks = false) (hin : ∀ w ∈ wsX00, w ∈ wsX0_touchLeads) (hK : gK G s) (hA : ∀ q, s.heap.size ≤ q → A q) {K : Int32 → oS → Option oS} {res : oS} (v1 : Int32) (v2 : Int32) (v3 : Int32) (v4 : Int32) (n : Nat) : ∀ (v5 : Int32) (σ : oS) (H : Heap) (locs : List Loc) (ls : Array Slot), LX0_touchLeads_60 F K v1 v2 v3 v4 n v5 σ = some res → oI s A G h0 h σ H locs → lv_has ls 6 [(0, .ref h0), (1, .int v1), (2, .int v2), (3, .int v3), (4, .int v4), (5, .int v5)] → (∀ (v5 : Int32) (σ : oS) (H : Heap) (locs : List Loc) (ls : Array Slot), K v5 σ = some res → oI s A G h0 h σ H locs → lv_has ls 6 [(0, .ref h0), (1, .int v1), (2, .int v2), (3, .int v3), (4, .int v4), (5, .int v5)] → W p l e rX0_touchLeads s m args below meth c H locs 0 0 (MQ below (oQv G h0 h res A) args s 0 0 A) (F0 m 109 ls [])) → W p l e rX0_touchLeads s m args below meth c H locs 0 0 (MQ below (oQv G h0 h res A) args s 0 0 A) (F0 m 60 ls []) := by
  have hx := S.1
  have hb := S.2.1
  have hts := S.2.2.2.2
  have hown := S.2.2.2.1
  induction n with
  | zero => intro v5 σ H locs ls hg; rw [LX0_touchLeads_60] at hg; cases hg
  | succ n ih =>
    intro v5 σ H locs ls hg hI hl kk
    rw [LX0_touchLeads_60] at hg
    refine lv_iload hx hb dX0_touchLeads_60 (lv_at hl 5 rfl) ?_
    refine lv_iload hx hb dX0_touchLeads_62 (lv_at hl 4 rfl) ?_
    refine lv_icmp_ge (tgt := 109) hx hb dX0_touchLeads_64 (by decide) (fun c18 => ?_) (fun c18 => ?_)
    · have hg := cIf_te c18 hg
      exact kk v5 σ H locs ls hg hI (lv_sub hl [0, 1, 2, 3, 4, 5] rfl)
    · have hg := cIf_fe c18 hg
      refine lv_aload_n hx hb dX0_touchLeads_67 rfl (lv_at hl 0 rfl) ?_
      refine og_words S hin hK hI (ix := 23) (by decide +kernel) dX0_touchLeads_68 ?_
      refine lv_iload hx hb dX0_touchLeads_71 (lv_at hl 5 rfl) ?_
      obtain ⟨c19, hg⟩ := ck_e hg
      obtain ⟨x20, ex20, hg⟩ := nmd_e hg
      refine or_words S hK hI c19 ex20 dX0_touchLeads_73 ?_
      obtain ⟨r21, er21, hg⟩ := bnp_e hg
      refine os_i S hA hI (As := [.int x20]) (rest := []) (kX0_isReference l H.size F x20 r21 er21) (va_cwS 1 hts gX0_touchLeads_X0_isReference rfl rfl rfl nX0_isReference ⟨Nat.le_of_ble_eq_true rfl, Nat.le_of_ble_eq_true rfl⟩) rfl hl.1 rfl (Nat.le_of_ble_eq_true rfl) dX0_touchLeads_74 ⟨Nat.le_refl _, Nat.le_refl _⟩ (fun H locs hI => ?_)
      refine lv_if_eq (tgt := 103) hx hb dX0_touchLeads_77 (by decide) (fun c22 => ?_) (fun c22 => ?_)
      · have hg := cIf_te c22 hg
        obtain ⟨x23, ex23, hg⟩ := nmd_e hg
        refine lv_iinc (v := x23) (lv' := [(5, .int x23), (0, .ref h0), (1, .int v1), (2, .int v2), (3, .int v3), (4, .int v4)]) hx hb dX0_touchLeads_103 hl (k := 5) rfl (by rw [ex23]; rfl) (by decide) rfl (fun ls hl => ?_)
        refine lv_goto (tgt := 60) hx hb dX0_touchLeads_106 (by decide) ?_
        exact ih x23 σ H locs ls hg hI (lv_sub hl [1, 2, 3, 4, 5, 0] rfl) kk
      · have hg := cIf_fe c22 hg
        refine lv_aload_n hx hb dX0_touchLeads_80 rfl (lv_at hl 0 rfl) ?_
        refine og_words S hin hK hI (ix := 23) (by decide +kernel) dX0_touchLeads_81 ?_
        refine lv_iload hx hb dX0_touchLeads_84 (lv_at hl 5 rfl) ?_
        refine lv_iconst (v := 1) hx hb dX0_touchLeads_86 (by decide) ?_
        refine lv_iadd hx hb dX0_touchLeads_87 ?_
        refine lv_aload_n hx hb dX0_touchLeads_88 rfl (lv_at hl 0 rfl) ?_
        refine lv_aload_n hx hb dX0_touchLeads_89 rfl (lv_at hl 0 rfl) ?_
        refine og_words S hin hK hI (ix := 23) (by decide +kernel) dX0_touchLeads_90 ?_
        refine lv_iload hx hb dX0_touchLeads_93 (lv_at hl 5 rfl) ?_
        refine lv_iconst (v := 1) hx hb dX0_touchLeads_95 (by decide) ?_
        refine lv_iadd hx hb dX0_touchLeads_96 ?_
        obtain ⟨c24, hg⟩ := ck_e hg
        obtain ⟨x25, ex25, hg⟩ := nmd_e hg
        refine or_words S hK hI c24 ex25 dX0_touchLeads_97 ?_
        refine lv_iload_n hx hb dX0_touchLeads_98 rfl (lv_at hl 2 rfl) ?_
        obtain ⟨r27, σ26, er27, hg⟩ := bnd_e hg
        refine oc_i S hK hA hI (As := [.int x25, .int v2]) (rest := [.int (v5 + 1), .ref h.1]) (kX0_touch l G h0 h H.size F σ x25 v2  r27 σ26 er27) (cwV 2 hts gX0_touchLeads_X0_touch rfl rfl rfl nX0_touch ⟨Nat.le_of_ble_eq_true rfl, Nat.le_of_ble_eq_true rfl⟩) rfl hl.1 rfl (Nat.le_of_ble_eq_true rfl) dX0_touchLeads_99 ⟨Nat.le_refl _, Nat.le_refl _⟩ (fun H locs hI => ?_)
        obtain ⟨c28, hg⟩ := ck_e hg
        obtain ⟨σ29, eσ29, hg⟩ := nmd_e hg
        refine ou_words S hK hI c28 eσ29 dX0_touchLeads_102 (fun H locs hI => ?_)
        obtain ⟨x30, ex30, hg⟩ := nmd_e hg
        refine lv_iinc (v := x30) (lv' := [(5, .int x30), (0, .ref h0), (1, .int v1), (2, .int v2), (3, .int v3), (4, .int v4)]) hx hb dX0_touchLeads_103 hl (k := 5) rfl (by rw [ex30]; rfl) (by decide) rfl (fun ls hl => ?_)
        refine lv_goto (tgt := 60) hx hb dX0_touchLeads_106 (by decide) ?_
        exact ih x30 σ29 H locs ls hg hI (lv_sub hl [1, 2, 3, 4, 5, 0] rfl) kk
set_option maxHeartbeats 4000000 in
set_option maxRecDepth 100000 in
theorem kX0_touchLeads (l : Launch) (G : gT) (h0 : Nat) (h : oH) (sz F : Nat) (σ : oS) (p1 : Int32) (p2 : Int32) (σr : oS) (hg : fX0_touchLeads F σ p1 p2 = some σr) : Met l yX0_touchLeads wsX0_touchLeads rX0_touchLeads (oPre G h0 h σ sz [.int p1, .int p2]) (oQv G h0 h σr (oA G h0 h σ sz)) 0 0 (oA G h0 h σ sz) := by
  refine oMet (Qc := oQv G h0 h σr) (by decide +kernel) rfl rfl (Nat.le_of_ble_eq_true rfl) ?_
  intro p e s m args below meth c A S hr hlocks hK hA H locs hI ls hl
  have hl : lv_has ls 6 [(0, .ref h0), (1, .int p1), (2, .int p2)] := hl
  have hin : ∀ w ∈ wsX00, w ∈ wsX0_touchLeads := in_ws
  have hx := S.1
  have hb := S.2.1
  have hts := S.2.2.2.2
  have hown := S.2.2.2.1
  unfold fX0_touchLeads at hg
  refine lv_iload_n hx hb dX0_touchLeads_0 rfl (lv_at hl 1 rfl) ?_
  refine lv_iconst (v := 3) hx hb dX0_touchLeads_1 (by decide) ?_
  refine lv_iadd hx hb dX0_touchLeads_2 ?_
  refine lv_aload_n hx hb dX0_touchLeads_3 rfl (lv_at hl 0 rfl) ?_
  refine lv_iload_n hx hb dX0_touchLeads_4 rfl (lv_at hl 1 rfl) ?_
  obtain ⟨r2, σ1, er2, hg⟩ := bnd_e hg
  refine oc_i S hK hA hI (As := [.int p1]) (rest := [.int (p1 + 3)]) (kX0_linksAt l G h0 h H.size F σ p1  r2 σ1 er2) (cwV 1 hts gX0_touchLeads_X0_linksAt rfl rfl rfl nX0_linksAt ⟨Nat.le_of_ble_eq_true rfl, Nat.le_of_ble_eq_true rfl⟩) rfl hl.1 rfl (Nat.le_of_ble_eq_true rfl) dX0_touchLeads_5 ⟨Nat.le_refl _, Nat.le_refl _⟩ (fun H locs hI => ?_)
  refine lv_iadd hx hb dX0_touchLeads_8 ?_
  obtain ⟨x3, ex3, hg⟩ := nmd_e hg
  refine wn_i ex3 ?_
  refine lv_istore_n (lv' := [(3, .int x3), (0, .ref h0), (1, .int p1), (2, .int p2)]) hx hb dX0_touchLeads_9 rfl hl (by decide) rfl (fun ls hl => ?_)
  refine lv_iload_n hx hb dX0_touchLeads_10 rfl (lv_at hl 2 rfl) ?_
  refine lv_iconst (v := 3) hx hb dX0_touchLeads_11 (by decide) ?_
  refine lv_iadd hx hb dX0_touchLeads_12 ?_
  obtain ⟨x4, ex4, hg⟩ := nmd_e hg
  refine wn_i ex4 ?_
  refine lv_istore (lv' := [(4, .int x4), (3, .int x3), (0, .ref h0), (1, .int p1), (2, .int p2)]) hx hb dX0_touchLeads_13 hl (by decide) rfl (fun ls hl => ?_)
  refine lX0_touchLeads_15 S hr hlocks hin hK hA p1 p2 x3 F x4 σ1 H locs ls hg hI (lv_sub hl [2, 3, 4, 1, 0] rfl) (fun w13 σ14 H locs ls hg hI hl => ?_)
  refine lv_iload_n hx hb dX0_touchLeads_46 rfl (lv_at hl 3 rfl) ?_
  refine lv_iconst (v := 2) hx hb dX0_touchLeads_47 (by decide) ?_
  refine lv_aload_n hx hb dX0_touchLeads_48 rfl (lv_at hl 0 rfl) ?_
  refine lv_iload_n hx hb dX0_touchLeads_49 rfl (lv_at hl 1 rfl) ?_
  obtain ⟨r16, σ15, er16, hg⟩ := bnd_e hg
  refine oc_i S hK hA hI (As := [.int p1]) (rest := [.int 2, .int x3]) (kX0_valuesAt l G h0 h H.size F σ14 p1  r16 σ15 er16) (cwV 1 hts gX0_touchLeads_X0_valuesAt rfl rfl rfl nX0_valuesAt ⟨Nat.le_of_ble_eq_true rfl, Nat.le_of_ble_eq_true rfl⟩) rfl hl.1 rfl (Nat.le_of_ble_eq_true rfl) dX0_touchLeads_50 ⟨Nat.le_refl _, Nat.le_refl _⟩ (fun H locs hI => ?_)
  refine lv_imul hx hb dX0_touchLeads_53 ?_
  refine lv_iadd hx hb dX0_touchLeads_54 ?_
  obtain ⟨x17, ex17, hg⟩ := nmd_e hg
  refine wn_i ex17 ?_
  refine lv_istore (lv' := [(4, .int x17), (0, .ref h0), (1, .int p1), (2, .int p2), (3, .int x3)]) hx hb dX0_touchLeads_55 hl (by decide) rfl (fun ls hl => ?_)
  refine lv_iload_n hx hb dX0_touchLeads_57 rfl (lv_at hl 4 rfl) ?_
  refine lv_istore (lv' := [(5, .int x3), (4, .int x17), (0, .ref h0), (1, .int p1), (2, .int p2), (3, .int x3)]) hx hb dX0_touchLeads_58 hl (by decide) rfl (fun ls hl => ?_)
  refine lX0_touchLeads_60 S hr hlocks hin hK hA p1 p2 x3 x17 F x3 σ15 H locs ls hg hI (lv_sub hl [2, 3, 4, 5, 1, 0] rfl) (fun w31 σ32 H locs ls hg hI hl => ?_)
  exact oe_v S hr hlocks hK hI hg dX0_touchLeads_109
-- OwnMemory.planMoves
abbrev rX0_planMoves : Room := { frames := 1, cells := 0, slots := 0, locals := 21 }
theorem nX0_planMoves : yX0_planMoves.cls = RX0 ∧ yX0_planMoves.cls ≠ "java/lang/invoke/MethodHandle" ∧ yX0_planMoves.cls ≠ "java/lang/invoke/VarHandle" ∧ (parseMethodDescriptor yX0_planMoves.desc).map (fun d => d.parameters.length) = some 0 := by decide +kernel
noncomputable def LX0_planMoves_4 (F : Nat) (K : Int32 → Int32 → oS → Option (Int32 × oS)) : Nat → Int32 → Int32 → oS → Option (Int32 × oS)
  | 0, _, _, _ => none
  | n + 1, v1, v2, σ => cIf ((o_us σ) ≤ v2) (K v1 v2 σ) (ck (vp_in (v2 + 1) (o_lw σ)) (nmd (o_fw σ (v2 + 1).toNatClampNeg) (fun x3 => cIf (x3 = (-1)) (bnd (fX0_sizeAt F σ v2) (fun r6 σ5 => nmd (v2 + r6) (fun x7 => LX0_planMoves_4 F K  n v1 x7 σ5))) (ck (vp_in (v2 + 1) (o_lw σ)) (nmd (o_s_fw σ (upd (o_fw σ) (v2 + 1).toNatClampNeg v1)) (fun σ9 => bnd (fX0_sizeAt F σ9 v2) (fun r11 σ10 => nmd (v1 + r11) (fun x12 => bnd (fX0_sizeAt F σ10 v2) (fun r14 σ13 => nmd (v2 + r14) (fun x15 => LX0_planMoves_4 F K  n x12 x15 σ13))))))))))
noncomputable def fX0_planMoves (F : Nat) (σ : oS) : Option (Int32 × oS) := LX0_planMoves_4 F (fun w16 w17 σ18 => some (w16, σ18))  F 0 0 σ
set_option maxHeartbeats 4000000 in
set_option maxRecDepth 100000 in
theorem lX0_planMoves_4 {p : Program} {l : Launch} {e : Env} {s : State} {m : MethodId} {args : Array Value} {below : List Frame} {meth : Method} {c : Code} {A : Nat → Prop} {G : gT} {h0 : Nat} {h : oH} {F : Nat} (S : CallFix p m c cX0_planMoves 3 s args wsX0_planMoves RX0) (hr : meth.sig.returnType = some .int) (hlocks : meth.locks = false) (hin : ∀ w ∈ wsX00, w ∈ wsX0_planMoves) (hK : gK G s) (hA : ∀ q, s.heap.size ≤ q → A q) {K : Int32 → Int32 → oS → Option (Int32 × oS)} {res : (Int32 × oS)} (n : Nat) : ∀ (v1 : Int32) (v2 : Int32) (σ : oS) (H : Heap) (locs : List Loc) (ls : Array Slot), LX0_planMoves_4 F K n v1 v2 σ = some res → oI s A G h0 h σ H locs → lv_has ls 3 [(0, .ref h0), (1, .int v1), (2, .int v2)] → (∀ (v1 : Int32) (v2 : Int32) (σ : oS) (H : Heap) (locs : List Loc) (ls : Array Slot), K v1 v2 σ = some res → oI s A G h0 h σ H locs → lv_has ls 3 [(0, .ref h0), (1, .int v1), (2, .int v2)] → W p l e rX0_planMoves s m args below meth c H locs 0 0 (MQ below (oQi G h0 h res.1 res.2 A) args s 0 0 A) (F0 m 52 ls [])) → W p l e rX0_planMoves s m args below meth c H locs 0 0 (MQ below (oQi G h0 h res.1 res.2 A) args s 0 0 A) (F0 m 4 ls []) := by
  have hx := S.1
  have hb := S.2.1
  have hts := S.2.2.2.2
  have hown := S.2.2.2.1
  induction n with
  | zero => intro v1 v2 σ H locs ls hg; rw [LX0_planMoves_4] at hg; cases hg
  | succ n ih =>
    intro v1 v2 σ H locs ls hg hI hl kk
    rw [LX0_planMoves_4] at hg
    refine lv_iload_n hx hb dX0_planMoves_4 rfl (lv_at hl 2 rfl) ?_
    refine lv_aload_n hx hb dX0_planMoves_5 rfl (lv_at hl 0 rfl) ?_
    refine og_used S hin hK hI (ix := 27) (by decide +kernel) dX0_planMoves_6 ?_
    refine lv_icmp_ge (tgt := 52) hx hb dX0_planMoves_9 (by decide) (fun c1 => ?_) (fun c1 => ?_)
    · have hg := cIf_te c1 hg
      exact kk v1 v2 σ H locs ls hg hI (lv_sub hl [0, 1, 2] rfl)
    · have hg := cIf_fe c1 hg
      refine lv_aload_n hx hb dX0_planMoves_12 rfl (lv_at hl 0 rfl) ?_
      refine og_words S hin hK hI (ix := 23) (by decide +kernel) dX0_planMoves_13 ?_
      refine lv_iload_n hx hb dX0_planMoves_16 rfl (lv_at hl 2 rfl) ?_
      refine lv_iconst (v := 1) hx hb dX0_planMoves_17 (by decide) ?_
      refine lv_iadd hx hb dX0_planMoves_18 ?_
      obtain ⟨c2, hg⟩ := ck_e hg
      obtain ⟨x3, ex3, hg⟩ := nmd_e hg
      refine or_words S hK hI c2 ex3 dX0_planMoves_19 ?_
      refine lv_iconst (v := (-1)) hx hb dX0_planMoves_20 (by decide) ?_
      refine lv_icmp_eq (tgt := 41) hx hb dX0_planMoves_21 (by decide) (fun c4 => ?_) (fun c4 => ?_)
      · have hg := cIf_te c4 hg
        refine lv_iload_n hx hb dX0_planMoves_41 rfl (lv_at hl 2 rfl) ?_
        refine lv_aload_n hx hb dX0_planMoves_42 rfl (lv_at hl 0 rfl) ?_
        refine lv_iload_n hx hb dX0_planMoves_43 rfl (lv_at hl 2 rfl) ?_
        obtain ⟨r6, σ5, er6, hg⟩ := bnd_e hg
        refine oc_i S hK hA hI (As := [.int v2]) (rest := [.int v2]) (kX0_sizeAt l G h0 h H.size F σ v2  r6 σ5 er6) (cwV 1 hts gX0_planMoves_X0_sizeAt rfl rfl rfl nX0_sizeAt ⟨Nat.le_of_ble_eq_true rfl, Nat.le_of_ble_eq_true rfl⟩) rfl hl.1 rfl (Nat.le_of_ble_eq_true rfl) dX0_planMoves_44 ⟨Nat.le_refl _, Nat.le_refl _⟩ (fun H locs hI => ?_)
        refine lv_iadd hx hb dX0_planMoves_47 ?_
        obtain ⟨x7, ex7, hg⟩ := nmd_e hg
        refine wn_i ex7 ?_
        refine lv_istore_n (lv' := [(2, .int x7), (0, .ref h0), (1, .int v1)]) hx hb dX0_planMoves_48 rfl hl (by decide) rfl (fun ls hl => ?_)
        refine lv_goto (tgt := 4) hx hb dX0_planMoves_49 (by decide) ?_
        exact ih v1 x7 σ5 H locs ls hg hI (lv_sub hl [1, 2, 0] rfl) kk
      · have hg := cIf_fe c4 hg
        refine lv_aload_n hx hb dX0_planMoves_24 rfl (lv_at hl 0 rfl) ?_
        refine og_words S hin hK hI (ix := 23) (by decide +kernel) dX0_planMoves_25 ?_
        refine lv_iload_n hx hb dX0_planMoves_28 rfl (lv_at hl 2 rfl) ?_
        refine lv_iconst (v := 1) hx hb dX0_planMoves_29 (by decide) ?_
        refine lv_iadd hx hb dX0_planMoves_30 ?_
        refine lv_iload_n hx hb dX0_planMoves_31 rfl (lv_at hl 1 rfl) ?_
        obtain ⟨c8, hg⟩ := ck_e hg
        obtain ⟨σ9, eσ9, hg⟩ := nmd_e hg
        refine ou_words S hK hI c8 eσ9 dX0_planMoves_32 (fun H locs hI => ?_)
        refine lv_iload_n hx hb dX0_planMoves_33 rfl (lv_at hl 1 rfl) ?_
        refine lv_aload_n hx hb dX0_planMoves_34 rfl (lv_at hl 0 rfl) ?_
        refine lv_iload_n hx hb dX0_planMoves_35 rfl (lv_at hl 2 rfl) ?_
        obtain ⟨r11, σ10, er11, hg⟩ := bnd_e hg
        refine oc_i S hK hA hI (As := [.int v2]) (rest := [.int v1]) (kX0_sizeAt l G h0 h H.size F σ9 v2  r11 σ10 er11) (cwV 1 hts gX0_planMoves_X0_sizeAt rfl rfl rfl nX0_sizeAt ⟨Nat.le_of_ble_eq_true rfl, Nat.le_of_ble_eq_true rfl⟩) rfl hl.1 rfl (Nat.le_of_ble_eq_true rfl) dX0_planMoves_36 ⟨Nat.le_refl _, Nat.le_refl _⟩ (fun H locs hI => ?_)
        refine lv_iadd hx hb dX0_planMoves_39 ?_
        obtain ⟨x12, ex12, hg⟩ := nmd_e hg
        refine wn_i ex12 ?_
        refine lv_istore_n (lv' := [(1, .int x12), (0, .ref h0), (2, .int v2)]) hx hb dX0_planMoves_40 rfl hl (by decide) rfl (fun ls hl => ?_)
        refine lv_iload_n hx hb dX0_planMoves_41 rfl (lv_at hl 2 rfl) ?_
        refine lv_aload_n hx hb dX0_planMoves_42 rfl (lv_at hl 1 rfl) ?_
        refine lv_iload_n hx hb dX0_planMoves_43 rfl (lv_at hl 2 rfl) ?_
        obtain ⟨r14, σ13, er14, hg⟩ := bnd_e hg
        refine oc_i S hK hA hI (As := [.int v2]) (rest := [.int v2]) (kX0_sizeAt l G h0 h H.size F σ10 v2  r14 σ13 er14) (cwV 1 hts gX0_planMoves_X0_sizeAt rfl rfl rfl nX0_sizeAt ⟨Nat.le_of_ble_eq_true rfl, Nat.le_of_ble_eq_true rfl⟩) rfl hl.1 rfl (Nat.le_of_ble_eq_true rfl) dX0_planMoves_44 ⟨Nat.le_refl _, Nat.le_refl _⟩ (fun H locs hI => ?_)
        refine lv_iadd hx hb dX0_planMoves_47 ?_
        obtain ⟨x15, ex15, hg⟩ := nmd_e hg
        refine wn_i ex15 ?_
        refine lv_istore_n (lv' := [(2, .int x15), (1, .int x12), (0, .ref h0)]) hx hb dX0_planMoves_48 rfl hl (by decide) rfl (fun ls hl => ?_)
        refine lv_goto (tgt := 4) hx hb dX0_planMoves_49 (by decide) ?_
        exact ih x12 x15 σ13 H locs ls hg hI (lv_sub hl [2, 1, 0] rfl) kk
set_option maxHeartbeats 4000000 in
set_option maxRecDepth 100000 in
theorem kX0_planMoves (l : Launch) (G : gT) (h0 : Nat) (h : oH) (sz F : Nat) (σ : oS) (r : Int32) (σr : oS) (hg : fX0_planMoves F σ = some (r, σr)) : Met l yX0_planMoves wsX0_planMoves rX0_planMoves (oPre G h0 h σ sz []) (oQi G h0 h r σr (oA G h0 h σ sz)) 0 0 (oA G h0 h σ sz) := by
  refine oMet (Qc := oQi G h0 h r σr) (by decide +kernel) rfl rfl (Nat.le_of_ble_eq_true rfl) ?_
  intro p e s m args below meth c A S hr hlocks hK hA H locs hI ls hl
  have hl : lv_has ls 3 [(0, .ref h0)] := hl
  have hin : ∀ w ∈ wsX00, w ∈ wsX0_planMoves := in_ws
  have hx := S.1
  have hb := S.2.1
  have hts := S.2.2.2.2
  have hown := S.2.2.2.1
  unfold fX0_planMoves at hg
  refine lv_iconst (v := 0) hx hb dX0_planMoves_0 (by decide) ?_
  refine lv_istore_n (lv' := [(1, .int 0), (0, .ref h0)]) hx hb dX0_planMoves_1 rfl hl (by decide) rfl (fun ls hl => ?_)
  refine lv_iconst (v := 0) hx hb dX0_planMoves_2 (by decide) ?_
  refine lv_istore_n (lv' := [(2, .int 0), (1, .int 0), (0, .ref h0)]) hx hb dX0_planMoves_3 rfl hl (by decide) rfl (fun ls hl => ?_)
  refine lX0_planMoves_4 S hr hlocks hin hK hA  F 0 0 σ H locs ls hg hI (lv_sub hl [2, 1, 0] rfl) (fun w16 w17 σ18 H locs ls hg hI hl => ?_)
  refine lv_iload_n hx hb dX0_planMoves_52 rfl (lv_at hl 1 rfl) ?_
  exact oe_i S hr hlocks hK hI hg dX0_planMoves_53
-- OwnMemory.keepNames
abbrev rX0_keepNames : Room := { frames := 0, cells := 0, slots := 0, locals := 0 }
theorem nX0_keepNames : yX0_keepNames.cls = RX0 ∧ yX0_keepNames.cls ≠ "java/lang/invoke/MethodHandle" ∧ yX0_keepNames.cls ≠ "java/lang/invoke/VarHandle" ∧ (parseMethodDescriptor yX0_keepNames.desc).map (fun d => d.parameters.length) = some 0 := by decide +kernel
noncomputable def LX0_keepNames_4 (F : Nat) (K : Int32 → Int32 → oS → Option oS) : Nat → Int32 → Int32 → oS → Option oS
  | 0, _, _, _ => none
  | n + 1, v1, v2, σ => cIf ((o_nc σ) ≤ v2) (K v1 v2 σ) (ck (vp_in v2 (o_ln σ)) (nmd (o_fn σ v2.toNatClampNeg) (fun x3 => ck (vp_in (x3 + 1) (o_lw σ)) (nmd (o_fw σ (x3 + 1).toNatClampNeg) (fun x5 => cIf (x5 = (-1)) (nmd (v2 + 1) (fun x7 => LX0_keepNames_4 F K  n v1 x7 σ)) (ck (vp_in v1 (o_ln σ)) (nmd (o_s_fn σ (upd (o_fn σ) v1.toNatClampNeg x5)) (fun σ9 => nmd (v1 + 1) (fun x10 => nmd (v2 + 1) (fun x11 => LX0_keepNames_4 F K  n x10 x11 σ9))))))))))
noncomputable def fX0_keepNames (F : Nat) (σ : oS) : Option oS := LX0_keepNames_4 F (fun w12 w13 σ14 => nmd (o_s_nc σ14 w12) (fun σ15 => some σ15))  F 0 0 σ
set_option maxHeartbeats 4000000 in
set_option maxRecDepth 100000 in
theorem lX0_keepNames_4 {p : Program} {l : Launch} {e : Env} {s : State} {m : MethodId} {args : Array Value} {below : List Frame} {meth : Method} {c : Code} {A : Nat → Prop} {G : gT} {h0 : Nat} {h : oH} {F : Nat} (S : CallFix p m c cX0_keepNames 4 s args wsX0_keepNames RX0) (hr : meth.sig.returnType = none) (hlocks : meth.locks = false) (hin : ∀ w ∈ wsX00, w ∈ wsX0_keepNames) (hK : gK G s) (hA : ∀ q, s.heap.size ≤ q → A q) {K : Int32 → Int32 → oS → Option oS} {res : oS} (n : Nat) : ∀ (v1 : Int32) (v2 : Int32) (σ : oS) (H : Heap) (locs : List Loc) (ls : Array Slot), LX0_keepNames_4 F K n v1 v2 σ = some res → oI s A G h0 h σ H locs → lv_has ls 4 [(0, .ref h0), (1, .int v1), (2, .int v2)] → (∀ (v1 : Int32) (v2 : Int32) (σ : oS) (H : Heap) (locs : List Loc) (ls : Array Slot), K v1 v2 σ = some res → oI s A G h0 h σ H locs → lv_has ls 4 [(0, .ref h0), (1, .int v1), (2, .int v2)] → W p l e rX0_keepNames s m args below meth c H locs 0 0 (MQ below (oQv G h0 h res A) args s 0 0 A) (F0 m 47 ls [])) → W p l e rX0_keepNames s m args below meth c H locs 0 0 (MQ below (oQv G h0 h res A) args s 0 0 A) (F0 m 4 ls []) := by
  have hx := S.1
  have hb := S.2.1
  have hts := S.2.2.2.2
  have hown := S.2.2.2.1
  induction n with
  | zero => intro v1 v2 σ H locs ls hg; rw [LX0_keepNames_4] at hg; cases hg
  | succ n ih =>
    intro v1 v2 σ H locs ls hg hI hl kk
    rw [LX0_keepNames_4] at hg
    refine lv_iload_n hx hb dX0_keepNames_4 rfl (lv_at hl 2 rfl) ?_
    refine lv_aload_n hx hb dX0_keepNames_5 rfl (lv_at hl 0 rfl) ?_
    refine og_nameCount S hin hK hI (ix := 42) (by decide +kernel) dX0_keepNames_6 ?_
    refine lv_icmp_ge (tgt := 47) hx hb dX0_keepNames_9 (by decide) (fun c1 => ?_) (fun c1 => ?_)
    · have hg := cIf_te c1 hg
      exact kk v1 v2 σ H locs ls hg hI (lv_sub hl [0, 1, 2] rfl)
    · have hg := cIf_fe c1 hg
      refine lv_aload_n hx hb dX0_keepNames_12 rfl (lv_at hl 0 rfl) ?_
      refine og_words S hin hK hI (ix := 23) (by decide +kernel) dX0_keepNames_13 ?_
      refine lv_aload_n hx hb dX0_keepNames_16 rfl (lv_at hl 0 rfl) ?_
      refine og_names S hin hK hI (ix := 39) (by decide +kernel) dX0_keepNames_17 ?_
      refine lv_iload_n hx hb dX0_keepNames_20 rfl (lv_at hl 2 rfl) ?_
      obtain ⟨c2, hg⟩ := ck_e hg
      obtain ⟨x3, ex3, hg⟩ := nmd_e hg
      refine or_names S hK hI c2 ex3 dX0_keepNames_21 ?_
      refine lv_iconst (v := 1) hx hb dX0_keepNames_22 (by decide) ?_
      refine lv_iadd hx hb dX0_keepNames_23 ?_
      obtain ⟨c4, hg⟩ := ck_e hg
      obtain ⟨x5, ex5, hg⟩ := nmd_e hg
      refine or_words S hK hI c4 ex5 dX0_keepNames_24 ?_
      refine lv_istore_n (lv' := [(3, .int x5), (0, .ref h0), (1, .int v1), (2, .int v2)]) hx hb dX0_keepNames_25 rfl hl (by decide) rfl (fun ls hl => ?_)
      refine lv_iload_n hx hb dX0_keepNames_26 rfl (lv_at hl 0 rfl) ?_
      refine lv_iconst (v := (-1)) hx hb dX0_keepNames_27 (by decide) ?_
      refine lv_icmp_eq (tgt := 41) hx hb dX0_keepNames_28 (by decide) (fun c6 => ?_) (fun c6 => ?_)
      · have hg := cIf_te c6 hg
        obtain ⟨x7, ex7, hg⟩ := nmd_e hg
        refine lv_iinc (v := x7) (lv' := [(2, .int x7), (3, .int x5), (0, .ref h0), (1, .int v1)]) hx hb dX0_keepNames_41 hl (k := 3) rfl (by rw [ex7]; rfl) (by decide) rfl (fun ls hl => ?_)
        refine lv_goto (tgt := 4) hx hb dX0_keepNames_44 (by decide) ?_
        exact ih v1 x7 σ H locs ls hg hI (lv_sub hl [2, 3, 0] rfl) kk
      · have hg := cIf_fe c6 hg
        refine lv_aload_n hx hb dX0_keepNames_31 rfl (lv_at hl 1 rfl) ?_
        refine og_names S hin hK hI (ix := 39) (by decide +kernel) dX0_keepNames_32 ?_
        refine lv_iload_n hx hb dX0_keepNames_35 rfl (lv_at hl 2 rfl) ?_
        refine lv_iload_n hx hb dX0_keepNames_36 rfl (lv_at hl 0 rfl) ?_
        obtain ⟨c8, hg⟩ := ck_e hg
        obtain ⟨σ9, eσ9, hg⟩ := nmd_e hg
        refine ou_names S hK hI c8 eσ9 dX0_keepNames_37 (fun H locs hI => ?_)
        obtain ⟨x10, ex10, hg⟩ := nmd_e hg
        refine lv_iinc (v := x10) (lv' := [(1, .int x10), (3, .int x5), (0, .ref h0), (2, .int v2)]) hx hb dX0_keepNames_38 hl (k := 2) rfl (by rw [ex10]; rfl) (by decide) rfl (fun ls hl => ?_)
        obtain ⟨x11, ex11, hg⟩ := nmd_e hg
        refine lv_iinc (v := x11) (lv' := [(2, .int x11), (1, .int x10), (3, .int x5), (0, .ref h0)]) hx hb dX0_keepNames_41 hl (k := 3) rfl (by rw [ex11]; rfl) (by decide) rfl (fun ls hl => ?_)
        refine lv_goto (tgt := 4) hx hb dX0_keepNames_44 (by decide) ?_
        exact ih x10 x11 σ9 H locs ls hg hI (lv_sub hl [3, 1, 0] rfl) kk
set_option maxHeartbeats 4000000 in
set_option maxRecDepth 100000 in
theorem kX0_keepNames (l : Launch) (G : gT) (h0 : Nat) (h : oH) (sz F : Nat) (σ : oS) (σr : oS) (hg : fX0_keepNames F σ = some σr) : Met l yX0_keepNames wsX0_keepNames rX0_keepNames (oPre G h0 h σ sz []) (oQv G h0 h σr (oA G h0 h σ sz)) 0 0 (oA G h0 h σ sz) := by
  refine oMet (Qc := oQv G h0 h σr) (by decide +kernel) rfl rfl (Nat.le_of_ble_eq_true rfl) ?_
  intro p e s m args below meth c A S hr hlocks hK hA H locs hI ls hl
  have hl : lv_has ls 4 [(0, .ref h0)] := hl
  have hin : ∀ w ∈ wsX00, w ∈ wsX0_keepNames := in_ws
  have hx := S.1
  have hb := S.2.1
  have hts := S.2.2.2.2
  have hown := S.2.2.2.1
  unfold fX0_keepNames at hg
  refine lv_iconst (v := 0) hx hb dX0_keepNames_0 (by decide) ?_
  refine lv_istore_n (lv' := [(1, .int 0), (0, .ref h0)]) hx hb dX0_keepNames_1 rfl hl (by decide) rfl (fun ls hl => ?_)
  refine lv_iconst (v := 0) hx hb dX0_keepNames_2 (by decide) ?_
  refine lv_istore_n (lv' := [(2, .int 0), (1, .int 0), (0, .ref h0)]) hx hb dX0_keepNames_3 rfl hl (by decide) rfl (fun ls hl => ?_)
  refine lX0_keepNames_4 S hr hlocks hin hK hA  F 0 0 σ H locs ls hg hI (lv_sub hl [2, 1, 0] rfl) (fun w12 w13 σ14 H locs ls hg hI hl => ?_)
  refine lv_aload_n hx hb dX0_keepNames_47 rfl (lv_at hl 0 rfl) ?_
  refine lv_iload_n hx hb dX0_keepNames_48 rfl (lv_at hl 1 rfl) ?_
  obtain ⟨σ15, eσ15, hg⟩ := nmd_e hg
  refine op_nameCount S hin hK hI (ix := 42) (by decide +kernel) eσ15 dX0_keepNames_49 (fun H locs hI => ?_)
  exact oe_v S hr hlocks hK hI hg dX0_keepNames_52
-- OwnMemory.lengthAt
abbrev rX0_lengthAt : Room := { frames := 1, cells := 0, slots := 0, locals := 21 }
theorem nX0_lengthAt : yX0_lengthAt.cls = RX0 ∧ yX0_lengthAt.cls ≠ "java/lang/invoke/MethodHandle" ∧ yX0_lengthAt.cls ≠ "java/lang/invoke/VarHandle" ∧ (parseMethodDescriptor yX0_lengthAt.desc).map (fun d => d.parameters.length) = some 1 := by decide +kernel
noncomputable def fX0_lengthAt (F : Nat) (σ : oS) (p1 : Int32) : Option (Int32 × oS) := bnd (fX0_linksAt F σ p1) (fun r2 σ1 => ck (vp_in ((p1 + 3) + r2) (o_lw σ1)) (nmd (o_fw σ1 ((p1 + 3) + r2).toNatClampNeg) (fun x4 => some (x4, σ1))))
set_option maxHeartbeats 4000000 in
set_option maxRecDepth 100000 in
theorem kX0_lengthAt (l : Launch) (G : gT) (h0 : Nat) (h : oH) (sz F : Nat) (σ : oS) (p1 : Int32) (r : Int32) (σr : oS) (hg : fX0_lengthAt F σ p1 = some (r, σr)) : Met l yX0_lengthAt wsX0_lengthAt rX0_lengthAt (oPre G h0 h σ sz [.int p1]) (oQi G h0 h r σr (oA G h0 h σ sz)) 0 0 (oA G h0 h σ sz) := by
  refine oMet (Qc := oQi G h0 h r σr) (by decide +kernel) rfl rfl (Nat.le_of_ble_eq_true rfl) ?_
  intro p e s m args below meth c A S hr hlocks hK hA H locs hI ls hl
  have hl : lv_has ls 2 [(0, .ref h0), (1, .int p1)] := hl
  have hin : ∀ w ∈ wsX00, w ∈ wsX0_lengthAt := in_ws
  have hx := S.1
  have hb := S.2.1
  have hts := S.2.2.2.2
  have hown := S.2.2.2.1
  unfold fX0_lengthAt at hg
  refine lv_aload_n hx hb dX0_lengthAt_0 rfl (lv_at hl 0 rfl) ?_
  refine og_words S hin hK hI (ix := 23) (by decide +kernel) dX0_lengthAt_1 ?_
  refine lv_iload_n hx hb dX0_lengthAt_4 rfl (lv_at hl 1 rfl) ?_
  refine lv_iconst (v := 3) hx hb dX0_lengthAt_5 (by decide) ?_
  refine lv_iadd hx hb dX0_lengthAt_6 ?_
  refine lv_aload_n hx hb dX0_lengthAt_7 rfl (lv_at hl 0 rfl) ?_
  refine lv_iload_n hx hb dX0_lengthAt_8 rfl (lv_at hl 1 rfl) ?_
  obtain ⟨r2, σ1, er2, hg⟩ := bnd_e hg
  refine oc_i S hK hA hI (As := [.int p1]) (rest := [.int (p1 + 3), .ref h.1]) (kX0_linksAt l G h0 h H.size F σ p1  r2 σ1 er2) (cwV 1 hts gX0_lengthAt_X0_linksAt rfl rfl rfl nX0_linksAt ⟨Nat.le_of_ble_eq_true rfl, Nat.le_of_ble_eq_true rfl⟩) rfl hl.1 rfl (Nat.le_of_ble_eq_true rfl) dX0_lengthAt_9 ⟨Nat.le_refl _, Nat.le_refl _⟩ (fun H locs hI => ?_)
  refine lv_iadd hx hb dX0_lengthAt_12 ?_
  obtain ⟨c3, hg⟩ := ck_e hg
  obtain ⟨x4, ex4, hg⟩ := nmd_e hg
  refine or_words S hK hI c3 ex4 dX0_lengthAt_13 ?_
  exact oe_i S hr hlocks hK hI hg dX0_lengthAt_14
-- OwnMemory.putLength
abbrev rX0_putLength : Room := { frames := 1, cells := 0, slots := 0, locals := 21 }
theorem nX0_putLength : yX0_putLength.cls = RX0 ∧ yX0_putLength.cls ≠ "java/lang/invoke/MethodHandle" ∧ yX0_putLength.cls ≠ "java/lang/invoke/VarHandle" ∧ (parseMethodDescriptor yX0_putLength.desc).map (fun d => d.parameters.length) = some 2 := by decide +kernel
noncomputable def fX0_putLength (F : Nat) (σ : oS) (p1 : Int32) (p2 : Int32) : Option oS := bnd (fX0_linksAt F σ p1) (fun r2 σ1 => ck (vp_in ((p1 + 3) + r2) (o_lw σ1)) (nmd (o_s_fw σ1 (upd (o_fw σ1) ((p1 + 3) + r2).toNatClampNeg p2)) (fun σ4 => some σ4)))
set_option maxHeartbeats 4000000 in
set_option maxRecDepth 100000 in
theorem kX0_putLength (l : Launch) (G : gT) (h0 : Nat) (h : oH) (sz F : Nat) (σ : oS) (p1 : Int32) (p2 : Int32) (σr : oS) (hg : fX0_putLength F σ p1 p2 = some σr) : Met l yX0_putLength wsX0_putLength rX0_putLength (oPre G h0 h σ sz [.int p1, .int p2]) (oQv G h0 h σr (oA G h0 h σ sz)) 0 0 (oA G h0 h σ sz) := by
  refine oMet (Qc := oQv G h0 h σr) (by decide +kernel) rfl rfl (Nat.le_of_ble_eq_true rfl) ?_
  intro p e s m args below meth c A S hr hlocks hK hA H locs hI ls hl
  have hl : lv_has ls 3 [(0, .ref h0), (1, .int p1), (2, .int p2)] := hl
  have hin : ∀ w ∈ wsX00, w ∈ wsX0_putLength := in_ws
  have hx := S.1
  have hb := S.2.1
  have hts := S.2.2.2.2
  have hown := S.2.2.2.1
  unfold fX0_putLength at hg
  refine lv_aload_n hx hb dX0_putLength_0 rfl (lv_at hl 0 rfl) ?_
  refine og_words S hin hK hI (ix := 23) (by decide +kernel) dX0_putLength_1 ?_
  refine lv_iload_n hx hb dX0_putLength_4 rfl (lv_at hl 1 rfl) ?_
  refine lv_iconst (v := 3) hx hb dX0_putLength_5 (by decide) ?_
  refine lv_iadd hx hb dX0_putLength_6 ?_
  refine lv_aload_n hx hb dX0_putLength_7 rfl (lv_at hl 0 rfl) ?_
  refine lv_iload_n hx hb dX0_putLength_8 rfl (lv_at hl 1 rfl) ?_
  obtain ⟨r2, σ1, er2, hg⟩ := bnd_e hg
  refine oc_i S hK hA hI (As := [.int p1]) (rest := [.int (p1 + 3), .ref h.1]) (kX0_linksAt l G h0 h H.size F σ p1  r2 σ1 er2) (cwV 1 hts gX0_putLength_X0_linksAt rfl rfl rfl nX0_linksAt ⟨Nat.le_of_ble_eq_true rfl, Nat.le_of_ble_eq_true rfl⟩) rfl hl.1 rfl (Nat.le_of_ble_eq_true rfl) dX0_putLength_9 ⟨Nat.le_refl _, Nat.le_refl _⟩ (fun H locs hI => ?_)
  refine lv_iadd hx hb dX0_putLength_12 ?_
  refine lv_iload_n hx hb dX0_putLength_13 rfl (lv_at hl 2 rfl) ?_
  obtain ⟨c3, hg⟩ := ck_e hg
  obtain ⟨σ4, eσ4, hg⟩ := nmd_e hg
  refine ou_words S hK hI c3 eσ4 dX0_putLength_14 (fun H locs hI => ?_)
  exact oe_v S hr hlocks hK hI hg dX0_putLength_15
-- OwnMemory.lengthIn
abbrev rX0_lengthIn : Room := { frames := 2, cells := 0, slots := 0, locals := 42 }
theorem nX0_lengthIn : yX0_lengthIn.cls = RX0 ∧ yX0_lengthIn.cls ≠ "java/lang/invoke/MethodHandle" ∧ yX0_lengthIn.cls ≠ "java/lang/invoke/VarHandle" ∧ (parseMethodDescriptor yX0_lengthIn.desc).map (fun d => d.parameters.length) = some 1 := by decide +kernel
noncomputable def fX0_lengthIn (F : Nat) (σ : oS) (p1 : Int32) : Option (Int32 × oS) := ck (vp_in p1 24) (nmd (o_fr σ p1.toNatClampNeg) (fun x2 => bnd (fX0_lengthAt F σ x2) (fun r4 σ3 => some (r4, σ3))))
set_option maxHeartbeats 4000000 in
set_option maxRecDepth 100000 in
theorem kX0_lengthIn (l : Launch) (G : gT) (h0 : Nat) (h : oH) (sz F : Nat) (σ : oS) (p1 : Int32) (r : Int32) (σr : oS) (hg : fX0_lengthIn F σ p1 = some (r, σr)) : Met l yX0_lengthIn wsX0_lengthIn rX0_lengthIn (oPre G h0 h σ sz [.int p1]) (oQi G h0 h r σr (oA G h0 h σ sz)) 0 0 (oA G h0 h σ sz) := by
  refine oMet (Qc := oQi G h0 h r σr) (by decide +kernel) rfl rfl (Nat.le_of_ble_eq_true rfl) ?_
  intro p e s m args below meth c A S hr hlocks hK hA H locs hI ls hl
  have hl : lv_has ls 2 [(0, .ref h0), (1, .int p1)] := hl
  have hin : ∀ w ∈ wsX00, w ∈ wsX0_lengthIn := in_ws
  have hx := S.1
  have hb := S.2.1
  have hts := S.2.2.2.2
  have hown := S.2.2.2.1
  unfold fX0_lengthIn at hg
  refine lv_aload_n hx hb dX0_lengthIn_0 rfl (lv_at hl 0 rfl) ?_
  refine lv_aload_n hx hb dX0_lengthIn_1 rfl (lv_at hl 0 rfl) ?_
  refine og_roots S hin hK hI (ix := 30) (by decide +kernel) dX0_lengthIn_2 ?_
  refine lv_iload_n hx hb dX0_lengthIn_5 rfl (lv_at hl 1 rfl) ?_
  obtain ⟨c1, hg⟩ := ck_e hg
  obtain ⟨x2, ex2, hg⟩ := nmd_e hg
  refine or_roots S hK hI c1 ex2 dX0_lengthIn_6 ?_
  obtain ⟨r4, σ3, er4, hg⟩ := bnd_e hg
  refine oc_i S hK hA hI (As := [.int x2]) (rest := []) (kX0_lengthAt l G h0 h H.size F σ x2  r4 σ3 er4) (cwV 1 hts gX0_lengthIn_X0_lengthAt rfl rfl rfl nX0_lengthAt ⟨Nat.le_of_ble_eq_true rfl, Nat.le_of_ble_eq_true rfl⟩) rfl hl.1 rfl (Nat.le_of_ble_eq_true rfl) dX0_lengthIn_7 ⟨Nat.le_refl _, Nat.le_refl _⟩ (fun H locs hI => ?_)
  exact oe_i S hr hlocks hK hI hg dX0_lengthIn_10
-- OwnMemory.flatOf
abbrev rX0_flatOf : Room := { frames := 1, cells := 0, slots := 0, locals := 21 }
theorem nX0_flatOf : yX0_flatOf.cls = RX0 ∧ yX0_flatOf.cls ≠ "java/lang/invoke/MethodHandle" ∧ yX0_flatOf.cls ≠ "java/lang/invoke/VarHandle" ∧ (parseMethodDescriptor yX0_flatOf.desc).map (fun d => d.parameters.length) = some 1 := by decide +kernel
noncomputable def fX0_flatOf (F : Nat) (σ : oS) (p1 : Int32) : Option (Int32 × oS) := bnd (fX0_kindAt F σ p1) (fun r2 σ1 => cIf (r2 = 4) (ck (vp_in (p1 + 3) (o_lw σ1)) (nmd (o_fw σ1 (p1 + 3).toNatClampNeg) (fun x5 => some (x5, σ1)))) (some (p1, σ1)))
set_option maxHeartbeats 4000000 in
set_option maxRecDepth 100000 in
theorem kX0_flatOf (l : Launch) (G : gT) (h0 : Nat) (h : oH) (sz F : Nat) (σ : oS) (p1 : Int32) (r : Int32) (σr : oS) (hg : fX0_flatOf F σ p1 = some (r, σr)) : Met l yX0_flatOf wsX0_flatOf rX0_flatOf (oPre G h0 h σ sz [.int p1]) (oQi G h0 h r σr (oA G h0 h σ sz)) 0 0 (oA G h0 h σ sz) := by
  refine oMet (Qc := oQi G h0 h r σr) (by decide +kernel) rfl rfl (Nat.le_of_ble_eq_true rfl) ?_
  intro p e s m args below meth c A S hr hlocks hK hA H locs hI ls hl
  have hl : lv_has ls 2 [(0, .ref h0), (1, .int p1)] := hl
  have hin : ∀ w ∈ wsX00, w ∈ wsX0_flatOf := in_ws
  have hx := S.1
  have hb := S.2.1
  have hts := S.2.2.2.2
  have hown := S.2.2.2.1
  unfold fX0_flatOf at hg
  refine lv_aload_n hx hb dX0_flatOf_0 rfl (lv_at hl 0 rfl) ?_
  refine lv_iload_n hx hb dX0_flatOf_1 rfl (lv_at hl 1 rfl) ?_
  obtain ⟨r2, σ1, er2, hg⟩ := bnd_e hg
  refine oc_i S hK hA hI (As := [.int p1]) (rest := []) (kX0_kindAt l G h0 h H.size F σ p1  r2 σ1 er2) (cwV 1 hts gX0_flatOf_X0_kindAt rfl rfl rfl nX0_kindAt ⟨Nat.le_of_ble_eq_true rfl, Nat.le_of_ble_eq_true rfl⟩) rfl hl.1 rfl (Nat.le_of_ble_eq_true rfl) dX0_flatOf_2 ⟨Nat.le_refl _, Nat.le_refl _⟩ (fun H locs hI => ?_)
  refine lv_iconst (v := 4) hx hb dX0_flatOf_5 (by decide) ?_
  refine lv_icmp_ne (tgt := 20) hx hb dX0_flatOf_6 (by decide) (fun c3 => ?_) (fun c3 => ?_)
  · have hg := cIf_fe c3 hg
    refine lv_iload_n hx hb dX0_flatOf_20 rfl (lv_at hl 1 rfl) ?_
    exact oe_i S hr hlocks hK hI hg dX0_flatOf_21
  · have hg := cIf_te c3 hg
    refine lv_aload_n hx hb dX0_flatOf_9 rfl (lv_at hl 0 rfl) ?_
    refine og_words S hin hK hI (ix := 23) (by decide +kernel) dX0_flatOf_10 ?_
    refine lv_iload_n hx hb dX0_flatOf_13 rfl (lv_at hl 1 rfl) ?_
    refine lv_iconst (v := 3) hx hb dX0_flatOf_14 (by decide) ?_
    refine lv_iadd hx hb dX0_flatOf_15 ?_
    obtain ⟨c4, hg⟩ := ck_e hg
    obtain ⟨x5, ex5, hg⟩ := nmd_e hg
    refine or_words S hK hI c4 ex5 dX0_flatOf_16 ?_
    refine lv_goto (tgt := 21) hx hb dX0_flatOf_17 (by decide) ?_
    exact oe_i S hr hlocks hK hI hg dX0_flatOf_21
-- OwnMemory.unitAt
abbrev rX0_unitAt : Room := { frames := 0, cells := 0, slots := 0, locals := 0 }
theorem nX0_unitAt : yX0_unitAt.cls = RX0 ∧ yX0_unitAt.cls ≠ "java/lang/invoke/MethodHandle" ∧ yX0_unitAt.cls ≠ "java/lang/invoke/VarHandle" ∧ (parseMethodDescriptor yX0_unitAt.desc).map (fun d => d.parameters.length) = some 2 := by decide +kernel
noncomputable def fX0_unitAt (F : Nat) (σ : oS) (p1 : Int32) (p2 : Int32) : Option (Int32 × oS) := ck (vp_in ((p1 + 4) + (p2 / 2)) (o_lw σ)) (nmd (o_fw σ ((p1 + 4) + (p2 / 2)).toNatClampNeg) (fun x2 => some (((x2.toUInt32 >>> ((16 * (p2 - p2 / 2 * 2)).toUInt32 &&& Int32.toUInt32 31)).toInt32 &&& 65535), σ)))
set_option maxHeartbeats 4000000 in
set_option maxRecDepth 100000 in
theorem kX0_unitAt (l : Launch) (G : gT) (h0 : Nat) (h : oH) (sz F : Nat) (σ : oS) (p1 : Int32) (p2 : Int32) (r : Int32) (σr : oS) (hg : fX0_unitAt F σ p1 p2 = some (r, σr)) : Met l yX0_unitAt wsX0_unitAt rX0_unitAt (oPre G h0 h σ sz [.int p1, .int p2]) (oQi G h0 h r σr (oA G h0 h σ sz)) 0 0 (oA G h0 h σ sz) := by
  refine oMet (Qc := oQi G h0 h r σr) (by decide +kernel) rfl rfl (Nat.le_of_ble_eq_true rfl) ?_
  intro p e s m args below meth c A S hr hlocks hK hA H locs hI ls hl
  have hl : lv_has ls 3 [(0, .ref h0), (1, .int p1), (2, .int p2)] := hl
  have hin : ∀ w ∈ wsX00, w ∈ wsX0_unitAt := in_ws
  have hx := S.1
  have hb := S.2.1
  have hts := S.2.2.2.2
  have hown := S.2.2.2.1
  unfold fX0_unitAt at hg
  refine lv_aload_n hx hb dX0_unitAt_0 rfl (lv_at hl 0 rfl) ?_
  refine og_words S hin hK hI (ix := 23) (by decide +kernel) dX0_unitAt_1 ?_
  refine lv_iload_n hx hb dX0_unitAt_4 rfl (lv_at hl 1 rfl) ?_
  refine lv_iconst (v := 4) hx hb dX0_unitAt_5 (by decide) ?_
  refine lv_iadd hx hb dX0_unitAt_6 ?_
  refine lv_iload_n hx hb dX0_unitAt_7 rfl (lv_at hl 2 rfl) ?_
  refine lv_iconst (v := 2) hx hb dX0_unitAt_8 (by decide) ?_
  refine lv_idiv hx hb dX0_unitAt_9 (by decide) ?_
  refine lv_iadd hx hb dX0_unitAt_10 ?_
  obtain ⟨c1, hg⟩ := ck_e hg
  obtain ⟨x2, ex2, hg⟩ := nmd_e hg
  refine or_words S hK hI c1 ex2 dX0_unitAt_11 ?_
  refine lv_bipush (v := 16) hx hb dX0_unitAt_12 (by decide) ?_
  refine lv_iload_n hx hb dX0_unitAt_14 rfl (lv_at hl 2 rfl) ?_
  refine lv_iconst (v := 2) hx hb dX0_unitAt_15 (by decide) ?_
  refine lv_irem hx hb dX0_unitAt_16 (by decide) ?_
  refine lv_imul hx hb dX0_unitAt_17 ?_
  refine lv_iushr (v := (x2.toUInt32 >>> ((16 * (p2 - p2 / 2 * 2)).toUInt32 &&& Int32.toUInt32 31)).toInt32) hx hb dX0_unitAt_18 rfl ?_
  refine lv_ldc (v := 65535) hx hb hown (hts (.constant RX0 107 (65535)) (by decide +kernel)) dX0_unitAt_19 ?_
  refine lv_iand hx hb dX0_unitAt_21 ?_
  exact oe_i S hr hlocks hK hI hg dX0_unitAt_22
-- OwnMemory.putUnit
abbrev rX0_putUnit : Room := { frames := 0, cells := 0, slots := 0, locals := 0 }
theorem nX0_putUnit : yX0_putUnit.cls = RX0 ∧ yX0_putUnit.cls ≠ "java/lang/invoke/MethodHandle" ∧ yX0_putUnit.cls ≠ "java/lang/invoke/VarHandle" ∧ (parseMethodDescriptor yX0_putUnit.desc).map (fun d => d.parameters.length) = some 3 := by decide +kernel
noncomputable def fX0_putUnit (F : Nat) (σ : oS) (p1 : Int32) (p2 : Int32) (p3 : Int32) : Option oS := ck (vp_in ((p1 + 4) + (p2 / 2)) (o_lw σ)) (nmd (o_fw σ ((p1 + 4) + (p2 / 2)).toNatClampNeg) (fun x2 => ck (vp_in ((p1 + 4) + (p2 / 2)) (o_lw σ)) (nmd (o_s_fw σ (upd (o_fw σ) ((p1 + 4) + (p2 / 2)).toNatClampNeg (x2 ||| (p3 <<< ((16 * (p2 - p2 / 2 * 2)) &&& 31))))) (fun σ4 => some σ4))))
set_option maxHeartbeats 4000000 in
set_option maxRecDepth 100000 in
theorem kX0_putUnit (l : Launch) (G : gT) (h0 : Nat) (h : oH) (sz F : Nat) (σ : oS) (p1 : Int32) (p2 : Int32) (p3 : Int32) (σr : oS) (hg : fX0_putUnit F σ p1 p2 p3 = some σr) : Met l yX0_putUnit wsX0_putUnit rX0_putUnit (oPre G h0 h σ sz [.int p1, .int p2, .int p3]) (oQv G h0 h σr (oA G h0 h σ sz)) 0 0 (oA G h0 h σ sz) := by
  refine oMet (Qc := oQv G h0 h σr) (by decide +kernel) rfl rfl (Nat.le_of_ble_eq_true rfl) ?_
  intro p e s m args below meth c A S hr hlocks hK hA H locs hI ls hl
  have hl : lv_has ls 4 [(0, .ref h0), (1, .int p1), (2, .int p2), (3, .int p3)] := hl
  have hin : ∀ w ∈ wsX00, w ∈ wsX0_putUnit := in_ws
  have hx := S.1
  have hb := S.2.1
  have hts := S.2.2.2.2
  have hown := S.2.2.2.1
  unfold fX0_putUnit at hg
  refine lv_aload_n hx hb dX0_putUnit_0 rfl (lv_at hl 0 rfl) ?_
  refine og_words S hin hK hI (ix := 23) (by decide +kernel) dX0_putUnit_1 ?_
  refine lv_iload_n hx hb dX0_putUnit_4 rfl (lv_at hl 1 rfl) ?_
  refine lv_iconst (v := 4) hx hb dX0_putUnit_5 (by decide) ?_
  refine lv_iadd hx hb dX0_putUnit_6 ?_
  refine lv_iload_n hx hb dX0_putUnit_7 rfl (lv_at hl 2 rfl) ?_
  refine lv_iconst (v := 2) hx hb dX0_putUnit_8 (by decide) ?_
  refine lv_idiv hx hb dX0_putUnit_9 (by decide) ?_
  refine lv_iadd hx hb dX0_putUnit_10 ?_
  refine lv_dup2_11 hx hb dX0_putUnit_11 rfl rfl ?_
  obtain ⟨c1, hg⟩ := ck_e hg
  obtain ⟨x2, ex2, hg⟩ := nmd_e hg
  refine or_words S hK hI c1 ex2 dX0_putUnit_12 ?_
  refine lv_iload_n hx hb dX0_putUnit_13 rfl (lv_at hl 3 rfl) ?_
  refine lv_bipush (v := 16) hx hb dX0_putUnit_14 (by decide) ?_
  refine lv_iload_n hx hb dX0_putUnit_16 rfl (lv_at hl 2 rfl) ?_
  refine lv_iconst (v := 2) hx hb dX0_putUnit_17 (by decide) ?_
  refine lv_irem hx hb dX0_putUnit_18 (by decide) ?_
  refine lv_imul hx hb dX0_putUnit_19 ?_
  refine lv_ishl hx hb dX0_putUnit_20 ?_
  refine lv_ior hx hb dX0_putUnit_21 ?_
  obtain ⟨c3, hg⟩ := ck_e hg
  obtain ⟨σ4, eσ4, hg⟩ := nmd_e hg
  refine ou_words S hK hI c3 eσ4 dX0_putUnit_22 (fun H locs hI => ?_)
  exact oe_v S hr hlocks hK hI hg dX0_putUnit_23
-- OwnMemory.copyUnits
abbrev rX0_copyUnits : Room := { frames := 1, cells := 0, slots := 0, locals := 23 }
theorem nX0_copyUnits : yX0_copyUnits.cls = RX0 ∧ yX0_copyUnits.cls ≠ "java/lang/invoke/MethodHandle" ∧ yX0_copyUnits.cls ≠ "java/lang/invoke/VarHandle" ∧ (parseMethodDescriptor yX0_copyUnits.desc).map (fun d => d.parameters.length) = some 5 := by decide +kernel
noncomputable def LX0_copyUnits_3 (F : Nat) (K : Int32 → oS → Option oS) (v1 : Int32) (v2 : Int32) (v3 : Int32) (v4 : Int32) (v5 : Int32) : Nat → Int32 → oS → Option oS
  | 0, _, _ => none
  | n + 1, v6, σ => cIf (v3 ≤ v6) (K v6 σ) (bnd (fX0_unitAt F σ v1 v6) (fun r3 σ2 => bnp (fX0_putUnit F σ2 v4 ((v5 + v6) - v2) r3) (fun σ4 => nmd (v6 + 1) (fun x5 => LX0_copyUnits_3 F K v1 v2 v3 v4 v5 n x5 σ4))))
noncomputable def fX0_copyUnits (F : Nat) (σ : oS) (p1 : Int32) (p2 : Int32) (p3 : Int32) (p4 : Int32) (p5 : Int32) : Option oS := LX0_copyUnits_3 F (fun w6 σ7 => some σ7) p1 p2 p3 p4 p5 F p2 σ
set_option maxHeartbeats 4000000 in
set_option maxRecDepth 100000 in
theorem lX0_copyUnits_3 {p : Program} {l : Launch} {e : Env} {s : State} {m : MethodId} {args : Array Value} {below : List Frame} {meth : Method} {c : Code} {A : Nat → Prop} {G : gT} {h0 : Nat} {h : oH} {F : Nat} (S : CallFix p m c cX0_copyUnits 7 s args wsX0_copyUnits RX0) (hr : meth.sig.returnType = none) (hlocks : meth.locks = false) (hin : ∀ w ∈ wsX00, w ∈ wsX0_copyUnits) (hK : gK G s) (hA : ∀ q, s.heap.size ≤ q → A q) {K : Int32 → oS → Option oS} {res : oS} (v1 : Int32) (v2 : Int32) (v3 : Int32) (v4 : Int32) (v5 : Int32) (n : Nat) : ∀ (v6 : Int32) (σ : oS) (H : Heap) (locs : List Loc) (ls : Array Slot), LX0_copyUnits_3 F K v1 v2 v3 v4 v5 n v6 σ = some res → oI s A G h0 h σ H locs → lv_has ls 7 [(0, .ref h0), (1, .int v1), (2, .int v2), (3, .int v3), (4, .int v4), (5, .int v5), (6, .int v6)] → (∀ (v6 : Int32) (σ : oS) (H : Heap) (locs : List Loc) (ls : Array Slot), K v6 σ = some res → oI s A G h0 h σ H locs → lv_has ls 7 [(0, .ref h0), (1, .int v1), (2, .int v2), (3, .int v3), (4, .int v4), (5, .int v5), (6, .int v6)] → W p l e rX0_copyUnits s m args below meth c H locs 0 0 (MQ below (oQv G h0 h res A) args s 0 0 A) (F0 m 35 ls [])) → W p l e rX0_copyUnits s m args below meth c H locs 0 0 (MQ below (oQv G h0 h res A) args s 0 0 A) (F0 m 3 ls []) := by
  have hx := S.1
  have hb := S.2.1
  have hts := S.2.2.2.2
  have hown := S.2.2.2.1
  induction n with
  | zero => intro v6 σ H locs ls hg; rw [LX0_copyUnits_3] at hg; cases hg
  | succ n ih =>
    intro v6 σ H locs ls hg hI hl kk
    rw [LX0_copyUnits_3] at hg
    refine lv_iload hx hb dX0_copyUnits_3 (lv_at hl 6 rfl) ?_
    refine lv_iload_n hx hb dX0_copyUnits_5 rfl (lv_at hl 3 rfl) ?_
    refine lv_icmp_ge (tgt := 35) hx hb dX0_copyUnits_6 (by decide) (fun c1 => ?_) (fun c1 => ?_)
    · have hg := cIf_te c1 hg
      exact kk v6 σ H locs ls hg hI (lv_sub hl [0, 1, 2, 3, 4, 5, 6] rfl)
    · have hg := cIf_fe c1 hg
      refine lv_aload_n hx hb dX0_copyUnits_9 rfl (lv_at hl 0 rfl) ?_
      refine lv_iload hx hb dX0_copyUnits_10 (lv_at hl 4 rfl) ?_
      refine lv_iload hx hb dX0_copyUnits_12 (lv_at hl 5 rfl) ?_
      refine lv_iload hx hb dX0_copyUnits_14 (lv_at hl 6 rfl) ?_
      refine lv_iadd hx hb dX0_copyUnits_16 ?_
      refine lv_iload_n hx hb dX0_copyUnits_17 rfl (lv_at hl 2 rfl) ?_
      refine lv_isub hx hb dX0_copyUnits_18 ?_
      refine lv_aload_n hx hb dX0_copyUnits_19 rfl (lv_at hl 0 rfl) ?_
      refine lv_iload_n hx hb dX0_copyUnits_20 rfl (lv_at hl 1 rfl) ?_
      refine lv_iload hx hb dX0_copyUnits_21 (lv_at hl 6 rfl) ?_
      obtain ⟨r3, σ2, er3, hg⟩ := bnd_e hg
      refine oc_i S hK hA hI (As := [.int v1, .int v6]) (rest := [.int ((v5 + v6) - v2), .int v4, .ref h0]) (kX0_unitAt l G h0 h H.size F σ v1 v6  r3 σ2 er3) (cwV 2 hts gX0_copyUnits_X0_unitAt rfl rfl rfl nX0_unitAt ⟨Nat.le_of_ble_eq_true rfl, Nat.le_of_ble_eq_true rfl⟩) rfl hl.1 rfl (Nat.le_of_ble_eq_true rfl) dX0_copyUnits_23 ⟨Nat.le_refl _, Nat.le_refl _⟩ (fun H locs hI => ?_)
      obtain ⟨σ4, eσ4, hg⟩ := bnp_e hg
      refine oc_v S hK hA hI (As := [.int v4, .int ((v5 + v6) - v2), .int r3]) (rest := []) (kX0_putUnit l G h0 h H.size F σ2 v4 ((v5 + v6) - v2) r3  σ4 eσ4) (cwV 3 hts gX0_copyUnits_X0_putUnit rfl rfl rfl nX0_putUnit ⟨Nat.le_of_ble_eq_true rfl, Nat.le_of_ble_eq_true rfl⟩) rfl hl.1 rfl (Nat.le_of_ble_eq_true rfl) dX0_copyUnits_26 ⟨Nat.le_refl _, Nat.le_refl _⟩ (fun H locs hI => ?_)
      obtain ⟨x5, ex5, hg⟩ := nmd_e hg
      refine lv_iinc (v := x5) (lv' := [(6, .int x5), (0, .ref h0), (1, .int v1), (2, .int v2), (3, .int v3), (4, .int v4), (5, .int v5)]) hx hb dX0_copyUnits_29 hl (k := 6) rfl (by rw [ex5]; rfl) (by decide) rfl (fun ls hl => ?_)
      refine lv_goto (tgt := 3) hx hb dX0_copyUnits_32 (by decide) ?_
      exact ih x5 σ4 H locs ls hg hI (lv_sub hl [1, 2, 3, 4, 5, 6, 0] rfl) kk
set_option maxHeartbeats 4000000 in
set_option maxRecDepth 100000 in
theorem kX0_copyUnits (l : Launch) (G : gT) (h0 : Nat) (h : oH) (sz F : Nat) (σ : oS) (p1 : Int32) (p2 : Int32) (p3 : Int32) (p4 : Int32) (p5 : Int32) (σr : oS) (hg : fX0_copyUnits F σ p1 p2 p3 p4 p5 = some σr) : Met l yX0_copyUnits wsX0_copyUnits rX0_copyUnits (oPre G h0 h σ sz [.int p1, .int p2, .int p3, .int p4, .int p5]) (oQv G h0 h σr (oA G h0 h σ sz)) 0 0 (oA G h0 h σ sz) := by
  refine oMet (Qc := oQv G h0 h σr) (by decide +kernel) rfl rfl (Nat.le_of_ble_eq_true rfl) ?_
  intro p e s m args below meth c A S hr hlocks hK hA H locs hI ls hl
  have hl : lv_has ls 7 [(0, .ref h0), (1, .int p1), (2, .int p2), (3, .int p3), (4, .int p4), (5, .int p5)] := hl
  have hin : ∀ w ∈ wsX00, w ∈ wsX0_copyUnits := in_ws
  have hx := S.1
  have hb := S.2.1
  have hts := S.2.2.2.2
  have hown := S.2.2.2.1
  unfold fX0_copyUnits at hg
  refine lv_iload_n hx hb dX0_copyUnits_0 rfl (lv_at hl 2 rfl) ?_
  refine lv_istore (lv' := [(6, .int p2), (0, .ref h0), (1, .int p1), (2, .int p2), (3, .int p3), (4, .int p4), (5, .int p5)]) hx hb dX0_copyUnits_1 hl (by decide) rfl (fun ls hl => ?_)
  refine lX0_copyUnits_3 S hr hlocks hin hK hA p1 p2 p3 p4 p5 F p2 σ H locs ls hg hI (lv_sub hl [1, 2, 3, 4, 5, 6, 0] rfl) (fun w6 σ7 H locs ls hg hI hl => ?_)
  exact oe_v S hr hlocks hK hI hg dX0_copyUnits_35
-- OwnMemory.copyAllUnits
abbrev rX0_copyAllUnits : Room := { frames := 2, cells := 0, slots := 0, locals := 49 }
theorem nX0_copyAllUnits : yX0_copyAllUnits.cls = RX0 ∧ yX0_copyAllUnits.cls ≠ "java/lang/invoke/MethodHandle" ∧ yX0_copyAllUnits.cls ≠ "java/lang/invoke/VarHandle" ∧ (parseMethodDescriptor yX0_copyAllUnits.desc).map (fun d => d.parameters.length) = some 2 := by decide +kernel
noncomputable def LX0_copyAllUnits_17 (F : Nat) (K : Int32 → Int32 → Int32 → oS → Option oS) (v1 : Int32) (v2 : Int32) : Nat → Int32 → Int32 → Int32 → oS → Option oS
  | 0, _, _, _, _ => none
  | n + 1, v3, v4, v5, σ => cIf (v5 ≤ 0) (K v3 v4 v5 σ) (cIf (v4 ≤ 0) (K v3 v4 v5 σ) (cIf (4000 ≤ v4) (K v3 v4 v5 σ) (ck (vp_in (v4 - 1) 4000) (nmd (o_fp σ (v4 - 1).toNatClampNeg) (fun x7 => bnd (fX0_kindAt F σ x7) (fun r9 σ8 => cIf (r9 = 3) (ck (vp_in (x7 + 4) (o_lw σ8)) (nmd (o_fw σ8 (x7 + 4).toNatClampNeg) (fun x22 => ck (vp_in (v4 - 1) 4000) (nmd (o_s_fp σ8 (upd (o_fp σ8) (v4 - 1).toNatClampNeg x22)) (fun σ24 => ck (vp_in (x7 + 3) (o_lw σ24)) (nmd (o_fw σ24 (x7 + 3).toNatClampNeg) (fun x26 => ck (vp_in v4 4000) (nmd (o_s_fp σ24 (upd (o_fp σ24) v4.toNatClampNeg x26)) (fun σ28 => nmd (v4 + 1) (fun x29 => nmd (v5 + (-1)) (fun x30 => LX0_copyAllUnits_17 F K v1 v2 n v3 x29 x30 σ28))))))))))) (bnd (fX0_flatOf F σ8 x7) (fun r12 σ11 => bnd (fX0_lengthAt F σ11 x7) (fun r14 σ13 => bnp (fX0_copyUnits F σ13 r12 0 r14 v2 v3) (fun σ15 => bnd (fX0_lengthAt F σ15 x7) (fun r17 σ16 => nmd (v3 + r17) (fun x18 => nmd (v4 + (-1)) (fun x19 => nmd (v5 + (-1)) (fun x20 => LX0_copyAllUnits_17 F K v1 v2 n x18 x19 x20 σ16))))))))))))))
noncomputable def fX0_copyAllUnits (F : Nat) (σ : oS) (p1 : Int32) (p2 : Int32) : Option oS := ck (vp_in 0 4000) (nmd (o_s_fp σ (upd (o_fp σ) (0 : Int32).toNatClampNeg p1)) (fun σ2 => LX0_copyAllUnits_17 F (fun w31 w32 w33 σ34 => some σ34) p1 p2 F 0 1 8000 σ2))
set_option maxHeartbeats 4000000 in
set_option maxRecDepth 100000 in
theorem lX0_copyAllUnits_17 {p : Program} {l : Launch} {e : Env} {s : State} {m : MethodId} {args : Array Value} {below : List Frame} {meth : Method} {c : Code} {A : Nat → Prop} {G : gT} {h0 : Nat} {h : oH} {F : Nat} (S : CallFix p m c cX0_copyAllUnits 7 s args wsX0_copyAllUnits RX0) (hr : meth.sig.returnType = none) (hlocks : meth.locks = false) (hin : ∀ w ∈ wsX00, w ∈ wsX0_copyAllUnits) (hK : gK G s) (hA : ∀ q, s.heap.size ≤ q → A q) {K : Int32 → Int32 → Int32 → oS → Option oS} {res : oS} (v1 : Int32) (v2 : Int32) (n : Nat) : ∀ (v3 : Int32) (v4 : Int32) (v5 : Int32) (σ : oS) (H : Heap) (locs : List Loc) (ls : Array Slot), LX0_copyAllUnits_17 F K v1 v2 n v3 v4 v5 σ = some res → oI s A G h0 h σ H locs → lv_has ls 7 [(0, .ref h0), (1, .int v1), (2, .int v2), (3, .int v3), (4, .int v4), (5, .int v5)] → (∀ (v3 : Int32) (v4 : Int32) (v5 : Int32) (σ : oS) (H : Heap) (locs : List Loc) (ls : Array Slot), K v3 v4 v5 σ = some res → oI s A G h0 h σ H locs → lv_has ls 7 [(0, .ref h0), (1, .int v1), (2, .int v2), (3, .int v3), (4, .int v4), (5, .int v5)] → W p l e rX0_copyAllUnits s m args below meth c H locs 0 0 (MQ below (oQv G h0 h res A) args s 0 0 A) (F0 m 133 ls [])) → W p l e rX0_copyAllUnits s m args below meth c H locs 0 0 (MQ below (oQv G h0 h res A) args s 0 0 A) (F0 m 17 ls []) := by
  have hx := S.1
  have hb := S.2.1
  have hts := S.2.2.2.2
  have hown := S.2.2.2.1
  induction n with
  | zero => intro v3 v4 v5 σ H locs ls hg; rw [LX0_copyAllUnits_17] at hg; cases hg
  | succ n ih =>
    intro v3 v4 v5 σ H locs ls hg hI hl kk
    rw [LX0_copyAllUnits_17] at hg
    refine lv_iload hx hb dX0_copyAllUnits_17 (lv_at hl 5 rfl) ?_
    refine lv_if_le (tgt := 133) hx hb dX0_copyAllUnits_19 (by decide) (fun c3 => ?_) (fun c3 => ?_)
    · have hg := cIf_te c3 hg
      exact kk v3 v4 v5 σ H locs ls hg hI (lv_sub hl [0, 1, 2, 3, 4, 5] rfl)
    · have hg := cIf_fe c3 hg
      refine lv_iload hx hb dX0_copyAllUnits_22 (lv_at hl 4 rfl) ?_
      refine lv_if_le (tgt := 133) hx hb dX0_copyAllUnits_24 (by decide) (fun c4 => ?_) (fun c4 => ?_)
      · have hg := cIf_te c4 hg
        exact kk v3 v4 v5 σ H locs ls hg hI (lv_sub hl [0, 1, 2, 3, 4, 5] rfl)
      · have hg := cIf_fe c4 hg
        refine lv_iload hx hb dX0_copyAllUnits_27 (lv_at hl 4 rfl) ?_
        refine lv_sipush (v := 4000) hx hb dX0_copyAllUnits_29 (by decide) ?_
        refine lv_icmp_ge (tgt := 133) hx hb dX0_copyAllUnits_32 (by decide) (fun c5 => ?_) (fun c5 => ?_)
        · have hg := cIf_te c5 hg
          exact kk v3 v4 v5 σ H locs ls hg hI (lv_sub hl [0, 1, 2, 3, 4, 5] rfl)
        · have hg := cIf_fe c5 hg
          refine lv_aload_n hx hb dX0_copyAllUnits_35 rfl (lv_at hl 0 rfl) ?_
          refine og_pending S hin hK hI (ix := 45) (by decide +kernel) dX0_copyAllUnits_36 ?_
          refine lv_iload hx hb dX0_copyAllUnits_39 (lv_at hl 4 rfl) ?_
          refine lv_iconst (v := 1) hx hb dX0_copyAllUnits_41 (by decide) ?_
          refine lv_isub hx hb dX0_copyAllUnits_42 ?_
          obtain ⟨c6, hg⟩ := ck_e hg
          obtain ⟨x7, ex7, hg⟩ := nmd_e hg
          refine or_pending S hK hI c6 ex7 dX0_copyAllUnits_43 ?_
          refine lv_istore (lv' := [(6, .int x7), (0, .ref h0), (1, .int v1), (2, .int v2), (3, .int v3), (4, .int v4), (5, .int v5)]) hx hb dX0_copyAllUnits_44 hl (by decide) rfl (fun ls hl => ?_)
          refine lv_aload_n hx hb dX0_copyAllUnits_46 rfl (lv_at hl 1 rfl) ?_
          refine lv_iload hx hb dX0_copyAllUnits_47 (lv_at hl 0 rfl) ?_
          obtain ⟨r9, σ8, er9, hg⟩ := bnd_e hg
          refine oc_i S hK hA hI (As := [.int x7]) (rest := []) (kX0_kindAt l G h0 h H.size F σ x7  r9 σ8 er9) (cwV 1 hts gX0_copyAllUnits_X0_kindAt rfl rfl rfl nX0_kindAt ⟨Nat.le_of_ble_eq_true rfl, Nat.le_of_ble_eq_true rfl⟩) rfl hl.1 rfl (Nat.le_of_ble_eq_true rfl) dX0_copyAllUnits_49 ⟨Nat.le_refl _, Nat.le_refl _⟩ (fun H locs hI => ?_)
          refine lv_iconst (v := 3) hx hb dX0_copyAllUnits_52 (by decide) ?_
          refine lv_icmp_ne (tgt := 96) hx hb dX0_copyAllUnits_53 (by decide) (fun c10 => ?_) (fun c10 => ?_)
          · have hg := cIf_fe c10 hg
            refine lv_aload_n hx hb dX0_copyAllUnits_96 rfl (lv_at hl 1 rfl) ?_
            refine lv_aload_n hx hb dX0_copyAllUnits_97 rfl (lv_at hl 1 rfl) ?_
            refine lv_iload hx hb dX0_copyAllUnits_98 (lv_at hl 0 rfl) ?_
            obtain ⟨r12, σ11, er12, hg⟩ := bnd_e hg
            refine oc_i S hK hA hI (As := [.int x7]) (rest := [.ref h0]) (kX0_flatOf l G h0 h H.size F σ8 x7  r12 σ11 er12) (cwV 1 hts gX0_copyAllUnits_X0_flatOf rfl rfl rfl nX0_flatOf ⟨Nat.le_of_ble_eq_true rfl, Nat.le_of_ble_eq_true rfl⟩) rfl hl.1 rfl (Nat.le_of_ble_eq_true rfl) dX0_copyAllUnits_100 ⟨Nat.le_refl _, Nat.le_refl _⟩ (fun H locs hI => ?_)
            refine lv_iconst (v := 0) hx hb dX0_copyAllUnits_103 (by decide) ?_
            refine lv_aload_n hx hb dX0_copyAllUnits_104 rfl (lv_at hl 1 rfl) ?_
            refine lv_iload hx hb dX0_copyAllUnits_105 (lv_at hl 0 rfl) ?_
            obtain ⟨r14, σ13, er14, hg⟩ := bnd_e hg
            refine oc_i S hK hA hI (As := [.int x7]) (rest := [.int 0, .int r12, .ref h0]) (kX0_lengthAt l G h0 h H.size F σ11 x7  r14 σ13 er14) (cwV 1 hts gX0_copyAllUnits_X0_lengthAt rfl rfl rfl nX0_lengthAt ⟨Nat.le_of_ble_eq_true rfl, Nat.le_of_ble_eq_true rfl⟩) rfl hl.1 rfl (Nat.le_of_ble_eq_true rfl) dX0_copyAllUnits_107 ⟨Nat.le_refl _, Nat.le_refl _⟩ (fun H locs hI => ?_)
            refine lv_iload_n hx hb dX0_copyAllUnits_110 rfl (lv_at hl 3 rfl) ?_
            refine lv_iload_n hx hb dX0_copyAllUnits_111 rfl (lv_at hl 4 rfl) ?_
            obtain ⟨σ15, eσ15, hg⟩ := bnp_e hg
            refine oc_v S hK hA hI (As := [.int r12, .int 0, .int r14, .int v2, .int v3]) (rest := []) (kX0_copyUnits l G h0 h H.size F σ13 r12 0 r14 v2 v3  σ15 eσ15) (cwV 5 hts gX0_copyAllUnits_X0_copyUnits rfl rfl rfl nX0_copyUnits ⟨Nat.le_of_ble_eq_true rfl, Nat.le_of_ble_eq_true rfl⟩) rfl hl.1 rfl (Nat.le_of_ble_eq_true rfl) dX0_copyAllUnits_112 ⟨Nat.le_refl _, Nat.le_refl _⟩ (fun H locs hI => ?_)
            refine lv_iload_n hx hb dX0_copyAllUnits_115 rfl (lv_at hl 4 rfl) ?_
            refine lv_aload_n hx hb dX0_copyAllUnits_116 rfl (lv_at hl 1 rfl) ?_
            refine lv_iload hx hb dX0_copyAllUnits_117 (lv_at hl 0 rfl) ?_
            obtain ⟨r17, σ16, er17, hg⟩ := bnd_e hg
            refine oc_i S hK hA hI (As := [.int x7]) (rest := [.int v3]) (kX0_lengthAt l G h0 h H.size F σ15 x7  r17 σ16 er17) (cwV 1 hts gX0_copyAllUnits_X0_lengthAt rfl rfl rfl nX0_lengthAt ⟨Nat.le_of_ble_eq_true rfl, Nat.le_of_ble_eq_true rfl⟩) rfl hl.1 rfl (Nat.le_of_ble_eq_true rfl) dX0_copyAllUnits_119 ⟨Nat.le_refl _, Nat.le_refl _⟩ (fun H locs hI => ?_)
            refine lv_iadd hx hb dX0_copyAllUnits_122 ?_
            obtain ⟨x18, ex18, hg⟩ := nmd_e hg
            refine wn_i ex18 ?_
            refine lv_istore_n (lv' := [(3, .int x18), (6, .int x7), (0, .ref h0), (1, .int v1), (2, .int v2), (4, .int v4), (5, .int v5)]) hx hb dX0_copyAllUnits_123 rfl hl (by decide) rfl (fun ls hl => ?_)
            obtain ⟨x19, ex19, hg⟩ := nmd_e hg
            refine lv_iinc (v := x19) (lv' := [(4, .int x19), (3, .int x18), (6, .int x7), (0, .ref h0), (1, .int v1), (2, .int v2), (5, .int v5)]) hx hb dX0_copyAllUnits_124 hl (k := 5) rfl (by rw [ex19]; rfl) (by decide) rfl (fun ls hl => ?_)
            obtain ⟨x20, ex20, hg⟩ := nmd_e hg
            refine lv_iinc (v := x20) (lv' := [(5, .int x20), (4, .int x19), (3, .int x18), (6, .int x7), (0, .ref h0), (1, .int v1), (2, .int v2)]) hx hb dX0_copyAllUnits_127 hl (k := 6) rfl (by rw [ex20]; rfl) (by decide) rfl (fun ls hl => ?_)
            refine lv_goto (tgt := 17) hx hb dX0_copyAllUnits_130 (by decide) ?_
            exact ih x18 x19 x20 σ16 H locs ls hg hI (lv_sub hl [4, 5, 6, 2, 1, 0] rfl) kk
          · have hg := cIf_te c10 hg
            refine lv_aload_n hx hb dX0_copyAllUnits_56 rfl (lv_at hl 1 rfl) ?_
            refine og_pending S hin hK hI (ix := 45) (by decide +kernel) dX0_copyAllUnits_57 ?_
            refine lv_iload hx hb dX0_copyAllUnits_60 (lv_at hl 5 rfl) ?_
            refine lv_iconst (v := 1) hx hb dX0_copyAllUnits_62 (by decide) ?_
            refine lv_isub hx hb dX0_copyAllUnits_63 ?_
            refine lv_aload_n hx hb dX0_copyAllUnits_64 rfl (lv_at hl 1 rfl) ?_
            refine og_words S hin hK hI (ix := 23) (by decide +kernel) dX0_copyAllUnits_65 ?_
            refine lv_iload hx hb dX0_copyAllUnits_68 (lv_at hl 0 rfl) ?_
            refine lv_iconst (v := 4) hx hb dX0_copyAllUnits_70 (by decide) ?_
            refine lv_iadd hx hb dX0_copyAllUnits_71 ?_
            obtain ⟨c21, hg⟩ := ck_e hg
            obtain ⟨x22, ex22, hg⟩ := nmd_e hg
            refine or_words S hK hI c21 ex22 dX0_copyAllUnits_72 ?_
            obtain ⟨c23, hg⟩ := ck_e hg
            obtain ⟨σ24, eσ24, hg⟩ := nmd_e hg
            refine ou_pending S hK hI c23 eσ24 dX0_copyAllUnits_73 (fun H locs hI => ?_)
            refine lv_aload_n hx hb dX0_copyAllUnits_74 rfl (lv_at hl 1 rfl) ?_
            refine og_pending S hin hK hI (ix := 45) (by decide +kernel) dX0_copyAllUnits_75 ?_
            refine lv_iload hx hb dX0_copyAllUnits_78 (lv_at hl 5 rfl) ?_
            refine lv_aload_n hx hb dX0_copyAllUnits_80 rfl (lv_at hl 1 rfl) ?_
            refine og_words S hin hK hI (ix := 23) (by decide +kernel) dX0_copyAllUnits_81 ?_
            refine lv_iload hx hb dX0_copyAllUnits_84 (lv_at hl 0 rfl) ?_
            refine lv_iconst (v := 3) hx hb dX0_copyAllUnits_86 (by decide) ?_
            refine lv_iadd hx hb dX0_copyAllUnits_87 ?_
            obtain ⟨c25, hg⟩ := ck_e hg
            obtain ⟨x26, ex26, hg⟩ := nmd_e hg
            refine or_words S hK hI c25 ex26 dX0_copyAllUnits_88 ?_
            obtain ⟨c27, hg⟩ := ck_e hg
            obtain ⟨σ28, eσ28, hg⟩ := nmd_e hg
            refine ou_pending S hK hI c27 eσ28 dX0_copyAllUnits_89 (fun H locs hI => ?_)
            obtain ⟨x29, ex29, hg⟩ := nmd_e hg
            refine lv_iinc (v := x29) (lv' := [(4, .int x29), (6, .int x7), (0, .ref h0), (1, .int v1), (2, .int v2), (3, .int v3), (5, .int v5)]) hx hb dX0_copyAllUnits_90 hl (k := 5) rfl (by rw [ex29]; rfl) (by decide) rfl (fun ls hl => ?_)
            refine lv_goto (tgt := 127) hx hb dX0_copyAllUnits_93 (by decide) ?_
            obtain ⟨x30, ex30, hg⟩ := nmd_e hg
            refine lv_iinc (v := x30) (lv' := [(5, .int x30), (4, .int x29), (6, .int x7), (0, .ref h0), (1, .int v1), (2, .int v2), (3, .int v3)]) hx hb dX0_copyAllUnits_127 hl (k := 6) rfl (by rw [ex30]; rfl) (by decide) rfl (fun ls hl => ?_)
            refine lv_goto (tgt := 17) hx hb dX0_copyAllUnits_130 (by decide) ?_
            exact ih v3 x29 x30 σ28 H locs ls hg hI (lv_sub hl [3, 4, 5, 6, 1, 0] rfl) kk
set_option maxHeartbeats 4000000 in
set_option maxRecDepth 100000 in
theorem kX0_copyAllUnits (l : Launch) (G : gT) (h0 : Nat) (h : oH) (sz F : Nat) (σ : oS) (p1 : Int32) (p2 : Int32) (σr : oS) (hg : fX0_copyAllUnits F σ p1 p2 = some σr) : Met l yX0_copyAllUnits wsX0_copyAllUnits rX0_copyAllUnits (oPre G h0 h σ sz [.int p1, .int p2]) (oQv G h0 h σr (oA G h0 h σ sz)) 0 0 (oA G h0 h σ sz) := by
  refine oMet (Qc := oQv G h0 h σr) (by decide +kernel) rfl rfl (Nat.le_of_ble_eq_true rfl) ?_
  intro p e s m args below meth c A S hr hlocks hK hA H locs hI ls hl
  have hl : lv_has ls 7 [(0, .ref h0), (1, .int p1), (2, .int p2)] := hl
  have hin : ∀ w ∈ wsX00, w ∈ wsX0_copyAllUnits := by decide +kernel
  have hx := S.1
  have hb := S.2.1
  have hts := S.2.2.2.2
  have hown := S.2.2.2.1
  unfold fX0_copyAllUnits at hg
  refine lv_iconst (v := 0) hx hb dX0_copyAllUnits_0 (by decide) ?_
  refine lv_istore_n (lv' := [(3, .int 0), (0, .ref h0), (1, .int p1), (2, .int p2)]) hx hb dX0_copyAllUnits_1 rfl hl (by decide) rfl (fun ls hl => ?_)
  refine lv_iconst (v := 1) hx hb dX0_copyAllUnits_2 (by decide) ?_
  refine lv_istore (lv' := [(4, .int 1), (3, .int 0), (0, .ref h0), (1, .int p1), (2, .int p2)]) hx hb dX0_copyAllUnits_3 hl (by decide) rfl (fun ls hl => ?_)
  refine lv_aload_n hx hb dX0_copyAllUnits_5 rfl (lv_at hl 2 rfl) ?_
  refine og_pending S hin hK hI (ix := 45) (by decide +kernel) dX0_copyAllUnits_6 ?_
  refine lv_iconst (v := 0) hx hb dX0_copyAllUnits_9 (by decide) ?_
  refine lv_iload_n hx hb dX0_copyAllUnits_10 rfl (lv_at hl 3 rfl) ?_
  obtain ⟨c1, hg⟩ := ck_e hg
  obtain ⟨σ2, eσ2, hg⟩ := nmd_e hg
  refine ou_pending S hK hI c1 eσ2 dX0_copyAllUnits_11 (fun H locs hI => ?_)
  refine lv_sipush (v := 8000) hx hb dX0_copyAllUnits_12 (by decide) ?_
  refine lv_istore (lv' := [(5, .int 8000), (4, .int 1), (3, .int 0), (0, .ref h0), (1, .int p1), (2, .int p2)]) hx hb dX0_copyAllUnits_15 hl (by decide) rfl (fun ls hl => ?_)
  refine lX0_copyAllUnits_17 S hr hlocks hin hK hA p1 p2 F 0 1 8000 σ2 H locs ls hg hI (lv_sub hl [3, 4, 5, 2, 1, 0] rfl) (fun w31 w32 w33 σ34 H locs ls hg hI hl => ?_)
  exact oe_v S hr hlocks hK hI hg dX0_copyAllUnits_133
-- OwnMemory.hasSameUnits
abbrev rX0_hasSameUnits : Room := { frames := 2, cells := 0, slots := 0, locals := 42 }
theorem nX0_hasSameUnits : yX0_hasSameUnits.cls = RX0 ∧ yX0_hasSameUnits.cls ≠ "java/lang/invoke/MethodHandle" ∧ yX0_hasSameUnits.cls ≠ "java/lang/invoke/VarHandle" ∧ (parseMethodDescriptor yX0_hasSameUnits.desc).map (fun d => d.parameters.length) = some 2 := by decide +kernel
noncomputable def LX0_hasSameUnits_24 (F : Nat) (K : Int32 → oS → Option (Int32 × oS)) (v1 : Int32) (v2 : Int32) (v3 : Int32) : Nat → Int32 → oS → Option (Int32 × oS)
  | 0, _, _ => none
  | n + 1, v4, σ => cIf (v3 ≤ v4) (K v4 σ) (ck (vp_in (v1 + v4) (o_lw σ)) (nmd (o_fw σ (v1 + v4).toNatClampNeg) (fun x10 => ck (vp_in (v2 + v4) (o_lw σ)) (nmd (o_fw σ (v2 + v4).toNatClampNeg) (fun x12 => cIf (x10 = x12) (nmd (v4 + 1) (fun x14 => LX0_hasSameUnits_24 F K v1 v2 v3 n x14 σ)) (some (0, σ)))))))
noncomputable def fX0_hasSameUnits (F : Nat) (σ : oS) (p1 : Int32) (p2 : Int32) : Option (Int32 × oS) := bnd (fX0_lengthAt F σ p1) (fun r2 σ1 => bnd (fX0_lengthAt F σ1 p2) (fun r4 σ3 => cIf (r2 = r4) (bnd (fX0_sizeAt F σ3 p1) (fun r7 σ6 => LX0_hasSameUnits_24 F (fun w15 σ16 => some (1, σ16)) p1 p2 r7 F 4 σ6)) (some (0, σ3))))
set_option maxHeartbeats 4000000 in
set_option maxRecDepth 100000 in
theorem lX0_hasSameUnits_24 {p : Program} {l : Launch} {e : Env} {s : State} {m : MethodId} {args : Array Value} {below : List Frame} {meth : Method} {c : Code} {A : Nat → Prop} {G : gT} {h0 : Nat} {h : oH} {F : Nat} (S : CallFix p m c cX0_hasSameUnits 5 s args wsX0_hasSameUnits RX0) (hr : meth.sig.returnType = some .boolean) (hlocks : meth.locks = false) (hin : ∀ w ∈ wsX00, w ∈ wsX0_hasSameUnits) (hK : gK G s) (hA : ∀ q, s.heap.size ≤ q → A q) {K : Int32 → oS → Option (Int32 × oS)} {res : (Int32 × oS)} (v1 : Int32) (v2 : Int32) (v3 : Int32) (n : Nat) : ∀ (v4 : Int32) (σ : oS) (H : Heap) (locs : List Loc) (ls : Array Slot), LX0_hasSameUnits_24 F K v1 v2 v3 n v4 σ = some res → oI s A G h0 h σ H locs → lv_has ls 5 [(0, .ref h0), (1, .int v1), (2, .int v2), (3, .int v3), (4, .int v4)] → (∀ (v4 : Int32) (σ : oS) (H : Heap) (locs : List Loc) (ls : Array Slot), K v4 σ = some res → oI s A G h0 h σ H locs → lv_has ls 5 [(0, .ref h0), (1, .int v1), (2, .int v2), (3, .int v3), (4, .int v4)] → W p l e rX0_hasSameUnits s m args below meth c H locs 0 0 (MQ below (oQi G h0 h res.1 res.2 A) args s 0 0 A) (F0 m 59 ls [])) → W p l e rX0_hasSameUnits s m args below meth c H locs 0 0 (MQ below (oQi G h0 h res.1 res.2 A) args s 0 0 A) (F0 m 24 ls []) := by
  have hx := S.1
  have hb := S.2.1
  have hts := S.2.2.2.2
  have hown := S.2.2.2.1
  induction n with
  | zero => intro v4 σ H locs ls hg; rw [LX0_hasSameUnits_24] at hg; cases hg
  | succ n ih =>
    intro v4 σ H locs ls hg hI hl kk
    rw [LX0_hasSameUnits_24] at hg
    refine lv_iload hx hb dX0_hasSameUnits_24 (lv_at hl 4 rfl) ?_
    refine lv_iload_n hx hb dX0_hasSameUnits_26 rfl (lv_at hl 3 rfl) ?_
    refine lv_icmp_ge (tgt := 59) hx hb dX0_hasSameUnits_27 (by decide) (fun c8 => ?_) (fun c8 => ?_)
    · have hg := cIf_te c8 hg
      exact kk v4 σ H locs ls hg hI (lv_sub hl [0, 1, 2, 3, 4] rfl)
    · have hg := cIf_fe c8 hg
      refine lv_aload_n hx hb dX0_hasSameUnits_30 rfl (lv_at hl 0 rfl) ?_
      refine og_words S hin hK hI (ix := 23) (by decide +kernel) dX0_hasSameUnits_31 ?_
      refine lv_iload_n hx hb dX0_hasSameUnits_34 rfl (lv_at hl 1 rfl) ?_
      refine lv_iload hx hb dX0_hasSameUnits_35 (lv_at hl 4 rfl) ?_
      refine lv_iadd hx hb dX0_hasSameUnits_37 ?_
      obtain ⟨c9, hg⟩ := ck_e hg
      obtain ⟨x10, ex10, hg⟩ := nmd_e hg
      refine or_words S hK hI c9 ex10 dX0_hasSameUnits_38 ?_
      refine lv_aload_n hx hb dX0_hasSameUnits_39 rfl (lv_at hl 0 rfl) ?_
      refine og_words S hin hK hI (ix := 23) (by decide +kernel) dX0_hasSameUnits_40 ?_
      refine lv_iload_n hx hb dX0_hasSameUnits_43 rfl (lv_at hl 2 rfl) ?_
      refine lv_iload hx hb dX0_hasSameUnits_44 (lv_at hl 4 rfl) ?_
      refine lv_iadd hx hb dX0_hasSameUnits_46 ?_
      obtain ⟨c11, hg⟩ := ck_e hg
      obtain ⟨x12, ex12, hg⟩ := nmd_e hg
      refine or_words S hK hI c11 ex12 dX0_hasSameUnits_47 ?_
      refine lv_icmp_eq (tgt := 53) hx hb dX0_hasSameUnits_48 (by decide) (fun c13 => ?_) (fun c13 => ?_)
      · have hg := cIf_te c13 hg
        obtain ⟨x14, ex14, hg⟩ := nmd_e hg
        refine lv_iinc (v := x14) (lv' := [(4, .int x14), (0, .ref h0), (1, .int v1), (2, .int v2), (3, .int v3)]) hx hb dX0_hasSameUnits_53 hl (k := 4) rfl (by rw [ex14]; rfl) (by decide) rfl (fun ls hl => ?_)
        refine lv_goto (tgt := 24) hx hb dX0_hasSameUnits_56 (by decide) ?_
        exact ih x14 σ H locs ls hg hI (lv_sub hl [1, 2, 3, 4, 0] rfl) kk
      · have hg := cIf_fe c13 hg
        refine lv_iconst (v := 0) hx hb dX0_hasSameUnits_51 (by decide) ?_
        exact oe_z S hr hlocks hK hI rfl hg dX0_hasSameUnits_52
set_option maxHeartbeats 4000000 in
set_option maxRecDepth 100000 in
theorem kX0_hasSameUnits (l : Launch) (G : gT) (h0 : Nat) (h : oH) (sz F : Nat) (σ : oS) (p1 : Int32) (p2 : Int32) (r : Int32) (σr : oS) (hg : fX0_hasSameUnits F σ p1 p2 = some (r, σr)) : Met l yX0_hasSameUnits wsX0_hasSameUnits rX0_hasSameUnits (oPre G h0 h σ sz [.int p1, .int p2]) (oQi G h0 h r σr (oA G h0 h σ sz)) 0 0 (oA G h0 h σ sz) := by
  refine oMet (Qc := oQi G h0 h r σr) (by decide +kernel) rfl rfl (Nat.le_of_ble_eq_true rfl) ?_
  intro p e s m args below meth c A S hr hlocks hK hA H locs hI ls hl
  have hl : lv_has ls 5 [(0, .ref h0), (1, .int p1), (2, .int p2)] := hl
  have hin : ∀ w ∈ wsX00, w ∈ wsX0_hasSameUnits := in_ws
  have hx := S.1
  have hb := S.2.1
  have hts := S.2.2.2.2
  have hown := S.2.2.2.1
  unfold fX0_hasSameUnits at hg
  refine lv_aload_n hx hb dX0_hasSameUnits_0 rfl (lv_at hl 0 rfl) ?_
  refine lv_iload_n hx hb dX0_hasSameUnits_1 rfl (lv_at hl 1 rfl) ?_
  obtain ⟨r2, σ1, er2, hg⟩ := bnd_e hg
  refine oc_i S hK hA hI (As := [.int p1]) (rest := []) (kX0_lengthAt l G h0 h H.size F σ p1  r2 σ1 er2) (cwV 1 hts gX0_hasSameUnits_X0_lengthAt rfl rfl rfl nX0_lengthAt ⟨Nat.le_of_ble_eq_true rfl, Nat.le_of_ble_eq_true rfl⟩) rfl hl.1 rfl (Nat.le_of_ble_eq_true rfl) dX0_hasSameUnits_2 ⟨Nat.le_refl _, Nat.le_refl _⟩ (fun H locs hI => ?_)
  refine lv_aload_n hx hb dX0_hasSameUnits_5 rfl (lv_at hl 0 rfl) ?_
  refine lv_iload_n hx hb dX0_hasSameUnits_6 rfl (lv_at hl 2 rfl) ?_
  obtain ⟨r4, σ3, er4, hg⟩ := bnd_e hg
  refine oc_i S hK hA hI (As := [.int p2]) (rest := [.int r2]) (kX0_lengthAt l G h0 h H.size F σ1 p2  r4 σ3 er4) (cwV 1 hts gX0_hasSameUnits_X0_lengthAt rfl rfl rfl nX0_lengthAt ⟨Nat.le_of_ble_eq_true rfl, Nat.le_of_ble_eq_true rfl⟩) rfl hl.1 rfl (Nat.le_of_ble_eq_true rfl) dX0_hasSameUnits_7 ⟨Nat.le_refl _, Nat.le_refl _⟩ (fun H locs hI => ?_)
  refine lv_icmp_eq (tgt := 15) hx hb dX0_hasSameUnits_10 (by decide) (fun c5 => ?_) (fun c5 => ?_)
  · have hg := cIf_te c5 hg
    refine lv_aload_n hx hb dX0_hasSameUnits_15 rfl (lv_at hl 0 rfl) ?_
    refine lv_iload_n hx hb dX0_hasSameUnits_16 rfl (lv_at hl 1 rfl) ?_
    obtain ⟨r7, σ6, er7, hg⟩ := bnd_e hg
    refine oc_i S hK hA hI (As := [.int p1]) (rest := []) (kX0_sizeAt l G h0 h H.size F σ3 p1  r7 σ6 er7) (cwV 1 hts gX0_hasSameUnits_X0_sizeAt rfl rfl rfl nX0_sizeAt ⟨Nat.le_of_ble_eq_true rfl, Nat.le_of_ble_eq_true rfl⟩) rfl hl.1 rfl (Nat.le_of_ble_eq_true rfl) dX0_hasSameUnits_17 ⟨Nat.le_refl _, Nat.le_refl _⟩ (fun H locs hI => ?_)
    refine lv_istore_n (lv' := [(3, .int r7), (0, .ref h0), (1, .int p1), (2, .int p2)]) hx hb dX0_hasSameUnits_20 rfl hl (by decide) rfl (fun ls hl => ?_)
    refine lv_iconst (v := 4) hx hb dX0_hasSameUnits_21 (by decide) ?_
    refine lv_istore (lv' := [(4, .int 4), (3, .int r7), (0, .ref h0), (1, .int p1), (2, .int p2)]) hx hb dX0_hasSameUnits_22 hl (by decide) rfl (fun ls hl => ?_)
    refine lX0_hasSameUnits_24 S hr hlocks hin hK hA p1 p2 r7 F 4 σ6 H locs ls hg hI (lv_sub hl [2, 3, 4, 1, 0] rfl) (fun w15 σ16 H locs ls hg hI hl => ?_)
    refine lv_iconst (v := 1) hx hb dX0_hasSameUnits_59 (by decide) ?_
    exact oe_z S hr hlocks hK hI rfl hg dX0_hasSameUnits_60
  · have hg := cIf_fe c5 hg
    refine lv_iconst (v := 0) hx hb dX0_hasSameUnits_13 (by decide) ?_
    exact oe_z S hr hlocks hK hI rfl hg dX0_hasSameUnits_14
-- OwnMemory.findName
abbrev rX0_findName : Room := { frames := 3, cells := 0, slots := 0, locals := 66 }
theorem nX0_findName : yX0_findName.cls = RX0 ∧ yX0_findName.cls ≠ "java/lang/invoke/MethodHandle" ∧ yX0_findName.cls ≠ "java/lang/invoke/VarHandle" ∧ (parseMethodDescriptor yX0_findName.desc).map (fun d => d.parameters.length) = some 1 := by decide +kernel
noncomputable def LX0_findName_2 (F : Nat) (K : Int32 → oS → Option (Int32 × oS)) (v1 : Int32) : Nat → Int32 → oS → Option (Int32 × oS)
  | 0, _, _ => none
  | n + 1, v2, σ => cIf ((o_nc σ) ≤ v2) (K v2 σ) (ck (vp_in v2 (o_ln σ)) (nmd (o_fn σ v2.toNatClampNeg) (fun x3 => bnd (fX0_hasSameUnits F σ x3 v1) (fun r5 σ4 => cIf (r5 = 0) (nmd (v2 + 1) (fun x7 => LX0_findName_2 F K v1 n x7 σ4)) (ck (vp_in v2 (o_ln σ4)) (nmd (o_fn σ4 v2.toNatClampNeg) (fun x9 => some (x9, σ4))))))))
noncomputable def fX0_findName (F : Nat) (σ : oS) (p1 : Int32) : Option (Int32 × oS) := LX0_findName_2 F (fun w10 σ11 => some ((-1), σ11)) p1 F 0 σ
set_option maxHeartbeats 4000000 in
set_option maxRecDepth 100000 in
theorem lX0_findName_2 {p : Program} {l : Launch} {e : Env} {s : State} {m : MethodId} {args : Array Value} {below : List Frame} {meth : Method} {c : Code} {A : Nat → Prop} {G : gT} {h0 : Nat} {h : oH} {F : Nat} (S : CallFix p m c cX0_findName 3 s args wsX0_findName RX0) (hr : meth.sig.returnType = some .int) (hlocks : meth.locks = false) (hin : ∀ w ∈ wsX00, w ∈ wsX0_findName) (hK : gK G s) (hA : ∀ q, s.heap.size ≤ q → A q) {K : Int32 → oS → Option (Int32 × oS)} {res : (Int32 × oS)} (v1 : Int32) (n : Nat) : ∀ (v2 : Int32) (σ : oS) (H : Heap) (locs : List Loc) (ls : Array Slot), LX0_findName_2 F K v1 n v2 σ = some res → oI s A G h0 h σ H locs → lv_has ls 3 [(0, .ref h0), (1, .int v1), (2, .int v2)] → (∀ (v2 : Int32) (σ : oS) (H : Heap) (locs : List Loc) (ls : Array Slot), K v2 σ = some res → oI s A G h0 h σ H locs → lv_has ls 3 [(0, .ref h0), (1, .int v1), (2, .int v2)] → W p l e rX0_findName s m args below meth c H locs 0 0 (MQ below (oQi G h0 h res.1 res.2 A) args s 0 0 A) (F0 m 37 ls [])) → W p l e rX0_findName s m args below meth c H locs 0 0 (MQ below (oQi G h0 h res.1 res.2 A) args s 0 0 A) (F0 m 2 ls []) := by
  have hx := S.1
  have hb := S.2.1
  have hts := S.2.2.2.2
  have hown := S.2.2.2.1
  induction n with
  | zero => intro v2 σ H locs ls hg; rw [LX0_findName_2] at hg; cases hg
  | succ n ih =>
    intro v2 σ H locs ls hg hI hl kk
    rw [LX0_findName_2] at hg
    refine lv_iload_n hx hb dX0_findName_2 rfl (lv_at hl 2 rfl) ?_
    refine lv_aload_n hx hb dX0_findName_3 rfl (lv_at hl 0 rfl) ?_
    refine og_nameCount S hin hK hI (ix := 42) (by decide +kernel) dX0_findName_4 ?_
    refine lv_icmp_ge (tgt := 37) hx hb dX0_findName_7 (by decide) (fun c1 => ?_) (fun c1 => ?_)
    · have hg := cIf_te c1 hg
      exact kk v2 σ H locs ls hg hI (lv_sub hl [0, 1, 2] rfl)
    · have hg := cIf_fe c1 hg
      refine lv_aload_n hx hb dX0_findName_10 rfl (lv_at hl 0 rfl) ?_
      refine lv_aload_n hx hb dX0_findName_11 rfl (lv_at hl 0 rfl) ?_
      refine og_names S hin hK hI (ix := 39) (by decide +kernel) dX0_findName_12 ?_
      refine lv_iload_n hx hb dX0_findName_15 rfl (lv_at hl 2 rfl) ?_
      obtain ⟨c2, hg⟩ := ck_e hg
      obtain ⟨x3, ex3, hg⟩ := nmd_e hg
      refine or_names S hK hI c2 ex3 dX0_findName_16 ?_
      refine lv_iload_n hx hb dX0_findName_17 rfl (lv_at hl 1 rfl) ?_
      obtain ⟨r5, σ4, er5, hg⟩ := bnd_e hg
      refine oc_i S hK hA hI (As := [.int x3, .int v1]) (rest := []) (kX0_hasSameUnits l G h0 h H.size F σ x3 v1  r5 σ4 er5) (cwV 2 hts gX0_findName_X0_hasSameUnits rfl rfl rfl nX0_hasSameUnits ⟨Nat.le_of_ble_eq_true rfl, Nat.le_of_ble_eq_true rfl⟩) rfl hl.1 rfl (Nat.le_of_ble_eq_true rfl) dX0_findName_18 ⟨Nat.le_refl _, Nat.le_refl _⟩ (fun H locs hI => ?_)
      refine lv_if_eq (tgt := 31) hx hb dX0_findName_21 (by decide) (fun c6 => ?_) (fun c6 => ?_)
      · have hg := cIf_te c6 hg
        obtain ⟨x7, ex7, hg⟩ := nmd_e hg
        refine lv_iinc (v := x7) (lv' := [(2, .int x7), (0, .ref h0), (1, .int v1)]) hx hb dX0_findName_31 hl (k := 2) rfl (by rw [ex7]; rfl) (by decide) rfl (fun ls hl => ?_)
        refine lv_goto (tgt := 2) hx hb dX0_findName_34 (by decide) ?_
        exact ih x7 σ4 H locs ls hg hI (lv_sub hl [1, 2, 0] rfl) kk
      · have hg := cIf_fe c6 hg
        refine lv_aload_n hx hb dX0_findName_24 rfl (lv_at hl 0 rfl) ?_
        refine og_names S hin hK hI (ix := 39) (by decide +kernel) dX0_findName_25 ?_
        refine lv_iload_n hx hb dX0_findName_28 rfl (lv_at hl 2 rfl) ?_
        obtain ⟨c8, hg⟩ := ck_e hg
        obtain ⟨x9, ex9, hg⟩ := nmd_e hg
        refine or_names S hK hI c8 ex9 dX0_findName_29 ?_
        exact oe_i S hr hlocks hK hI hg dX0_findName_30
set_option maxHeartbeats 4000000 in
set_option maxRecDepth 100000 in
theorem kX0_findName (l : Launch) (G : gT) (h0 : Nat) (h : oH) (sz F : Nat) (σ : oS) (p1 : Int32) (r : Int32) (σr : oS) (hg : fX0_findName F σ p1 = some (r, σr)) : Met l yX0_findName wsX0_findName rX0_findName (oPre G h0 h σ sz [.int p1]) (oQi G h0 h r σr (oA G h0 h σ sz)) 0 0 (oA G h0 h σ sz) := by
  refine oMet (Qc := oQi G h0 h r σr) (by decide +kernel) rfl rfl (Nat.le_of_ble_eq_true rfl) ?_
  intro p e s m args below meth c A S hr hlocks hK hA H locs hI ls hl
  have hl : lv_has ls 3 [(0, .ref h0), (1, .int p1)] := hl
  have hin : ∀ w ∈ wsX00, w ∈ wsX0_findName := in_ws
  have hx := S.1
  have hb := S.2.1
  have hts := S.2.2.2.2
  have hown := S.2.2.2.1
  unfold fX0_findName at hg
  refine lv_iconst (v := 0) hx hb dX0_findName_0 (by decide) ?_
  refine lv_istore_n (lv' := [(2, .int 0), (0, .ref h0), (1, .int p1)]) hx hb dX0_findName_1 rfl hl (by decide) rfl (fun ls hl => ?_)
  refine lX0_findName_2 S hr hlocks hin hK hA p1 F 0 σ H locs ls hg hI (lv_sub hl [1, 2, 0] rfl) (fun w10 σ11 H locs ls hg hI hl => ?_)
  refine lv_iconst (v := (-1)) hx hb dX0_findName_37 (by decide) ?_
  exact oe_i S hr hlocks hK hI hg dX0_findName_38
-- OwnMemory.isStressed
abbrev rX0_isStressed : Room := { frames := 0, cells := 0, slots := 0, locals := 0 }
theorem nX0_isStressed : yX0_isStressed.cls = RX0 ∧ yX0_isStressed.cls ≠ "java/lang/invoke/MethodHandle" ∧ yX0_isStressed.cls ≠ "java/lang/invoke/VarHandle" ∧ (parseMethodDescriptor yX0_isStressed.desc).map (fun d => d.parameters.length) = some 0 := by decide +kernel
noncomputable def fX0_isStressed (F : Nat) (σ : oS) : Option (Int32 × oS) := cIf ((o_st σ) ≤ 0) (some (0, σ)) (ck (¬ (o_st σ) = 0) (cIf ((((o_md σ) + 1) - ((o_md σ) + 1) / (o_st σ) * (o_st σ)) = 0) (some (1, σ)) (some (0, σ))))
set_option maxHeartbeats 4000000 in
set_option maxRecDepth 100000 in
theorem kX0_isStressed (l : Launch) (G : gT) (h0 : Nat) (h : oH) (sz F : Nat) (σ : oS) (r : Int32) (σr : oS) (hg : fX0_isStressed F σ = some (r, σr)) : Met l yX0_isStressed wsX0_isStressed rX0_isStressed (oPre G h0 h σ sz []) (oQi G h0 h r σr (oA G h0 h σ sz)) 0 0 (oA G h0 h σ sz) := by
  refine oMet (Qc := oQi G h0 h r σr) (by decide +kernel) rfl rfl (Nat.le_of_ble_eq_true rfl) ?_
  intro p e s m args below meth c A S hr hlocks hK hA H locs hI ls hl
  have hl : lv_has ls 1 [(0, .ref h0)] := hl
  have hin : ∀ w ∈ wsX00, w ∈ wsX0_isStressed := in_ws
  have hx := S.1
  have hb := S.2.1
  have hts := S.2.2.2.2
  have hown := S.2.2.2.1
  unfold fX0_isStressed at hg
  refine lv_aload_n hx hb dX0_isStressed_0 rfl (lv_at hl 0 rfl) ?_
  refine og_stressEvery S hin hK hI (ix := 51) (by decide +kernel) dX0_isStressed_1 ?_
  refine lv_if_le (tgt := 25) hx hb dX0_isStressed_4 (by decide) (fun c1 => ?_) (fun c1 => ?_)
  · have hg := cIf_te c1 hg
    refine lv_iconst (v := 0) hx hb dX0_isStressed_25 (by decide) ?_
    exact oe_z S hr hlocks hK hI rfl hg dX0_isStressed_26
  · have hg := cIf_fe c1 hg
    refine lv_aload_n hx hb dX0_isStressed_7 rfl (lv_at hl 0 rfl) ?_
    refine og_made S hin hK hI (ix := 54) (by decide +kernel) dX0_isStressed_8 ?_
    refine lv_iconst (v := 1) hx hb dX0_isStressed_11 (by decide) ?_
    refine lv_iadd hx hb dX0_isStressed_12 ?_
    refine lv_aload_n hx hb dX0_isStressed_13 rfl (lv_at hl 0 rfl) ?_
    refine og_stressEvery S hin hK hI (ix := 51) (by decide +kernel) dX0_isStressed_14 ?_
    obtain ⟨c2, hg⟩ := ck_e hg
    refine lv_irem hx hb dX0_isStressed_17 c2 ?_
    refine lv_if_ne (tgt := 25) hx hb dX0_isStressed_18 (by decide) (fun c3 => ?_) (fun c3 => ?_)
    · have hg := cIf_fe c3 hg
      refine lv_iconst (v := 0) hx hb dX0_isStressed_25 (by decide) ?_
      exact oe_z S hr hlocks hK hI rfl hg dX0_isStressed_26
    · have hg := cIf_te c3 hg
      refine lv_iconst (v := 1) hx hb dX0_isStressed_21 (by decide) ?_
      refine lv_goto (tgt := 26) hx hb dX0_isStressed_22 (by decide) ?_
      exact oe_z S hr hlocks hK hI rfl hg dX0_isStressed_26
