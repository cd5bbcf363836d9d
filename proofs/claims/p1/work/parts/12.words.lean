/-! the words that the contracts stand on, one list for all of them -/
def GW_0 : List Cond := [Cond.classLink RL 8 RX9, Cond.instantiable RX9 12, Cond.initialized RX9, Cond.methodLink RX9 1 objectInit, Cond.instanceMethod objectInit, Cond.code objectInit ⟨#[0xb1]⟩ 1 none, Cond.classLink RX9 7 RX0, Cond.instantiable RX0 11, Cond.initialized RX0, Cond.methodLink RX0 3 objectInit, Cond.arrayClass .char, Cond.fieldLink RX0 9 "ExactTurtle$Input" "letters" "[C", Cond.arrayClass .int, Cond.fieldLink RX0 15 "ExactTurtle$Input" "kinds" "[I", Cond.fieldLink RX0 19 "ExactTurtle$Input" "numbers" "[I", Cond.fieldLink RX0 22 "ExactTurtle$Input" "partners" "[I", Cond.fieldLink RX0 25 "ExactTurtle$Input" "opened" "[I", Cond.code yX0_init cX0_init 1 none, Cond.instanceMethod yX0_init, Cond.fieldLink RX9 10 "ExactTurtle" "input" "LExactTurtle$Input;", Cond.classLink RX9 16 RX2, Cond.instantiable RX2 3, Cond.initialized RX2, Cond.methodLink RX2 3 objectInit, Cond.classLink RX2 9 RX3, Cond.fieldLink RX2 11 "ExactTurtle$Procedures" "current" "[LExactTurtle$Program;", Cond.fieldLink RX2 17 "ExactTurtle$Procedures" "saved" "[LExactTurtle$Program;", Cond.code yX2_init cX2_init 1 none, Cond.instanceMethod yX2_init, Cond.fieldLink RX9 19 "ExactTurtle" "procedures" "LExactTurtle$Procedures;", Cond.classLink RX9 23 RX4, Cond.instantiable RX4 5, Cond.initialized RX4, Cond.methodLink RX4 3 objectInit, Cond.fieldLink RX4 9 "ExactTurtle$Runner" "roundsLeft" "[I", Cond.fieldLink RX4 15 "ExactTurtle$Runner" "idleWithin" "[I", Cond.fieldLink RX4 18 "ExactTurtle$Runner" "idleCounts" "[I", Cond.fieldLink RX4 21 "ExactTurtle$Runner" "countsBefore" "[I", Cond.code yX4_init cX4_init 1 none, Cond.instanceMethod yX4_init]
def GW_1 : List Cond := [Cond.fieldLink RX9 26 "ExactTurtle" "runner" "LExactTurtle$Runner;", Cond.classLink RX9 30 RX5, Cond.instantiable RX5 3, Cond.initialized RX5, Cond.methodLink RX5 3 objectInit, Cond.fieldLink RX5 9 "ExactTurtle$Sides" "lengths" "[I", Cond.fieldLink RX5 15 "ExactTurtle$Sides" "turns" "[I", Cond.code yX5_init cX5_init 1 none, Cond.instanceMethod yX5_init, Cond.fieldLink RX9 33 "ExactTurtle" "sides" "LExactTurtle$Sides;", Cond.classLink RX9 37 RX8, Cond.instantiable RX8 2, Cond.initialized RX8, Cond.methodLink RX8 3 objectInit, Cond.fieldLink RX8 9 "ExactTurtle$WalkSearch" "letters" "[C", Cond.fieldLink RX8 15 "ExactTurtle$WalkSearch" "place" "[I", Cond.code yX8_init cX8_init 1 none, Cond.instanceMethod yX8_init, Cond.fieldLink RX9 40 "ExactTurtle" "walkSearch" "LExactTurtle$WalkSearch;", Cond.classLink RX9 44 RX6, Cond.instantiable RX6 1, Cond.initialized RX6, Cond.methodLink RX6 3 objectInit, Cond.fieldLink RX6 9 "ExactTurtle$TextMeasure" "shortest" "[I", Cond.code yX6_init cX6_init 1 none, Cond.instanceMethod yX6_init, Cond.fieldLink RX9 47 "ExactTurtle" "textMeasure" "LExactTurtle$TextMeasure;", Cond.fieldLink RX9 51 "ExactTurtle" "output" "[C", Cond.fieldLink RX9 55 "ExactTurtle" "trace" "[I", Cond.classLink RX9 59 RX1, Cond.instantiable RX1 9, Cond.initialized RX1, Cond.methodLink RX1 3 objectInit, Cond.classLink RX1 9 RX7, Cond.instantiable RX7 10, Cond.initialized RX7, Cond.methodLink RX7 3 objectInit, Cond.fieldLink RX7 9 "ExactTurtle$Track" "parts" "[I", Cond.arrayClass .boolean, Cond.fieldLink RX7 15 "ExactTurtle$Track" "drawn" "[Z"]
def GW_2 : List Cond := [Cond.fieldLink RX7 19 "ExactTurtle$Track" "headings" "[I", Cond.fieldLink RX7 22 "ExactTurtle$Track" "lengths" "[I", Cond.fieldLink RX7 25 "ExactTurtle$Track" "directions" "I", Cond.code yX7_init cX7_init 1 none, Cond.instanceMethod yX7_init, Cond.fieldLink RX1 12 "ExactTurtle$Journey" "track" "LExactTurtle$Track;", Cond.fieldLink RX1 18 "ExactTurtle$Journey" "letters" "[I", Cond.fieldLink RX1 22 "ExactTurtle$Journey" "numbers" "[I", Cond.fieldLink RX1 25 "ExactTurtle$Journey" "callCounts" "[I", Cond.fieldLink RX1 28 "ExactTurtle$Journey" "callOrder" "[I", Cond.code yX1_init cX1_init 1 none, Cond.instanceMethod yX1_init, Cond.fieldLink RX9 62 "ExactTurtle" "journey" "LExactTurtle$Journey;", Cond.fieldLink RX9 66 "ExactTurtle" "spare" "LExactTurtle$Journey;", Cond.fieldLink RX9 69 "ExactTurtle" "traceSize" "I", Cond.code yX9_init cX9_init 1 none, Cond.methodLink RL 88 yX9_init, Cond.instanceMethod yX9_init, Cond.classLink RL 89 RX10, Cond.instantiable RX10 50, Cond.initialized RX10, Cond.methodLink RX10 1 objectInit, Cond.fieldLink RX10 7 "ExactTurtleModel" "d" "I", Cond.fieldLink RX10 13 "ExactTurtleModel" "texts" "[I", Cond.fieldLink RX10 17 "ExactTurtleModel" "lengths" "[I", Cond.fieldLink RX10 20 "ExactTurtleModel" "savedTexts" "[I", Cond.fieldLink RX10 23 "ExactTurtleModel" "savedLengths" "[I", Cond.fieldLink RX10 26 "ExactTurtleModel" "letters" "[I", Cond.fieldLink RX10 29 "ExactTurtleModel" "numbers" "[I", Cond.fieldLink RX10 32 "ExactTurtleModel" "points" "[I", Cond.fieldLink RX10 35 "ExactTurtleModel" "drawn" "[Z", Cond.fieldLink RX10 39 "ExactTurtleModel" "ways" "[I", Cond.fieldLink RX10 42 "ExactTurtleModel" "sides" "[I", Cond.fieldLink RX10 45 "ExactTurtleModel" "order" "[I", Cond.fieldLink RX10 48 "ExactTurtleModel" "callsOf" "[I", Cond.fieldLink RX10 51 "ExactTurtleModel" "newLetters" "[I", Cond.fieldLink RX10 54 "ExactTurtleModel" "newNumbers" "[I", Cond.fieldLink RX10 57 "ExactTurtleModel" "newHeadings" "[I", Cond.fieldLink RX10 60 "ExactTurtleModel" "newPoints" "[I", Cond.fieldLink RX10 63 "ExactTurtleModel" "newDrawn" "[Z"]
def GW_3 : List Cond := [Cond.fieldLink RX10 66 "ExactTurtleModel" "newWays" "[I", Cond.fieldLink RX10 69 "ExactTurtleModel" "newSides" "[I", Cond.fieldLink RX10 72 "ExactTurtleModel" "newOrder" "[I", Cond.fieldLink RX10 75 "ExactTurtleModel" "newCalls" "[I", Cond.fieldLink RX10 78 "ExactTurtleModel" "output" "[I", Cond.fieldLink RX10 81 "ExactTurtleModel" "walk" "[I", Cond.fieldLink RX10 84 "ExactTurtleModel" "traceSize" "I", Cond.fieldLink RX10 87 "ExactTurtleModel" "trace" "[I", Cond.fieldLink RX10 90 "ExactTurtleModel" "cornerLengths" "[I", Cond.fieldLink RX10 93 "ExactTurtleModel" "cornerTurns" "[I", Cond.fieldLink RX10 96 "ExactTurtleModel" "best" "[I", Cond.code yX10_init cX10_init 1 none, Cond.methodLink RL 91 yX10_init, Cond.instanceMethod yX10_init, Cond.arrayClass .long, Cond.fieldLink RX7 29 "ExactTurtle$Track" "segments" "I", Cond.fieldLink RX7 32 "ExactTurtle$Track" "compared" "Z", Cond.code yX7_restart cX7_restart 2 none, Cond.methodLink RX1 31 yX7_restart, Cond.instanceMethod yX7_restart, Cond.selects RX7 yX7_restart yX7_restart, Cond.code yJ7_fill_53178 cJ7_fill_53178 4 none, Cond.methodLink RX1 35 yJ7_fill_53178, Cond.static yJ7_fill_53178, Cond.initialized RJ7, Cond.fieldLink RX1 41 "ExactTurtle$Journey" "basics" "I", Cond.fieldLink RX1 45 "ExactTurtle$Journey" "namesCalled" "I", Cond.fieldLink RX1 48 "ExactTurtle$Journey" "turned" "I", Cond.fieldLink RX1 51 "ExactTurtle$Journey" "penUp" "Z", Cond.code yX1_restart cX1_restart 2 none, Cond.methodLink RX9 88 yX1_restart, Cond.instanceMethod yX1_restart, Cond.selects RX1 yX1_restart yX1_restart, Cond.code yX9_setDirections cX9_setDirections 3 (some .int), Cond.methodLink RL 7 yX9_setDirections, Cond.instanceMethod yX9_setDirections, Cond.selects RX9 yX9_setDirections yX9_setDirections, Cond.codeWith yL_setDirections cL_setDirections 4 (some .int) [(0, 9, 12, 13)], Cond.methodLink RL 92 yL_setDirections, Cond.static yL_setDirections]
def GW_4 : List Cond := [Cond.initialized RL, Cond.fieldLink RX10 99 "ExactTurtleModel" "thrown" "I", Cond.fieldLink RX10 109 "ExactTurtleModel" "basics" "I", Cond.fieldLink RX10 112 "ExactTurtleModel" "segments" "I", Cond.fieldLink RX10 115 "ExactTurtleModel" "heading" "I", Cond.fieldLink RX10 118 "ExactTurtleModel" "turned" "I", Cond.fieldLink RX10 121 "ExactTurtleModel" "orderCount" "I", Cond.code yX10_empties cX10_empties 2 none, Cond.methodLink RX10 127 yX10_empties, Cond.instanceMethod yX10_empties, Cond.selects RX10 yX10_empties yX10_empties, Cond.code yX10_setDirections cX10_setDirections 3 (some .int), Cond.methodLink RL 97 yX10_setDirections, Cond.instanceMethod yX10_setDirections, Cond.selects RX10 yX10_setDirections yX10_setDirections, Cond.code yX10_thrown cX10_thrown 1 (some .int), Cond.methodLink RL 98 yX10_thrown, Cond.instanceMethod yX10_thrown, Cond.selects RX10 yX10_thrown yX10_thrown, Cond.classLink RX9 73 "java/lang/IllegalArgumentException", Cond.initialized "java/lang/IllegalArgumentException", Cond.classLink RL 13 "java/lang/IllegalArgumentException", Cond.code yX10_raises cX10_raises 2 (some .int), Cond.methodLink RX10 124 yX10_raises, Cond.instanceMethod yX10_raises, Cond.selects RX10 yX10_raises yX10_raises, Cond.fieldLink RX0 28 "ExactTurtle$Input" "length" "I", Cond.code yX0_add cX0_add 2 (some .boolean), Cond.methodLink RX9 92 yX0_add, Cond.instanceMethod yX0_add, Cond.selects RX0 yX0_add yX0_add, Cond.code yX9_feed cX9_feed 2 (some .int), Cond.methodLink RL 15 yX9_feed, Cond.instanceMethod yX9_feed, Cond.selects RX9 yX9_feed yX9_feed, Cond.codeWith yL_feed cL_feed 4 (some .int) [(0, 9, 12, 19)], Cond.methodLink RL 101 yL_feed, Cond.static yL_feed, Cond.code yX10_feed cX10_feed 2 (some .int), Cond.methodLink RL 104 yX10_feed]
def GW_5 : List Cond := [Cond.instanceMethod yX10_feed, Cond.selects RX10 yX10_feed yX10_feed, Cond.code yX9_nameIndex cX9_nameIndex 1 (some .int), Cond.methodLink RX9 104 yX9_nameIndex, Cond.static yX9_nameIndex, Cond.code yX9_define cX9_define 4 (some .int), Cond.methodLink RL 21 yX9_define, Cond.instanceMethod yX9_define, Cond.selects RX9 yX9_define yX9_define, Cond.codeWith yL_define cL_define 4 (some .int) [(0, 9, 12, 13)], Cond.methodLink RL 105 yL_define, Cond.static yL_define, Cond.constantLong RX10 155 65, Cond.constantLong RX10 157 72, Cond.code yX10_in cX10_in 6 (some .boolean), Cond.methodLink RX10 137 yX10_in, Cond.static yX10_in, Cond.code yX10_define cX10_define 6 (some .int), Cond.methodLink RL 107 yX10_define, Cond.instanceMethod yX10_define, Cond.selects RX10 yX10_define yX10_define, Cond.fieldLink RX0 32 "ExactTurtle$Input" "at" "I", Cond.fieldLink RX0 35 "ExactTurtle$Input" "size" "I", Cond.fieldLink RX0 38 "ExactTurtle$Input" "open" "I", Cond.fieldLink RX0 41 "ExactTurtle$Input" "commands" "I", Cond.fieldLink RX0 44 "ExactTurtle$Input" "wrong" "Z", Cond.classLink RX0 51 RX3, Cond.instantiable RX3 5, Cond.initialized RX3, Cond.methodLink RX3 1 objectInit, Cond.methodLink RX3 7 Lib.Math.max.name, Cond.static Lib.Math.max.name, Cond.initialized "java/lang/Math", Cond.code Lib.Math.max.name Lib.Math.max.code 2 (some .int), Cond.methodLink RJ7 304 Lib.Math.min.name, Cond.static Lib.Math.min.name, Cond.code Lib.Math.min.name Lib.Math.min.code 2 (some .int), Cond.methodLink RJ7 150 arraycopyName, Cond.native arraycopyName, Cond.static arraycopyName]
def GW_6 : List Cond := [Cond.initialized "java/lang/System", Cond.code yJ7_copyOf_59c91 cJ7_copyOf_59c91 3 (some (.array .int)), Cond.methodLink RX3 13 yJ7_copyOf_59c91, Cond.static yJ7_copyOf_59c91, Cond.fieldLink RX3 19 "ExactTurtle$Program" "kinds" "[I", Cond.fieldLink RX3 25 "ExactTurtle$Program" "numbers" "[I", Cond.fieldLink RX3 28 "ExactTurtle$Program" "partners" "[I", Cond.fieldLink RX3 31 "ExactTurtle$Program" "size" "I", Cond.fieldLink RX3 35 "ExactTurtle$Program" "commands" "I", Cond.code yX3_init cX3_init 6 none, Cond.methodLink RX0 53 yX3_init, Cond.instanceMethod yX3_init, Cond.code yX0_takeProgram cX0_takeProgram 2 (some (.object "ExactTurtle$Program")), Cond.methodLink RX9 110 yX0_takeProgram, Cond.instanceMethod yX0_takeProgram, Cond.selects RX0 yX0_takeProgram yX0_takeProgram, Cond.code yX2_put cX2_put 3 none, Cond.methodLink RX9 118 yX2_put, Cond.instanceMethod yX2_put, Cond.selects RX2 yX2_put yX2_put, Cond.fieldLink RX10 130 "ExactTurtleModel" "at" "I", Cond.fieldLink RX10 149 "ExactTurtleModel" "open" "I", Cond.fieldLink RX10 152 "ExactTurtleModel" "commands" "I", Cond.code yX10_read cX10_read 1 (some .int), Cond.methodLink RX10 141 yX10_read, Cond.instanceMethod yX10_read, Cond.selects RX10 yX10_read yX10_read, Cond.code yX10_readsProgram cX10_readsProgram 2 (some .boolean), Cond.methodLink RX10 163 yX10_readsProgram, Cond.instanceMethod yX10_readsProgram, Cond.selects RX10 yX10_readsProgram yX10_readsProgram, Cond.code yX10_isProgram cX10_isProgram 1 (some .boolean), Cond.methodLink RX10 166 yX10_isProgram, Cond.instanceMethod yX10_isProgram, Cond.selects RX10 yX10_isProgram yX10_isProgram, Cond.code yX9_undefine cX9_undefine 4 (some .boolean), Cond.methodLink RL 24 yX9_undefine, Cond.instanceMethod yX9_undefine, Cond.selects RX9 yX9_undefine yX9_undefine, Cond.codeWith yL_undefine cL_undefine 4 (some .int) [(0, 16, 19, 13)]]
def GW_7 : List Cond := [Cond.methodLink RL 108 yL_undefine, Cond.static yL_undefine, Cond.code yX10_undefine cX10_undefine 3 (some .boolean), Cond.methodLink RL 110 yX10_undefine, Cond.instanceMethod yX10_undefine, Cond.selects RX10 yX10_undefine yX10_undefine, Cond.code yX2_get cX2_get 2 (some (.object "ExactTurtle$Program")), Cond.methodLink RX9 127 yX2_get, Cond.instanceMethod yX2_get, Cond.selects RX2 yX2_get yX2_get, Cond.fieldLink RX4 24 "ExactTurtle$Runner" "rounds" "I", Cond.methodLink RX4 28 yJ7_fill_53178, Cond.constant RX4 38 1000000, Cond.code yX4_execute cX4_execute 10 none, Cond.methodLink RX4 34 yX4_execute, Cond.instanceMethod yX4_execute, Cond.selects RX4 yX4_execute yX4_execute, Cond.code yX4_perform cX4_perform 4 none, Cond.methodLink RX9 131 yX4_perform, Cond.instanceMethod yX4_perform, Cond.selects RX4 yX4_perform yX4_perform, Cond.code yX9_fillTrace cX9_fillTrace 3 none, Cond.methodLink RX9 135 yX9_fillTrace, Cond.instanceMethod yX9_fillTrace, Cond.selects RX9 yX9_fillTrace yX9_fillTrace, Cond.code yX9_run cX9_run 3 (some .int), Cond.methodLink RL 28 yX9_run, Cond.instanceMethod yX9_run, Cond.selects RX9 yX9_run yX9_run, Cond.codeWith yL_run cL_run 3 (some .int) [(0, 8, 11, 32), (0, 8, 14, 19), (0, 8, 17, 34)], Cond.methodLink RL 111 yL_run, Cond.static yL_run, Cond.fieldLink RX10 172 "ExactTurtleModel" "fails" "I", Cond.fieldLink RX10 169 "ExactTurtleModel" "newBasics" "I", Cond.fieldLink RX10 175 "ExactTurtleModel" "newSegments" "I", Cond.fieldLink RX10 178 "ExactTurtleModel" "newHeading" "I", Cond.fieldLink RX10 193 "ExactTurtleModel" "newTurned" "I", Cond.fieldLink RX10 189 "ExactTurtleModel" "isDown" "Z", Cond.fieldLink RX10 216 "ExactTurtleModel" "rounds" "I", Cond.fieldLink RX10 196 "ExactTurtleModel" "active" "I"]
def GW_8 : List Cond := [Cond.fieldLink RX10 199 "ExactTurtleModel" "newOrderCount" "I", Cond.code yX10_character cX10_character 3 (some .int), Cond.methodLink RX10 205 yX10_character, Cond.instanceMethod yX10_character, Cond.selects RX10 yX10_character yX10_character, Cond.code yX10_executes cX10_executes 10 (some .int), Cond.methodLink RX10 202 yX10_executes, Cond.instanceMethod yX10_executes, Cond.selects RX10 yX10_executes yX10_executes, Cond.code yX10_copies cX10_copies 4 none, Cond.methodLink RX10 222 yX10_copies, Cond.static yX10_copies, Cond.code yX10_run cX10_run 3 (some .int), Cond.methodLink RL 114 yX10_run, Cond.instanceMethod yX10_run, Cond.selects RX10 yX10_run yX10_run, Cond.classLink RX9 144 "java/lang/IndexOutOfBoundsException", Cond.initialized "java/lang/IndexOutOfBoundsException", Cond.code yX9_point cX9_point 3 (some .int), Cond.methodLink RL 36 yX9_point, Cond.instanceMethod yX9_point, Cond.selects RX9 yX9_point yX9_point, Cond.classLink RL 40 "java/lang/IndexOutOfBoundsException", Cond.codeWith yL_point cL_point 5 (some .int) [(0, 10, 13, 40)], Cond.methodLink RL 115 yL_point, Cond.static yL_point, Cond.code yX10_point cX10_point 3 (some .int), Cond.methodLink RL 118 yX10_point, Cond.instanceMethod yX10_point, Cond.selects RX10 yX10_point yX10_point, Cond.constantLong RX10 226 3, Cond.code yX7_partAt cX7_partAt 3 (some .int), Cond.methodLink RX9 149 yX7_partAt, Cond.instanceMethod yX7_partAt, Cond.selects RX7 yX7_partAt yX7_partAt, Cond.code yX9_points cX9_points 1 (some .int), Cond.methodLink RL 119 yX9_points, Cond.instanceMethod yX9_points, Cond.selects RX9 yX9_points yX9_points, Cond.code yX10_points cX10_points 1 (some .int)]
def GW_9 : List Cond := [Cond.methodLink RL 122 yX10_points, Cond.instanceMethod yX10_points, Cond.selects RX10 yX10_points yX10_points, Cond.code yX9_isDrawn cX9_isDrawn 2 (some .boolean), Cond.methodLink RL 42 yX9_isDrawn, Cond.instanceMethod yX9_isDrawn, Cond.selects RX9 yX9_isDrawn yX9_isDrawn, Cond.codeWith yL_isDrawn cL_isDrawn 4 (some .int) [(0, 16, 19, 40)], Cond.methodLink RL 123 yL_isDrawn, Cond.static yL_isDrawn, Cond.code yX10_isDrawn cX10_isDrawn 2 (some .boolean), Cond.methodLink RL 125 yX10_isDrawn, Cond.instanceMethod yX10_isDrawn, Cond.selects RX10 yX10_isDrawn yX10_isDrawn, Cond.code yJ9_floorMod_7cf53 cJ9_floorMod_7cf53 3 (some .int), Cond.methodLink RX9 283 yJ9_floorMod_7cf53, Cond.static yJ9_floorMod_7cf53, Cond.initialized RJ9, Cond.code yX9_wrap cX9_wrap 2 (some .int), Cond.static yX9_wrap, Cond.code yX1_heading cX1_heading 1 (some .int), Cond.methodLink RX9 159 yX1_heading, Cond.instanceMethod yX1_heading, Cond.selects RX1 yX1_heading yX1_heading, Cond.code yX9_direction cX9_direction 1 (some .int), Cond.methodLink RL 126 yX9_direction, Cond.instanceMethod yX9_direction, Cond.selects RX9 yX9_direction yX9_direction, Cond.code yX10_direction cX10_direction 1 (some .int), Cond.methodLink RL 129 yX10_direction, Cond.instanceMethod yX10_direction, Cond.selects RX10 yX10_direction yX10_direction, Cond.code yX9_turning cX9_turning 1 (some .int), Cond.methodLink RL 130 yX9_turning, Cond.instanceMethod yX9_turning, Cond.selects RX9 yX9_turning yX9_turning, Cond.code yX10_turning cX10_turning 1 (some .int), Cond.methodLink RL 133 yX10_turning, Cond.instanceMethod yX10_turning, Cond.selects RX10 yX10_turning yX10_turning]
def GW_10 : List Cond := [Cond.methodLink RX7 36 yX7_partAt, Cond.code yX7_endsAtStart cX7_endsAtStart 2 (some .boolean), Cond.methodLink RX9 165 yX7_endsAtStart, Cond.instanceMethod yX7_endsAtStart, Cond.selects RX7 yX7_endsAtStart yX7_endsAtStart, Cond.code yX9_isClosed cX9_isClosed 1 (some .boolean), Cond.methodLink RL 134 yX9_isClosed, Cond.instanceMethod yX9_isClosed, Cond.selects RX9 yX9_isClosed yX9_isClosed, Cond.code yX10_closed cX10_closed 2 (some .boolean), Cond.methodLink RX10 228 yX10_closed, Cond.instanceMethod yX10_closed, Cond.selects RX10 yX10_closed yX10_closed, Cond.code yX10_isClosed cX10_isClosed 1 (some .boolean), Cond.methodLink RL 137 yX10_isClosed, Cond.instanceMethod yX10_isClosed, Cond.selects RX10 yX10_isClosed yX10_isClosed, Cond.code yX9_closingRepeats cX9_closingRepeats 3 (some .int), Cond.methodLink RL 46 yX9_closingRepeats, Cond.instanceMethod yX9_closingRepeats, Cond.selects RX9 yX9_closingRepeats yX9_closingRepeats, Cond.codeWith yL_closingRepeats cL_closingRepeats 3 (some .int) [(0, 8, 11, 32)], Cond.methodLink RL 138 yL_closingRepeats, Cond.static yL_closingRepeats, Cond.code yX10_closingRepeats cX10_closingRepeats 2 (some .int), Cond.methodLink RL 140 yX10_closingRepeats, Cond.instanceMethod yX10_closingRepeats, Cond.selects RX10 yX10_closingRepeats yX10_closingRepeats, Cond.code yX9_area cX9_area 2 (some .long), Cond.methodLink RL 49 yX9_area, Cond.instanceMethod yX9_area, Cond.selects RX9 yX9_area yX9_area, Cond.codeWith yL_area cL_area 4 (some .int) [(0, 8, 11, 13), (0, 8, 14, 19)], Cond.methodLink RL 141 yL_area, Cond.static yL_area, Cond.code yX10_area cX10_area 6 (some .long), Cond.methodLink RL 143 yX10_area, Cond.instanceMethod yX10_area, Cond.selects RX10 yX10_area yX10_area, Cond.code yX7_enclosed cX7_enclosed 5 (some .long)]
def GW_11 : List Cond := [Cond.methodLink RX9 181 yX7_enclosed, Cond.instanceMethod yX7_enclosed, Cond.selects RX7 yX7_enclosed yX7_enclosed, Cond.fieldLink RX7 62 "ExactTurtle$Track" "meetingPairs" "I", Cond.fieldLink RX7 65 "ExactTurtle$Track" "crossingPairs" "I", Cond.code yX7_comparePairs cX7_comparePairs 3 none, Cond.methodLink RX9 185 yX7_comparePairs, Cond.instanceMethod yX7_comparePairs, Cond.selects RX7 yX7_comparePairs yX7_comparePairs, Cond.code yX9_meetings cX9_meetings 1 (some .int), Cond.methodLink RL 144 yX9_meetings, Cond.instanceMethod yX9_meetings, Cond.selects RX9 yX9_meetings yX9_meetings, Cond.code yX10_meetings cX10_meetings 4 (some .int), Cond.methodLink RL 147 yX10_meetings, Cond.instanceMethod yX10_meetings, Cond.selects RX10 yX10_meetings yX10_meetings, Cond.code yX9_crossings cX9_crossings 1 (some .int), Cond.methodLink RL 148 yX9_crossings, Cond.instanceMethod yX9_crossings, Cond.selects RX9 yX9_crossings yX9_crossings, Cond.code yX10_crossings cX10_crossings 4 (some .int), Cond.methodLink RL 151 yX10_crossings, Cond.instanceMethod yX10_crossings, Cond.selects RX10 yX10_crossings yX10_crossings, Cond.classLink RX9 169 "java/util/NoSuchElementException", Cond.initialized "java/util/NoSuchElementException", Cond.code yX9_firstMeeting cX9_firstMeeting 1 (some .int), Cond.methodLink RL 53 yX9_firstMeeting, Cond.instanceMethod yX9_firstMeeting, Cond.selects RX9 yX9_firstMeeting yX9_firstMeeting, Cond.classLink RL 32 "java/util/NoSuchElementException", Cond.codeWith yL_firstMeeting cL_firstMeeting 3 (some .int) [(0, 8, 11, 32)], Cond.methodLink RL 152 yL_firstMeeting, Cond.static yL_firstMeeting, Cond.code yX10_firstMeeting cX10_firstMeeting 3 (some .int), Cond.methodLink RL 154 yX10_firstMeeting, Cond.instanceMethod yX10_firstMeeting, Cond.selects RX10 yX10_firstMeeting yX10_firstMeeting, Cond.code yX9_extreme cX9_extreme 6 (some .int)]
def GW_12 : List Cond := [Cond.methodLink RL 56 yX9_extreme, Cond.instanceMethod yX9_extreme, Cond.selects RX9 yX9_extreme yX9_extreme, Cond.codeWith yL_extreme cL_extreme 5 (some .int) [(0, 10, 13, 13)], Cond.methodLink RL 155 yL_extreme, Cond.static yL_extreme, Cond.code yX10_extreme cX10_extreme 7 (some .int), Cond.methodLink RL 157 yX10_extreme, Cond.instanceMethod yX10_extreme, Cond.selects RX10 yX10_extreme yX10_extreme, Cond.code yX7_outermost cX7_outermost 6 (some .int), Cond.methodLink RX9 201 yX7_outermost, Cond.instanceMethod yX7_outermost, Cond.selects RX7 yX7_outermost yX7_outermost, Cond.methodLink RX1 86 yX7_endsAtStart, Cond.methodLink RX1 55 yX1_heading, Cond.code yX1_isSmooth cX1_isSmooth 1 (some .boolean), Cond.methodLink RX9 205 yX1_isSmooth, Cond.instanceMethod yX1_isSmooth, Cond.selects RX1 yX1_isSmooth yX1_isSmooth, Cond.fieldLink RX5 18 "ExactTurtle$Sides" "count" "I", Cond.code yX5_firstOfSide cX5_firstOfSide 2 (some .int), Cond.methodLink RX5 22 yX5_firstOfSide, Cond.static yX5_firstOfSide, Cond.code yX5_gather cX5_gather 7 none, Cond.methodLink RX9 210 yX5_gather, Cond.instanceMethod yX5_gather, Cond.selects RX5 yX5_gather yX5_gather, Cond.code yX9_corners cX9_corners 1 (some .int), Cond.methodLink RL 59 yX9_corners, Cond.instanceMethod yX9_corners, Cond.selects RX9 yX9_corners yX9_corners, Cond.codeWith yL_corners cL_corners 3 (some .int) [(0, 8, 11, 19)], Cond.methodLink RL 158 yL_corners, Cond.static yL_corners, Cond.code yX10_isSmooth cX10_isSmooth 1 (some .boolean), Cond.methodLink RX10 266 yX10_isSmooth, Cond.instanceMethod yX10_isSmooth, Cond.selects RX10 yX10_isSmooth yX10_isSmooth, Cond.fieldLink RX10 263 "ExactTurtleModel" "corners" "I"]
def GW_13 : List Cond := [Cond.code yX10_findsCorners cX10_findsCorners 6 none, Cond.methodLink RX10 269 yX10_findsCorners, Cond.instanceMethod yX10_findsCorners, Cond.selects RX10 yX10_findsCorners yX10_findsCorners, Cond.code yX10_corners cX10_corners 1 (some .int), Cond.methodLink RL 160 yX10_corners, Cond.instanceMethod yX10_corners, Cond.selects RX10 yX10_corners yX10_corners, Cond.code yX9_gatherCorners cX9_gatherCorners 1 (some .boolean), Cond.methodLink RX9 217 yX9_gatherCorners, Cond.instanceMethod yX9_gatherCorners, Cond.selects RX9 yX9_gatherCorners yX9_gatherCorners, Cond.classLink RX9 96 "java/lang/IllegalStateException", Cond.initialized "java/lang/IllegalStateException", Cond.code yX9_symmetry cX9_symmetry 1 (some .int), Cond.methodLink RL 62 yX9_symmetry, Cond.instanceMethod yX9_symmetry, Cond.selects RX9 yX9_symmetry yX9_symmetry, Cond.classLink RL 19 "java/lang/IllegalStateException", Cond.codeWith yL_symmetry cL_symmetry 3 (some .int) [(0, 8, 11, 19)], Cond.methodLink RL 161 yL_symmetry, Cond.static yL_symmetry, Cond.code yX10_symmetry cX10_symmetry 6 (some .int), Cond.methodLink RL 163 yX10_symmetry, Cond.instanceMethod yX10_symmetry, Cond.selects RX10 yX10_symmetry yX10_symmetry, Cond.code yX9_isMirrored cX9_isMirrored 1 (some .boolean), Cond.methodLink RL 65 yX9_isMirrored, Cond.instanceMethod yX9_isMirrored, Cond.selects RX9 yX9_isMirrored yX9_isMirrored, Cond.codeWith yL_isMirrored cL_isMirrored 3 (some .int) [(0, 15, 18, 19)], Cond.methodLink RL 164 yL_isMirrored, Cond.static yL_isMirrored, Cond.code yX10_isMirrored cX10_isMirrored 5 (some .boolean), Cond.methodLink RL 166 yX10_isMirrored, Cond.instanceMethod yX10_isMirrored, Cond.selects RX10 yX10_isMirrored yX10_isMirrored, Cond.code yX9_shortestWalk cX9_shortestWalk 4 (some .int), Cond.methodLink RL 69 yX9_shortestWalk, Cond.instanceMethod yX9_shortestWalk]
def GW_14 : List Cond := [Cond.selects RX9 yX9_shortestWalk yX9_shortestWalk, Cond.codeWith yL_shortestWalk cL_shortestWalk 4 (some .int) [(0, 9, 12, 13), (0, 9, 15, 32)], Cond.methodLink RL 167 yL_shortestWalk, Cond.static yL_shortestWalk, Cond.constantLong RX10 276 8, Cond.code yX10_shortestWalk cX10_shortestWalk 3 (some .int), Cond.methodLink RL 169 yX10_shortestWalk, Cond.instanceMethod yX10_shortestWalk, Cond.selects RX10 yX10_shortestWalk yX10_shortestWalk, Cond.methodLink RX8 19 yJ7_fill_53178, Cond.methodLink RX8 58 yX7_partAt, Cond.code yX8_isAtEnd cX8_isAtEnd 3 (some .boolean), Cond.methodLink RX8 29 yX8_isAtEnd, Cond.instanceMethod yX8_isAtEnd, Cond.selects RX8 yX8_isAtEnd yX8_isAtEnd, Cond.code yX8_walkOn cX8_walkOn 8 (some .boolean), Cond.methodLink RX8 25 yX8_walkOn, Cond.instanceMethod yX8_walkOn, Cond.selects RX8 yX8_walkOn yX8_walkOn, Cond.code yX8_find cX8_find 5 (some .int), Cond.methodLink RX9 230 yX8_find, Cond.instanceMethod yX8_find, Cond.selects RX8 yX8_find yX8_find, Cond.fieldLink RX9 239 "ExactTurtle" "outputSize" "I", Cond.code yX10_walks cX10_walks 9 (some .boolean), Cond.methodLink RX10 272 yX10_walks, Cond.instanceMethod yX10_walks, Cond.selects RX10 yX10_walks yX10_walks, Cond.fieldLink RX10 278 "ExactTurtleModel" "outputLength" "I", Cond.code yX9_outputAt cX9_outputAt 2 (some .char), Cond.methodLink RL 72 yX9_outputAt, Cond.instanceMethod yX9_outputAt, Cond.selects RX9 yX9_outputAt yX9_outputAt, Cond.codeWith yL_outputAt cL_outputAt 4 (some .int) [(0, 9, 12, 40)], Cond.methodLink RL 170 yL_outputAt, Cond.static yL_outputAt, Cond.code yX10_outputAt cX10_outputAt 2 (some .char), Cond.methodLink RL 172 yX10_outputAt, Cond.instanceMethod yX10_outputAt, Cond.selects RX10 yX10_outputAt yX10_outputAt]
def GW_15 : List Cond := [Cond.code yX6_get cX6_get 3 (some .int), Cond.methodLink RX6 29 yX6_get, Cond.instanceMethod yX6_get, Cond.selects RX6 yX6_get yX6_get, Cond.code yX6_measure cX6_measure 4 (some .int), Cond.methodLink RX9 246 yX6_measure, Cond.instanceMethod yX6_measure, Cond.selects RX6 yX6_measure yX6_measure, Cond.code yX9_shortestText cX9_shortestText 1 (some .int), Cond.methodLink RL 76 yX9_shortestText, Cond.instanceMethod yX9_shortestText, Cond.selects RX9 yX9_shortestText yX9_shortestText, Cond.codeWith yL_shortestText cL_shortestText 3 (some .int) [(0, 8, 11, 19)], Cond.methodLink RL 173 yL_shortestText, Cond.static yL_shortestText, Cond.code yX10_shortestText cX10_shortestText 8 (some .int), Cond.methodLink RL 175 yX10_shortestText, Cond.instanceMethod yX10_shortestText, Cond.selects RX10 yX10_shortestText yX10_shortestText, Cond.code yX9_called cX9_called 2 (some .char), Cond.methodLink RL 79 yX9_called, Cond.instanceMethod yX9_called, Cond.selects RX9 yX9_called yX9_called, Cond.codeWith yL_called cL_called 4 (some .int) [(0, 9, 12, 40)], Cond.methodLink RL 176 yL_called, Cond.static yL_called, Cond.code yX10_called cX10_called 2 (some .char), Cond.methodLink RL 178 yX10_called, Cond.instanceMethod yX10_called, Cond.selects RX10 yX10_called yX10_called, Cond.code yX9_calls cX9_calls 3 (some .int), Cond.methodLink RL 179 yX9_calls, Cond.instanceMethod yX9_calls, Cond.selects RX9 yX9_calls yX9_calls, Cond.code yX10_calls cX10_calls 2 (some .int), Cond.methodLink RL 182 yX10_calls, Cond.instanceMethod yX10_calls, Cond.selects RX10 yX10_calls yX10_calls, Cond.code yX1_callsOf cX1_callsOf 2 (some .int), Cond.methodLink RX9 258 yX1_callsOf]
def GW_16 : List Cond := [Cond.instanceMethod yX1_callsOf, Cond.selects RX1 yX1_callsOf yX1_callsOf, Cond.code yX9_createTrace cX9_createTrace 2 (some .int), Cond.methodLink RL 82 yX9_createTrace, Cond.instanceMethod yX9_createTrace, Cond.selects RX9 yX9_createTrace yX9_createTrace, Cond.codeWith yL_createTrace cL_createTrace 4 (some .int) [(0, 9, 12, 13)], Cond.methodLink RL 183 yL_createTrace, Cond.static yL_createTrace, Cond.code yX10_createTrace cX10_createTrace 3 (some .int), Cond.methodLink RL 185 yX10_createTrace, Cond.instanceMethod yX10_createTrace, Cond.selects RX10 yX10_createTrace yX10_createTrace, Cond.methodLink RX9 263 yJ7_fill_53178, Cond.code yX9_traceAt cX9_traceAt 2 (some .int), Cond.methodLink RL 186 yX9_traceAt, Cond.instanceMethod yX9_traceAt, Cond.selects RX9 yX9_traceAt yX9_traceAt, Cond.code yX10_traceAt cX10_traceAt 2 (some .int), Cond.methodLink RL 189 yX10_traceAt, Cond.instanceMethod yX10_traceAt, Cond.selects RX10 yX10_traceAt yX10_traceAt, Cond.fieldLink RX2 20 "ExactTurtle$Procedures" "hasSaved" "Z", Cond.code yX2_save cX2_save 2 none, Cond.methodLink RX9 269 yX2_save, Cond.instanceMethod yX2_save, Cond.selects RX2 yX2_save yX2_save, Cond.code yX2_definedOnes cX2_definedOnes 3 (some .int), Cond.methodLink RX9 272 yX2_definedOnes, Cond.instanceMethod yX2_definedOnes, Cond.selects RX2 yX2_definedOnes yX2_definedOnes, Cond.code yX9_saveProcedures cX9_saveProcedures 1 (some .int), Cond.methodLink RL 190 yX9_saveProcedures, Cond.instanceMethod yX9_saveProcedures, Cond.selects RX9 yX9_saveProcedures yX9_saveProcedures, Cond.fieldLink RX10 292 "ExactTurtleModel" "isSaved" "Z", Cond.code yX10_defined cX10_defined 3 (some .int), Cond.methodLink RX10 295 yX10_defined, Cond.instanceMethod yX10_defined, Cond.selects RX10 yX10_defined yX10_defined]
def GW_17 : List Cond := [Cond.code yX10_saveProcedures cX10_saveProcedures 1 (some .int), Cond.methodLink RL 193 yX10_saveProcedures, Cond.instanceMethod yX10_saveProcedures, Cond.selects RX10 yX10_saveProcedures yX10_saveProcedures, Cond.code yX2_restore cX2_restore 2 (some .boolean), Cond.methodLink RX9 275 yX2_restore, Cond.instanceMethod yX2_restore, Cond.selects RX2 yX2_restore yX2_restore, Cond.code yX9_restoreProcedures cX9_restoreProcedures 1 (some .int), Cond.methodLink RL 85 yX9_restoreProcedures, Cond.instanceMethod yX9_restoreProcedures, Cond.selects RX9 yX9_restoreProcedures yX9_restoreProcedures, Cond.codeWith yL_restoreProcedures cL_restoreProcedures 3 (some .int) [(0, 8, 11, 19)], Cond.methodLink RL 194 yL_restoreProcedures, Cond.static yL_restoreProcedures, Cond.code yX10_restoreProcedures cX10_restoreProcedures 1 (some .int), Cond.methodLink RL 196 yX10_restoreProcedures, Cond.instanceMethod yX10_restoreProcedures, Cond.selects RX10 yX10_restoreProcedures yX10_restoreProcedures]
def GW : List Cond := wsX00 ++ (wsX10 ++ (wsX20 ++ (wsX30 ++ (wsX40 ++ (wsX50 ++ (wsX60 ++ (wsX70 ++ (wsX80 ++ (wsX90 ++ (wsX100 ++ (((vx_atS RX9 77 "java/lang/IllegalArgumentException" ["java/lang/RuntimeException", "java/lang/Exception"]).filter goodWord) ++ (((vx_atS RX9 100 "java/lang/IllegalStateException" ["java/lang/RuntimeException", "java/lang/Exception"]).filter goodWord) ++ (((vx_atS RX9 148 "java/lang/IndexOutOfBoundsException" ["java/lang/RuntimeException", "java/lang/Exception"]).filter goodWord) ++ (((nsL.filter vx_no).filter goodWord) ++ (GW_0 ++ (GW_1 ++ (GW_2 ++ (GW_3 ++ (GW_4 ++ (GW_5 ++ (GW_6 ++ (GW_7 ++ (GW_8 ++ (GW_9 ++ (GW_10 ++ (GW_11 ++ (GW_12 ++ (GW_13 ++ (GW_14 ++ (GW_15 ++ (GW_16 ++ (GW_17))))))))))))))))))))))))))))))))
abbrev gW (c : Cond) : List Cond := c :: GW
theorem iN_X0 {c : Cond} : ∀ w ∈ u_ws RX0 TX0 11, w ∈ gW c := fun _ h => List.mem_cons_of_mem _ (List.mem_append_left _ h)
theorem iN_X1 {c : Cond} : ∀ w ∈ u_ws RX1 TX1 9, w ∈ gW c := fun _ h => List.mem_cons_of_mem _ (List.mem_append_right _ (List.mem_append_left _ h))
theorem iN_X2 {c : Cond} : ∀ w ∈ u_ws RX2 TX2 3, w ∈ gW c := fun _ h => List.mem_cons_of_mem _ (List.mem_append_right _ (List.mem_append_right _ (List.mem_append_left _ h)))
theorem iN_X3 {c : Cond} : ∀ w ∈ u_ws RX3 TX3 5, w ∈ gW c := fun _ h => List.mem_cons_of_mem _ (List.mem_append_right _ (List.mem_append_right _ (List.mem_append_right _ (List.mem_append_left _ h))))
theorem iN_X4 {c : Cond} : ∀ w ∈ u_ws RX4 TX4 5, w ∈ gW c := fun _ h => List.mem_cons_of_mem _ (List.mem_append_right _ (List.mem_append_right _ (List.mem_append_right _ (List.mem_append_right _ (List.mem_append_left _ h)))))
theorem iN_X5 {c : Cond} : ∀ w ∈ u_ws RX5 TX5 3, w ∈ gW c := fun _ h => List.mem_cons_of_mem _ (List.mem_append_right _ (List.mem_append_right _ (List.mem_append_right _ (List.mem_append_right _ (List.mem_append_right _ (List.mem_append_left _ h))))))
theorem iN_X6 {c : Cond} : ∀ w ∈ u_ws RX6 TX6 1, w ∈ gW c := fun _ h => List.mem_cons_of_mem _ (List.mem_append_right _ (List.mem_append_right _ (List.mem_append_right _ (List.mem_append_right _ (List.mem_append_right _ (List.mem_append_right _ (List.mem_append_left _ h)))))))
theorem iN_X7 {c : Cond} : ∀ w ∈ u_ws RX7 TX7 10, w ∈ gW c := fun _ h => List.mem_cons_of_mem _ (List.mem_append_right _ (List.mem_append_right _ (List.mem_append_right _ (List.mem_append_right _ (List.mem_append_right _ (List.mem_append_right _ (List.mem_append_right _ (List.mem_append_left _ h))))))))
theorem iN_X8 {c : Cond} : ∀ w ∈ u_ws RX8 TX8 2, w ∈ gW c := fun _ h => List.mem_cons_of_mem _ (List.mem_append_right _ (List.mem_append_right _ (List.mem_append_right _ (List.mem_append_right _ (List.mem_append_right _ (List.mem_append_right _ (List.mem_append_right _ (List.mem_append_right _ (List.mem_append_left _ h)))))))))
theorem iN_X9 {c : Cond} : ∀ w ∈ u_ws RX9 TX9 12, w ∈ gW c := fun _ h => List.mem_cons_of_mem _ (List.mem_append_right _ (List.mem_append_right _ (List.mem_append_right _ (List.mem_append_right _ (List.mem_append_right _ (List.mem_append_right _ (List.mem_append_right _ (List.mem_append_right _ (List.mem_append_right _ (List.mem_append_left _ h))))))))))
theorem iN_X10 {c : Cond} : ∀ w ∈ u_ws RX10 TX10 50, w ∈ gW c := fun _ h => List.mem_cons_of_mem _ (List.mem_append_right _ (List.mem_append_right _ (List.mem_append_right _ (List.mem_append_right _ (List.mem_append_right _ (List.mem_append_right _ (List.mem_append_right _ (List.mem_append_right _ (List.mem_append_right _ (List.mem_append_right _ (List.mem_append_left _ h)))))))))))
theorem iT_77 {c : Cond} : ∀ w ∈ (vx_atS RX9 77 "java/lang/IllegalArgumentException" ["java/lang/RuntimeException", "java/lang/Exception"]).filter goodWord, w ∈ gW c := fun _ h => List.mem_cons_of_mem _ (List.mem_append_right _ (List.mem_append_right _ (List.mem_append_right _ (List.mem_append_right _ (List.mem_append_right _ (List.mem_append_right _ (List.mem_append_right _ (List.mem_append_right _ (List.mem_append_right _ (List.mem_append_right _ (List.mem_append_right _ (List.mem_append_left _ h))))))))))))
theorem iT_100 {c : Cond} : ∀ w ∈ (vx_atS RX9 100 "java/lang/IllegalStateException" ["java/lang/RuntimeException", "java/lang/Exception"]).filter goodWord, w ∈ gW c := fun _ h => List.mem_cons_of_mem _ (List.mem_append_right _ (List.mem_append_right _ (List.mem_append_right _ (List.mem_append_right _ (List.mem_append_right _ (List.mem_append_right _ (List.mem_append_right _ (List.mem_append_right _ (List.mem_append_right _ (List.mem_append_right _ (List.mem_append_right _ (List.mem_append_right _ (List.mem_append_left _ h)))))))))))))
theorem iT_148 {c : Cond} : ∀ w ∈ (vx_atS RX9 148 "java/lang/IndexOutOfBoundsException" ["java/lang/RuntimeException", "java/lang/Exception"]).filter goodWord, w ∈ gW c := fun _ h => List.mem_cons_of_mem _ (List.mem_append_right _ (List.mem_append_right _ (List.mem_append_right _ (List.mem_append_right _ (List.mem_append_right _ (List.mem_append_right _ (List.mem_append_right _ (List.mem_append_right _ (List.mem_append_right _ (List.mem_append_right _ (List.mem_append_right _ (List.mem_append_right _ (List.mem_append_right _ (List.mem_append_left _ h))))))))))))))
theorem iT_173 {c : Cond} : ∀ w ∈ (nsL.filter vx_no).filter goodWord, w ∈ gW c := fun _ h => List.mem_cons_of_mem _ (List.mem_append_right _ (List.mem_append_right _ (List.mem_append_right _ (List.mem_append_right _ (List.mem_append_right _ (List.mem_append_right _ (List.mem_append_right _ (List.mem_append_right _ (List.mem_append_right _ (List.mem_append_right _ (List.mem_append_right _ (List.mem_append_right _ (List.mem_append_right _ (List.mem_append_right _ (List.mem_append_left _ h)))))))))))))))
theorem mS_0 : ∀ w ∈ GW_0, w ∈ GW := fun _ h => (List.mem_append_right _ (List.mem_append_right _ (List.mem_append_right _ (List.mem_append_right _ (List.mem_append_right _ (List.mem_append_right _ (List.mem_append_right _ (List.mem_append_right _ (List.mem_append_right _ (List.mem_append_right _ (List.mem_append_right _ (List.mem_append_right _ (List.mem_append_right _ (List.mem_append_right _ (List.mem_append_right _ (List.mem_append_left _ h))))))))))))))))
theorem mS_1 : ∀ w ∈ GW_1, w ∈ GW := fun _ h => (List.mem_append_right _ (List.mem_append_right _ (List.mem_append_right _ (List.mem_append_right _ (List.mem_append_right _ (List.mem_append_right _ (List.mem_append_right _ (List.mem_append_right _ (List.mem_append_right _ (List.mem_append_right _ (List.mem_append_right _ (List.mem_append_right _ (List.mem_append_right _ (List.mem_append_right _ (List.mem_append_right _ (List.mem_append_right _ (List.mem_append_left _ h)))))))))))))))))
theorem mS_2 : ∀ w ∈ GW_2, w ∈ GW := fun _ h => (List.mem_append_right _ (List.mem_append_right _ (List.mem_append_right _ (List.mem_append_right _ (List.mem_append_right _ (List.mem_append_right _ (List.mem_append_right _ (List.mem_append_right _ (List.mem_append_right _ (List.mem_append_right _ (List.mem_append_right _ (List.mem_append_right _ (List.mem_append_right _ (List.mem_append_right _ (List.mem_append_right _ (List.mem_append_right _ (List.mem_append_right _ (List.mem_append_left _ h))))))))))))))))))
theorem mS_3 : ∀ w ∈ GW_3, w ∈ GW := fun _ h => (List.mem_append_right _ (List.mem_append_right _ (List.mem_append_right _ (List.mem_append_right _ (List.mem_append_right _ (List.mem_append_right _ (List.mem_append_right _ (List.mem_append_right _ (List.mem_append_right _ (List.mem_append_right _ (List.mem_append_right _ (List.mem_append_right _ (List.mem_append_right _ (List.mem_append_right _ (List.mem_append_right _ (List.mem_append_right _ (List.mem_append_right _ (List.mem_append_right _ (List.mem_append_left _ h)))))))))))))))))))
theorem mS_4 : ∀ w ∈ GW_4, w ∈ GW := fun _ h => (List.mem_append_right _ (List.mem_append_right _ (List.mem_append_right _ (List.mem_append_right _ (List.mem_append_right _ (List.mem_append_right _ (List.mem_append_right _ (List.mem_append_right _ (List.mem_append_right _ (List.mem_append_right _ (List.mem_append_right _ (List.mem_append_right _ (List.mem_append_right _ (List.mem_append_right _ (List.mem_append_right _ (List.mem_append_right _ (List.mem_append_right _ (List.mem_append_right _ (List.mem_append_right _ (List.mem_append_left _ h))))))))))))))))))))
theorem mS_5 : ∀ w ∈ GW_5, w ∈ GW := fun _ h => (List.mem_append_right _ (List.mem_append_right _ (List.mem_append_right _ (List.mem_append_right _ (List.mem_append_right _ (List.mem_append_right _ (List.mem_append_right _ (List.mem_append_right _ (List.mem_append_right _ (List.mem_append_right _ (List.mem_append_right _ (List.mem_append_right _ (List.mem_append_right _ (List.mem_append_right _ (List.mem_append_right _ (List.mem_append_right _ (List.mem_append_right _ (List.mem_append_right _ (List.mem_append_right _ (List.mem_append_right _ (List.mem_append_left _ h)))))))))))))))))))))
theorem mS_6 : ∀ w ∈ GW_6, w ∈ GW := fun _ h => (List.mem_append_right _ (List.mem_append_right _ (List.mem_append_right _ (List.mem_append_right _ (List.mem_append_right _ (List.mem_append_right _ (List.mem_append_right _ (List.mem_append_right _ (List.mem_append_right _ (List.mem_append_right _ (List.mem_append_right _ (List.mem_append_right _ (List.mem_append_right _ (List.mem_append_right _ (List.mem_append_right _ (List.mem_append_right _ (List.mem_append_right _ (List.mem_append_right _ (List.mem_append_right _ (List.mem_append_right _ (List.mem_append_right _ (List.mem_append_left _ h))))))))))))))))))))))
theorem mS_7 : ∀ w ∈ GW_7, w ∈ GW := fun _ h => (List.mem_append_right _ (List.mem_append_right _ (List.mem_append_right _ (List.mem_append_right _ (List.mem_append_right _ (List.mem_append_right _ (List.mem_append_right _ (List.mem_append_right _ (List.mem_append_right _ (List.mem_append_right _ (List.mem_append_right _ (List.mem_append_right _ (List.mem_append_right _ (List.mem_append_right _ (List.mem_append_right _ (List.mem_append_right _ (List.mem_append_right _ (List.mem_append_right _ (List.mem_append_right _ (List.mem_append_right _ (List.mem_append_right _ (List.mem_append_right _ (List.mem_append_left _ h)))))))))))))))))))))))
theorem mS_8 : ∀ w ∈ GW_8, w ∈ GW := fun _ h => (List.mem_append_right _ (List.mem_append_right _ (List.mem_append_right _ (List.mem_append_right _ (List.mem_append_right _ (List.mem_append_right _ (List.mem_append_right _ (List.mem_append_right _ (List.mem_append_right _ (List.mem_append_right _ (List.mem_append_right _ (List.mem_append_right _ (List.mem_append_right _ (List.mem_append_right _ (List.mem_append_right _ (List.mem_append_right _ (List.mem_append_right _ (List.mem_append_right _ (List.mem_append_right _ (List.mem_append_right _ (List.mem_append_right _ (List.mem_append_right _ (List.mem_append_right _ (List.mem_append_left _ h))))))))))))))))))))))))
theorem mS_9 : ∀ w ∈ GW_9, w ∈ GW := fun _ h => (List.mem_append_right _ (List.mem_append_right _ (List.mem_append_right _ (List.mem_append_right _ (List.mem_append_right _ (List.mem_append_right _ (List.mem_append_right _ (List.mem_append_right _ (List.mem_append_right _ (List.mem_append_right _ (List.mem_append_right _ (List.mem_append_right _ (List.mem_append_right _ (List.mem_append_right _ (List.mem_append_right _ (List.mem_append_right _ (List.mem_append_right _ (List.mem_append_right _ (List.mem_append_right _ (List.mem_append_right _ (List.mem_append_right _ (List.mem_append_right _ (List.mem_append_right _ (List.mem_append_right _ (List.mem_append_left _ h)))))))))))))))))))))))))
theorem mS_10 : ∀ w ∈ GW_10, w ∈ GW := fun _ h => (List.mem_append_right _ (List.mem_append_right _ (List.mem_append_right _ (List.mem_append_right _ (List.mem_append_right _ (List.mem_append_right _ (List.mem_append_right _ (List.mem_append_right _ (List.mem_append_right _ (List.mem_append_right _ (List.mem_append_right _ (List.mem_append_right _ (List.mem_append_right _ (List.mem_append_right _ (List.mem_append_right _ (List.mem_append_right _ (List.mem_append_right _ (List.mem_append_right _ (List.mem_append_right _ (List.mem_append_right _ (List.mem_append_right _ (List.mem_append_right _ (List.mem_append_right _ (List.mem_append_right _ (List.mem_append_right _ (List.mem_append_left _ h))))))))))))))))))))))))))
theorem mS_11 : ∀ w ∈ GW_11, w ∈ GW := fun _ h => (List.mem_append_right _ (List.mem_append_right _ (List.mem_append_right _ (List.mem_append_right _ (List.mem_append_right _ (List.mem_append_right _ (List.mem_append_right _ (List.mem_append_right _ (List.mem_append_right _ (List.mem_append_right _ (List.mem_append_right _ (List.mem_append_right _ (List.mem_append_right _ (List.mem_append_right _ (List.mem_append_right _ (List.mem_append_right _ (List.mem_append_right _ (List.mem_append_right _ (List.mem_append_right _ (List.mem_append_right _ (List.mem_append_right _ (List.mem_append_right _ (List.mem_append_right _ (List.mem_append_right _ (List.mem_append_right _ (List.mem_append_right _ (List.mem_append_left _ h)))))))))))))))))))))))))))
theorem mS_12 : ∀ w ∈ GW_12, w ∈ GW := fun _ h => (List.mem_append_right _ (List.mem_append_right _ (List.mem_append_right _ (List.mem_append_right _ (List.mem_append_right _ (List.mem_append_right _ (List.mem_append_right _ (List.mem_append_right _ (List.mem_append_right _ (List.mem_append_right _ (List.mem_append_right _ (List.mem_append_right _ (List.mem_append_right _ (List.mem_append_right _ (List.mem_append_right _ (List.mem_append_right _ (List.mem_append_right _ (List.mem_append_right _ (List.mem_append_right _ (List.mem_append_right _ (List.mem_append_right _ (List.mem_append_right _ (List.mem_append_right _ (List.mem_append_right _ (List.mem_append_right _ (List.mem_append_right _ (List.mem_append_right _ (List.mem_append_left _ h))))))))))))))))))))))))))))
theorem mS_13 : ∀ w ∈ GW_13, w ∈ GW := fun _ h => (List.mem_append_right _ (List.mem_append_right _ (List.mem_append_right _ (List.mem_append_right _ (List.mem_append_right _ (List.mem_append_right _ (List.mem_append_right _ (List.mem_append_right _ (List.mem_append_right _ (List.mem_append_right _ (List.mem_append_right _ (List.mem_append_right _ (List.mem_append_right _ (List.mem_append_right _ (List.mem_append_right _ (List.mem_append_right _ (List.mem_append_right _ (List.mem_append_right _ (List.mem_append_right _ (List.mem_append_right _ (List.mem_append_right _ (List.mem_append_right _ (List.mem_append_right _ (List.mem_append_right _ (List.mem_append_right _ (List.mem_append_right _ (List.mem_append_right _ (List.mem_append_right _ (List.mem_append_left _ h)))))))))))))))))))))))))))))
theorem mS_14 : ∀ w ∈ GW_14, w ∈ GW := fun _ h => (List.mem_append_right _ (List.mem_append_right _ (List.mem_append_right _ (List.mem_append_right _ (List.mem_append_right _ (List.mem_append_right _ (List.mem_append_right _ (List.mem_append_right _ (List.mem_append_right _ (List.mem_append_right _ (List.mem_append_right _ (List.mem_append_right _ (List.mem_append_right _ (List.mem_append_right _ (List.mem_append_right _ (List.mem_append_right _ (List.mem_append_right _ (List.mem_append_right _ (List.mem_append_right _ (List.mem_append_right _ (List.mem_append_right _ (List.mem_append_right _ (List.mem_append_right _ (List.mem_append_right _ (List.mem_append_right _ (List.mem_append_right _ (List.mem_append_right _ (List.mem_append_right _ (List.mem_append_right _ (List.mem_append_left _ h))))))))))))))))))))))))))))))
theorem mS_15 : ∀ w ∈ GW_15, w ∈ GW := fun _ h => (List.mem_append_right _ (List.mem_append_right _ (List.mem_append_right _ (List.mem_append_right _ (List.mem_append_right _ (List.mem_append_right _ (List.mem_append_right _ (List.mem_append_right _ (List.mem_append_right _ (List.mem_append_right _ (List.mem_append_right _ (List.mem_append_right _ (List.mem_append_right _ (List.mem_append_right _ (List.mem_append_right _ (List.mem_append_right _ (List.mem_append_right _ (List.mem_append_right _ (List.mem_append_right _ (List.mem_append_right _ (List.mem_append_right _ (List.mem_append_right _ (List.mem_append_right _ (List.mem_append_right _ (List.mem_append_right _ (List.mem_append_right _ (List.mem_append_right _ (List.mem_append_right _ (List.mem_append_right _ (List.mem_append_right _ (List.mem_append_left _ h)))))))))))))))))))))))))))))))
theorem mS_16 : ∀ w ∈ GW_16, w ∈ GW := fun _ h => (List.mem_append_right _ (List.mem_append_right _ (List.mem_append_right _ (List.mem_append_right _ (List.mem_append_right _ (List.mem_append_right _ (List.mem_append_right _ (List.mem_append_right _ (List.mem_append_right _ (List.mem_append_right _ (List.mem_append_right _ (List.mem_append_right _ (List.mem_append_right _ (List.mem_append_right _ (List.mem_append_right _ (List.mem_append_right _ (List.mem_append_right _ (List.mem_append_right _ (List.mem_append_right _ (List.mem_append_right _ (List.mem_append_right _ (List.mem_append_right _ (List.mem_append_right _ (List.mem_append_right _ (List.mem_append_right _ (List.mem_append_right _ (List.mem_append_right _ (List.mem_append_right _ (List.mem_append_right _ (List.mem_append_right _ (List.mem_append_right _ (List.mem_append_left _ h))))))))))))))))))))))))))))))))
theorem mS_17 : ∀ w ∈ GW_17, w ∈ GW := fun _ h => (List.mem_append_right _ (List.mem_append_right _ (List.mem_append_right _ (List.mem_append_right _ (List.mem_append_right _ (List.mem_append_right _ (List.mem_append_right _ (List.mem_append_right _ (List.mem_append_right _ (List.mem_append_right _ (List.mem_append_right _ (List.mem_append_right _ (List.mem_append_right _ (List.mem_append_right _ (List.mem_append_right _ (List.mem_append_right _ (List.mem_append_right _ (List.mem_append_right _ (List.mem_append_right _ (List.mem_append_right _ (List.mem_append_right _ (List.mem_append_right _ (List.mem_append_right _ (List.mem_append_right _ (List.mem_append_right _ (List.mem_append_right _ (List.mem_append_right _ (List.mem_append_right _ (List.mem_append_right _ (List.mem_append_right _ (List.mem_append_right _ (List.mem_append_right _ h))))))))))))))))))))))))))))))))
theorem m_0 : Cond.classLink RL 8 RX9 ∈ GW := mS_0 _ (List.mem_of_getElem? (i := 0) rfl)
theorem m_1 : Cond.instantiable RX9 12 ∈ GW := mS_0 _ (List.mem_of_getElem? (i := 1) rfl)
theorem m_2 : Cond.initialized RX9 ∈ GW := mS_0 _ (List.mem_of_getElem? (i := 2) rfl)
theorem m_3 : Cond.methodLink RX9 1 objectInit ∈ GW := mS_0 _ (List.mem_of_getElem? (i := 3) rfl)
theorem m_4 : Cond.instanceMethod objectInit ∈ GW := mS_0 _ (List.mem_of_getElem? (i := 4) rfl)
theorem m_5 : Cond.code objectInit ⟨#[0xb1]⟩ 1 none ∈ GW := mS_0 _ (List.mem_of_getElem? (i := 5) rfl)
theorem m_6 : Cond.classLink RX9 7 RX0 ∈ GW := mS_0 _ (List.mem_of_getElem? (i := 6) rfl)
theorem m_7 : Cond.instantiable RX0 11 ∈ GW := mS_0 _ (List.mem_of_getElem? (i := 7) rfl)
theorem m_8 : Cond.initialized RX0 ∈ GW := mS_0 _ (List.mem_of_getElem? (i := 8) rfl)
theorem m_9 : Cond.methodLink RX0 3 objectInit ∈ GW := mS_0 _ (List.mem_of_getElem? (i := 9) rfl)
theorem m_10 : Cond.arrayClass .char ∈ GW := mS_0 _ (List.mem_of_getElem? (i := 10) rfl)
theorem m_11 : Cond.fieldLink RX0 9 "ExactTurtle$Input" "letters" "[C" ∈ GW := mS_0 _ (List.mem_of_getElem? (i := 11) rfl)
theorem m_12 : Cond.arrayClass .int ∈ GW := mS_0 _ (List.mem_of_getElem? (i := 12) rfl)
theorem m_13 : Cond.fieldLink RX0 15 "ExactTurtle$Input" "kinds" "[I" ∈ GW := mS_0 _ (List.mem_of_getElem? (i := 13) rfl)
theorem m_14 : Cond.fieldLink RX0 19 "ExactTurtle$Input" "numbers" "[I" ∈ GW := mS_0 _ (List.mem_of_getElem? (i := 14) rfl)
theorem m_15 : Cond.fieldLink RX0 22 "ExactTurtle$Input" "partners" "[I" ∈ GW := mS_0 _ (List.mem_of_getElem? (i := 15) rfl)
theorem m_16 : Cond.fieldLink RX0 25 "ExactTurtle$Input" "opened" "[I" ∈ GW := mS_0 _ (List.mem_of_getElem? (i := 16) rfl)
theorem m_17 : Cond.code yX0_init cX0_init 1 none ∈ GW := mS_0 _ (List.mem_of_getElem? (i := 17) rfl)
theorem m_18 : Cond.instanceMethod yX0_init ∈ GW := mS_0 _ (List.mem_of_getElem? (i := 18) rfl)
theorem m_19 : Cond.fieldLink RX9 10 "ExactTurtle" "input" "LExactTurtle$Input;" ∈ GW := mS_0 _ (List.mem_of_getElem? (i := 19) rfl)
theorem m_20 : Cond.classLink RX9 16 RX2 ∈ GW := mS_0 _ (List.mem_of_getElem? (i := 20) rfl)
theorem m_21 : Cond.instantiable RX2 3 ∈ GW := mS_0 _ (List.mem_of_getElem? (i := 21) rfl)
theorem m_22 : Cond.initialized RX2 ∈ GW := mS_0 _ (List.mem_of_getElem? (i := 22) rfl)
theorem m_23 : Cond.methodLink RX2 3 objectInit ∈ GW := mS_0 _ (List.mem_of_getElem? (i := 23) rfl)
theorem m_24 : Cond.classLink RX2 9 RX3 ∈ GW := mS_0 _ (List.mem_of_getElem? (i := 24) rfl)
theorem m_25 : Cond.fieldLink RX2 11 "ExactTurtle$Procedures" "current" "[LExactTurtle$Program;" ∈ GW := mS_0 _ (List.mem_of_getElem? (i := 25) rfl)
theorem m_26 : Cond.fieldLink RX2 17 "ExactTurtle$Procedures" "saved" "[LExactTurtle$Program;" ∈ GW := mS_0 _ (List.mem_of_getElem? (i := 26) rfl)
theorem m_27 : Cond.code yX2_init cX2_init 1 none ∈ GW := mS_0 _ (List.mem_of_getElem? (i := 27) rfl)
theorem m_28 : Cond.instanceMethod yX2_init ∈ GW := mS_0 _ (List.mem_of_getElem? (i := 28) rfl)
theorem m_29 : Cond.fieldLink RX9 19 "ExactTurtle" "procedures" "LExactTurtle$Procedures;" ∈ GW := mS_0 _ (List.mem_of_getElem? (i := 29) rfl)
theorem m_30 : Cond.classLink RX9 23 RX4 ∈ GW := mS_0 _ (List.mem_of_getElem? (i := 30) rfl)
theorem m_31 : Cond.instantiable RX4 5 ∈ GW := mS_0 _ (List.mem_of_getElem? (i := 31) rfl)
theorem m_32 : Cond.initialized RX4 ∈ GW := mS_0 _ (List.mem_of_getElem? (i := 32) rfl)
theorem m_33 : Cond.methodLink RX4 3 objectInit ∈ GW := mS_0 _ (List.mem_of_getElem? (i := 33) rfl)
theorem m_34 : Cond.fieldLink RX4 9 "ExactTurtle$Runner" "roundsLeft" "[I" ∈ GW := mS_0 _ (List.mem_of_getElem? (i := 34) rfl)
theorem m_35 : Cond.fieldLink RX4 15 "ExactTurtle$Runner" "idleWithin" "[I" ∈ GW := mS_0 _ (List.mem_of_getElem? (i := 35) rfl)
theorem m_36 : Cond.fieldLink RX4 18 "ExactTurtle$Runner" "idleCounts" "[I" ∈ GW := mS_0 _ (List.mem_of_getElem? (i := 36) rfl)
theorem m_37 : Cond.fieldLink RX4 21 "ExactTurtle$Runner" "countsBefore" "[I" ∈ GW := mS_0 _ (List.mem_of_getElem? (i := 37) rfl)
theorem m_38 : Cond.code yX4_init cX4_init 1 none ∈ GW := mS_0 _ (List.mem_of_getElem? (i := 38) rfl)
theorem m_39 : Cond.instanceMethod yX4_init ∈ GW := mS_0 _ (List.mem_of_getElem? (i := 39) rfl)
theorem m_40 : Cond.fieldLink RX9 26 "ExactTurtle" "runner" "LExactTurtle$Runner;" ∈ GW := mS_1 _ (List.mem_of_getElem? (i := 0) rfl)
theorem m_41 : Cond.classLink RX9 30 RX5 ∈ GW := mS_1 _ (List.mem_of_getElem? (i := 1) rfl)
theorem m_42 : Cond.instantiable RX5 3 ∈ GW := mS_1 _ (List.mem_of_getElem? (i := 2) rfl)
theorem m_43 : Cond.initialized RX5 ∈ GW := mS_1 _ (List.mem_of_getElem? (i := 3) rfl)
theorem m_44 : Cond.methodLink RX5 3 objectInit ∈ GW := mS_1 _ (List.mem_of_getElem? (i := 4) rfl)
theorem m_45 : Cond.fieldLink RX5 9 "ExactTurtle$Sides" "lengths" "[I" ∈ GW := mS_1 _ (List.mem_of_getElem? (i := 5) rfl)
theorem m_46 : Cond.fieldLink RX5 15 "ExactTurtle$Sides" "turns" "[I" ∈ GW := mS_1 _ (List.mem_of_getElem? (i := 6) rfl)
theorem m_47 : Cond.code yX5_init cX5_init 1 none ∈ GW := mS_1 _ (List.mem_of_getElem? (i := 7) rfl)
theorem m_48 : Cond.instanceMethod yX5_init ∈ GW := mS_1 _ (List.mem_of_getElem? (i := 8) rfl)
theorem m_49 : Cond.fieldLink RX9 33 "ExactTurtle" "sides" "LExactTurtle$Sides;" ∈ GW := mS_1 _ (List.mem_of_getElem? (i := 9) rfl)
theorem m_50 : Cond.classLink RX9 37 RX8 ∈ GW := mS_1 _ (List.mem_of_getElem? (i := 10) rfl)
theorem m_51 : Cond.instantiable RX8 2 ∈ GW := mS_1 _ (List.mem_of_getElem? (i := 11) rfl)
theorem m_52 : Cond.initialized RX8 ∈ GW := mS_1 _ (List.mem_of_getElem? (i := 12) rfl)
theorem m_53 : Cond.methodLink RX8 3 objectInit ∈ GW := mS_1 _ (List.mem_of_getElem? (i := 13) rfl)
theorem m_54 : Cond.fieldLink RX8 9 "ExactTurtle$WalkSearch" "letters" "[C" ∈ GW := mS_1 _ (List.mem_of_getElem? (i := 14) rfl)
theorem m_55 : Cond.fieldLink RX8 15 "ExactTurtle$WalkSearch" "place" "[I" ∈ GW := mS_1 _ (List.mem_of_getElem? (i := 15) rfl)
theorem m_56 : Cond.code yX8_init cX8_init 1 none ∈ GW := mS_1 _ (List.mem_of_getElem? (i := 16) rfl)
theorem m_57 : Cond.instanceMethod yX8_init ∈ GW := mS_1 _ (List.mem_of_getElem? (i := 17) rfl)
theorem m_58 : Cond.fieldLink RX9 40 "ExactTurtle" "walkSearch" "LExactTurtle$WalkSearch;" ∈ GW := mS_1 _ (List.mem_of_getElem? (i := 18) rfl)
theorem m_59 : Cond.classLink RX9 44 RX6 ∈ GW := mS_1 _ (List.mem_of_getElem? (i := 19) rfl)
theorem m_60 : Cond.instantiable RX6 1 ∈ GW := mS_1 _ (List.mem_of_getElem? (i := 20) rfl)
theorem m_61 : Cond.initialized RX6 ∈ GW := mS_1 _ (List.mem_of_getElem? (i := 21) rfl)
theorem m_62 : Cond.methodLink RX6 3 objectInit ∈ GW := mS_1 _ (List.mem_of_getElem? (i := 22) rfl)
theorem m_63 : Cond.fieldLink RX6 9 "ExactTurtle$TextMeasure" "shortest" "[I" ∈ GW := mS_1 _ (List.mem_of_getElem? (i := 23) rfl)
theorem m_64 : Cond.code yX6_init cX6_init 1 none ∈ GW := mS_1 _ (List.mem_of_getElem? (i := 24) rfl)
theorem m_65 : Cond.instanceMethod yX6_init ∈ GW := mS_1 _ (List.mem_of_getElem? (i := 25) rfl)
theorem m_66 : Cond.fieldLink RX9 47 "ExactTurtle" "textMeasure" "LExactTurtle$TextMeasure;" ∈ GW := mS_1 _ (List.mem_of_getElem? (i := 26) rfl)
theorem m_67 : Cond.fieldLink RX9 51 "ExactTurtle" "output" "[C" ∈ GW := mS_1 _ (List.mem_of_getElem? (i := 27) rfl)
theorem m_68 : Cond.fieldLink RX9 55 "ExactTurtle" "trace" "[I" ∈ GW := mS_1 _ (List.mem_of_getElem? (i := 28) rfl)
theorem m_69 : Cond.classLink RX9 59 RX1 ∈ GW := mS_1 _ (List.mem_of_getElem? (i := 29) rfl)
theorem m_70 : Cond.instantiable RX1 9 ∈ GW := mS_1 _ (List.mem_of_getElem? (i := 30) rfl)
theorem m_71 : Cond.initialized RX1 ∈ GW := mS_1 _ (List.mem_of_getElem? (i := 31) rfl)
theorem m_72 : Cond.methodLink RX1 3 objectInit ∈ GW := mS_1 _ (List.mem_of_getElem? (i := 32) rfl)
theorem m_73 : Cond.classLink RX1 9 RX7 ∈ GW := mS_1 _ (List.mem_of_getElem? (i := 33) rfl)
theorem m_74 : Cond.instantiable RX7 10 ∈ GW := mS_1 _ (List.mem_of_getElem? (i := 34) rfl)
theorem m_75 : Cond.initialized RX7 ∈ GW := mS_1 _ (List.mem_of_getElem? (i := 35) rfl)
theorem m_76 : Cond.methodLink RX7 3 objectInit ∈ GW := mS_1 _ (List.mem_of_getElem? (i := 36) rfl)
theorem m_77 : Cond.fieldLink RX7 9 "ExactTurtle$Track" "parts" "[I" ∈ GW := mS_1 _ (List.mem_of_getElem? (i := 37) rfl)
theorem m_78 : Cond.arrayClass .boolean ∈ GW := mS_1 _ (List.mem_of_getElem? (i := 38) rfl)
theorem m_79 : Cond.fieldLink RX7 15 "ExactTurtle$Track" "drawn" "[Z" ∈ GW := mS_1 _ (List.mem_of_getElem? (i := 39) rfl)
theorem m_80 : Cond.fieldLink RX7 19 "ExactTurtle$Track" "headings" "[I" ∈ GW := mS_2 _ (List.mem_of_getElem? (i := 0) rfl)
theorem m_81 : Cond.fieldLink RX7 22 "ExactTurtle$Track" "lengths" "[I" ∈ GW := mS_2 _ (List.mem_of_getElem? (i := 1) rfl)
theorem m_82 : Cond.fieldLink RX7 25 "ExactTurtle$Track" "directions" "I" ∈ GW := mS_2 _ (List.mem_of_getElem? (i := 2) rfl)
theorem m_83 : Cond.code yX7_init cX7_init 1 none ∈ GW := mS_2 _ (List.mem_of_getElem? (i := 3) rfl)
theorem m_84 : Cond.instanceMethod yX7_init ∈ GW := mS_2 _ (List.mem_of_getElem? (i := 4) rfl)
theorem m_85 : Cond.fieldLink RX1 12 "ExactTurtle$Journey" "track" "LExactTurtle$Track;" ∈ GW := mS_2 _ (List.mem_of_getElem? (i := 5) rfl)
theorem m_86 : Cond.fieldLink RX1 18 "ExactTurtle$Journey" "letters" "[I" ∈ GW := mS_2 _ (List.mem_of_getElem? (i := 6) rfl)
theorem m_87 : Cond.fieldLink RX1 22 "ExactTurtle$Journey" "numbers" "[I" ∈ GW := mS_2 _ (List.mem_of_getElem? (i := 7) rfl)
theorem m_88 : Cond.fieldLink RX1 25 "ExactTurtle$Journey" "callCounts" "[I" ∈ GW := mS_2 _ (List.mem_of_getElem? (i := 8) rfl)
theorem m_89 : Cond.fieldLink RX1 28 "ExactTurtle$Journey" "callOrder" "[I" ∈ GW := mS_2 _ (List.mem_of_getElem? (i := 9) rfl)
theorem m_90 : Cond.code yX1_init cX1_init 1 none ∈ GW := mS_2 _ (List.mem_of_getElem? (i := 10) rfl)
theorem m_91 : Cond.instanceMethod yX1_init ∈ GW := mS_2 _ (List.mem_of_getElem? (i := 11) rfl)
theorem m_92 : Cond.fieldLink RX9 62 "ExactTurtle" "journey" "LExactTurtle$Journey;" ∈ GW := mS_2 _ (List.mem_of_getElem? (i := 12) rfl)
theorem m_93 : Cond.fieldLink RX9 66 "ExactTurtle" "spare" "LExactTurtle$Journey;" ∈ GW := mS_2 _ (List.mem_of_getElem? (i := 13) rfl)
theorem m_94 : Cond.fieldLink RX9 69 "ExactTurtle" "traceSize" "I" ∈ GW := mS_2 _ (List.mem_of_getElem? (i := 14) rfl)
theorem m_95 : Cond.code yX9_init cX9_init 1 none ∈ GW := mS_2 _ (List.mem_of_getElem? (i := 15) rfl)
theorem m_96 : Cond.methodLink RL 88 yX9_init ∈ GW := mS_2 _ (List.mem_of_getElem? (i := 16) rfl)
theorem m_97 : Cond.instanceMethod yX9_init ∈ GW := mS_2 _ (List.mem_of_getElem? (i := 17) rfl)
theorem m_98 : Cond.classLink RL 89 RX10 ∈ GW := mS_2 _ (List.mem_of_getElem? (i := 18) rfl)
theorem m_99 : Cond.instantiable RX10 50 ∈ GW := mS_2 _ (List.mem_of_getElem? (i := 19) rfl)
theorem m_100 : Cond.initialized RX10 ∈ GW := mS_2 _ (List.mem_of_getElem? (i := 20) rfl)
theorem m_101 : Cond.methodLink RX10 1 objectInit ∈ GW := mS_2 _ (List.mem_of_getElem? (i := 21) rfl)
theorem m_102 : Cond.fieldLink RX10 7 "ExactTurtleModel" "d" "I" ∈ GW := mS_2 _ (List.mem_of_getElem? (i := 22) rfl)
theorem m_103 : Cond.fieldLink RX10 13 "ExactTurtleModel" "texts" "[I" ∈ GW := mS_2 _ (List.mem_of_getElem? (i := 23) rfl)
theorem m_104 : Cond.fieldLink RX10 17 "ExactTurtleModel" "lengths" "[I" ∈ GW := mS_2 _ (List.mem_of_getElem? (i := 24) rfl)
theorem m_105 : Cond.fieldLink RX10 20 "ExactTurtleModel" "savedTexts" "[I" ∈ GW := mS_2 _ (List.mem_of_getElem? (i := 25) rfl)
theorem m_106 : Cond.fieldLink RX10 23 "ExactTurtleModel" "savedLengths" "[I" ∈ GW := mS_2 _ (List.mem_of_getElem? (i := 26) rfl)
theorem m_107 : Cond.fieldLink RX10 26 "ExactTurtleModel" "letters" "[I" ∈ GW := mS_2 _ (List.mem_of_getElem? (i := 27) rfl)
theorem m_108 : Cond.fieldLink RX10 29 "ExactTurtleModel" "numbers" "[I" ∈ GW := mS_2 _ (List.mem_of_getElem? (i := 28) rfl)
theorem m_109 : Cond.fieldLink RX10 32 "ExactTurtleModel" "points" "[I" ∈ GW := mS_2 _ (List.mem_of_getElem? (i := 29) rfl)
theorem m_110 : Cond.fieldLink RX10 35 "ExactTurtleModel" "drawn" "[Z" ∈ GW := mS_2 _ (List.mem_of_getElem? (i := 30) rfl)
theorem m_111 : Cond.fieldLink RX10 39 "ExactTurtleModel" "ways" "[I" ∈ GW := mS_2 _ (List.mem_of_getElem? (i := 31) rfl)
theorem m_112 : Cond.fieldLink RX10 42 "ExactTurtleModel" "sides" "[I" ∈ GW := mS_2 _ (List.mem_of_getElem? (i := 32) rfl)
theorem m_113 : Cond.fieldLink RX10 45 "ExactTurtleModel" "order" "[I" ∈ GW := mS_2 _ (List.mem_of_getElem? (i := 33) rfl)
theorem m_114 : Cond.fieldLink RX10 48 "ExactTurtleModel" "callsOf" "[I" ∈ GW := mS_2 _ (List.mem_of_getElem? (i := 34) rfl)
theorem m_115 : Cond.fieldLink RX10 51 "ExactTurtleModel" "newLetters" "[I" ∈ GW := mS_2 _ (List.mem_of_getElem? (i := 35) rfl)
theorem m_116 : Cond.fieldLink RX10 54 "ExactTurtleModel" "newNumbers" "[I" ∈ GW := mS_2 _ (List.mem_of_getElem? (i := 36) rfl)
theorem m_117 : Cond.fieldLink RX10 57 "ExactTurtleModel" "newHeadings" "[I" ∈ GW := mS_2 _ (List.mem_of_getElem? (i := 37) rfl)
theorem m_118 : Cond.fieldLink RX10 60 "ExactTurtleModel" "newPoints" "[I" ∈ GW := mS_2 _ (List.mem_of_getElem? (i := 38) rfl)
theorem m_119 : Cond.fieldLink RX10 63 "ExactTurtleModel" "newDrawn" "[Z" ∈ GW := mS_2 _ (List.mem_of_getElem? (i := 39) rfl)
theorem m_120 : Cond.fieldLink RX10 66 "ExactTurtleModel" "newWays" "[I" ∈ GW := mS_3 _ (List.mem_of_getElem? (i := 0) rfl)
theorem m_121 : Cond.fieldLink RX10 69 "ExactTurtleModel" "newSides" "[I" ∈ GW := mS_3 _ (List.mem_of_getElem? (i := 1) rfl)
theorem m_122 : Cond.fieldLink RX10 72 "ExactTurtleModel" "newOrder" "[I" ∈ GW := mS_3 _ (List.mem_of_getElem? (i := 2) rfl)
theorem m_123 : Cond.fieldLink RX10 75 "ExactTurtleModel" "newCalls" "[I" ∈ GW := mS_3 _ (List.mem_of_getElem? (i := 3) rfl)
theorem m_124 : Cond.fieldLink RX10 78 "ExactTurtleModel" "output" "[I" ∈ GW := mS_3 _ (List.mem_of_getElem? (i := 4) rfl)
theorem m_125 : Cond.fieldLink RX10 81 "ExactTurtleModel" "walk" "[I" ∈ GW := mS_3 _ (List.mem_of_getElem? (i := 5) rfl)
theorem m_126 : Cond.fieldLink RX10 84 "ExactTurtleModel" "traceSize" "I" ∈ GW := mS_3 _ (List.mem_of_getElem? (i := 6) rfl)
theorem m_127 : Cond.fieldLink RX10 87 "ExactTurtleModel" "trace" "[I" ∈ GW := mS_3 _ (List.mem_of_getElem? (i := 7) rfl)
theorem m_128 : Cond.fieldLink RX10 90 "ExactTurtleModel" "cornerLengths" "[I" ∈ GW := mS_3 _ (List.mem_of_getElem? (i := 8) rfl)
theorem m_129 : Cond.fieldLink RX10 93 "ExactTurtleModel" "cornerTurns" "[I" ∈ GW := mS_3 _ (List.mem_of_getElem? (i := 9) rfl)
theorem m_130 : Cond.fieldLink RX10 96 "ExactTurtleModel" "best" "[I" ∈ GW := mS_3 _ (List.mem_of_getElem? (i := 10) rfl)
theorem m_131 : Cond.code yX10_init cX10_init 1 none ∈ GW := mS_3 _ (List.mem_of_getElem? (i := 11) rfl)
theorem m_132 : Cond.methodLink RL 91 yX10_init ∈ GW := mS_3 _ (List.mem_of_getElem? (i := 12) rfl)
theorem m_133 : Cond.instanceMethod yX10_init ∈ GW := mS_3 _ (List.mem_of_getElem? (i := 13) rfl)
theorem m_134 : Cond.arrayClass .long ∈ GW := mS_3 _ (List.mem_of_getElem? (i := 14) rfl)
theorem m_135 : Cond.fieldLink RX7 29 "ExactTurtle$Track" "segments" "I" ∈ GW := mS_3 _ (List.mem_of_getElem? (i := 15) rfl)
theorem m_136 : Cond.fieldLink RX7 32 "ExactTurtle$Track" "compared" "Z" ∈ GW := mS_3 _ (List.mem_of_getElem? (i := 16) rfl)
theorem m_137 : Cond.code yX7_restart cX7_restart 2 none ∈ GW := mS_3 _ (List.mem_of_getElem? (i := 17) rfl)
theorem m_138 : Cond.methodLink RX1 31 yX7_restart ∈ GW := mS_3 _ (List.mem_of_getElem? (i := 18) rfl)
theorem m_139 : Cond.instanceMethod yX7_restart ∈ GW := mS_3 _ (List.mem_of_getElem? (i := 19) rfl)
theorem m_140 : Cond.selects RX7 yX7_restart yX7_restart ∈ GW := mS_3 _ (List.mem_of_getElem? (i := 20) rfl)
theorem m_141 : Cond.code yJ7_fill_53178 cJ7_fill_53178 4 none ∈ GW := mS_3 _ (List.mem_of_getElem? (i := 21) rfl)
theorem m_142 : Cond.methodLink RX1 35 yJ7_fill_53178 ∈ GW := mS_3 _ (List.mem_of_getElem? (i := 22) rfl)
theorem m_143 : Cond.static yJ7_fill_53178 ∈ GW := mS_3 _ (List.mem_of_getElem? (i := 23) rfl)
theorem m_144 : Cond.initialized RJ7 ∈ GW := mS_3 _ (List.mem_of_getElem? (i := 24) rfl)
theorem m_145 : Cond.fieldLink RX1 41 "ExactTurtle$Journey" "basics" "I" ∈ GW := mS_3 _ (List.mem_of_getElem? (i := 25) rfl)
theorem m_146 : Cond.fieldLink RX1 45 "ExactTurtle$Journey" "namesCalled" "I" ∈ GW := mS_3 _ (List.mem_of_getElem? (i := 26) rfl)
theorem m_147 : Cond.fieldLink RX1 48 "ExactTurtle$Journey" "turned" "I" ∈ GW := mS_3 _ (List.mem_of_getElem? (i := 27) rfl)
theorem m_148 : Cond.fieldLink RX1 51 "ExactTurtle$Journey" "penUp" "Z" ∈ GW := mS_3 _ (List.mem_of_getElem? (i := 28) rfl)
theorem m_149 : Cond.code yX1_restart cX1_restart 2 none ∈ GW := mS_3 _ (List.mem_of_getElem? (i := 29) rfl)
theorem m_150 : Cond.methodLink RX9 88 yX1_restart ∈ GW := mS_3 _ (List.mem_of_getElem? (i := 30) rfl)
theorem m_151 : Cond.instanceMethod yX1_restart ∈ GW := mS_3 _ (List.mem_of_getElem? (i := 31) rfl)
theorem m_152 : Cond.selects RX1 yX1_restart yX1_restart ∈ GW := mS_3 _ (List.mem_of_getElem? (i := 32) rfl)
theorem m_153 : Cond.code yX9_setDirections cX9_setDirections 3 (some .int) ∈ GW := mS_3 _ (List.mem_of_getElem? (i := 33) rfl)
theorem m_154 : Cond.methodLink RL 7 yX9_setDirections ∈ GW := mS_3 _ (List.mem_of_getElem? (i := 34) rfl)
theorem m_155 : Cond.instanceMethod yX9_setDirections ∈ GW := mS_3 _ (List.mem_of_getElem? (i := 35) rfl)
theorem m_156 : Cond.selects RX9 yX9_setDirections yX9_setDirections ∈ GW := mS_3 _ (List.mem_of_getElem? (i := 36) rfl)
theorem m_157 : Cond.codeWith yL_setDirections cL_setDirections 4 (some .int) [(0, 9, 12, 13)] ∈ GW := mS_3 _ (List.mem_of_getElem? (i := 37) rfl)
theorem m_158 : Cond.methodLink RL 92 yL_setDirections ∈ GW := mS_3 _ (List.mem_of_getElem? (i := 38) rfl)
theorem m_159 : Cond.static yL_setDirections ∈ GW := mS_3 _ (List.mem_of_getElem? (i := 39) rfl)
theorem m_160 : Cond.initialized RL ∈ GW := mS_4 _ (List.mem_of_getElem? (i := 0) rfl)
theorem m_161 : Cond.fieldLink RX10 99 "ExactTurtleModel" "thrown" "I" ∈ GW := mS_4 _ (List.mem_of_getElem? (i := 1) rfl)
theorem m_162 : Cond.fieldLink RX10 109 "ExactTurtleModel" "basics" "I" ∈ GW := mS_4 _ (List.mem_of_getElem? (i := 2) rfl)
theorem m_163 : Cond.fieldLink RX10 112 "ExactTurtleModel" "segments" "I" ∈ GW := mS_4 _ (List.mem_of_getElem? (i := 3) rfl)
theorem m_164 : Cond.fieldLink RX10 115 "ExactTurtleModel" "heading" "I" ∈ GW := mS_4 _ (List.mem_of_getElem? (i := 4) rfl)
theorem m_165 : Cond.fieldLink RX10 118 "ExactTurtleModel" "turned" "I" ∈ GW := mS_4 _ (List.mem_of_getElem? (i := 5) rfl)
theorem m_166 : Cond.fieldLink RX10 121 "ExactTurtleModel" "orderCount" "I" ∈ GW := mS_4 _ (List.mem_of_getElem? (i := 6) rfl)
theorem m_167 : Cond.code yX10_empties cX10_empties 2 none ∈ GW := mS_4 _ (List.mem_of_getElem? (i := 7) rfl)
theorem m_168 : Cond.methodLink RX10 127 yX10_empties ∈ GW := mS_4 _ (List.mem_of_getElem? (i := 8) rfl)
theorem m_169 : Cond.instanceMethod yX10_empties ∈ GW := mS_4 _ (List.mem_of_getElem? (i := 9) rfl)
theorem m_170 : Cond.selects RX10 yX10_empties yX10_empties ∈ GW := mS_4 _ (List.mem_of_getElem? (i := 10) rfl)
theorem m_171 : Cond.code yX10_setDirections cX10_setDirections 3 (some .int) ∈ GW := mS_4 _ (List.mem_of_getElem? (i := 11) rfl)
theorem m_172 : Cond.methodLink RL 97 yX10_setDirections ∈ GW := mS_4 _ (List.mem_of_getElem? (i := 12) rfl)
theorem m_173 : Cond.instanceMethod yX10_setDirections ∈ GW := mS_4 _ (List.mem_of_getElem? (i := 13) rfl)
theorem m_174 : Cond.selects RX10 yX10_setDirections yX10_setDirections ∈ GW := mS_4 _ (List.mem_of_getElem? (i := 14) rfl)
theorem m_175 : Cond.code yX10_thrown cX10_thrown 1 (some .int) ∈ GW := mS_4 _ (List.mem_of_getElem? (i := 15) rfl)
theorem m_176 : Cond.methodLink RL 98 yX10_thrown ∈ GW := mS_4 _ (List.mem_of_getElem? (i := 16) rfl)
theorem m_177 : Cond.instanceMethod yX10_thrown ∈ GW := mS_4 _ (List.mem_of_getElem? (i := 17) rfl)
theorem m_178 : Cond.selects RX10 yX10_thrown yX10_thrown ∈ GW := mS_4 _ (List.mem_of_getElem? (i := 18) rfl)
theorem m_179 : Cond.classLink RX9 73 "java/lang/IllegalArgumentException" ∈ GW := mS_4 _ (List.mem_of_getElem? (i := 19) rfl)
theorem m_180 : Cond.initialized "java/lang/IllegalArgumentException" ∈ GW := mS_4 _ (List.mem_of_getElem? (i := 20) rfl)
theorem m_181 : Cond.classLink RL 13 "java/lang/IllegalArgumentException" ∈ GW := mS_4 _ (List.mem_of_getElem? (i := 21) rfl)
theorem m_182 : Cond.code yX10_raises cX10_raises 2 (some .int) ∈ GW := mS_4 _ (List.mem_of_getElem? (i := 22) rfl)
theorem m_183 : Cond.methodLink RX10 124 yX10_raises ∈ GW := mS_4 _ (List.mem_of_getElem? (i := 23) rfl)
theorem m_184 : Cond.instanceMethod yX10_raises ∈ GW := mS_4 _ (List.mem_of_getElem? (i := 24) rfl)
theorem m_185 : Cond.selects RX10 yX10_raises yX10_raises ∈ GW := mS_4 _ (List.mem_of_getElem? (i := 25) rfl)
theorem m_186 : Cond.fieldLink RX0 28 "ExactTurtle$Input" "length" "I" ∈ GW := mS_4 _ (List.mem_of_getElem? (i := 26) rfl)
theorem m_187 : Cond.code yX0_add cX0_add 2 (some .boolean) ∈ GW := mS_4 _ (List.mem_of_getElem? (i := 27) rfl)
theorem m_188 : Cond.methodLink RX9 92 yX0_add ∈ GW := mS_4 _ (List.mem_of_getElem? (i := 28) rfl)
theorem m_189 : Cond.instanceMethod yX0_add ∈ GW := mS_4 _ (List.mem_of_getElem? (i := 29) rfl)
theorem m_190 : Cond.selects RX0 yX0_add yX0_add ∈ GW := mS_4 _ (List.mem_of_getElem? (i := 30) rfl)
theorem m_191 : Cond.code yX9_feed cX9_feed 2 (some .int) ∈ GW := mS_4 _ (List.mem_of_getElem? (i := 31) rfl)
theorem m_192 : Cond.methodLink RL 15 yX9_feed ∈ GW := mS_4 _ (List.mem_of_getElem? (i := 32) rfl)
theorem m_193 : Cond.instanceMethod yX9_feed ∈ GW := mS_4 _ (List.mem_of_getElem? (i := 33) rfl)
theorem m_194 : Cond.selects RX9 yX9_feed yX9_feed ∈ GW := mS_4 _ (List.mem_of_getElem? (i := 34) rfl)
theorem m_195 : Cond.codeWith yL_feed cL_feed 4 (some .int) [(0, 9, 12, 19)] ∈ GW := mS_4 _ (List.mem_of_getElem? (i := 35) rfl)
theorem m_196 : Cond.methodLink RL 101 yL_feed ∈ GW := mS_4 _ (List.mem_of_getElem? (i := 36) rfl)
theorem m_197 : Cond.static yL_feed ∈ GW := mS_4 _ (List.mem_of_getElem? (i := 37) rfl)
theorem m_198 : Cond.code yX10_feed cX10_feed 2 (some .int) ∈ GW := mS_4 _ (List.mem_of_getElem? (i := 38) rfl)
theorem m_199 : Cond.methodLink RL 104 yX10_feed ∈ GW := mS_4 _ (List.mem_of_getElem? (i := 39) rfl)
theorem m_200 : Cond.instanceMethod yX10_feed ∈ GW := mS_5 _ (List.mem_of_getElem? (i := 0) rfl)
theorem m_201 : Cond.selects RX10 yX10_feed yX10_feed ∈ GW := mS_5 _ (List.mem_of_getElem? (i := 1) rfl)
theorem m_202 : Cond.code yX9_nameIndex cX9_nameIndex 1 (some .int) ∈ GW := mS_5 _ (List.mem_of_getElem? (i := 2) rfl)
theorem m_203 : Cond.methodLink RX9 104 yX9_nameIndex ∈ GW := mS_5 _ (List.mem_of_getElem? (i := 3) rfl)
theorem m_204 : Cond.static yX9_nameIndex ∈ GW := mS_5 _ (List.mem_of_getElem? (i := 4) rfl)
theorem m_205 : Cond.code yX9_define cX9_define 4 (some .int) ∈ GW := mS_5 _ (List.mem_of_getElem? (i := 5) rfl)
theorem m_206 : Cond.methodLink RL 21 yX9_define ∈ GW := mS_5 _ (List.mem_of_getElem? (i := 6) rfl)
theorem m_207 : Cond.instanceMethod yX9_define ∈ GW := mS_5 _ (List.mem_of_getElem? (i := 7) rfl)
theorem m_208 : Cond.selects RX9 yX9_define yX9_define ∈ GW := mS_5 _ (List.mem_of_getElem? (i := 8) rfl)
theorem m_209 : Cond.codeWith yL_define cL_define 4 (some .int) [(0, 9, 12, 13)] ∈ GW := mS_5 _ (List.mem_of_getElem? (i := 9) rfl)
theorem m_210 : Cond.methodLink RL 105 yL_define ∈ GW := mS_5 _ (List.mem_of_getElem? (i := 10) rfl)
theorem m_211 : Cond.static yL_define ∈ GW := mS_5 _ (List.mem_of_getElem? (i := 11) rfl)
theorem m_212 : Cond.constantLong RX10 155 65 ∈ GW := mS_5 _ (List.mem_of_getElem? (i := 12) rfl)
theorem m_213 : Cond.constantLong RX10 157 72 ∈ GW := mS_5 _ (List.mem_of_getElem? (i := 13) rfl)
theorem m_214 : Cond.code yX10_in cX10_in 6 (some .boolean) ∈ GW := mS_5 _ (List.mem_of_getElem? (i := 14) rfl)
theorem m_215 : Cond.methodLink RX10 137 yX10_in ∈ GW := mS_5 _ (List.mem_of_getElem? (i := 15) rfl)
theorem m_216 : Cond.static yX10_in ∈ GW := mS_5 _ (List.mem_of_getElem? (i := 16) rfl)
theorem m_217 : Cond.code yX10_define cX10_define 6 (some .int) ∈ GW := mS_5 _ (List.mem_of_getElem? (i := 17) rfl)
theorem m_218 : Cond.methodLink RL 107 yX10_define ∈ GW := mS_5 _ (List.mem_of_getElem? (i := 18) rfl)
theorem m_219 : Cond.instanceMethod yX10_define ∈ GW := mS_5 _ (List.mem_of_getElem? (i := 19) rfl)
theorem m_220 : Cond.selects RX10 yX10_define yX10_define ∈ GW := mS_5 _ (List.mem_of_getElem? (i := 20) rfl)
theorem m_221 : Cond.fieldLink RX0 32 "ExactTurtle$Input" "at" "I" ∈ GW := mS_5 _ (List.mem_of_getElem? (i := 21) rfl)
theorem m_222 : Cond.fieldLink RX0 35 "ExactTurtle$Input" "size" "I" ∈ GW := mS_5 _ (List.mem_of_getElem? (i := 22) rfl)
theorem m_223 : Cond.fieldLink RX0 38 "ExactTurtle$Input" "open" "I" ∈ GW := mS_5 _ (List.mem_of_getElem? (i := 23) rfl)
theorem m_224 : Cond.fieldLink RX0 41 "ExactTurtle$Input" "commands" "I" ∈ GW := mS_5 _ (List.mem_of_getElem? (i := 24) rfl)
theorem m_225 : Cond.fieldLink RX0 44 "ExactTurtle$Input" "wrong" "Z" ∈ GW := mS_5 _ (List.mem_of_getElem? (i := 25) rfl)
theorem m_226 : Cond.classLink RX0 51 RX3 ∈ GW := mS_5 _ (List.mem_of_getElem? (i := 26) rfl)
theorem m_227 : Cond.instantiable RX3 5 ∈ GW := mS_5 _ (List.mem_of_getElem? (i := 27) rfl)
theorem m_228 : Cond.initialized RX3 ∈ GW := mS_5 _ (List.mem_of_getElem? (i := 28) rfl)
theorem m_229 : Cond.methodLink RX3 1 objectInit ∈ GW := mS_5 _ (List.mem_of_getElem? (i := 29) rfl)
theorem m_230 : Cond.methodLink RX3 7 Lib.Math.max.name ∈ GW := mS_5 _ (List.mem_of_getElem? (i := 30) rfl)
theorem m_231 : Cond.static Lib.Math.max.name ∈ GW := mS_5 _ (List.mem_of_getElem? (i := 31) rfl)
theorem m_232 : Cond.initialized "java/lang/Math" ∈ GW := mS_5 _ (List.mem_of_getElem? (i := 32) rfl)
theorem m_233 : Cond.code Lib.Math.max.name Lib.Math.max.code 2 (some .int) ∈ GW := mS_5 _ (List.mem_of_getElem? (i := 33) rfl)
theorem m_234 : Cond.methodLink RJ7 304 Lib.Math.min.name ∈ GW := mS_5 _ (List.mem_of_getElem? (i := 34) rfl)
theorem m_235 : Cond.static Lib.Math.min.name ∈ GW := mS_5 _ (List.mem_of_getElem? (i := 35) rfl)
theorem m_236 : Cond.code Lib.Math.min.name Lib.Math.min.code 2 (some .int) ∈ GW := mS_5 _ (List.mem_of_getElem? (i := 36) rfl)
theorem m_237 : Cond.methodLink RJ7 150 arraycopyName ∈ GW := mS_5 _ (List.mem_of_getElem? (i := 37) rfl)
theorem m_238 : Cond.native arraycopyName ∈ GW := mS_5 _ (List.mem_of_getElem? (i := 38) rfl)
theorem m_239 : Cond.static arraycopyName ∈ GW := mS_5 _ (List.mem_of_getElem? (i := 39) rfl)
theorem m_240 : Cond.initialized "java/lang/System" ∈ GW := mS_6 _ (List.mem_of_getElem? (i := 0) rfl)
theorem m_241 : Cond.code yJ7_copyOf_59c91 cJ7_copyOf_59c91 3 (some (.array .int)) ∈ GW := mS_6 _ (List.mem_of_getElem? (i := 1) rfl)
theorem m_242 : Cond.methodLink RX3 13 yJ7_copyOf_59c91 ∈ GW := mS_6 _ (List.mem_of_getElem? (i := 2) rfl)
theorem m_243 : Cond.static yJ7_copyOf_59c91 ∈ GW := mS_6 _ (List.mem_of_getElem? (i := 3) rfl)
theorem m_244 : Cond.fieldLink RX3 19 "ExactTurtle$Program" "kinds" "[I" ∈ GW := mS_6 _ (List.mem_of_getElem? (i := 4) rfl)
theorem m_245 : Cond.fieldLink RX3 25 "ExactTurtle$Program" "numbers" "[I" ∈ GW := mS_6 _ (List.mem_of_getElem? (i := 5) rfl)
theorem m_246 : Cond.fieldLink RX3 28 "ExactTurtle$Program" "partners" "[I" ∈ GW := mS_6 _ (List.mem_of_getElem? (i := 6) rfl)
theorem m_247 : Cond.fieldLink RX3 31 "ExactTurtle$Program" "size" "I" ∈ GW := mS_6 _ (List.mem_of_getElem? (i := 7) rfl)
theorem m_248 : Cond.fieldLink RX3 35 "ExactTurtle$Program" "commands" "I" ∈ GW := mS_6 _ (List.mem_of_getElem? (i := 8) rfl)
theorem m_249 : Cond.code yX3_init cX3_init 6 none ∈ GW := mS_6 _ (List.mem_of_getElem? (i := 9) rfl)
theorem m_250 : Cond.methodLink RX0 53 yX3_init ∈ GW := mS_6 _ (List.mem_of_getElem? (i := 10) rfl)
theorem m_251 : Cond.instanceMethod yX3_init ∈ GW := mS_6 _ (List.mem_of_getElem? (i := 11) rfl)
theorem m_252 : Cond.code yX0_takeProgram cX0_takeProgram 2 (some (.object "ExactTurtle$Program")) ∈ GW := mS_6 _ (List.mem_of_getElem? (i := 12) rfl)
theorem m_253 : Cond.methodLink RX9 110 yX0_takeProgram ∈ GW := mS_6 _ (List.mem_of_getElem? (i := 13) rfl)
theorem m_254 : Cond.instanceMethod yX0_takeProgram ∈ GW := mS_6 _ (List.mem_of_getElem? (i := 14) rfl)
theorem m_255 : Cond.selects RX0 yX0_takeProgram yX0_takeProgram ∈ GW := mS_6 _ (List.mem_of_getElem? (i := 15) rfl)
theorem m_256 : Cond.code yX2_put cX2_put 3 none ∈ GW := mS_6 _ (List.mem_of_getElem? (i := 16) rfl)
theorem m_257 : Cond.methodLink RX9 118 yX2_put ∈ GW := mS_6 _ (List.mem_of_getElem? (i := 17) rfl)
theorem m_258 : Cond.instanceMethod yX2_put ∈ GW := mS_6 _ (List.mem_of_getElem? (i := 18) rfl)
theorem m_259 : Cond.selects RX2 yX2_put yX2_put ∈ GW := mS_6 _ (List.mem_of_getElem? (i := 19) rfl)
theorem m_260 : Cond.fieldLink RX10 130 "ExactTurtleModel" "at" "I" ∈ GW := mS_6 _ (List.mem_of_getElem? (i := 20) rfl)
theorem m_261 : Cond.fieldLink RX10 149 "ExactTurtleModel" "open" "I" ∈ GW := mS_6 _ (List.mem_of_getElem? (i := 21) rfl)
theorem m_262 : Cond.fieldLink RX10 152 "ExactTurtleModel" "commands" "I" ∈ GW := mS_6 _ (List.mem_of_getElem? (i := 22) rfl)
theorem m_263 : Cond.code yX10_read cX10_read 1 (some .int) ∈ GW := mS_6 _ (List.mem_of_getElem? (i := 23) rfl)
theorem m_264 : Cond.methodLink RX10 141 yX10_read ∈ GW := mS_6 _ (List.mem_of_getElem? (i := 24) rfl)
theorem m_265 : Cond.instanceMethod yX10_read ∈ GW := mS_6 _ (List.mem_of_getElem? (i := 25) rfl)
theorem m_266 : Cond.selects RX10 yX10_read yX10_read ∈ GW := mS_6 _ (List.mem_of_getElem? (i := 26) rfl)
theorem m_267 : Cond.code yX10_readsProgram cX10_readsProgram 2 (some .boolean) ∈ GW := mS_6 _ (List.mem_of_getElem? (i := 27) rfl)
theorem m_268 : Cond.methodLink RX10 163 yX10_readsProgram ∈ GW := mS_6 _ (List.mem_of_getElem? (i := 28) rfl)
theorem m_269 : Cond.instanceMethod yX10_readsProgram ∈ GW := mS_6 _ (List.mem_of_getElem? (i := 29) rfl)
theorem m_270 : Cond.selects RX10 yX10_readsProgram yX10_readsProgram ∈ GW := mS_6 _ (List.mem_of_getElem? (i := 30) rfl)
theorem m_271 : Cond.code yX10_isProgram cX10_isProgram 1 (some .boolean) ∈ GW := mS_6 _ (List.mem_of_getElem? (i := 31) rfl)
theorem m_272 : Cond.methodLink RX10 166 yX10_isProgram ∈ GW := mS_6 _ (List.mem_of_getElem? (i := 32) rfl)
theorem m_273 : Cond.instanceMethod yX10_isProgram ∈ GW := mS_6 _ (List.mem_of_getElem? (i := 33) rfl)
theorem m_274 : Cond.selects RX10 yX10_isProgram yX10_isProgram ∈ GW := mS_6 _ (List.mem_of_getElem? (i := 34) rfl)
theorem m_275 : Cond.code yX9_undefine cX9_undefine 4 (some .boolean) ∈ GW := mS_6 _ (List.mem_of_getElem? (i := 35) rfl)
theorem m_276 : Cond.methodLink RL 24 yX9_undefine ∈ GW := mS_6 _ (List.mem_of_getElem? (i := 36) rfl)
theorem m_277 : Cond.instanceMethod yX9_undefine ∈ GW := mS_6 _ (List.mem_of_getElem? (i := 37) rfl)
theorem m_278 : Cond.selects RX9 yX9_undefine yX9_undefine ∈ GW := mS_6 _ (List.mem_of_getElem? (i := 38) rfl)
theorem m_279 : Cond.codeWith yL_undefine cL_undefine 4 (some .int) [(0, 16, 19, 13)] ∈ GW := mS_6 _ (List.mem_of_getElem? (i := 39) rfl)
theorem m_280 : Cond.methodLink RL 108 yL_undefine ∈ GW := mS_7 _ (List.mem_of_getElem? (i := 0) rfl)
theorem m_281 : Cond.static yL_undefine ∈ GW := mS_7 _ (List.mem_of_getElem? (i := 1) rfl)
theorem m_282 : Cond.code yX10_undefine cX10_undefine 3 (some .boolean) ∈ GW := mS_7 _ (List.mem_of_getElem? (i := 2) rfl)
theorem m_283 : Cond.methodLink RL 110 yX10_undefine ∈ GW := mS_7 _ (List.mem_of_getElem? (i := 3) rfl)
theorem m_284 : Cond.instanceMethod yX10_undefine ∈ GW := mS_7 _ (List.mem_of_getElem? (i := 4) rfl)
theorem m_285 : Cond.selects RX10 yX10_undefine yX10_undefine ∈ GW := mS_7 _ (List.mem_of_getElem? (i := 5) rfl)
theorem m_286 : Cond.code yX2_get cX2_get 2 (some (.object "ExactTurtle$Program")) ∈ GW := mS_7 _ (List.mem_of_getElem? (i := 6) rfl)
theorem m_287 : Cond.methodLink RX9 127 yX2_get ∈ GW := mS_7 _ (List.mem_of_getElem? (i := 7) rfl)
theorem m_288 : Cond.instanceMethod yX2_get ∈ GW := mS_7 _ (List.mem_of_getElem? (i := 8) rfl)
theorem m_289 : Cond.selects RX2 yX2_get yX2_get ∈ GW := mS_7 _ (List.mem_of_getElem? (i := 9) rfl)
theorem m_290 : Cond.fieldLink RX4 24 "ExactTurtle$Runner" "rounds" "I" ∈ GW := mS_7 _ (List.mem_of_getElem? (i := 10) rfl)
theorem m_291 : Cond.methodLink RX4 28 yJ7_fill_53178 ∈ GW := mS_7 _ (List.mem_of_getElem? (i := 11) rfl)
theorem m_292 : Cond.constant RX4 38 1000000 ∈ GW := mS_7 _ (List.mem_of_getElem? (i := 12) rfl)
theorem m_293 : Cond.code yX4_execute cX4_execute 10 none ∈ GW := mS_7 _ (List.mem_of_getElem? (i := 13) rfl)
theorem m_294 : Cond.methodLink RX4 34 yX4_execute ∈ GW := mS_7 _ (List.mem_of_getElem? (i := 14) rfl)
theorem m_295 : Cond.instanceMethod yX4_execute ∈ GW := mS_7 _ (List.mem_of_getElem? (i := 15) rfl)
theorem m_296 : Cond.selects RX4 yX4_execute yX4_execute ∈ GW := mS_7 _ (List.mem_of_getElem? (i := 16) rfl)
theorem m_297 : Cond.code yX4_perform cX4_perform 4 none ∈ GW := mS_7 _ (List.mem_of_getElem? (i := 17) rfl)
theorem m_298 : Cond.methodLink RX9 131 yX4_perform ∈ GW := mS_7 _ (List.mem_of_getElem? (i := 18) rfl)
theorem m_299 : Cond.instanceMethod yX4_perform ∈ GW := mS_7 _ (List.mem_of_getElem? (i := 19) rfl)
theorem m_300 : Cond.selects RX4 yX4_perform yX4_perform ∈ GW := mS_7 _ (List.mem_of_getElem? (i := 20) rfl)
theorem m_301 : Cond.code yX9_fillTrace cX9_fillTrace 3 none ∈ GW := mS_7 _ (List.mem_of_getElem? (i := 21) rfl)
theorem m_302 : Cond.methodLink RX9 135 yX9_fillTrace ∈ GW := mS_7 _ (List.mem_of_getElem? (i := 22) rfl)
theorem m_303 : Cond.instanceMethod yX9_fillTrace ∈ GW := mS_7 _ (List.mem_of_getElem? (i := 23) rfl)
theorem m_304 : Cond.selects RX9 yX9_fillTrace yX9_fillTrace ∈ GW := mS_7 _ (List.mem_of_getElem? (i := 24) rfl)
theorem m_305 : Cond.code yX9_run cX9_run 3 (some .int) ∈ GW := mS_7 _ (List.mem_of_getElem? (i := 25) rfl)
theorem m_306 : Cond.methodLink RL 28 yX9_run ∈ GW := mS_7 _ (List.mem_of_getElem? (i := 26) rfl)
theorem m_307 : Cond.instanceMethod yX9_run ∈ GW := mS_7 _ (List.mem_of_getElem? (i := 27) rfl)
theorem m_308 : Cond.selects RX9 yX9_run yX9_run ∈ GW := mS_7 _ (List.mem_of_getElem? (i := 28) rfl)
theorem m_309 : Cond.codeWith yL_run cL_run 3 (some .int) [(0, 8, 11, 32), (0, 8, 14, 19), (0, 8, 17, 34)] ∈ GW := mS_7 _ (List.mem_of_getElem? (i := 29) rfl)
theorem m_310 : Cond.methodLink RL 111 yL_run ∈ GW := mS_7 _ (List.mem_of_getElem? (i := 30) rfl)
theorem m_311 : Cond.static yL_run ∈ GW := mS_7 _ (List.mem_of_getElem? (i := 31) rfl)
theorem m_312 : Cond.fieldLink RX10 172 "ExactTurtleModel" "fails" "I" ∈ GW := mS_7 _ (List.mem_of_getElem? (i := 32) rfl)
theorem m_313 : Cond.fieldLink RX10 169 "ExactTurtleModel" "newBasics" "I" ∈ GW := mS_7 _ (List.mem_of_getElem? (i := 33) rfl)
theorem m_314 : Cond.fieldLink RX10 175 "ExactTurtleModel" "newSegments" "I" ∈ GW := mS_7 _ (List.mem_of_getElem? (i := 34) rfl)
theorem m_315 : Cond.fieldLink RX10 178 "ExactTurtleModel" "newHeading" "I" ∈ GW := mS_7 _ (List.mem_of_getElem? (i := 35) rfl)
theorem m_316 : Cond.fieldLink RX10 193 "ExactTurtleModel" "newTurned" "I" ∈ GW := mS_7 _ (List.mem_of_getElem? (i := 36) rfl)
theorem m_317 : Cond.fieldLink RX10 189 "ExactTurtleModel" "isDown" "Z" ∈ GW := mS_7 _ (List.mem_of_getElem? (i := 37) rfl)
theorem m_318 : Cond.fieldLink RX10 216 "ExactTurtleModel" "rounds" "I" ∈ GW := mS_7 _ (List.mem_of_getElem? (i := 38) rfl)
theorem m_319 : Cond.fieldLink RX10 196 "ExactTurtleModel" "active" "I" ∈ GW := mS_7 _ (List.mem_of_getElem? (i := 39) rfl)
theorem m_320 : Cond.fieldLink RX10 199 "ExactTurtleModel" "newOrderCount" "I" ∈ GW := mS_8 _ (List.mem_of_getElem? (i := 0) rfl)
theorem m_321 : Cond.code yX10_character cX10_character 3 (some .int) ∈ GW := mS_8 _ (List.mem_of_getElem? (i := 1) rfl)
theorem m_322 : Cond.methodLink RX10 205 yX10_character ∈ GW := mS_8 _ (List.mem_of_getElem? (i := 2) rfl)
theorem m_323 : Cond.instanceMethod yX10_character ∈ GW := mS_8 _ (List.mem_of_getElem? (i := 3) rfl)
theorem m_324 : Cond.selects RX10 yX10_character yX10_character ∈ GW := mS_8 _ (List.mem_of_getElem? (i := 4) rfl)
theorem m_325 : Cond.code yX10_executes cX10_executes 10 (some .int) ∈ GW := mS_8 _ (List.mem_of_getElem? (i := 5) rfl)
theorem m_326 : Cond.methodLink RX10 202 yX10_executes ∈ GW := mS_8 _ (List.mem_of_getElem? (i := 6) rfl)
theorem m_327 : Cond.instanceMethod yX10_executes ∈ GW := mS_8 _ (List.mem_of_getElem? (i := 7) rfl)
theorem m_328 : Cond.selects RX10 yX10_executes yX10_executes ∈ GW := mS_8 _ (List.mem_of_getElem? (i := 8) rfl)
theorem m_329 : Cond.code yX10_copies cX10_copies 4 none ∈ GW := mS_8 _ (List.mem_of_getElem? (i := 9) rfl)
theorem m_330 : Cond.methodLink RX10 222 yX10_copies ∈ GW := mS_8 _ (List.mem_of_getElem? (i := 10) rfl)
theorem m_331 : Cond.static yX10_copies ∈ GW := mS_8 _ (List.mem_of_getElem? (i := 11) rfl)
theorem m_332 : Cond.code yX10_run cX10_run 3 (some .int) ∈ GW := mS_8 _ (List.mem_of_getElem? (i := 12) rfl)
theorem m_333 : Cond.methodLink RL 114 yX10_run ∈ GW := mS_8 _ (List.mem_of_getElem? (i := 13) rfl)
theorem m_334 : Cond.instanceMethod yX10_run ∈ GW := mS_8 _ (List.mem_of_getElem? (i := 14) rfl)
theorem m_335 : Cond.selects RX10 yX10_run yX10_run ∈ GW := mS_8 _ (List.mem_of_getElem? (i := 15) rfl)
theorem m_336 : Cond.classLink RX9 144 "java/lang/IndexOutOfBoundsException" ∈ GW := mS_8 _ (List.mem_of_getElem? (i := 16) rfl)
theorem m_337 : Cond.initialized "java/lang/IndexOutOfBoundsException" ∈ GW := mS_8 _ (List.mem_of_getElem? (i := 17) rfl)
theorem m_338 : Cond.code yX9_point cX9_point 3 (some .int) ∈ GW := mS_8 _ (List.mem_of_getElem? (i := 18) rfl)
theorem m_339 : Cond.methodLink RL 36 yX9_point ∈ GW := mS_8 _ (List.mem_of_getElem? (i := 19) rfl)
theorem m_340 : Cond.instanceMethod yX9_point ∈ GW := mS_8 _ (List.mem_of_getElem? (i := 20) rfl)
theorem m_341 : Cond.selects RX9 yX9_point yX9_point ∈ GW := mS_8 _ (List.mem_of_getElem? (i := 21) rfl)
theorem m_342 : Cond.classLink RL 40 "java/lang/IndexOutOfBoundsException" ∈ GW := mS_8 _ (List.mem_of_getElem? (i := 22) rfl)
theorem m_343 : Cond.codeWith yL_point cL_point 5 (some .int) [(0, 10, 13, 40)] ∈ GW := mS_8 _ (List.mem_of_getElem? (i := 23) rfl)
theorem m_344 : Cond.methodLink RL 115 yL_point ∈ GW := mS_8 _ (List.mem_of_getElem? (i := 24) rfl)
theorem m_345 : Cond.static yL_point ∈ GW := mS_8 _ (List.mem_of_getElem? (i := 25) rfl)
theorem m_346 : Cond.code yX10_point cX10_point 3 (some .int) ∈ GW := mS_8 _ (List.mem_of_getElem? (i := 26) rfl)
theorem m_347 : Cond.methodLink RL 118 yX10_point ∈ GW := mS_8 _ (List.mem_of_getElem? (i := 27) rfl)
theorem m_348 : Cond.instanceMethod yX10_point ∈ GW := mS_8 _ (List.mem_of_getElem? (i := 28) rfl)
theorem m_349 : Cond.selects RX10 yX10_point yX10_point ∈ GW := mS_8 _ (List.mem_of_getElem? (i := 29) rfl)
theorem m_350 : Cond.constantLong RX10 226 3 ∈ GW := mS_8 _ (List.mem_of_getElem? (i := 30) rfl)
theorem m_351 : Cond.code yX7_partAt cX7_partAt 3 (some .int) ∈ GW := mS_8 _ (List.mem_of_getElem? (i := 31) rfl)
theorem m_352 : Cond.methodLink RX9 149 yX7_partAt ∈ GW := mS_8 _ (List.mem_of_getElem? (i := 32) rfl)
theorem m_353 : Cond.instanceMethod yX7_partAt ∈ GW := mS_8 _ (List.mem_of_getElem? (i := 33) rfl)
theorem m_354 : Cond.selects RX7 yX7_partAt yX7_partAt ∈ GW := mS_8 _ (List.mem_of_getElem? (i := 34) rfl)
theorem m_355 : Cond.code yX9_points cX9_points 1 (some .int) ∈ GW := mS_8 _ (List.mem_of_getElem? (i := 35) rfl)
theorem m_356 : Cond.methodLink RL 119 yX9_points ∈ GW := mS_8 _ (List.mem_of_getElem? (i := 36) rfl)
theorem m_357 : Cond.instanceMethod yX9_points ∈ GW := mS_8 _ (List.mem_of_getElem? (i := 37) rfl)
theorem m_358 : Cond.selects RX9 yX9_points yX9_points ∈ GW := mS_8 _ (List.mem_of_getElem? (i := 38) rfl)
theorem m_359 : Cond.code yX10_points cX10_points 1 (some .int) ∈ GW := mS_8 _ (List.mem_of_getElem? (i := 39) rfl)
theorem m_360 : Cond.methodLink RL 122 yX10_points ∈ GW := mS_9 _ (List.mem_of_getElem? (i := 0) rfl)
theorem m_361 : Cond.instanceMethod yX10_points ∈ GW := mS_9 _ (List.mem_of_getElem? (i := 1) rfl)
theorem m_362 : Cond.selects RX10 yX10_points yX10_points ∈ GW := mS_9 _ (List.mem_of_getElem? (i := 2) rfl)
theorem m_363 : Cond.code yX9_isDrawn cX9_isDrawn 2 (some .boolean) ∈ GW := mS_9 _ (List.mem_of_getElem? (i := 3) rfl)
theorem m_364 : Cond.methodLink RL 42 yX9_isDrawn ∈ GW := mS_9 _ (List.mem_of_getElem? (i := 4) rfl)
theorem m_365 : Cond.instanceMethod yX9_isDrawn ∈ GW := mS_9 _ (List.mem_of_getElem? (i := 5) rfl)
theorem m_366 : Cond.selects RX9 yX9_isDrawn yX9_isDrawn ∈ GW := mS_9 _ (List.mem_of_getElem? (i := 6) rfl)
theorem m_367 : Cond.codeWith yL_isDrawn cL_isDrawn 4 (some .int) [(0, 16, 19, 40)] ∈ GW := mS_9 _ (List.mem_of_getElem? (i := 7) rfl)
theorem m_368 : Cond.methodLink RL 123 yL_isDrawn ∈ GW := mS_9 _ (List.mem_of_getElem? (i := 8) rfl)
theorem m_369 : Cond.static yL_isDrawn ∈ GW := mS_9 _ (List.mem_of_getElem? (i := 9) rfl)
theorem m_370 : Cond.code yX10_isDrawn cX10_isDrawn 2 (some .boolean) ∈ GW := mS_9 _ (List.mem_of_getElem? (i := 10) rfl)
theorem m_371 : Cond.methodLink RL 125 yX10_isDrawn ∈ GW := mS_9 _ (List.mem_of_getElem? (i := 11) rfl)
theorem m_372 : Cond.instanceMethod yX10_isDrawn ∈ GW := mS_9 _ (List.mem_of_getElem? (i := 12) rfl)
theorem m_373 : Cond.selects RX10 yX10_isDrawn yX10_isDrawn ∈ GW := mS_9 _ (List.mem_of_getElem? (i := 13) rfl)
theorem m_374 : Cond.code yJ9_floorMod_7cf53 cJ9_floorMod_7cf53 3 (some .int) ∈ GW := mS_9 _ (List.mem_of_getElem? (i := 14) rfl)
theorem m_375 : Cond.methodLink RX9 283 yJ9_floorMod_7cf53 ∈ GW := mS_9 _ (List.mem_of_getElem? (i := 15) rfl)
theorem m_376 : Cond.static yJ9_floorMod_7cf53 ∈ GW := mS_9 _ (List.mem_of_getElem? (i := 16) rfl)
theorem m_377 : Cond.initialized RJ9 ∈ GW := mS_9 _ (List.mem_of_getElem? (i := 17) rfl)
theorem m_378 : Cond.code yX9_wrap cX9_wrap 2 (some .int) ∈ GW := mS_9 _ (List.mem_of_getElem? (i := 18) rfl)
theorem m_379 : Cond.static yX9_wrap ∈ GW := mS_9 _ (List.mem_of_getElem? (i := 19) rfl)
theorem m_380 : Cond.code yX1_heading cX1_heading 1 (some .int) ∈ GW := mS_9 _ (List.mem_of_getElem? (i := 20) rfl)
theorem m_381 : Cond.methodLink RX9 159 yX1_heading ∈ GW := mS_9 _ (List.mem_of_getElem? (i := 21) rfl)
theorem m_382 : Cond.instanceMethod yX1_heading ∈ GW := mS_9 _ (List.mem_of_getElem? (i := 22) rfl)
theorem m_383 : Cond.selects RX1 yX1_heading yX1_heading ∈ GW := mS_9 _ (List.mem_of_getElem? (i := 23) rfl)
theorem m_384 : Cond.code yX9_direction cX9_direction 1 (some .int) ∈ GW := mS_9 _ (List.mem_of_getElem? (i := 24) rfl)
theorem m_385 : Cond.methodLink RL 126 yX9_direction ∈ GW := mS_9 _ (List.mem_of_getElem? (i := 25) rfl)
theorem m_386 : Cond.instanceMethod yX9_direction ∈ GW := mS_9 _ (List.mem_of_getElem? (i := 26) rfl)
theorem m_387 : Cond.selects RX9 yX9_direction yX9_direction ∈ GW := mS_9 _ (List.mem_of_getElem? (i := 27) rfl)
theorem m_388 : Cond.code yX10_direction cX10_direction 1 (some .int) ∈ GW := mS_9 _ (List.mem_of_getElem? (i := 28) rfl)
theorem m_389 : Cond.methodLink RL 129 yX10_direction ∈ GW := mS_9 _ (List.mem_of_getElem? (i := 29) rfl)
theorem m_390 : Cond.instanceMethod yX10_direction ∈ GW := mS_9 _ (List.mem_of_getElem? (i := 30) rfl)
theorem m_391 : Cond.selects RX10 yX10_direction yX10_direction ∈ GW := mS_9 _ (List.mem_of_getElem? (i := 31) rfl)
theorem m_392 : Cond.code yX9_turning cX9_turning 1 (some .int) ∈ GW := mS_9 _ (List.mem_of_getElem? (i := 32) rfl)
theorem m_393 : Cond.methodLink RL 130 yX9_turning ∈ GW := mS_9 _ (List.mem_of_getElem? (i := 33) rfl)
theorem m_394 : Cond.instanceMethod yX9_turning ∈ GW := mS_9 _ (List.mem_of_getElem? (i := 34) rfl)
theorem m_395 : Cond.selects RX9 yX9_turning yX9_turning ∈ GW := mS_9 _ (List.mem_of_getElem? (i := 35) rfl)
theorem m_396 : Cond.code yX10_turning cX10_turning 1 (some .int) ∈ GW := mS_9 _ (List.mem_of_getElem? (i := 36) rfl)
theorem m_397 : Cond.methodLink RL 133 yX10_turning ∈ GW := mS_9 _ (List.mem_of_getElem? (i := 37) rfl)
theorem m_398 : Cond.instanceMethod yX10_turning ∈ GW := mS_9 _ (List.mem_of_getElem? (i := 38) rfl)
theorem m_399 : Cond.selects RX10 yX10_turning yX10_turning ∈ GW := mS_9 _ (List.mem_of_getElem? (i := 39) rfl)
theorem m_400 : Cond.methodLink RX7 36 yX7_partAt ∈ GW := mS_10 _ (List.mem_of_getElem? (i := 0) rfl)
theorem m_401 : Cond.code yX7_endsAtStart cX7_endsAtStart 2 (some .boolean) ∈ GW := mS_10 _ (List.mem_of_getElem? (i := 1) rfl)
theorem m_402 : Cond.methodLink RX9 165 yX7_endsAtStart ∈ GW := mS_10 _ (List.mem_of_getElem? (i := 2) rfl)
theorem m_403 : Cond.instanceMethod yX7_endsAtStart ∈ GW := mS_10 _ (List.mem_of_getElem? (i := 3) rfl)
theorem m_404 : Cond.selects RX7 yX7_endsAtStart yX7_endsAtStart ∈ GW := mS_10 _ (List.mem_of_getElem? (i := 4) rfl)
theorem m_405 : Cond.code yX9_isClosed cX9_isClosed 1 (some .boolean) ∈ GW := mS_10 _ (List.mem_of_getElem? (i := 5) rfl)
theorem m_406 : Cond.methodLink RL 134 yX9_isClosed ∈ GW := mS_10 _ (List.mem_of_getElem? (i := 6) rfl)
theorem m_407 : Cond.instanceMethod yX9_isClosed ∈ GW := mS_10 _ (List.mem_of_getElem? (i := 7) rfl)
theorem m_408 : Cond.selects RX9 yX9_isClosed yX9_isClosed ∈ GW := mS_10 _ (List.mem_of_getElem? (i := 8) rfl)
theorem m_409 : Cond.code yX10_closed cX10_closed 2 (some .boolean) ∈ GW := mS_10 _ (List.mem_of_getElem? (i := 9) rfl)
theorem m_410 : Cond.methodLink RX10 228 yX10_closed ∈ GW := mS_10 _ (List.mem_of_getElem? (i := 10) rfl)
theorem m_411 : Cond.instanceMethod yX10_closed ∈ GW := mS_10 _ (List.mem_of_getElem? (i := 11) rfl)
theorem m_412 : Cond.selects RX10 yX10_closed yX10_closed ∈ GW := mS_10 _ (List.mem_of_getElem? (i := 12) rfl)
theorem m_413 : Cond.code yX10_isClosed cX10_isClosed 1 (some .boolean) ∈ GW := mS_10 _ (List.mem_of_getElem? (i := 13) rfl)
theorem m_414 : Cond.methodLink RL 137 yX10_isClosed ∈ GW := mS_10 _ (List.mem_of_getElem? (i := 14) rfl)
theorem m_415 : Cond.instanceMethod yX10_isClosed ∈ GW := mS_10 _ (List.mem_of_getElem? (i := 15) rfl)
theorem m_416 : Cond.selects RX10 yX10_isClosed yX10_isClosed ∈ GW := mS_10 _ (List.mem_of_getElem? (i := 16) rfl)
theorem m_417 : Cond.code yX9_closingRepeats cX9_closingRepeats 3 (some .int) ∈ GW := mS_10 _ (List.mem_of_getElem? (i := 17) rfl)
theorem m_418 : Cond.methodLink RL 46 yX9_closingRepeats ∈ GW := mS_10 _ (List.mem_of_getElem? (i := 18) rfl)
theorem m_419 : Cond.instanceMethod yX9_closingRepeats ∈ GW := mS_10 _ (List.mem_of_getElem? (i := 19) rfl)
theorem m_420 : Cond.selects RX9 yX9_closingRepeats yX9_closingRepeats ∈ GW := mS_10 _ (List.mem_of_getElem? (i := 20) rfl)
theorem m_421 : Cond.codeWith yL_closingRepeats cL_closingRepeats 3 (some .int) [(0, 8, 11, 32)] ∈ GW := mS_10 _ (List.mem_of_getElem? (i := 21) rfl)
theorem m_422 : Cond.methodLink RL 138 yL_closingRepeats ∈ GW := mS_10 _ (List.mem_of_getElem? (i := 22) rfl)
theorem m_423 : Cond.static yL_closingRepeats ∈ GW := mS_10 _ (List.mem_of_getElem? (i := 23) rfl)
theorem m_424 : Cond.code yX10_closingRepeats cX10_closingRepeats 2 (some .int) ∈ GW := mS_10 _ (List.mem_of_getElem? (i := 24) rfl)
theorem m_425 : Cond.methodLink RL 140 yX10_closingRepeats ∈ GW := mS_10 _ (List.mem_of_getElem? (i := 25) rfl)
theorem m_426 : Cond.instanceMethod yX10_closingRepeats ∈ GW := mS_10 _ (List.mem_of_getElem? (i := 26) rfl)
theorem m_427 : Cond.selects RX10 yX10_closingRepeats yX10_closingRepeats ∈ GW := mS_10 _ (List.mem_of_getElem? (i := 27) rfl)
theorem m_428 : Cond.code yX9_area cX9_area 2 (some .long) ∈ GW := mS_10 _ (List.mem_of_getElem? (i := 28) rfl)
theorem m_429 : Cond.methodLink RL 49 yX9_area ∈ GW := mS_10 _ (List.mem_of_getElem? (i := 29) rfl)
theorem m_430 : Cond.instanceMethod yX9_area ∈ GW := mS_10 _ (List.mem_of_getElem? (i := 30) rfl)
theorem m_431 : Cond.selects RX9 yX9_area yX9_area ∈ GW := mS_10 _ (List.mem_of_getElem? (i := 31) rfl)
theorem m_432 : Cond.codeWith yL_area cL_area 4 (some .int) [(0, 8, 11, 13), (0, 8, 14, 19)] ∈ GW := mS_10 _ (List.mem_of_getElem? (i := 32) rfl)
theorem m_433 : Cond.methodLink RL 141 yL_area ∈ GW := mS_10 _ (List.mem_of_getElem? (i := 33) rfl)
theorem m_434 : Cond.static yL_area ∈ GW := mS_10 _ (List.mem_of_getElem? (i := 34) rfl)
theorem m_435 : Cond.code yX10_area cX10_area 6 (some .long) ∈ GW := mS_10 _ (List.mem_of_getElem? (i := 35) rfl)
theorem m_436 : Cond.methodLink RL 143 yX10_area ∈ GW := mS_10 _ (List.mem_of_getElem? (i := 36) rfl)
theorem m_437 : Cond.instanceMethod yX10_area ∈ GW := mS_10 _ (List.mem_of_getElem? (i := 37) rfl)
theorem m_438 : Cond.selects RX10 yX10_area yX10_area ∈ GW := mS_10 _ (List.mem_of_getElem? (i := 38) rfl)
theorem m_439 : Cond.code yX7_enclosed cX7_enclosed 5 (some .long) ∈ GW := mS_10 _ (List.mem_of_getElem? (i := 39) rfl)
theorem m_440 : Cond.methodLink RX9 181 yX7_enclosed ∈ GW := mS_11 _ (List.mem_of_getElem? (i := 0) rfl)
theorem m_441 : Cond.instanceMethod yX7_enclosed ∈ GW := mS_11 _ (List.mem_of_getElem? (i := 1) rfl)
theorem m_442 : Cond.selects RX7 yX7_enclosed yX7_enclosed ∈ GW := mS_11 _ (List.mem_of_getElem? (i := 2) rfl)
theorem m_443 : Cond.fieldLink RX7 62 "ExactTurtle$Track" "meetingPairs" "I" ∈ GW := mS_11 _ (List.mem_of_getElem? (i := 3) rfl)
theorem m_444 : Cond.fieldLink RX7 65 "ExactTurtle$Track" "crossingPairs" "I" ∈ GW := mS_11 _ (List.mem_of_getElem? (i := 4) rfl)
theorem m_445 : Cond.code yX7_comparePairs cX7_comparePairs 3 none ∈ GW := mS_11 _ (List.mem_of_getElem? (i := 5) rfl)
theorem m_446 : Cond.methodLink RX9 185 yX7_comparePairs ∈ GW := mS_11 _ (List.mem_of_getElem? (i := 6) rfl)
theorem m_447 : Cond.instanceMethod yX7_comparePairs ∈ GW := mS_11 _ (List.mem_of_getElem? (i := 7) rfl)
theorem m_448 : Cond.selects RX7 yX7_comparePairs yX7_comparePairs ∈ GW := mS_11 _ (List.mem_of_getElem? (i := 8) rfl)
theorem m_449 : Cond.code yX9_meetings cX9_meetings 1 (some .int) ∈ GW := mS_11 _ (List.mem_of_getElem? (i := 9) rfl)
theorem m_450 : Cond.methodLink RL 144 yX9_meetings ∈ GW := mS_11 _ (List.mem_of_getElem? (i := 10) rfl)
theorem m_451 : Cond.instanceMethod yX9_meetings ∈ GW := mS_11 _ (List.mem_of_getElem? (i := 11) rfl)
theorem m_452 : Cond.selects RX9 yX9_meetings yX9_meetings ∈ GW := mS_11 _ (List.mem_of_getElem? (i := 12) rfl)
theorem m_453 : Cond.code yX10_meetings cX10_meetings 4 (some .int) ∈ GW := mS_11 _ (List.mem_of_getElem? (i := 13) rfl)
theorem m_454 : Cond.methodLink RL 147 yX10_meetings ∈ GW := mS_11 _ (List.mem_of_getElem? (i := 14) rfl)
theorem m_455 : Cond.instanceMethod yX10_meetings ∈ GW := mS_11 _ (List.mem_of_getElem? (i := 15) rfl)
theorem m_456 : Cond.selects RX10 yX10_meetings yX10_meetings ∈ GW := mS_11 _ (List.mem_of_getElem? (i := 16) rfl)
theorem m_457 : Cond.code yX9_crossings cX9_crossings 1 (some .int) ∈ GW := mS_11 _ (List.mem_of_getElem? (i := 17) rfl)
theorem m_458 : Cond.methodLink RL 148 yX9_crossings ∈ GW := mS_11 _ (List.mem_of_getElem? (i := 18) rfl)
theorem m_459 : Cond.instanceMethod yX9_crossings ∈ GW := mS_11 _ (List.mem_of_getElem? (i := 19) rfl)
theorem m_460 : Cond.selects RX9 yX9_crossings yX9_crossings ∈ GW := mS_11 _ (List.mem_of_getElem? (i := 20) rfl)
theorem m_461 : Cond.code yX10_crossings cX10_crossings 4 (some .int) ∈ GW := mS_11 _ (List.mem_of_getElem? (i := 21) rfl)
theorem m_462 : Cond.methodLink RL 151 yX10_crossings ∈ GW := mS_11 _ (List.mem_of_getElem? (i := 22) rfl)
theorem m_463 : Cond.instanceMethod yX10_crossings ∈ GW := mS_11 _ (List.mem_of_getElem? (i := 23) rfl)
theorem m_464 : Cond.selects RX10 yX10_crossings yX10_crossings ∈ GW := mS_11 _ (List.mem_of_getElem? (i := 24) rfl)
theorem m_465 : Cond.classLink RX9 169 "java/util/NoSuchElementException" ∈ GW := mS_11 _ (List.mem_of_getElem? (i := 25) rfl)
theorem m_466 : Cond.initialized "java/util/NoSuchElementException" ∈ GW := mS_11 _ (List.mem_of_getElem? (i := 26) rfl)
theorem m_467 : Cond.code yX9_firstMeeting cX9_firstMeeting 1 (some .int) ∈ GW := mS_11 _ (List.mem_of_getElem? (i := 27) rfl)
theorem m_468 : Cond.methodLink RL 53 yX9_firstMeeting ∈ GW := mS_11 _ (List.mem_of_getElem? (i := 28) rfl)
theorem m_469 : Cond.instanceMethod yX9_firstMeeting ∈ GW := mS_11 _ (List.mem_of_getElem? (i := 29) rfl)
theorem m_470 : Cond.selects RX9 yX9_firstMeeting yX9_firstMeeting ∈ GW := mS_11 _ (List.mem_of_getElem? (i := 30) rfl)
theorem m_471 : Cond.classLink RL 32 "java/util/NoSuchElementException" ∈ GW := mS_11 _ (List.mem_of_getElem? (i := 31) rfl)
theorem m_472 : Cond.codeWith yL_firstMeeting cL_firstMeeting 3 (some .int) [(0, 8, 11, 32)] ∈ GW := mS_11 _ (List.mem_of_getElem? (i := 32) rfl)
theorem m_473 : Cond.methodLink RL 152 yL_firstMeeting ∈ GW := mS_11 _ (List.mem_of_getElem? (i := 33) rfl)
theorem m_474 : Cond.static yL_firstMeeting ∈ GW := mS_11 _ (List.mem_of_getElem? (i := 34) rfl)
theorem m_475 : Cond.code yX10_firstMeeting cX10_firstMeeting 3 (some .int) ∈ GW := mS_11 _ (List.mem_of_getElem? (i := 35) rfl)
theorem m_476 : Cond.methodLink RL 154 yX10_firstMeeting ∈ GW := mS_11 _ (List.mem_of_getElem? (i := 36) rfl)
theorem m_477 : Cond.instanceMethod yX10_firstMeeting ∈ GW := mS_11 _ (List.mem_of_getElem? (i := 37) rfl)
theorem m_478 : Cond.selects RX10 yX10_firstMeeting yX10_firstMeeting ∈ GW := mS_11 _ (List.mem_of_getElem? (i := 38) rfl)
theorem m_479 : Cond.code yX9_extreme cX9_extreme 6 (some .int) ∈ GW := mS_11 _ (List.mem_of_getElem? (i := 39) rfl)
theorem m_480 : Cond.methodLink RL 56 yX9_extreme ∈ GW := mS_12 _ (List.mem_of_getElem? (i := 0) rfl)
theorem m_481 : Cond.instanceMethod yX9_extreme ∈ GW := mS_12 _ (List.mem_of_getElem? (i := 1) rfl)
theorem m_482 : Cond.selects RX9 yX9_extreme yX9_extreme ∈ GW := mS_12 _ (List.mem_of_getElem? (i := 2) rfl)
theorem m_483 : Cond.codeWith yL_extreme cL_extreme 5 (some .int) [(0, 10, 13, 13)] ∈ GW := mS_12 _ (List.mem_of_getElem? (i := 3) rfl)
theorem m_484 : Cond.methodLink RL 155 yL_extreme ∈ GW := mS_12 _ (List.mem_of_getElem? (i := 4) rfl)
theorem m_485 : Cond.static yL_extreme ∈ GW := mS_12 _ (List.mem_of_getElem? (i := 5) rfl)
theorem m_486 : Cond.code yX10_extreme cX10_extreme 7 (some .int) ∈ GW := mS_12 _ (List.mem_of_getElem? (i := 6) rfl)
theorem m_487 : Cond.methodLink RL 157 yX10_extreme ∈ GW := mS_12 _ (List.mem_of_getElem? (i := 7) rfl)
theorem m_488 : Cond.instanceMethod yX10_extreme ∈ GW := mS_12 _ (List.mem_of_getElem? (i := 8) rfl)
theorem m_489 : Cond.selects RX10 yX10_extreme yX10_extreme ∈ GW := mS_12 _ (List.mem_of_getElem? (i := 9) rfl)
theorem m_490 : Cond.code yX7_outermost cX7_outermost 6 (some .int) ∈ GW := mS_12 _ (List.mem_of_getElem? (i := 10) rfl)
theorem m_491 : Cond.methodLink RX9 201 yX7_outermost ∈ GW := mS_12 _ (List.mem_of_getElem? (i := 11) rfl)
theorem m_492 : Cond.instanceMethod yX7_outermost ∈ GW := mS_12 _ (List.mem_of_getElem? (i := 12) rfl)
theorem m_493 : Cond.selects RX7 yX7_outermost yX7_outermost ∈ GW := mS_12 _ (List.mem_of_getElem? (i := 13) rfl)
theorem m_494 : Cond.methodLink RX1 86 yX7_endsAtStart ∈ GW := mS_12 _ (List.mem_of_getElem? (i := 14) rfl)
theorem m_495 : Cond.methodLink RX1 55 yX1_heading ∈ GW := mS_12 _ (List.mem_of_getElem? (i := 15) rfl)
theorem m_496 : Cond.code yX1_isSmooth cX1_isSmooth 1 (some .boolean) ∈ GW := mS_12 _ (List.mem_of_getElem? (i := 16) rfl)
theorem m_497 : Cond.methodLink RX9 205 yX1_isSmooth ∈ GW := mS_12 _ (List.mem_of_getElem? (i := 17) rfl)
theorem m_498 : Cond.instanceMethod yX1_isSmooth ∈ GW := mS_12 _ (List.mem_of_getElem? (i := 18) rfl)
theorem m_499 : Cond.selects RX1 yX1_isSmooth yX1_isSmooth ∈ GW := mS_12 _ (List.mem_of_getElem? (i := 19) rfl)
theorem m_500 : Cond.fieldLink RX5 18 "ExactTurtle$Sides" "count" "I" ∈ GW := mS_12 _ (List.mem_of_getElem? (i := 20) rfl)
theorem m_501 : Cond.code yX5_firstOfSide cX5_firstOfSide 2 (some .int) ∈ GW := mS_12 _ (List.mem_of_getElem? (i := 21) rfl)
theorem m_502 : Cond.methodLink RX5 22 yX5_firstOfSide ∈ GW := mS_12 _ (List.mem_of_getElem? (i := 22) rfl)
theorem m_503 : Cond.static yX5_firstOfSide ∈ GW := mS_12 _ (List.mem_of_getElem? (i := 23) rfl)
theorem m_504 : Cond.code yX5_gather cX5_gather 7 none ∈ GW := mS_12 _ (List.mem_of_getElem? (i := 24) rfl)
theorem m_505 : Cond.methodLink RX9 210 yX5_gather ∈ GW := mS_12 _ (List.mem_of_getElem? (i := 25) rfl)
theorem m_506 : Cond.instanceMethod yX5_gather ∈ GW := mS_12 _ (List.mem_of_getElem? (i := 26) rfl)
theorem m_507 : Cond.selects RX5 yX5_gather yX5_gather ∈ GW := mS_12 _ (List.mem_of_getElem? (i := 27) rfl)
theorem m_508 : Cond.code yX9_corners cX9_corners 1 (some .int) ∈ GW := mS_12 _ (List.mem_of_getElem? (i := 28) rfl)
theorem m_509 : Cond.methodLink RL 59 yX9_corners ∈ GW := mS_12 _ (List.mem_of_getElem? (i := 29) rfl)
theorem m_510 : Cond.instanceMethod yX9_corners ∈ GW := mS_12 _ (List.mem_of_getElem? (i := 30) rfl)
theorem m_511 : Cond.selects RX9 yX9_corners yX9_corners ∈ GW := mS_12 _ (List.mem_of_getElem? (i := 31) rfl)
theorem m_512 : Cond.codeWith yL_corners cL_corners 3 (some .int) [(0, 8, 11, 19)] ∈ GW := mS_12 _ (List.mem_of_getElem? (i := 32) rfl)
theorem m_513 : Cond.methodLink RL 158 yL_corners ∈ GW := mS_12 _ (List.mem_of_getElem? (i := 33) rfl)
theorem m_514 : Cond.static yL_corners ∈ GW := mS_12 _ (List.mem_of_getElem? (i := 34) rfl)
theorem m_515 : Cond.code yX10_isSmooth cX10_isSmooth 1 (some .boolean) ∈ GW := mS_12 _ (List.mem_of_getElem? (i := 35) rfl)
theorem m_516 : Cond.methodLink RX10 266 yX10_isSmooth ∈ GW := mS_12 _ (List.mem_of_getElem? (i := 36) rfl)
theorem m_517 : Cond.instanceMethod yX10_isSmooth ∈ GW := mS_12 _ (List.mem_of_getElem? (i := 37) rfl)
theorem m_518 : Cond.selects RX10 yX10_isSmooth yX10_isSmooth ∈ GW := mS_12 _ (List.mem_of_getElem? (i := 38) rfl)
theorem m_519 : Cond.fieldLink RX10 263 "ExactTurtleModel" "corners" "I" ∈ GW := mS_12 _ (List.mem_of_getElem? (i := 39) rfl)
theorem m_520 : Cond.code yX10_findsCorners cX10_findsCorners 6 none ∈ GW := mS_13 _ (List.mem_of_getElem? (i := 0) rfl)
theorem m_521 : Cond.methodLink RX10 269 yX10_findsCorners ∈ GW := mS_13 _ (List.mem_of_getElem? (i := 1) rfl)
theorem m_522 : Cond.instanceMethod yX10_findsCorners ∈ GW := mS_13 _ (List.mem_of_getElem? (i := 2) rfl)
theorem m_523 : Cond.selects RX10 yX10_findsCorners yX10_findsCorners ∈ GW := mS_13 _ (List.mem_of_getElem? (i := 3) rfl)
theorem m_524 : Cond.code yX10_corners cX10_corners 1 (some .int) ∈ GW := mS_13 _ (List.mem_of_getElem? (i := 4) rfl)
theorem m_525 : Cond.methodLink RL 160 yX10_corners ∈ GW := mS_13 _ (List.mem_of_getElem? (i := 5) rfl)
theorem m_526 : Cond.instanceMethod yX10_corners ∈ GW := mS_13 _ (List.mem_of_getElem? (i := 6) rfl)
theorem m_527 : Cond.selects RX10 yX10_corners yX10_corners ∈ GW := mS_13 _ (List.mem_of_getElem? (i := 7) rfl)
theorem m_528 : Cond.code yX9_gatherCorners cX9_gatherCorners 1 (some .boolean) ∈ GW := mS_13 _ (List.mem_of_getElem? (i := 8) rfl)
theorem m_529 : Cond.methodLink RX9 217 yX9_gatherCorners ∈ GW := mS_13 _ (List.mem_of_getElem? (i := 9) rfl)
theorem m_530 : Cond.instanceMethod yX9_gatherCorners ∈ GW := mS_13 _ (List.mem_of_getElem? (i := 10) rfl)
theorem m_531 : Cond.selects RX9 yX9_gatherCorners yX9_gatherCorners ∈ GW := mS_13 _ (List.mem_of_getElem? (i := 11) rfl)
theorem m_532 : Cond.classLink RX9 96 "java/lang/IllegalStateException" ∈ GW := mS_13 _ (List.mem_of_getElem? (i := 12) rfl)
theorem m_533 : Cond.initialized "java/lang/IllegalStateException" ∈ GW := mS_13 _ (List.mem_of_getElem? (i := 13) rfl)
theorem m_534 : Cond.code yX9_symmetry cX9_symmetry 1 (some .int) ∈ GW := mS_13 _ (List.mem_of_getElem? (i := 14) rfl)
theorem m_535 : Cond.methodLink RL 62 yX9_symmetry ∈ GW := mS_13 _ (List.mem_of_getElem? (i := 15) rfl)
theorem m_536 : Cond.instanceMethod yX9_symmetry ∈ GW := mS_13 _ (List.mem_of_getElem? (i := 16) rfl)
theorem m_537 : Cond.selects RX9 yX9_symmetry yX9_symmetry ∈ GW := mS_13 _ (List.mem_of_getElem? (i := 17) rfl)
theorem m_538 : Cond.classLink RL 19 "java/lang/IllegalStateException" ∈ GW := mS_13 _ (List.mem_of_getElem? (i := 18) rfl)
theorem m_539 : Cond.codeWith yL_symmetry cL_symmetry 3 (some .int) [(0, 8, 11, 19)] ∈ GW := mS_13 _ (List.mem_of_getElem? (i := 19) rfl)
theorem m_540 : Cond.methodLink RL 161 yL_symmetry ∈ GW := mS_13 _ (List.mem_of_getElem? (i := 20) rfl)
theorem m_541 : Cond.static yL_symmetry ∈ GW := mS_13 _ (List.mem_of_getElem? (i := 21) rfl)
theorem m_542 : Cond.code yX10_symmetry cX10_symmetry 6 (some .int) ∈ GW := mS_13 _ (List.mem_of_getElem? (i := 22) rfl)
theorem m_543 : Cond.methodLink RL 163 yX10_symmetry ∈ GW := mS_13 _ (List.mem_of_getElem? (i := 23) rfl)
theorem m_544 : Cond.instanceMethod yX10_symmetry ∈ GW := mS_13 _ (List.mem_of_getElem? (i := 24) rfl)
theorem m_545 : Cond.selects RX10 yX10_symmetry yX10_symmetry ∈ GW := mS_13 _ (List.mem_of_getElem? (i := 25) rfl)
theorem m_546 : Cond.code yX9_isMirrored cX9_isMirrored 1 (some .boolean) ∈ GW := mS_13 _ (List.mem_of_getElem? (i := 26) rfl)
theorem m_547 : Cond.methodLink RL 65 yX9_isMirrored ∈ GW := mS_13 _ (List.mem_of_getElem? (i := 27) rfl)
theorem m_548 : Cond.instanceMethod yX9_isMirrored ∈ GW := mS_13 _ (List.mem_of_getElem? (i := 28) rfl)
theorem m_549 : Cond.selects RX9 yX9_isMirrored yX9_isMirrored ∈ GW := mS_13 _ (List.mem_of_getElem? (i := 29) rfl)
theorem m_550 : Cond.codeWith yL_isMirrored cL_isMirrored 3 (some .int) [(0, 15, 18, 19)] ∈ GW := mS_13 _ (List.mem_of_getElem? (i := 30) rfl)
theorem m_551 : Cond.methodLink RL 164 yL_isMirrored ∈ GW := mS_13 _ (List.mem_of_getElem? (i := 31) rfl)
theorem m_552 : Cond.static yL_isMirrored ∈ GW := mS_13 _ (List.mem_of_getElem? (i := 32) rfl)
theorem m_553 : Cond.code yX10_isMirrored cX10_isMirrored 5 (some .boolean) ∈ GW := mS_13 _ (List.mem_of_getElem? (i := 33) rfl)
theorem m_554 : Cond.methodLink RL 166 yX10_isMirrored ∈ GW := mS_13 _ (List.mem_of_getElem? (i := 34) rfl)
theorem m_555 : Cond.instanceMethod yX10_isMirrored ∈ GW := mS_13 _ (List.mem_of_getElem? (i := 35) rfl)
theorem m_556 : Cond.selects RX10 yX10_isMirrored yX10_isMirrored ∈ GW := mS_13 _ (List.mem_of_getElem? (i := 36) rfl)
theorem m_557 : Cond.code yX9_shortestWalk cX9_shortestWalk 4 (some .int) ∈ GW := mS_13 _ (List.mem_of_getElem? (i := 37) rfl)
theorem m_558 : Cond.methodLink RL 69 yX9_shortestWalk ∈ GW := mS_13 _ (List.mem_of_getElem? (i := 38) rfl)
theorem m_559 : Cond.instanceMethod yX9_shortestWalk ∈ GW := mS_13 _ (List.mem_of_getElem? (i := 39) rfl)
theorem m_560 : Cond.selects RX9 yX9_shortestWalk yX9_shortestWalk ∈ GW := mS_14 _ (List.mem_of_getElem? (i := 0) rfl)
theorem m_561 : Cond.codeWith yL_shortestWalk cL_shortestWalk 4 (some .int) [(0, 9, 12, 13), (0, 9, 15, 32)] ∈ GW := mS_14 _ (List.mem_of_getElem? (i := 1) rfl)
theorem m_562 : Cond.methodLink RL 167 yL_shortestWalk ∈ GW := mS_14 _ (List.mem_of_getElem? (i := 2) rfl)
theorem m_563 : Cond.static yL_shortestWalk ∈ GW := mS_14 _ (List.mem_of_getElem? (i := 3) rfl)
theorem m_564 : Cond.constantLong RX10 276 8 ∈ GW := mS_14 _ (List.mem_of_getElem? (i := 4) rfl)
theorem m_565 : Cond.code yX10_shortestWalk cX10_shortestWalk 3 (some .int) ∈ GW := mS_14 _ (List.mem_of_getElem? (i := 5) rfl)
theorem m_566 : Cond.methodLink RL 169 yX10_shortestWalk ∈ GW := mS_14 _ (List.mem_of_getElem? (i := 6) rfl)
theorem m_567 : Cond.instanceMethod yX10_shortestWalk ∈ GW := mS_14 _ (List.mem_of_getElem? (i := 7) rfl)
theorem m_568 : Cond.selects RX10 yX10_shortestWalk yX10_shortestWalk ∈ GW := mS_14 _ (List.mem_of_getElem? (i := 8) rfl)
theorem m_569 : Cond.methodLink RX8 19 yJ7_fill_53178 ∈ GW := mS_14 _ (List.mem_of_getElem? (i := 9) rfl)
theorem m_570 : Cond.methodLink RX8 58 yX7_partAt ∈ GW := mS_14 _ (List.mem_of_getElem? (i := 10) rfl)
theorem m_571 : Cond.code yX8_isAtEnd cX8_isAtEnd 3 (some .boolean) ∈ GW := mS_14 _ (List.mem_of_getElem? (i := 11) rfl)
theorem m_572 : Cond.methodLink RX8 29 yX8_isAtEnd ∈ GW := mS_14 _ (List.mem_of_getElem? (i := 12) rfl)
theorem m_573 : Cond.instanceMethod yX8_isAtEnd ∈ GW := mS_14 _ (List.mem_of_getElem? (i := 13) rfl)
theorem m_574 : Cond.selects RX8 yX8_isAtEnd yX8_isAtEnd ∈ GW := mS_14 _ (List.mem_of_getElem? (i := 14) rfl)
theorem m_575 : Cond.code yX8_walkOn cX8_walkOn 8 (some .boolean) ∈ GW := mS_14 _ (List.mem_of_getElem? (i := 15) rfl)
theorem m_576 : Cond.methodLink RX8 25 yX8_walkOn ∈ GW := mS_14 _ (List.mem_of_getElem? (i := 16) rfl)
theorem m_577 : Cond.instanceMethod yX8_walkOn ∈ GW := mS_14 _ (List.mem_of_getElem? (i := 17) rfl)
theorem m_578 : Cond.selects RX8 yX8_walkOn yX8_walkOn ∈ GW := mS_14 _ (List.mem_of_getElem? (i := 18) rfl)
theorem m_579 : Cond.code yX8_find cX8_find 5 (some .int) ∈ GW := mS_14 _ (List.mem_of_getElem? (i := 19) rfl)
theorem m_580 : Cond.methodLink RX9 230 yX8_find ∈ GW := mS_14 _ (List.mem_of_getElem? (i := 20) rfl)
theorem m_581 : Cond.instanceMethod yX8_find ∈ GW := mS_14 _ (List.mem_of_getElem? (i := 21) rfl)
theorem m_582 : Cond.selects RX8 yX8_find yX8_find ∈ GW := mS_14 _ (List.mem_of_getElem? (i := 22) rfl)
theorem m_583 : Cond.fieldLink RX9 239 "ExactTurtle" "outputSize" "I" ∈ GW := mS_14 _ (List.mem_of_getElem? (i := 23) rfl)
theorem m_584 : Cond.code yX10_walks cX10_walks 9 (some .boolean) ∈ GW := mS_14 _ (List.mem_of_getElem? (i := 24) rfl)
theorem m_585 : Cond.methodLink RX10 272 yX10_walks ∈ GW := mS_14 _ (List.mem_of_getElem? (i := 25) rfl)
theorem m_586 : Cond.instanceMethod yX10_walks ∈ GW := mS_14 _ (List.mem_of_getElem? (i := 26) rfl)
theorem m_587 : Cond.selects RX10 yX10_walks yX10_walks ∈ GW := mS_14 _ (List.mem_of_getElem? (i := 27) rfl)
theorem m_588 : Cond.fieldLink RX10 278 "ExactTurtleModel" "outputLength" "I" ∈ GW := mS_14 _ (List.mem_of_getElem? (i := 28) rfl)
theorem m_589 : Cond.code yX9_outputAt cX9_outputAt 2 (some .char) ∈ GW := mS_14 _ (List.mem_of_getElem? (i := 29) rfl)
theorem m_590 : Cond.methodLink RL 72 yX9_outputAt ∈ GW := mS_14 _ (List.mem_of_getElem? (i := 30) rfl)
theorem m_591 : Cond.instanceMethod yX9_outputAt ∈ GW := mS_14 _ (List.mem_of_getElem? (i := 31) rfl)
theorem m_592 : Cond.selects RX9 yX9_outputAt yX9_outputAt ∈ GW := mS_14 _ (List.mem_of_getElem? (i := 32) rfl)
theorem m_593 : Cond.codeWith yL_outputAt cL_outputAt 4 (some .int) [(0, 9, 12, 40)] ∈ GW := mS_14 _ (List.mem_of_getElem? (i := 33) rfl)
theorem m_594 : Cond.methodLink RL 170 yL_outputAt ∈ GW := mS_14 _ (List.mem_of_getElem? (i := 34) rfl)
theorem m_595 : Cond.static yL_outputAt ∈ GW := mS_14 _ (List.mem_of_getElem? (i := 35) rfl)
theorem m_596 : Cond.code yX10_outputAt cX10_outputAt 2 (some .char) ∈ GW := mS_14 _ (List.mem_of_getElem? (i := 36) rfl)
theorem m_597 : Cond.methodLink RL 172 yX10_outputAt ∈ GW := mS_14 _ (List.mem_of_getElem? (i := 37) rfl)
theorem m_598 : Cond.instanceMethod yX10_outputAt ∈ GW := mS_14 _ (List.mem_of_getElem? (i := 38) rfl)
theorem m_599 : Cond.selects RX10 yX10_outputAt yX10_outputAt ∈ GW := mS_14 _ (List.mem_of_getElem? (i := 39) rfl)
theorem m_600 : Cond.code yX6_get cX6_get 3 (some .int) ∈ GW := mS_15 _ (List.mem_of_getElem? (i := 0) rfl)
theorem m_601 : Cond.methodLink RX6 29 yX6_get ∈ GW := mS_15 _ (List.mem_of_getElem? (i := 1) rfl)
theorem m_602 : Cond.instanceMethod yX6_get ∈ GW := mS_15 _ (List.mem_of_getElem? (i := 2) rfl)
theorem m_603 : Cond.selects RX6 yX6_get yX6_get ∈ GW := mS_15 _ (List.mem_of_getElem? (i := 3) rfl)
theorem m_604 : Cond.code yX6_measure cX6_measure 4 (some .int) ∈ GW := mS_15 _ (List.mem_of_getElem? (i := 4) rfl)
theorem m_605 : Cond.methodLink RX9 246 yX6_measure ∈ GW := mS_15 _ (List.mem_of_getElem? (i := 5) rfl)
theorem m_606 : Cond.instanceMethod yX6_measure ∈ GW := mS_15 _ (List.mem_of_getElem? (i := 6) rfl)
theorem m_607 : Cond.selects RX6 yX6_measure yX6_measure ∈ GW := mS_15 _ (List.mem_of_getElem? (i := 7) rfl)
theorem m_608 : Cond.code yX9_shortestText cX9_shortestText 1 (some .int) ∈ GW := mS_15 _ (List.mem_of_getElem? (i := 8) rfl)
theorem m_609 : Cond.methodLink RL 76 yX9_shortestText ∈ GW := mS_15 _ (List.mem_of_getElem? (i := 9) rfl)
theorem m_610 : Cond.instanceMethod yX9_shortestText ∈ GW := mS_15 _ (List.mem_of_getElem? (i := 10) rfl)
theorem m_611 : Cond.selects RX9 yX9_shortestText yX9_shortestText ∈ GW := mS_15 _ (List.mem_of_getElem? (i := 11) rfl)
theorem m_612 : Cond.codeWith yL_shortestText cL_shortestText 3 (some .int) [(0, 8, 11, 19)] ∈ GW := mS_15 _ (List.mem_of_getElem? (i := 12) rfl)
theorem m_613 : Cond.methodLink RL 173 yL_shortestText ∈ GW := mS_15 _ (List.mem_of_getElem? (i := 13) rfl)
theorem m_614 : Cond.static yL_shortestText ∈ GW := mS_15 _ (List.mem_of_getElem? (i := 14) rfl)
theorem m_615 : Cond.code yX10_shortestText cX10_shortestText 8 (some .int) ∈ GW := mS_15 _ (List.mem_of_getElem? (i := 15) rfl)
theorem m_616 : Cond.methodLink RL 175 yX10_shortestText ∈ GW := mS_15 _ (List.mem_of_getElem? (i := 16) rfl)
theorem m_617 : Cond.instanceMethod yX10_shortestText ∈ GW := mS_15 _ (List.mem_of_getElem? (i := 17) rfl)
theorem m_618 : Cond.selects RX10 yX10_shortestText yX10_shortestText ∈ GW := mS_15 _ (List.mem_of_getElem? (i := 18) rfl)
theorem m_619 : Cond.code yX9_called cX9_called 2 (some .char) ∈ GW := mS_15 _ (List.mem_of_getElem? (i := 19) rfl)
theorem m_620 : Cond.methodLink RL 79 yX9_called ∈ GW := mS_15 _ (List.mem_of_getElem? (i := 20) rfl)
theorem m_621 : Cond.instanceMethod yX9_called ∈ GW := mS_15 _ (List.mem_of_getElem? (i := 21) rfl)
theorem m_622 : Cond.selects RX9 yX9_called yX9_called ∈ GW := mS_15 _ (List.mem_of_getElem? (i := 22) rfl)
theorem m_623 : Cond.codeWith yL_called cL_called 4 (some .int) [(0, 9, 12, 40)] ∈ GW := mS_15 _ (List.mem_of_getElem? (i := 23) rfl)
theorem m_624 : Cond.methodLink RL 176 yL_called ∈ GW := mS_15 _ (List.mem_of_getElem? (i := 24) rfl)
theorem m_625 : Cond.static yL_called ∈ GW := mS_15 _ (List.mem_of_getElem? (i := 25) rfl)
theorem m_626 : Cond.code yX10_called cX10_called 2 (some .char) ∈ GW := mS_15 _ (List.mem_of_getElem? (i := 26) rfl)
theorem m_627 : Cond.methodLink RL 178 yX10_called ∈ GW := mS_15 _ (List.mem_of_getElem? (i := 27) rfl)
theorem m_628 : Cond.instanceMethod yX10_called ∈ GW := mS_15 _ (List.mem_of_getElem? (i := 28) rfl)
theorem m_629 : Cond.selects RX10 yX10_called yX10_called ∈ GW := mS_15 _ (List.mem_of_getElem? (i := 29) rfl)
theorem m_630 : Cond.code yX9_calls cX9_calls 3 (some .int) ∈ GW := mS_15 _ (List.mem_of_getElem? (i := 30) rfl)
theorem m_631 : Cond.methodLink RL 179 yX9_calls ∈ GW := mS_15 _ (List.mem_of_getElem? (i := 31) rfl)
theorem m_632 : Cond.instanceMethod yX9_calls ∈ GW := mS_15 _ (List.mem_of_getElem? (i := 32) rfl)
theorem m_633 : Cond.selects RX9 yX9_calls yX9_calls ∈ GW := mS_15 _ (List.mem_of_getElem? (i := 33) rfl)
theorem m_634 : Cond.code yX10_calls cX10_calls 2 (some .int) ∈ GW := mS_15 _ (List.mem_of_getElem? (i := 34) rfl)
theorem m_635 : Cond.methodLink RL 182 yX10_calls ∈ GW := mS_15 _ (List.mem_of_getElem? (i := 35) rfl)
theorem m_636 : Cond.instanceMethod yX10_calls ∈ GW := mS_15 _ (List.mem_of_getElem? (i := 36) rfl)
theorem m_637 : Cond.selects RX10 yX10_calls yX10_calls ∈ GW := mS_15 _ (List.mem_of_getElem? (i := 37) rfl)
theorem m_638 : Cond.code yX1_callsOf cX1_callsOf 2 (some .int) ∈ GW := mS_15 _ (List.mem_of_getElem? (i := 38) rfl)
theorem m_639 : Cond.methodLink RX9 258 yX1_callsOf ∈ GW := mS_15 _ (List.mem_of_getElem? (i := 39) rfl)
theorem m_640 : Cond.instanceMethod yX1_callsOf ∈ GW := mS_16 _ (List.mem_of_getElem? (i := 0) rfl)
theorem m_641 : Cond.selects RX1 yX1_callsOf yX1_callsOf ∈ GW := mS_16 _ (List.mem_of_getElem? (i := 1) rfl)
theorem m_642 : Cond.code yX9_createTrace cX9_createTrace 2 (some .int) ∈ GW := mS_16 _ (List.mem_of_getElem? (i := 2) rfl)
theorem m_643 : Cond.methodLink RL 82 yX9_createTrace ∈ GW := mS_16 _ (List.mem_of_getElem? (i := 3) rfl)
theorem m_644 : Cond.instanceMethod yX9_createTrace ∈ GW := mS_16 _ (List.mem_of_getElem? (i := 4) rfl)
theorem m_645 : Cond.selects RX9 yX9_createTrace yX9_createTrace ∈ GW := mS_16 _ (List.mem_of_getElem? (i := 5) rfl)
theorem m_646 : Cond.codeWith yL_createTrace cL_createTrace 4 (some .int) [(0, 9, 12, 13)] ∈ GW := mS_16 _ (List.mem_of_getElem? (i := 6) rfl)
theorem m_647 : Cond.methodLink RL 183 yL_createTrace ∈ GW := mS_16 _ (List.mem_of_getElem? (i := 7) rfl)
theorem m_648 : Cond.static yL_createTrace ∈ GW := mS_16 _ (List.mem_of_getElem? (i := 8) rfl)
theorem m_649 : Cond.code yX10_createTrace cX10_createTrace 3 (some .int) ∈ GW := mS_16 _ (List.mem_of_getElem? (i := 9) rfl)
theorem m_650 : Cond.methodLink RL 185 yX10_createTrace ∈ GW := mS_16 _ (List.mem_of_getElem? (i := 10) rfl)
theorem m_651 : Cond.instanceMethod yX10_createTrace ∈ GW := mS_16 _ (List.mem_of_getElem? (i := 11) rfl)
theorem m_652 : Cond.selects RX10 yX10_createTrace yX10_createTrace ∈ GW := mS_16 _ (List.mem_of_getElem? (i := 12) rfl)
theorem m_653 : Cond.methodLink RX9 263 yJ7_fill_53178 ∈ GW := mS_16 _ (List.mem_of_getElem? (i := 13) rfl)
theorem m_654 : Cond.code yX9_traceAt cX9_traceAt 2 (some .int) ∈ GW := mS_16 _ (List.mem_of_getElem? (i := 14) rfl)
theorem m_655 : Cond.methodLink RL 186 yX9_traceAt ∈ GW := mS_16 _ (List.mem_of_getElem? (i := 15) rfl)
theorem m_656 : Cond.instanceMethod yX9_traceAt ∈ GW := mS_16 _ (List.mem_of_getElem? (i := 16) rfl)
theorem m_657 : Cond.selects RX9 yX9_traceAt yX9_traceAt ∈ GW := mS_16 _ (List.mem_of_getElem? (i := 17) rfl)
theorem m_658 : Cond.code yX10_traceAt cX10_traceAt 2 (some .int) ∈ GW := mS_16 _ (List.mem_of_getElem? (i := 18) rfl)
theorem m_659 : Cond.methodLink RL 189 yX10_traceAt ∈ GW := mS_16 _ (List.mem_of_getElem? (i := 19) rfl)
theorem m_660 : Cond.instanceMethod yX10_traceAt ∈ GW := mS_16 _ (List.mem_of_getElem? (i := 20) rfl)
theorem m_661 : Cond.selects RX10 yX10_traceAt yX10_traceAt ∈ GW := mS_16 _ (List.mem_of_getElem? (i := 21) rfl)
theorem m_662 : Cond.fieldLink RX2 20 "ExactTurtle$Procedures" "hasSaved" "Z" ∈ GW := mS_16 _ (List.mem_of_getElem? (i := 22) rfl)
theorem m_663 : Cond.code yX2_save cX2_save 2 none ∈ GW := mS_16 _ (List.mem_of_getElem? (i := 23) rfl)
theorem m_664 : Cond.methodLink RX9 269 yX2_save ∈ GW := mS_16 _ (List.mem_of_getElem? (i := 24) rfl)
theorem m_665 : Cond.instanceMethod yX2_save ∈ GW := mS_16 _ (List.mem_of_getElem? (i := 25) rfl)
theorem m_666 : Cond.selects RX2 yX2_save yX2_save ∈ GW := mS_16 _ (List.mem_of_getElem? (i := 26) rfl)
theorem m_667 : Cond.code yX2_definedOnes cX2_definedOnes 3 (some .int) ∈ GW := mS_16 _ (List.mem_of_getElem? (i := 27) rfl)
theorem m_668 : Cond.methodLink RX9 272 yX2_definedOnes ∈ GW := mS_16 _ (List.mem_of_getElem? (i := 28) rfl)
theorem m_669 : Cond.instanceMethod yX2_definedOnes ∈ GW := mS_16 _ (List.mem_of_getElem? (i := 29) rfl)
theorem m_670 : Cond.selects RX2 yX2_definedOnes yX2_definedOnes ∈ GW := mS_16 _ (List.mem_of_getElem? (i := 30) rfl)
theorem m_671 : Cond.code yX9_saveProcedures cX9_saveProcedures 1 (some .int) ∈ GW := mS_16 _ (List.mem_of_getElem? (i := 31) rfl)
theorem m_672 : Cond.methodLink RL 190 yX9_saveProcedures ∈ GW := mS_16 _ (List.mem_of_getElem? (i := 32) rfl)
theorem m_673 : Cond.instanceMethod yX9_saveProcedures ∈ GW := mS_16 _ (List.mem_of_getElem? (i := 33) rfl)
theorem m_674 : Cond.selects RX9 yX9_saveProcedures yX9_saveProcedures ∈ GW := mS_16 _ (List.mem_of_getElem? (i := 34) rfl)
theorem m_675 : Cond.fieldLink RX10 292 "ExactTurtleModel" "isSaved" "Z" ∈ GW := mS_16 _ (List.mem_of_getElem? (i := 35) rfl)
theorem m_676 : Cond.code yX10_defined cX10_defined 3 (some .int) ∈ GW := mS_16 _ (List.mem_of_getElem? (i := 36) rfl)
theorem m_677 : Cond.methodLink RX10 295 yX10_defined ∈ GW := mS_16 _ (List.mem_of_getElem? (i := 37) rfl)
theorem m_678 : Cond.instanceMethod yX10_defined ∈ GW := mS_16 _ (List.mem_of_getElem? (i := 38) rfl)
theorem m_679 : Cond.selects RX10 yX10_defined yX10_defined ∈ GW := mS_16 _ (List.mem_of_getElem? (i := 39) rfl)
theorem m_680 : Cond.code yX10_saveProcedures cX10_saveProcedures 1 (some .int) ∈ GW := mS_17 _ (List.mem_of_getElem? (i := 0) rfl)
theorem m_681 : Cond.methodLink RL 193 yX10_saveProcedures ∈ GW := mS_17 _ (List.mem_of_getElem? (i := 1) rfl)
theorem m_682 : Cond.instanceMethod yX10_saveProcedures ∈ GW := mS_17 _ (List.mem_of_getElem? (i := 2) rfl)
theorem m_683 : Cond.selects RX10 yX10_saveProcedures yX10_saveProcedures ∈ GW := mS_17 _ (List.mem_of_getElem? (i := 3) rfl)
theorem m_684 : Cond.code yX2_restore cX2_restore 2 (some .boolean) ∈ GW := mS_17 _ (List.mem_of_getElem? (i := 4) rfl)
theorem m_685 : Cond.methodLink RX9 275 yX2_restore ∈ GW := mS_17 _ (List.mem_of_getElem? (i := 5) rfl)
theorem m_686 : Cond.instanceMethod yX2_restore ∈ GW := mS_17 _ (List.mem_of_getElem? (i := 6) rfl)
theorem m_687 : Cond.selects RX2 yX2_restore yX2_restore ∈ GW := mS_17 _ (List.mem_of_getElem? (i := 7) rfl)
theorem m_688 : Cond.code yX9_restoreProcedures cX9_restoreProcedures 1 (some .int) ∈ GW := mS_17 _ (List.mem_of_getElem? (i := 8) rfl)
theorem m_689 : Cond.methodLink RL 85 yX9_restoreProcedures ∈ GW := mS_17 _ (List.mem_of_getElem? (i := 9) rfl)
theorem m_690 : Cond.instanceMethod yX9_restoreProcedures ∈ GW := mS_17 _ (List.mem_of_getElem? (i := 10) rfl)
theorem m_691 : Cond.selects RX9 yX9_restoreProcedures yX9_restoreProcedures ∈ GW := mS_17 _ (List.mem_of_getElem? (i := 11) rfl)
theorem m_692 : Cond.codeWith yL_restoreProcedures cL_restoreProcedures 3 (some .int) [(0, 8, 11, 19)] ∈ GW := mS_17 _ (List.mem_of_getElem? (i := 12) rfl)
theorem m_693 : Cond.methodLink RL 194 yL_restoreProcedures ∈ GW := mS_17 _ (List.mem_of_getElem? (i := 13) rfl)
theorem m_694 : Cond.static yL_restoreProcedures ∈ GW := mS_17 _ (List.mem_of_getElem? (i := 14) rfl)
theorem m_695 : Cond.code yX10_restoreProcedures cX10_restoreProcedures 1 (some .int) ∈ GW := mS_17 _ (List.mem_of_getElem? (i := 15) rfl)
theorem m_696 : Cond.methodLink RL 196 yX10_restoreProcedures ∈ GW := mS_17 _ (List.mem_of_getElem? (i := 16) rfl)
theorem m_697 : Cond.instanceMethod yX10_restoreProcedures ∈ GW := mS_17 _ (List.mem_of_getElem? (i := 17) rfl)
theorem m_698 : Cond.selects RX10 yX10_restoreProcedures yX10_restoreProcedures ∈ GW := mS_17 _ (List.mem_of_getElem? (i := 18) rfl)
theorem g_mr {big : List Cond} (ws : List Cond) (ps : List Nat) (hp : ws = ps.filterMap (fun i => big[i]?)) : ∀ w ∈ ws, w ∈ big := by
  intro w hw
  rw [hp] at hw
  obtain ⟨i, -, hi⟩ := List.mem_filterMap.mp hw
  exact List.mem_of_getElem? hi
set_option maxRecDepth 20000 in
theorem gT_0 : ∀ w ∈ GW_0, w ∈ lw_tbl := g_mr _ [91, 92, 67, 96, 97, 98, 99, 100, 68, 104, 140, 105, 141, 106, 107, 108, 109, 103, 102, 313, 142, 143, 69, 147, 148, 150, 151, 146, 145, 314, 160, 161, 70, 165, 166, 167, 168, 169, 164, 163] (by decide +kernel)
set_option maxRecDepth 20000 in
theorem gG_0 : ∀ w ∈ GW_0, goodWord w = true := List.all_eq_true.mp (by decide +kernel)
set_option maxRecDepth 20000 in
theorem gT_1 : ∀ w ∈ GW_1, w ∈ lw_tbl := g_mr _ [315, 182, 183, 71, 187, 188, 189, 186, 185, 316, 199, 200, 72, 204, 205, 207, 203, 202, 317, 213, 214, 73, 218, 219, 217, 216, 318, 319, 320, 223, 224, 74, 228, 229, 230, 75, 234, 235, 276, 236] (by decide +kernel)
set_option maxRecDepth 20000 in
theorem gG_1 : ∀ w ∈ GW_1, goodWord w = true := List.all_eq_true.mp (by decide +kernel)
set_option maxRecDepth 20000 in
theorem gT_2 : ∀ w ∈ GW_2, w ∈ lw_tbl := g_mr _ [237, 238, 239, 233, 232, 277, 279, 280, 281, 283, 227, 226, 321, 322, 324, 95, 93, 94, 1122, 1123, 76, 1127, 1129, 1130, 1131, 1132, 1133, 1138, 1139, 1141, 1142, 1143, 1144, 1148, 1150, 1152, 1153, 1154, 1156, 1157] (by decide +kernel)
set_option maxRecDepth 20000 in
theorem gG_2 : ∀ w ∈ GW_2, goodWord w = true := List.all_eq_true.mp (by decide +kernel)
set_option maxRecDepth 20000 in
theorem gT_3 : ∀ w ∈ GW_3, w ∈ lw_tbl := g_mr _ [1158, 1159, 1166, 1168, 1169, 1171, 1172, 1173, 1174, 1175, 1177, 1126, 1124, 1125, 1534, 244, 248, 555, 552, 553, 554, 558, 556, 557, 81, 286, 289, 291, 293, 551, 548, 549, 550, 476, 473, 474, 475, 471, 469, 470] (by decide +kernel)
set_option maxRecDepth 20000 in
theorem gG_3 : ∀ w ∈ GW_3, goodWord w = true := List.all_eq_true.mp (by decide +kernel)
set_option maxRecDepth 20000 in
theorem gT_4 : ∀ w ∈ GW_4, w ∈ lw_tbl := g_mr _ [66, 1128, 1140, 1145, 1146, 1147, 1149, 1294, 1291, 1293, 40, 1286, 1283, 1284, 1285, 1282, 1279, 1280, 1281, 477, 80, 472, 1290, 1287, 1289, 39, 110, 570, 567, 568, 569, 566, 563, 564, 565, 561, 559, 560, 1298, 1295] (by decide +kernel)
set_option maxRecDepth 20000 in
theorem gG_4 : ∀ w ∈ GW_4, goodWord w = true := List.all_eq_true.mp (by decide +kernel)
set_option maxRecDepth 20000 in
theorem gT_5 : ∀ w ∈ GW_5, w ∈ lw_tbl := g_mr _ [1296, 1297, 448, 446, 447, 593, 590, 591, 592, 589, 587, 588, 1303, 1304, 1307, 1305, 1306, 1302, 1299, 1300, 1301, 112, 113, 114, 115, 116, 631, 632, 83, 636, 637, 638, 84, 639, 650, 651, 652, 653, 655, 654] (by decide +kernel)
set_option maxRecDepth 20000 in
theorem gG_5 : ∀ w ∈ GW_5, goodWord w = true := List.all_eq_true.mp (by decide +kernel)
set_option maxRecDepth 20000 in
theorem gT_6 : ∀ w ∈ GW_6, w ∈ lw_tbl := g_mr _ [85, 642, 640, 641, 656, 657, 658, 659, 661, 635, 633, 634, 598, 595, 596, 597, 681, 678, 679, 680, 1135, 1136, 1137, 1319, 1316, 1318, 43, 1315, 1312, 1314, 42, 1311, 1308, 1310, 41, 688, 685, 686, 687, 684] (by decide +kernel)
set_option maxRecDepth 20000 in
theorem gG_6 : ∀ w ∈ GW_6, goodWord w = true := List.all_eq_true.mp (by decide +kernel)
set_option maxRecDepth 20000 in
theorem gT_7 : ∀ w ∈ GW_7, w ∈ lw_tbl := g_mr _ [682, 683, 1332, 1329, 1330, 1331, 692, 689, 690, 691, 170, 724, 729, 728, 725, 727, 17, 723, 720, 721, 722, 841, 838, 840, 26, 719, 716, 717, 718, 695, 693, 694, 1151, 1155, 1160, 1161, 1162, 1163, 1164, 1165] (by decide +kernel)
set_option maxRecDepth 20000 in
theorem gG_7 : ∀ w ∈ GW_7, goodWord w = true := List.all_eq_true.mp (by decide +kernel)
set_option maxRecDepth 20000 in
theorem gT_8 : ∀ w ∈ GW_8, w ∈ lw_tbl := g_mr _ [1167, 1344, 1341, 1343, 46, 1340, 1337, 1339, 45, 1371, 1369, 1370, 1336, 1333, 1334, 1335, 870, 89, 869, 866, 867, 868, 847, 846, 844, 845, 1375, 1372, 1373, 1374, 1376, 383, 883, 381, 382, 353, 350, 351, 352, 1380] (by decide +kernel)
set_option maxRecDepth 20000 in
theorem gG_8 : ∀ w ∈ GW_8, goodWord w = true := List.all_eq_true.mp (by decide +kernel)
set_option maxRecDepth 20000 in
theorem gT_9 : ∀ w ∈ GW_9, w ∈ lw_tbl := g_mr _ [1377, 1378, 1379, 890, 887, 888, 889, 886, 884, 885, 1384, 1381, 1382, 1383, 367, 365, 366, 84, 364, 363, 361, 358, 359, 360, 357, 354, 355, 356, 1388, 1385, 1386, 1387, 371, 368, 369, 370, 1392, 1389, 1390, 1391] (by decide +kernel)
set_option maxRecDepth 20000 in
theorem gG_9 : ∀ w ∈ GW_9, goodWord w = true := List.all_eq_true.mp (by decide +kernel)
set_option maxRecDepth 20000 in
theorem gT_10 : ∀ w ∈ GW_10, w ∈ lw_tbl := g_mr _ [380, 379, 376, 377, 378, 375, 372, 373, 374, 1400, 1397, 1399, 51, 1396, 1393, 1394, 1395, 899, 896, 897, 898, 895, 893, 894, 1404, 1401, 1402, 1403, 909, 906, 907, 908, 905, 903, 904, 1408, 1405, 1406, 1407, 915] (by decide +kernel)
set_option maxRecDepth 20000 in
theorem gG_10 : ∀ w ∈ GW_10, goodWord w = true := List.all_eq_true.mp (by decide +kernel)
set_option maxRecDepth 20000 in
theorem gT_11 : ∀ w ∈ GW_11, w ∈ lw_tbl := g_mr _ [912, 913, 914, 249, 251, 391, 388, 389, 390, 387, 384, 385, 386, 1420, 1417, 1418, 1419, 441, 438, 439, 440, 1452, 1449, 1450, 1451, 900, 88, 922, 919, 920, 921, 696, 918, 916, 917, 1456, 1453, 1454, 1455, 930] (by decide +kernel)
set_option maxRecDepth 20000 in
theorem gG_11 : ∀ w ∈ GW_11, goodWord w = true := List.all_eq_true.mp (by decide +kernel)
set_option maxRecDepth 20000 in
theorem gT_12 : ∀ w ∈ GW_12, w ∈ lw_tbl := g_mr _ [927, 928, 929, 926, 924, 925, 1460, 1457, 1458, 1459, 935, 932, 933, 934, 947, 815, 946, 943, 944, 945, 190, 955, 953, 954, 952, 949, 950, 951, 942, 939, 940, 941, 938, 936, 937, 1468, 1465, 1467, 61, 1176] (by decide +kernel)
set_option maxRecDepth 20000 in
theorem gG_12 : ∀ w ∈ GW_12, goodWord w = true := List.all_eq_true.mp (by decide +kernel)
set_option maxRecDepth 20000 in
theorem gT_13 : ∀ w ∈ GW_13, w ∈ lw_tbl := g_mr _ [1472, 1469, 1471, 62, 1464, 1461, 1462, 1463, 978, 975, 977, 27, 571, 82, 974, 971, 972, 973, 562, 970, 968, 969, 1476, 1473, 1474, 1475, 1002, 999, 1000, 1001, 998, 996, 997, 1480, 1477, 1478, 1479, 1017, 1014, 1015] (by decide +kernel)
set_option maxRecDepth 20000 in
theorem gG_13 : ∀ w ∈ GW_13, goodWord w = true := List.all_eq_true.mp (by decide +kernel)
set_option maxRecDepth 20000 in
theorem gT_14 : ∀ w ∈ GW_14, w ∈ lw_tbl := g_mr _ [1016, 1013, 1011, 1012, 1485, 1484, 1481, 1482, 1483, 1023, 1032, 1031, 1028, 1030, 33, 1027, 1024, 1026, 32, 1022, 1019, 1020, 1021, 323, 1489, 1486, 1488, 63, 1170, 1050, 1047, 1048, 1049, 1046, 1044, 1045, 1493, 1490, 1491, 1492] (by decide +kernel)
set_option maxRecDepth 20000 in
theorem gG_14 : ∀ w ∈ GW_14, goodWord w = true := List.all_eq_true.mp (by decide +kernel)
set_option maxRecDepth 20000 in
theorem gT_15 : ∀ w ∈ GW_15, w ∈ lw_tbl := g_mr _ [1079, 1076, 1078, 37, 1063, 1060, 1061, 1062, 1058, 1055, 1056, 1057, 1054, 1052, 1053, 1497, 1494, 1495, 1496, 1099, 1096, 1097, 1098, 1095, 1093, 1094, 1509, 1506, 1507, 1508, 445, 442, 443, 444, 1513, 1510, 1511, 1512, 452, 449] (by decide +kernel)
set_option maxRecDepth 20000 in
theorem gG_15 : ∀ w ∈ GW_15, goodWord w = true := List.all_eq_true.mp (by decide +kernel)
set_option maxRecDepth 20000 in
theorem gT_16 : ∀ w ∈ GW_16, w ∈ lw_tbl := g_mr _ [450, 451, 1107, 1104, 1105, 1106, 1103, 1101, 1102, 1517, 1514, 1515, 1516, 1109, 456, 453, 454, 455, 1521, 1518, 1519, 1520, 152, 464, 461, 462, 463, 468, 465, 466, 467, 460, 457, 458, 459, 1134, 1529, 1526, 1528, 65] (by decide +kernel)
set_option maxRecDepth 20000 in
theorem gG_16 : ∀ w ∈ GW_16, goodWord w = true := List.all_eq_true.mp (by decide +kernel)
set_option maxRecDepth 20000 in
theorem gT_17 : ∀ w ∈ GW_17, w ∈ lw_tbl := g_mr _ [1525, 1522, 1523, 1524, 1120, 1117, 1118, 1119, 1116, 1113, 1114, 1115, 1112, 1110, 1111, 1533, 1530, 1531, 1532] (by decide +kernel)
set_option maxRecDepth 20000 in
theorem gG_17 : ∀ w ∈ GW_17, goodWord w = true := List.all_eq_true.mp (by decide +kernel)
set_option maxRecDepth 20000 in
theorem gTX_0 : ∀ w ∈ wsX00, w ∈ lw_tbl := by decide +kernel
set_option maxRecDepth 20000 in
theorem gGX_0 : ∀ w ∈ wsX00, goodWord w = true := List.all_eq_true.mp (by decide +kernel)
set_option maxRecDepth 20000 in
theorem gTX_1 : ∀ w ∈ wsX10, w ∈ lw_tbl := by decide +kernel
set_option maxRecDepth 20000 in
theorem gGX_1 : ∀ w ∈ wsX10, goodWord w = true := List.all_eq_true.mp (by decide +kernel)
set_option maxRecDepth 20000 in
theorem gTX_2 : ∀ w ∈ wsX20, w ∈ lw_tbl := by decide +kernel
set_option maxRecDepth 20000 in
theorem gGX_2 : ∀ w ∈ wsX20, goodWord w = true := List.all_eq_true.mp (by decide +kernel)
set_option maxRecDepth 20000 in
theorem gTX_3 : ∀ w ∈ wsX30, w ∈ lw_tbl := by decide +kernel
set_option maxRecDepth 20000 in
theorem gGX_3 : ∀ w ∈ wsX30, goodWord w = true := List.all_eq_true.mp (by decide +kernel)
set_option maxRecDepth 20000 in
theorem gTX_4 : ∀ w ∈ wsX40, w ∈ lw_tbl := by decide +kernel
set_option maxRecDepth 20000 in
theorem gGX_4 : ∀ w ∈ wsX40, goodWord w = true := List.all_eq_true.mp (by decide +kernel)
set_option maxRecDepth 20000 in
theorem gTX_5 : ∀ w ∈ wsX50, w ∈ lw_tbl := by decide +kernel
set_option maxRecDepth 20000 in
theorem gGX_5 : ∀ w ∈ wsX50, goodWord w = true := List.all_eq_true.mp (by decide +kernel)
set_option maxRecDepth 20000 in
theorem gTX_6 : ∀ w ∈ wsX60, w ∈ lw_tbl := by decide +kernel
set_option maxRecDepth 20000 in
theorem gGX_6 : ∀ w ∈ wsX60, goodWord w = true := List.all_eq_true.mp (by decide +kernel)
set_option maxRecDepth 20000 in
theorem gTX_7 : ∀ w ∈ wsX70, w ∈ lw_tbl := by decide +kernel
set_option maxRecDepth 20000 in
theorem gGX_7 : ∀ w ∈ wsX70, goodWord w = true := List.all_eq_true.mp (by decide +kernel)
set_option maxRecDepth 20000 in
theorem gTX_8 : ∀ w ∈ wsX80, w ∈ lw_tbl := by decide +kernel
set_option maxRecDepth 20000 in
theorem gGX_8 : ∀ w ∈ wsX80, goodWord w = true := List.all_eq_true.mp (by decide +kernel)
set_option maxRecDepth 20000 in
theorem gTX_9 : ∀ w ∈ wsX90, w ∈ lw_tbl := by decide +kernel
set_option maxRecDepth 20000 in
theorem gGX_9 : ∀ w ∈ wsX90, goodWord w = true := List.all_eq_true.mp (by decide +kernel)
set_option maxRecDepth 20000 in
theorem gTX_10 : ∀ w ∈ wsX100, w ∈ lw_tbl := by decide +kernel
set_option maxRecDepth 20000 in
theorem gGX_10 : ∀ w ∈ wsX100, goodWord w = true := List.all_eq_true.mp (by decide +kernel)
set_option maxRecDepth 20000 in
theorem gTT_77 : ∀ w ∈ (vx_atS RX9 77 "java/lang/IllegalArgumentException" ["java/lang/RuntimeException", "java/lang/Exception"]).filter goodWord, w ∈ lw_tbl := by decide +kernel
theorem gGT_77 : ∀ w ∈ (vx_atS RX9 77 "java/lang/IllegalArgumentException" ["java/lang/RuntimeException", "java/lang/Exception"]).filter goodWord, goodWord w = true := fun _ h => (List.mem_filter.mp h).2
set_option maxRecDepth 20000 in
theorem gTT_100 : ∀ w ∈ (vx_atS RX9 100 "java/lang/IllegalStateException" ["java/lang/RuntimeException", "java/lang/Exception"]).filter goodWord, w ∈ lw_tbl := by decide +kernel
theorem gGT_100 : ∀ w ∈ (vx_atS RX9 100 "java/lang/IllegalStateException" ["java/lang/RuntimeException", "java/lang/Exception"]).filter goodWord, goodWord w = true := fun _ h => (List.mem_filter.mp h).2
set_option maxRecDepth 20000 in
theorem gTT_148 : ∀ w ∈ (vx_atS RX9 148 "java/lang/IndexOutOfBoundsException" ["java/lang/RuntimeException", "java/lang/Exception"]).filter goodWord, w ∈ lw_tbl := by decide +kernel
theorem gGT_148 : ∀ w ∈ (vx_atS RX9 148 "java/lang/IndexOutOfBoundsException" ["java/lang/RuntimeException", "java/lang/Exception"]).filter goodWord, goodWord w = true := fun _ h => (List.mem_filter.mp h).2
set_option maxRecDepth 20000 in
theorem gTT_173 : ∀ w ∈ (nsL.filter vx_no).filter goodWord, w ∈ lw_tbl := by decide +kernel
theorem gGT_173 : ∀ w ∈ (nsL.filter vx_no).filter goodWord, goodWord w = true := fun _ h => (List.mem_filter.mp h).2
theorem gT_all : ∀ w ∈ GW, w ∈ lw_tbl := (List.forall_mem_append.mpr ⟨gTX_0, (List.forall_mem_append.mpr ⟨gTX_1, (List.forall_mem_append.mpr ⟨gTX_2, (List.forall_mem_append.mpr ⟨gTX_3, (List.forall_mem_append.mpr ⟨gTX_4, (List.forall_mem_append.mpr ⟨gTX_5, (List.forall_mem_append.mpr ⟨gTX_6, (List.forall_mem_append.mpr ⟨gTX_7, (List.forall_mem_append.mpr ⟨gTX_8, (List.forall_mem_append.mpr ⟨gTX_9, (List.forall_mem_append.mpr ⟨gTX_10, (List.forall_mem_append.mpr ⟨gTT_77, (List.forall_mem_append.mpr ⟨gTT_100, (List.forall_mem_append.mpr ⟨gTT_148, (List.forall_mem_append.mpr ⟨gTT_173, (List.forall_mem_append.mpr ⟨gT_0, (List.forall_mem_append.mpr ⟨gT_1, (List.forall_mem_append.mpr ⟨gT_2, (List.forall_mem_append.mpr ⟨gT_3, (List.forall_mem_append.mpr ⟨gT_4, (List.forall_mem_append.mpr ⟨gT_5, (List.forall_mem_append.mpr ⟨gT_6, (List.forall_mem_append.mpr ⟨gT_7, (List.forall_mem_append.mpr ⟨gT_8, (List.forall_mem_append.mpr ⟨gT_9, (List.forall_mem_append.mpr ⟨gT_10, (List.forall_mem_append.mpr ⟨gT_11, (List.forall_mem_append.mpr ⟨gT_12, (List.forall_mem_append.mpr ⟨gT_13, (List.forall_mem_append.mpr ⟨gT_14, (List.forall_mem_append.mpr ⟨gT_15, (List.forall_mem_append.mpr ⟨gT_16, gT_17⟩)⟩)⟩)⟩)⟩)⟩)⟩)⟩)⟩)⟩)⟩)⟩)⟩)⟩)⟩)⟩)⟩)⟩)⟩)⟩)⟩)⟩)⟩)⟩)⟩)⟩)⟩)⟩)⟩)⟩)⟩)⟩)
theorem gG_all : ∀ w ∈ GW, goodWord w = true := (List.forall_mem_append.mpr ⟨gGX_0, (List.forall_mem_append.mpr ⟨gGX_1, (List.forall_mem_append.mpr ⟨gGX_2, (List.forall_mem_append.mpr ⟨gGX_3, (List.forall_mem_append.mpr ⟨gGX_4, (List.forall_mem_append.mpr ⟨gGX_5, (List.forall_mem_append.mpr ⟨gGX_6, (List.forall_mem_append.mpr ⟨gGX_7, (List.forall_mem_append.mpr ⟨gGX_8, (List.forall_mem_append.mpr ⟨gGX_9, (List.forall_mem_append.mpr ⟨gGX_10, (List.forall_mem_append.mpr ⟨gGT_77, (List.forall_mem_append.mpr ⟨gGT_100, (List.forall_mem_append.mpr ⟨gGT_148, (List.forall_mem_append.mpr ⟨gGT_173, (List.forall_mem_append.mpr ⟨gG_0, (List.forall_mem_append.mpr ⟨gG_1, (List.forall_mem_append.mpr ⟨gG_2, (List.forall_mem_append.mpr ⟨gG_3, (List.forall_mem_append.mpr ⟨gG_4, (List.forall_mem_append.mpr ⟨gG_5, (List.forall_mem_append.mpr ⟨gG_6, (List.forall_mem_append.mpr ⟨gG_7, (List.forall_mem_append.mpr ⟨gG_8, (List.forall_mem_append.mpr ⟨gG_9, (List.forall_mem_append.mpr ⟨gG_10, (List.forall_mem_append.mpr ⟨gG_11, (List.forall_mem_append.mpr ⟨gG_12, (List.forall_mem_append.mpr ⟨gG_13, (List.forall_mem_append.mpr ⟨gG_14, (List.forall_mem_append.mpr ⟨gG_15, (List.forall_mem_append.mpr ⟨gG_16, gG_17⟩)⟩)⟩)⟩)⟩)⟩)⟩)⟩)⟩)⟩)⟩)⟩)⟩)⟩)⟩)⟩)⟩)⟩)⟩)⟩)⟩)⟩)⟩)⟩)⟩)⟩)⟩)⟩)⟩)⟩)⟩)⟩)
theorem gGC {c d : Cond} (h : d ∈ GW) : GoodIn (gW c) (gW d) := fun w hw => by
  rcases List.mem_cons.mp hw with e | e
  · subst e; exact ⟨List.mem_cons_of_mem _ h, good_of_word (gG_all _ h)⟩
  · exact ⟨List.mem_cons_of_mem _ e, good_of_word (gG_all _ e)⟩
theorem g_l {c : Cond} {ws : List Cond} (h : ∀ w ∈ ws, w ∈ GW) : GoodIn (gW c) ws := fun w hw => ⟨List.mem_cons_of_mem _ (h w hw), good_of_word (gG_all _ (h w hw))⟩
theorem gGV {c d : Cond} {own C : String} {idx : Nat} {y : MethodName} (h1 : Cond.methodLink own idx y ∈ GW) (h2 : Cond.instanceMethod y ∈ GW) (h3 : Cond.selects C y y ∈ GW) (h4 : Cond.initialized C ∈ GW) (h5 : d ∈ GW) : GoodIn (gW c) (wsV own idx C y (gW d)) := by
  intro w hw
  rcases List.mem_append.mp hw with e | e
  · exact g_l (List.forall_mem_cons.mpr ⟨h1, List.forall_mem_cons.mpr ⟨h2, List.forall_mem_cons.mpr ⟨h3, List.forall_mem_cons.mpr ⟨h4, fun _ h => absurd h List.not_mem_nil⟩⟩⟩⟩) w e
  · exact gGC h5 w e
theorem gGS {c d : Cond} {own : String} {idx : Nat} {y : MethodName} (h1 : Cond.methodLink own idx y ∈ GW) (h2 : Cond.static y ∈ GW) (h4 : Cond.initialized y.cls ∈ GW) (h5 : d ∈ GW) : GoodIn (gW c) (va_wsS own idx y (gW d)) := by
  intro w hw
  rcases List.mem_append.mp hw with e | e
  · exact g_l (List.forall_mem_cons.mpr ⟨h1, List.forall_mem_cons.mpr ⟨h2, List.forall_mem_cons.mpr ⟨h4, fun _ h => absurd h List.not_mem_nil⟩⟩⟩) w e
  · exact gGC h5 w e
theorem df_X0 : ∀ j, j < 11 → defaultValue (tyX0 j) = vp_V [.null, .null, .null, .null, .null, .int 0, .int 0, .int 0, .int 0, .int 0, .int 0] j := (lt_s (lt_s (lt_s (lt_s (lt_s (lt_s (lt_s (lt_s (lt_s (lt_s (lt_s lt_0 rfl) rfl) rfl) rfl) rfl) rfl) rfl) rfl) rfl) rfl) rfl)
theorem df_X1 : ∀ j, j < 9 → defaultValue (tyX1 j) = vp_V [.null, .null, .null, .null, .null, .int 0, .int 0, .int 0, .int 0] j := (lt_s (lt_s (lt_s (lt_s (lt_s (lt_s (lt_s (lt_s (lt_s lt_0 rfl) rfl) rfl) rfl) rfl) rfl) rfl) rfl) rfl)
theorem df_X2 : ∀ j, j < 3 → defaultValue (tyX2 j) = vp_V [.null, .null, .int 0] j := (lt_s (lt_s (lt_s lt_0 rfl) rfl) rfl)
theorem df_X3 : ∀ j, j < 5 → defaultValue (tyX3 j) = vp_V [.null, .null, .null, .int 0, .int 0] j := (lt_s (lt_s (lt_s (lt_s (lt_s lt_0 rfl) rfl) rfl) rfl) rfl)
theorem df_X4 : ∀ j, j < 5 → defaultValue (tyX4 j) = vp_V [.null, .null, .null, .null, .int 0] j := (lt_s (lt_s (lt_s (lt_s (lt_s lt_0 rfl) rfl) rfl) rfl) rfl)
theorem df_X5 : ∀ j, j < 3 → defaultValue (tyX5 j) = vp_V [.null, .null, .int 0] j := (lt_s (lt_s (lt_s lt_0 rfl) rfl) rfl)
theorem df_X6 : ∀ j, j < 1 → defaultValue (tyX6 j) = vp_V [.null] j := (lt_s lt_0 rfl)
theorem df_X7 : ∀ j, j < 10 → defaultValue (tyX7 j) = vp_V [.null, .null, .null, .null, .int 0, .int 0, .int 0, .int 0, .int 0, .int 0] j := (lt_s (lt_s (lt_s (lt_s (lt_s (lt_s (lt_s (lt_s (lt_s (lt_s lt_0 rfl) rfl) rfl) rfl) rfl) rfl) rfl) rfl) rfl) rfl)
theorem df_X8 : ∀ j, j < 2 → defaultValue (tyX8 j) = vp_V [.null, .null] j := (lt_s (lt_s lt_0 rfl) rfl)
theorem df_X9 : ∀ j, j < 12 → defaultValue (tyX9 j) = vp_V [.null, .null, .null, .null, .null, .null, .null, .null, .null, .null, .int 0, .int 0] j := (lt_s (lt_s (lt_s (lt_s (lt_s (lt_s (lt_s (lt_s (lt_s (lt_s (lt_s (lt_s lt_0 rfl) rfl) rfl) rfl) rfl) rfl) rfl) rfl) rfl) rfl) rfl) rfl)
theorem df_X10 : ∀ j, j < 50 → defaultValue (tyX10 j) = vp_V [.int 0, .int 0, .null, .null, .null, .null, .int 0, .int 0, .int 0, .int 0, .null, .null, .int 0, .null, .null, .null, .null, .int 0, .int 0, .int 0, .null, .int 0, .null, .int 0, .null, .null, .null, .int 0, .null, .null, .null, .null, .int 0, .int 0, .int 0, .int 0, .int 0, .int 0, .null, .int 0, .null, .null, .int 0, .null, .int 0, .null, .null, .null, .int 0, .null] j := (lt_s (lt_s (lt_s (lt_s (lt_s (lt_s (lt_s (lt_s (lt_s (lt_s (lt_s (lt_s (lt_s (lt_s (lt_s (lt_s (lt_s (lt_s (lt_s (lt_s (lt_s (lt_s (lt_s (lt_s (lt_s (lt_s (lt_s (lt_s (lt_s (lt_s (lt_s (lt_s (lt_s (lt_s (lt_s (lt_s (lt_s (lt_s (lt_s (lt_s (lt_s (lt_s (lt_s (lt_s (lt_s (lt_s (lt_s (lt_s (lt_s (lt_s lt_0 rfl) rfl) rfl) rfl) rfl) rfl) rfl) rfl) rfl) rfl) rfl) rfl) rfl) rfl) rfl) rfl) rfl) rfl) rfl) rfl) rfl) rfl) rfl) rfl) rfl) rfl) rfl) rfl) rfl) rfl) rfl) rfl) rfl) rfl) rfl) rfl) rfl) rfl) rfl) rfl) rfl) rfl) rfl) rfl) rfl) rfl) rfl) rfl) rfl) rfl)
set_option maxRecDepth 20000 in
theorem gO_77 {ik : Nat} : ∀ w ∈ Cond.classLink RX9 ik "java/lang/IllegalArgumentException" :: Cond.initialized "java/lang/IllegalArgumentException" :: (vx_atS RX9 77 "java/lang/IllegalArgumentException" ["java/lang/RuntimeException", "java/lang/Exception"]), vx_ot w = true := List.forall_mem_cons.mpr ⟨rfl, List.forall_mem_cons.mpr ⟨rfl, List.all_eq_true.mp (by decide +kernel)⟩⟩
set_option maxRecDepth 20000 in
theorem gB_77 : ∀ w ∈ (vx_atS RX9 77 "java/lang/IllegalArgumentException" ["java/lang/RuntimeException", "java/lang/Exception"]).filter (fun w => !goodWord w), w ∈ (Cond.castable "java/lang/IllegalArgumentException" "java/lang/IllegalArgumentException" :: gDl.map Cond.declares) := by decide +kernel
set_option maxHeartbeats 4000000 in
theorem gThrow_IllegalArgumentException_77 {p : Program} {l : Launch} {e : Env} {R : Room} {s : State} {m : MethodId} {args : Array Value} {below : List Frame} {meth : Method} {c : Code} {H : Heap} {locs : List Loc} {cells slots : Nat} {cc : ByteArray} {pc : Nat} {D : va_G} {T : List (ClassId × FieldType)} {A : Nat → Prop} {wc : va_W} {sz : Nat} {ls : Array Slot} {rest : List Value} {Qc : Array Value → State → Outcome → State → Prop} {mc ms is ik sa : Nat} {text : String} {c0 : Cond} (hE : gE D T s) (hts : ∀ w ∈ gW c0, w.before args s = true) (hx : p.tables.exec = Jvm.exec) (hb : c.code = cc) (hst : l.stackTraces = false) (hown : s.vm.findClass RX9 = some m.cls) (hk : (Cond.classLink RX9 ik "java/lang/IllegalArgumentException").before args s = true) (hini : (Cond.initialized "java/lang/IllegalArgumentException").before args s = true) (hstr : vk_R RX9 is text sa s) (hZ : gZ A s s.heap) (hAe : va_A wc sz = A) (hS : va_S A s.heap H locs) (hsize : ls.size = c.maxLocals)
    (d0 : decode cc pc = .ok (.new ik, 3)) (d3 : decode cc (pc + 3) = .ok (.dup, 1)) (d4 : decode cc (pc + 4) = .ok (.ldc is, 2)) (d6 : decode cc (pc + 6) = .ok (.invokespecial 77, 3)) (d9 : decode cc (pc + 9) = .ok (.athrow, 1)) (hout : ∀ x ∈ c.exceptionTable.toList, covers x (pc + 9) = false)
    (hRframes : 2 + 3 < R.frames) (hRlocals : (rest.map fun v => v.category).sum + (13 * (2 + 1) + 43) ≤ R.locals) (hRcells : cells + 1 ≤ R.cells) (hRslots : slots + 6 ≤ R.slots) (hlocks : meth.locks = false) (hc : cells + 1 ≤ mc) (hs : slots + 6 ≤ ms) : W p l e R s m args below meth c H locs cells slots (vx_MQ below Qc (vx_X (fun _ : Unit => True) (fun E _ _ => E = "java/lang/IllegalArgumentException") (va_A wc sz)) args s mc ms (va_A wc sz)) (F0 m pc ls rest) := by
  refine vx_throwS (own := RX9) (cls := "java/lang/IllegalArgumentException") (names := ["java/lang/RuntimeException", "java/lang/Exception"]) (A := A) hx hb hst hown (by decide +kernel) (by decide +kernel) hk hini hstr ?_ gO_77 hZ.1 hZ.2 hS hsize d0 d3 d4 d6 d9 hout hRframes hRlocals hRcells hRslots hlocks (fun t hW h1 h2 => ⟨(), trivial, rfl, ?_⟩) (hAe ▸ hS.2.2) hc hs
  · refine vx_hat (B := Cond.castable "java/lang/IllegalArgumentException" "java/lang/IllegalArgumentException" :: gDl.map Cond.declares) (fun w h => hts w (iT_77 w h)) gB_77 (vx_c (va_Nw.use rfl (hE.2.2.2.2.2.1 ("java/lang/IllegalArgumentException", "java/lang/IllegalArgumentException") (List.mem_of_getElem? (i := 0) rfl))) ?_)
    intro w hw
    obtain ⟨q, hq, rfl⟩ := List.mem_map.mp hw
    exact va_Nw.use rfl (hE.2.2.2.2.1 q hq)
  · rw [hAe]
    exact ⟨Nat.le_trans hS.1 h1, fun q a b => (h2 q (Nat.lt_of_lt_of_le a hS.1)).trans (hS.2.1 q a b)⟩
set_option maxHeartbeats 4000000 in
theorem gThrowW_IllegalArgumentException_77 {p : Program} {l : Launch} {e : Env} {R : Room} {s : State} {m : MethodId} {args : Array Value} {below : List Frame} {meth : Method} {c : Code} {H : Heap} {locs : List Loc} {cells slots : Nat} {cc : ByteArray} {pc : Nat} {D : va_G} {T : List (ClassId × FieldType)} {A : Nat → Prop} {wc : va_W} {sz : Nat} {ls : Array Slot} {rest : List Value} {Qc : Array Value → State → Outcome → State → Prop} {mc ms is ik sa : Nat} {text : String} {c0 : Cond} (hE : gE D T s) (hts : ∀ w ∈ gW c0, w.before args s = true) (hx : p.tables.exec = Jvm.exec) (hb : c.code = cc) (hst : l.stackTraces = false) (hown : s.vm.findClass RX9 = some m.cls) (hk : (Cond.classLink RX9 ik "java/lang/IllegalArgumentException").before args s = true) (hini : (Cond.initialized "java/lang/IllegalArgumentException").before args s = true) (hstr : vk_R RX9 is text sa s) (hZ : gZ A s s.heap) (hAe : va_A wc sz = A) (hS : va_S A s.heap H locs) (hsize : ls.size = c.maxLocals)
    (d0 : decode cc pc = .ok (.new ik, 3)) (d3 : decode cc (pc + 3) = .ok (.dup, 1)) (d4 : decode cc (pc + 4) = .ok (.ldc_w is, 3)) (d6 : decode cc (pc + 7) = .ok (.invokespecial 77, 3)) (d9 : decode cc (pc + 10) = .ok (.athrow, 1)) (hout : ∀ x ∈ c.exceptionTable.toList, covers x (pc + 10) = false)
    (hRframes : 2 + 3 < R.frames) (hRlocals : (rest.map fun v => v.category).sum + (13 * (2 + 1) + 43) ≤ R.locals) (hRcells : cells + 1 ≤ R.cells) (hRslots : slots + 6 ≤ R.slots) (hlocks : meth.locks = false) (hc : cells + 1 ≤ mc) (hs : slots + 6 ≤ ms) : W p l e R s m args below meth c H locs cells slots (vx_MQ below Qc (vx_X (fun _ : Unit => True) (fun E _ _ => E = "java/lang/IllegalArgumentException") (va_A wc sz)) args s mc ms (va_A wc sz)) (F0 m pc ls rest) := by
  refine vx_throwSW (own := RX9) (cls := "java/lang/IllegalArgumentException") (names := ["java/lang/RuntimeException", "java/lang/Exception"]) (A := A) hx hb hst hown (by decide +kernel) (by decide +kernel) hk hini hstr ?_ gO_77 hZ.1 hZ.2 hS hsize d0 d3 d4 d6 d9 hout hRframes hRlocals hRcells hRslots hlocks (fun t hW h1 h2 => ⟨(), trivial, rfl, ?_⟩) (hAe ▸ hS.2.2) hc hs
  · refine vx_hat (B := Cond.castable "java/lang/IllegalArgumentException" "java/lang/IllegalArgumentException" :: gDl.map Cond.declares) (fun w h => hts w (iT_77 w h)) gB_77 (vx_c (va_Nw.use rfl (hE.2.2.2.2.2.1 ("java/lang/IllegalArgumentException", "java/lang/IllegalArgumentException") (List.mem_of_getElem? (i := 0) rfl))) ?_)
    intro w hw
    obtain ⟨q, hq, rfl⟩ := List.mem_map.mp hw
    exact va_Nw.use rfl (hE.2.2.2.2.1 q hq)
  · rw [hAe]
    exact ⟨Nat.le_trans hS.1 h1, fun q a b => (h2 q (Nat.lt_of_lt_of_le a hS.1)).trans (hS.2.1 q a b)⟩
set_option maxRecDepth 20000 in
theorem gO_100 {ik : Nat} : ∀ w ∈ Cond.classLink RX9 ik "java/lang/IllegalStateException" :: Cond.initialized "java/lang/IllegalStateException" :: (vx_atS RX9 100 "java/lang/IllegalStateException" ["java/lang/RuntimeException", "java/lang/Exception"]), vx_ot w = true := List.forall_mem_cons.mpr ⟨rfl, List.forall_mem_cons.mpr ⟨rfl, List.all_eq_true.mp (by decide +kernel)⟩⟩
set_option maxRecDepth 20000 in
theorem gB_100 : ∀ w ∈ (vx_atS RX9 100 "java/lang/IllegalStateException" ["java/lang/RuntimeException", "java/lang/Exception"]).filter (fun w => !goodWord w), w ∈ (Cond.castable "java/lang/IllegalStateException" "java/lang/IllegalStateException" :: gDl.map Cond.declares) := by decide +kernel
set_option maxHeartbeats 4000000 in
theorem gThrow_IllegalStateException_100 {p : Program} {l : Launch} {e : Env} {R : Room} {s : State} {m : MethodId} {args : Array Value} {below : List Frame} {meth : Method} {c : Code} {H : Heap} {locs : List Loc} {cells slots : Nat} {cc : ByteArray} {pc : Nat} {D : va_G} {T : List (ClassId × FieldType)} {A : Nat → Prop} {wc : va_W} {sz : Nat} {ls : Array Slot} {rest : List Value} {Qc : Array Value → State → Outcome → State → Prop} {mc ms is ik sa : Nat} {text : String} {c0 : Cond} (hE : gE D T s) (hts : ∀ w ∈ gW c0, w.before args s = true) (hx : p.tables.exec = Jvm.exec) (hb : c.code = cc) (hst : l.stackTraces = false) (hown : s.vm.findClass RX9 = some m.cls) (hk : (Cond.classLink RX9 ik "java/lang/IllegalStateException").before args s = true) (hini : (Cond.initialized "java/lang/IllegalStateException").before args s = true) (hstr : vk_R RX9 is text sa s) (hZ : gZ A s s.heap) (hAe : va_A wc sz = A) (hS : va_S A s.heap H locs) (hsize : ls.size = c.maxLocals)
    (d0 : decode cc pc = .ok (.new ik, 3)) (d3 : decode cc (pc + 3) = .ok (.dup, 1)) (d4 : decode cc (pc + 4) = .ok (.ldc is, 2)) (d6 : decode cc (pc + 6) = .ok (.invokespecial 100, 3)) (d9 : decode cc (pc + 9) = .ok (.athrow, 1)) (hout : ∀ x ∈ c.exceptionTable.toList, covers x (pc + 9) = false)
    (hRframes : 2 + 3 < R.frames) (hRlocals : (rest.map fun v => v.category).sum + (13 * (2 + 1) + 43) ≤ R.locals) (hRcells : cells + 1 ≤ R.cells) (hRslots : slots + 6 ≤ R.slots) (hlocks : meth.locks = false) (hc : cells + 1 ≤ mc) (hs : slots + 6 ≤ ms) : W p l e R s m args below meth c H locs cells slots (vx_MQ below Qc (vx_X (fun _ : Unit => True) (fun E _ _ => E = "java/lang/IllegalStateException") (va_A wc sz)) args s mc ms (va_A wc sz)) (F0 m pc ls rest) := by
  refine vx_throwS (own := RX9) (cls := "java/lang/IllegalStateException") (names := ["java/lang/RuntimeException", "java/lang/Exception"]) (A := A) hx hb hst hown (by decide +kernel) (by decide +kernel) hk hini hstr ?_ gO_100 hZ.1 hZ.2 hS hsize d0 d3 d4 d6 d9 hout hRframes hRlocals hRcells hRslots hlocks (fun t hW h1 h2 => ⟨(), trivial, rfl, ?_⟩) (hAe ▸ hS.2.2) hc hs
  · refine vx_hat (B := Cond.castable "java/lang/IllegalStateException" "java/lang/IllegalStateException" :: gDl.map Cond.declares) (fun w h => hts w (iT_100 w h)) gB_100 (vx_c (va_Nw.use rfl (hE.2.2.2.2.2.1 ("java/lang/IllegalStateException", "java/lang/IllegalStateException") (List.mem_of_getElem? (i := 1) rfl))) ?_)
    intro w hw
    obtain ⟨q, hq, rfl⟩ := List.mem_map.mp hw
    exact va_Nw.use rfl (hE.2.2.2.2.1 q hq)
  · rw [hAe]
    exact ⟨Nat.le_trans hS.1 h1, fun q a b => (h2 q (Nat.lt_of_lt_of_le a hS.1)).trans (hS.2.1 q a b)⟩
set_option maxHeartbeats 4000000 in
theorem gThrowW_IllegalStateException_100 {p : Program} {l : Launch} {e : Env} {R : Room} {s : State} {m : MethodId} {args : Array Value} {below : List Frame} {meth : Method} {c : Code} {H : Heap} {locs : List Loc} {cells slots : Nat} {cc : ByteArray} {pc : Nat} {D : va_G} {T : List (ClassId × FieldType)} {A : Nat → Prop} {wc : va_W} {sz : Nat} {ls : Array Slot} {rest : List Value} {Qc : Array Value → State → Outcome → State → Prop} {mc ms is ik sa : Nat} {text : String} {c0 : Cond} (hE : gE D T s) (hts : ∀ w ∈ gW c0, w.before args s = true) (hx : p.tables.exec = Jvm.exec) (hb : c.code = cc) (hst : l.stackTraces = false) (hown : s.vm.findClass RX9 = some m.cls) (hk : (Cond.classLink RX9 ik "java/lang/IllegalStateException").before args s = true) (hini : (Cond.initialized "java/lang/IllegalStateException").before args s = true) (hstr : vk_R RX9 is text sa s) (hZ : gZ A s s.heap) (hAe : va_A wc sz = A) (hS : va_S A s.heap H locs) (hsize : ls.size = c.maxLocals)
    (d0 : decode cc pc = .ok (.new ik, 3)) (d3 : decode cc (pc + 3) = .ok (.dup, 1)) (d4 : decode cc (pc + 4) = .ok (.ldc_w is, 3)) (d6 : decode cc (pc + 7) = .ok (.invokespecial 100, 3)) (d9 : decode cc (pc + 10) = .ok (.athrow, 1)) (hout : ∀ x ∈ c.exceptionTable.toList, covers x (pc + 10) = false)
    (hRframes : 2 + 3 < R.frames) (hRlocals : (rest.map fun v => v.category).sum + (13 * (2 + 1) + 43) ≤ R.locals) (hRcells : cells + 1 ≤ R.cells) (hRslots : slots + 6 ≤ R.slots) (hlocks : meth.locks = false) (hc : cells + 1 ≤ mc) (hs : slots + 6 ≤ ms) : W p l e R s m args below meth c H locs cells slots (vx_MQ below Qc (vx_X (fun _ : Unit => True) (fun E _ _ => E = "java/lang/IllegalStateException") (va_A wc sz)) args s mc ms (va_A wc sz)) (F0 m pc ls rest) := by
  refine vx_throwSW (own := RX9) (cls := "java/lang/IllegalStateException") (names := ["java/lang/RuntimeException", "java/lang/Exception"]) (A := A) hx hb hst hown (by decide +kernel) (by decide +kernel) hk hini hstr ?_ gO_100 hZ.1 hZ.2 hS hsize d0 d3 d4 d6 d9 hout hRframes hRlocals hRcells hRslots hlocks (fun t hW h1 h2 => ⟨(), trivial, rfl, ?_⟩) (hAe ▸ hS.2.2) hc hs
  · refine vx_hat (B := Cond.castable "java/lang/IllegalStateException" "java/lang/IllegalStateException" :: gDl.map Cond.declares) (fun w h => hts w (iT_100 w h)) gB_100 (vx_c (va_Nw.use rfl (hE.2.2.2.2.2.1 ("java/lang/IllegalStateException", "java/lang/IllegalStateException") (List.mem_of_getElem? (i := 1) rfl))) ?_)
    intro w hw
    obtain ⟨q, hq, rfl⟩ := List.mem_map.mp hw
    exact va_Nw.use rfl (hE.2.2.2.2.1 q hq)
  · rw [hAe]
    exact ⟨Nat.le_trans hS.1 h1, fun q a b => (h2 q (Nat.lt_of_lt_of_le a hS.1)).trans (hS.2.1 q a b)⟩
set_option maxRecDepth 20000 in
theorem gO_148 {ik : Nat} : ∀ w ∈ Cond.classLink RX9 ik "java/lang/IndexOutOfBoundsException" :: Cond.initialized "java/lang/IndexOutOfBoundsException" :: (vx_atS RX9 148 "java/lang/IndexOutOfBoundsException" ["java/lang/RuntimeException", "java/lang/Exception"]), vx_ot w = true := List.forall_mem_cons.mpr ⟨rfl, List.forall_mem_cons.mpr ⟨rfl, List.all_eq_true.mp (by decide +kernel)⟩⟩
set_option maxRecDepth 20000 in
theorem gB_148 : ∀ w ∈ (vx_atS RX9 148 "java/lang/IndexOutOfBoundsException" ["java/lang/RuntimeException", "java/lang/Exception"]).filter (fun w => !goodWord w), w ∈ (Cond.castable "java/lang/IndexOutOfBoundsException" "java/lang/IndexOutOfBoundsException" :: gDl.map Cond.declares) := by decide +kernel
set_option maxHeartbeats 4000000 in
theorem gThrow_IndexOutOfBoundsException_148 {p : Program} {l : Launch} {e : Env} {R : Room} {s : State} {m : MethodId} {args : Array Value} {below : List Frame} {meth : Method} {c : Code} {H : Heap} {locs : List Loc} {cells slots : Nat} {cc : ByteArray} {pc : Nat} {D : va_G} {T : List (ClassId × FieldType)} {A : Nat → Prop} {wc : va_W} {sz : Nat} {ls : Array Slot} {rest : List Value} {Qc : Array Value → State → Outcome → State → Prop} {mc ms is ik sa : Nat} {text : String} {c0 : Cond} (hE : gE D T s) (hts : ∀ w ∈ gW c0, w.before args s = true) (hx : p.tables.exec = Jvm.exec) (hb : c.code = cc) (hst : l.stackTraces = false) (hown : s.vm.findClass RX9 = some m.cls) (hk : (Cond.classLink RX9 ik "java/lang/IndexOutOfBoundsException").before args s = true) (hini : (Cond.initialized "java/lang/IndexOutOfBoundsException").before args s = true) (hstr : vk_R RX9 is text sa s) (hZ : gZ A s s.heap) (hAe : va_A wc sz = A) (hS : va_S A s.heap H locs) (hsize : ls.size = c.maxLocals)
    (d0 : decode cc pc = .ok (.new ik, 3)) (d3 : decode cc (pc + 3) = .ok (.dup, 1)) (d4 : decode cc (pc + 4) = .ok (.ldc is, 2)) (d6 : decode cc (pc + 6) = .ok (.invokespecial 148, 3)) (d9 : decode cc (pc + 9) = .ok (.athrow, 1)) (hout : ∀ x ∈ c.exceptionTable.toList, covers x (pc + 9) = false)
    (hRframes : 2 + 3 < R.frames) (hRlocals : (rest.map fun v => v.category).sum + (13 * (2 + 1) + 43) ≤ R.locals) (hRcells : cells + 1 ≤ R.cells) (hRslots : slots + 6 ≤ R.slots) (hlocks : meth.locks = false) (hc : cells + 1 ≤ mc) (hs : slots + 6 ≤ ms) : W p l e R s m args below meth c H locs cells slots (vx_MQ below Qc (vx_X (fun _ : Unit => True) (fun E _ _ => E = "java/lang/IndexOutOfBoundsException") (va_A wc sz)) args s mc ms (va_A wc sz)) (F0 m pc ls rest) := by
  refine vx_throwS (own := RX9) (cls := "java/lang/IndexOutOfBoundsException") (names := ["java/lang/RuntimeException", "java/lang/Exception"]) (A := A) hx hb hst hown (by decide +kernel) (by decide +kernel) hk hini hstr ?_ gO_148 hZ.1 hZ.2 hS hsize d0 d3 d4 d6 d9 hout hRframes hRlocals hRcells hRslots hlocks (fun t hW h1 h2 => ⟨(), trivial, rfl, ?_⟩) (hAe ▸ hS.2.2) hc hs
  · refine vx_hat (B := Cond.castable "java/lang/IndexOutOfBoundsException" "java/lang/IndexOutOfBoundsException" :: gDl.map Cond.declares) (fun w h => hts w (iT_148 w h)) gB_148 (vx_c (va_Nw.use rfl (hE.2.2.2.2.2.1 ("java/lang/IndexOutOfBoundsException", "java/lang/IndexOutOfBoundsException") (List.mem_of_getElem? (i := 5) rfl))) ?_)
    intro w hw
    obtain ⟨q, hq, rfl⟩ := List.mem_map.mp hw
    exact va_Nw.use rfl (hE.2.2.2.2.1 q hq)
  · rw [hAe]
    exact ⟨Nat.le_trans hS.1 h1, fun q a b => (h2 q (Nat.lt_of_lt_of_le a hS.1)).trans (hS.2.1 q a b)⟩
set_option maxHeartbeats 4000000 in
theorem gThrowW_IndexOutOfBoundsException_148 {p : Program} {l : Launch} {e : Env} {R : Room} {s : State} {m : MethodId} {args : Array Value} {below : List Frame} {meth : Method} {c : Code} {H : Heap} {locs : List Loc} {cells slots : Nat} {cc : ByteArray} {pc : Nat} {D : va_G} {T : List (ClassId × FieldType)} {A : Nat → Prop} {wc : va_W} {sz : Nat} {ls : Array Slot} {rest : List Value} {Qc : Array Value → State → Outcome → State → Prop} {mc ms is ik sa : Nat} {text : String} {c0 : Cond} (hE : gE D T s) (hts : ∀ w ∈ gW c0, w.before args s = true) (hx : p.tables.exec = Jvm.exec) (hb : c.code = cc) (hst : l.stackTraces = false) (hown : s.vm.findClass RX9 = some m.cls) (hk : (Cond.classLink RX9 ik "java/lang/IndexOutOfBoundsException").before args s = true) (hini : (Cond.initialized "java/lang/IndexOutOfBoundsException").before args s = true) (hstr : vk_R RX9 is text sa s) (hZ : gZ A s s.heap) (hAe : va_A wc sz = A) (hS : va_S A s.heap H locs) (hsize : ls.size = c.maxLocals)
    (d0 : decode cc pc = .ok (.new ik, 3)) (d3 : decode cc (pc + 3) = .ok (.dup, 1)) (d4 : decode cc (pc + 4) = .ok (.ldc_w is, 3)) (d6 : decode cc (pc + 7) = .ok (.invokespecial 148, 3)) (d9 : decode cc (pc + 10) = .ok (.athrow, 1)) (hout : ∀ x ∈ c.exceptionTable.toList, covers x (pc + 10) = false)
    (hRframes : 2 + 3 < R.frames) (hRlocals : (rest.map fun v => v.category).sum + (13 * (2 + 1) + 43) ≤ R.locals) (hRcells : cells + 1 ≤ R.cells) (hRslots : slots + 6 ≤ R.slots) (hlocks : meth.locks = false) (hc : cells + 1 ≤ mc) (hs : slots + 6 ≤ ms) : W p l e R s m args below meth c H locs cells slots (vx_MQ below Qc (vx_X (fun _ : Unit => True) (fun E _ _ => E = "java/lang/IndexOutOfBoundsException") (va_A wc sz)) args s mc ms (va_A wc sz)) (F0 m pc ls rest) := by
  refine vx_throwSW (own := RX9) (cls := "java/lang/IndexOutOfBoundsException") (names := ["java/lang/RuntimeException", "java/lang/Exception"]) (A := A) hx hb hst hown (by decide +kernel) (by decide +kernel) hk hini hstr ?_ gO_148 hZ.1 hZ.2 hS hsize d0 d3 d4 d6 d9 hout hRframes hRlocals hRcells hRslots hlocks (fun t hW h1 h2 => ⟨(), trivial, rfl, ?_⟩) (hAe ▸ hS.2.2) hc hs
  · refine vx_hat (B := Cond.castable "java/lang/IndexOutOfBoundsException" "java/lang/IndexOutOfBoundsException" :: gDl.map Cond.declares) (fun w h => hts w (iT_148 w h)) gB_148 (vx_c (va_Nw.use rfl (hE.2.2.2.2.2.1 ("java/lang/IndexOutOfBoundsException", "java/lang/IndexOutOfBoundsException") (List.mem_of_getElem? (i := 5) rfl))) ?_)
    intro w hw
    obtain ⟨q, hq, rfl⟩ := List.mem_map.mp hw
    exact va_Nw.use rfl (hE.2.2.2.2.1 q hq)
  · rw [hAe]
    exact ⟨Nat.le_trans hS.1 h1, fun q a b => (h2 q (Nat.lt_of_lt_of_le a hS.1)).trans (hS.2.1 q a b)⟩
set_option maxRecDepth 20000 in
theorem gO_173 {ik : Nat} : ∀ w ∈ Cond.classLink RX9 ik "java/util/NoSuchElementException" :: Cond.initialized "java/util/NoSuchElementException" :: (nsL.filter vx_no), vx_ot w = true := List.forall_mem_cons.mpr ⟨rfl, List.forall_mem_cons.mpr ⟨rfl, List.all_eq_true.mp (by decide +kernel)⟩⟩
set_option maxRecDepth 20000 in
theorem gB_173 : ∀ w ∈ (nsL.filter vx_no).filter (fun w => !goodWord w), w ∈ (Cond.castable "java/util/NoSuchElementException" "java/util/NoSuchElementException" :: gDl.map Cond.declares) := by decide +kernel
set_option maxHeartbeats 4000000 in
theorem gThrow_NoSuchElementException_173 {p : Program} {l : Launch} {e : Env} {R : Room} {s : State} {m : MethodId} {args : Array Value} {below : List Frame} {meth : Method} {c : Code} {H : Heap} {locs : List Loc} {cells slots : Nat} {cc : ByteArray} {pc : Nat} {D : va_G} {T : List (ClassId × FieldType)} {A : Nat → Prop} {wc : va_W} {sz : Nat} {ls : Array Slot} {rest : List Value} {Qc : Array Value → State → Outcome → State → Prop} {mc ms is ik sa : Nat} {text : String} {c0 : Cond} (hE : gE D T s) (hts : ∀ w ∈ gW c0, w.before args s = true) (hx : p.tables.exec = Jvm.exec) (hb : c.code = cc) (hst : l.stackTraces = false) (hown : s.vm.findClass RX9 = some m.cls) (hk : (Cond.classLink RX9 ik "java/util/NoSuchElementException").before args s = true) (hini : (Cond.initialized "java/util/NoSuchElementException").before args s = true) (hstr : vk_R RX9 is text sa s) (hZ : gZ A s s.heap) (hAe : va_A wc sz = A) (hS : va_S A s.heap H locs) (hsize : ls.size = c.maxLocals)
    (d0 : decode cc pc = .ok (.new ik, 3)) (d3 : decode cc (pc + 3) = .ok (.dup, 1)) (d4 : decode cc (pc + 4) = .ok (.ldc is, 2)) (d6 : decode cc (pc + 6) = .ok (.invokespecial 173, 3)) (d9 : decode cc (pc + 9) = .ok (.athrow, 1)) (hout : ∀ x ∈ c.exceptionTable.toList, covers x (pc + 9) = false)
    (hRframes : 2 + 3 < R.frames) (hRlocals : (rest.map fun v => v.category).sum + (13 * (2 + 1) + 43) ≤ R.locals) (hRcells : cells + 1 ≤ R.cells) (hRslots : slots + 6 ≤ R.slots) (hlocks : meth.locks = false) (hc : cells + 1 ≤ mc) (hs : slots + 6 ≤ ms) : W p l e R s m args below meth c H locs cells slots (vx_MQ below Qc (vx_X (fun _ : Unit => True) (fun E _ _ => E = "java/util/NoSuchElementException") (va_A wc sz)) args s mc ms (va_A wc sz)) (F0 m pc ls rest) := by
  refine ns_throw (A := A) hx hb hst hown hk hini hstr ?_ gO_173 hZ.1 hZ.2 hS hsize d0 d3 d4 d6 d9 hout hRframes hRlocals hRcells hRslots hlocks (fun t hW h1 h2 => ⟨(), trivial, rfl, ?_⟩) (hAe ▸ hS.2.2) hc hs
  · refine vx_hat (B := Cond.castable "java/util/NoSuchElementException" "java/util/NoSuchElementException" :: gDl.map Cond.declares) (fun w h => hts w (iT_173 w h)) gB_173 (vx_c (va_Nw.use rfl (hE.2.2.2.2.2.1 ("java/util/NoSuchElementException", "java/util/NoSuchElementException") (List.mem_of_getElem? (i := 3) rfl))) ?_)
    intro w hw
    obtain ⟨q, hq, rfl⟩ := List.mem_map.mp hw
    exact va_Nw.use rfl (hE.2.2.2.2.1 q hq)
  · rw [hAe]
    exact ⟨Nat.le_trans hS.1 h1, fun q a b => (h2 q (Nat.lt_of_lt_of_le a hS.1)).trans (hS.2.1 q a b)⟩

section GCT
variable {p : Program} {l : Launch} {e : Env} {R : Room} {s : State} {m : MethodId} {args : Array Value} {below : List Frame} {meth : Method} {c : Code} {cells slots : Nat} {Q : State → Prop} {D : va_G} {A : Nat → Prop} {T : List (ClassId × FieldType)} {H0 : Heap}
set_option maxHeartbeats 4000000 in
/-- the loop of the reference's createTrace -/
theorem gLct1 (hx : p.tables.exec = Jvm.exec) (hb : c.code = cX10_createTrace) {c0 : Cond} (hts : ∀ w ∈ gW c0, w.before args s = true) (hown : s.vm.findClass RX10 = some m.cls) (hE : gE D T s) {cI : ClassId} (ht : T[0]? = some (cI, .int)) {ho tr N : Nat} {fs : List Value} (hf : fs[45]? = some (.ref tr)) (hN : N ≤ 300)
    (kk : ∀ (g : Nat → Int32) (H : Heap) (locs : List Loc), va_P D gC [(ho, oB 10 fs), (tr, aI cI 300 g)] H → va_D A [(ho, oB 10 fs), (tr, aI cI 300 g)] → va_S A H0 H locs → ∀ ls : Array Slot, lv_has ls 3 [(2, .int (nI N)), (0, .ref ho), (1, .int (nI N))] → W p l e R s m args below meth c H locs cells slots Q (F0 m 50 ls [])) :
    ∀ (n k : Nat), k + n = N → ∀ (g : Nat → Int32) (H : Heap) (locs : List Loc), va_P D gC [(ho, oB 10 fs), (tr, aI cI 300 g)] H → va_D A [(ho, oB 10 fs), (tr, aI cI 300 g)] → va_S A H0 H locs → ∀ ls : Array Slot, lv_has ls 3 [(2, .int (nI k)), (0, .ref ho), (1, .int (nI N))] → W p l e R s m args below meth c H locs cells slots Q (F0 m 32 ls []) := by
  have hN2 : N < 2 ^ 31 := by omega
  intro n
  induction n with
  | zero =>
    intro k hk g H locs hP hD hS ls hl
    have e9 : k = N := by omega
    subst e9
    refine lv_iload_n hx hb dX10_createTrace_32 rfl (lv_at hl 0 rfl) ?_
    refine lv_iload_n hx hb dX10_createTrace_33 rfl (lv_at hl 2 rfl) ?_
    refine lv_icmp_ge (tgt := 50) hx hb dX10_createTrace_34 (by decide) (fun _ => ?_) (fun h9 => absurd (nI_le (Nat.le_refl _) hN2) h9)
    exact kk g H locs hP hD hS ls hl
  | succ n ih =>
    intro k hk g H locs hP hD hS ls hl
    have hlt : k < N := by omega
    refine lv_iload_n hx hb dX10_createTrace_32 rfl (lv_at hl 0 rfl) ?_
    refine lv_iload_n hx hb dX10_createTrace_33 rfl (lv_at hl 2 rfl) ?_
    refine lv_icmp_ge (tgt := 50) hx hb dX10_createTrace_34 (by decide) (fun h9 => absurd h9 (nI_ge hlt hN2)) (fun _ => ?_)
    refine lv_aload_n hx hb dX10_createTrace_37 rfl (lv_at hl 1 rfl) ?_
    refine va_get (D := D) (ci := 10) (v := .ref tr) (C := RX10) (T := TX10) (N := 50) hx hb hts iN_X10 hown hE.1 hP 0 rfl rfl 45 (by decide) (hts _ (List.mem_cons_of_mem _ m_127)) (fun _ h9 => h9) hf dX10_createTrace_38 ?_
    refine lv_iload_n hx hb dX10_createTrace_41 rfl (lv_at hl 0 rfl) ?_
    refine lv_iconst (v := (-1)) hx hb dX10_createTrace_42 (by decide) ?_
    refine va_iast hx hb hE.1 hP hD hS 1 0 rfl ht (vp_in_nI (Nat.lt_of_lt_of_le hlt hN) (by decide)) dX10_createTrace_43 (fun H locs hP hD hS => ?_)
    refine lv_iinc (v := nI (k + 1)) (lv' := [(2, .int (nI (k + 1))), (0, .ref ho), (1, .int (nI N))]) hx hb dX10_createTrace_44 hl (k := 0) rfl (nI_1 k) (by decide) rfl (fun ls hl => ?_)
    refine lv_goto (tgt := 32) hx hb dX10_createTrace_47 (by decide) ?_
    exact ih (k + 1) (by omega) _ H locs hP hD hS ls hl
theorem gLct {x : Int32} (h300 : ¬ 300 < x) (h0 : ¬ x < 0) (hx : p.tables.exec = Jvm.exec) (hb : c.code = cX10_createTrace) {c0 : Cond} (hts : ∀ w ∈ gW c0, w.before args s = true) (hown : s.vm.findClass RX10 = some m.cls) (hE : gE D T s) {cI : ClassId} (ht : T[0]? = some (cI, .int)) {ho tr : Nat} {fs : List Value} (hf : fs[45]? = some (.ref tr))
    (kk : ∀ (g : Nat → Int32) (H : Heap) (locs : List Loc), va_P D gC [(ho, oB 10 fs), (tr, aI cI 300 g)] H → va_D A [(ho, oB 10 fs), (tr, aI cI 300 g)] → va_S A H0 H locs → ∀ ls : Array Slot, lv_has ls 3 [(2, .int x), (0, .ref ho), (1, .int x)] → W p l e R s m args below meth c H locs cells slots Q (F0 m 50 ls [])) :
    ∀ (g : Nat → Int32) (H : Heap) (locs : List Loc), va_P D gC [(ho, oB 10 fs), (tr, aI cI 300 g)] H → va_D A [(ho, oB 10 fs), (tr, aI cI 300 g)] → va_S A H0 H locs → ∀ ls : Array Slot, lv_has ls 3 [(2, .int 0), (0, .ref ho), (1, .int x)] → W p l e R s m args below meth c H locs cells slots Q (F0 m 32 ls []) := by
  obtain ⟨N, hN, rfl⟩ := nI_of2 (M := 300) (n := 300) (by decide +kernel) h0 (g_le h300)
  intro g H locs hP hD hS ls hl
  exact gLct1 hx hb hts hown hE ht hf hN kk N 0 (Nat.zero_add N) g H locs hP hD hS ls hl
end GCT
theorem htsL {b : Nat} {s : State} (h : ∀ w ∈ lw_tbl, w.before #[Value.ref b] s = true) : ∀ w ∈ gW (Cond.initialized RX9), w.before #[Value.ref b] s = true := fun w hw => h w ((List.mem_cons.mp hw).elim (fun e => by rw [e]; exact gT_all _ m_2) (fun e => gT_all w e))
