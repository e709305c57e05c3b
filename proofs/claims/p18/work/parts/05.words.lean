/-! the words that every method of this proof needs: the tables' own, those of them that stay true when methods run -/
def kAll : List Cond := lw_tbl.filter goodWord
theorem kq {i : Nat} {w : Cond} (h : lw_tbl[i]? = some w) (g : goodWord w = true) : w ∈ kAll := List.mem_filter.mpr ⟨List.mem_of_getElem? h, g⟩
theorem kAll_tbl {w : Cond} (h : w ∈ kAll) : w ∈ lw_tbl := (List.mem_filter.mp h).1
theorem kAll_good {w : Cond} (h : w ∈ kAll) : goodWord w = true := (List.mem_filter.mp h).2
theorem kG : GoodIn kAll kAll := fun _ h => ⟨h, good_of_word (kAll_good h)⟩
theorem kq_r {ws : List Cond} (ps : List Nat) (hp : ws = ps.filterMap (fun i => lw_tbl[i]?)) (h : ws.all goodWord = true) : ∀ w ∈ ws, w ∈ kAll := fun w hw => List.mem_filter.mpr ⟨(goodIn_r (big := lw_tbl) ws ps hp h w hw).1, List.all_eq_true.mp h w hw⟩

theorem q1 : (.selects RX0 yX0_part yX0_part : Cond) ∈ kAll := kq (i := 1) (by decide +kernel) rfl
theorem q2 : (.selects RX2 yX2_sideOf yX2_sideOf : Cond) ∈ kAll := kq (i := 2) (by decide +kernel) rfl
theorem q3 : (.selects RX1 yX1_part yX1_part : Cond) ∈ kAll := kq (i := 3) (by decide +kernel) rfl
theorem q4 : (.selects RX2 yX2_sideToStrike yX2_sideToStrike : Cond) ∈ kAll := kq (i := 4) (by decide +kernel) rfl
theorem q5 : (.selects RX2 yX2_canBeSet yX2_canBeSet : Cond) ∈ kAll := kq (i := 5) (by decide +kernel) rfl
theorem q6 : (.selects RX2 yX2_isEndedBy yX2_isEndedBy : Cond) ∈ kAll := kq (i := 6) (by decide +kernel) rfl
theorem q7 : (.selects RX2 yX2_lookAhead yX2_lookAhead : Cond) ∈ kAll := kq (i := 7) (by decide +kernel) rfl
theorem q8 : (.selects RX0 yX0_become yX0_become : Cond) ∈ kAll := kq (i := 8) (by decide +kernel) rfl
theorem q9 : (.selects RX0 yX0_fly yX0_fly : Cond) ∈ kAll := kq (i := 9) (by decide +kernel) rfl
theorem q10 : (.selects RX0 yX0_passMoment yX0_passMoment : Cond) ∈ kAll := kq (i := 10) (by decide +kernel) rfl
theorem q11 : (.selects RX0 yX0_goAcross yX0_goAcross : Cond) ∈ kAll := kq (i := 11) (by decide +kernel) rfl
theorem q12 : (.selects RX0 yX0_goAlong yX0_goAlong : Cond) ∈ kAll := kq (i := 12) (by decide +kernel) rfl
theorem q13 : (.selects RX0 yX0_goOneRow yX0_goOneRow : Cond) ∈ kAll := kq (i := 13) (by decide +kernel) rfl
theorem q14 : (.selects RX0 yX0_touchFront yX0_touchFront : Cond) ∈ kAll := kq (i := 14) (by decide +kernel) rfl
theorem q15 : (.selects RX0 yX0_goUpOrDown yX0_goUpOrDown : Cond) ∈ kAll := kq (i := 15) (by decide +kernel) rfl
theorem q16 : (.selects RX0 yX0_bounce yX0_bounce : Cond) ∈ kAll := kq (i := 16) (by decide +kernel) rfl
theorem q17 : (.selects RX0 yX0_endPart yX0_endPart : Cond) ∈ kAll := kq (i := 17) (by decide +kernel) rfl
theorem q18 : (.selects RX2 yX2_placeAhead yX2_placeAhead : Cond) ∈ kAll := kq (i := 18) (by decide +kernel) rfl
theorem q19 : (.selects RX0 yX0_placeToServe yX0_placeToServe : Cond) ∈ kAll := kq (i := 19) (by decide +kernel) rfl
theorem q20 : (.selects RX2 yX2_isMatchOver yX2_isMatchOver : Cond) ∈ kAll := kq (i := 20) (by decide +kernel) rfl
theorem q21 : (.selects RX2 yX2_tryStroke yX2_tryStroke : Cond) ∈ kAll := kq (i := 21) (by decide +kernel) rfl
theorem q22 : (.selects RX0 yX0_launch yX0_launch : Cond) ∈ kAll := kq (i := 22) (by decide +kernel) rfl
theorem q23 : (.selects RX2 yX2_shortestDeadStroke yX2_shortestDeadStroke : Cond) ∈ kAll := kq (i := 23) (by decide +kernel) rfl
theorem q24 : (.selects RX2 yX2_closeRally yX2_closeRally : Cond) ∈ kAll := kq (i := 24) (by decide +kernel) rfl
theorem q25 : (.selects RX2 yX2_beginGame yX2_beginGame : Cond) ∈ kAll := kq (i := 25) (by decide +kernel) rfl
theorem q26 : (.selects RX1 yX1_beginMatch yX1_beginMatch : Cond) ∈ kAll := kq (i := 26) (by decide +kernel) rfl
theorem q27 : (.selects RX2 yX2_play yX2_play : Cond) ∈ kAll := kq (i := 27) (by decide +kernel) rfl
theorem q28 : (.selects RX2 yX2_winnerByFlight yX2_winnerByFlight : Cond) ∈ kAll := kq (i := 28) (by decide +kernel) rfl
theorem q29 : (.selects RX2 yX2_winRally yX2_winRally : Cond) ∈ kAll := kq (i := 29) (by decide +kernel) rfl
theorem q30 : (.selects RX2 yX2_winPoint yX2_winPoint : Cond) ∈ kAll := kq (i := 30) (by decide +kernel) rfl
theorem q31 : (.selects RX2 yX2_winGame yX2_winGame : Cond) ∈ kAll := kq (i := 31) (by decide +kernel) rfl
theorem q32 : (.selects RX4 yX4_over yX4_over : Cond) ∈ kAll := kq (i := 32) (by decide +kernel) rfl
theorem q33 : (.selects RX2 yX2_replayRally yX2_replayRally : Cond) ∈ kAll := kq (i := 33) (by decide +kernel) rfl
theorem q34 : (.initialized RL : Cond) ∈ kAll := kq (i := 34) (by decide +kernel) rfl
theorem q35 : (.initialized RX2 : Cond) ∈ kAll := kq (i := 35) (by decide +kernel) rfl
theorem q36 : (.initialized RX1 : Cond) ∈ kAll := kq (i := 36) (by decide +kernel) rfl
theorem q37 : (.initialized RX0 : Cond) ∈ kAll := kq (i := 37) (by decide +kernel) rfl
theorem q38 : (.initialized RX4 : Cond) ∈ kAll := kq (i := 38) (by decide +kernel) rfl
theorem q39 : (.initialized "java/lang/Throwable" : Cond) ∈ kAll := kq (i := 39) (by decide +kernel) rfl
theorem q40 : (.initialized "java/lang/Exception" : Cond) ∈ kAll := kq (i := 40) (by decide +kernel) rfl
theorem q41 : (.initialized "java/lang/RuntimeException" : Cond) ∈ kAll := kq (i := 41) (by decide +kernel) rfl
theorem q42 : (.initialized "java/lang/IndexOutOfBoundsException" : Cond) ∈ kAll := kq (i := 42) (by decide +kernel) rfl
theorem q43 : (.initialized "java/lang/IllegalArgumentException" : Cond) ∈ kAll := kq (i := 43) (by decide +kernel) rfl
theorem q44 : (.initialized "java/lang/IllegalStateException" : Cond) ∈ kAll := kq (i := 44) (by decide +kernel) rfl
theorem q45 : (.initialized RJ9 : Cond) ∈ kAll := kq (i := 45) (by decide +kernel) rfl
theorem q46 : (.initialized RJ6 : Cond) ∈ kAll := kq (i := 46) (by decide +kernel) rfl
theorem q47 : (.initialized RX3 : Cond) ∈ kAll := kq (i := 47) (by decide +kernel) rfl
theorem q48 : (.classLink RL 44 RX2 : Cond) ∈ kAll := kq (i := 48) (by decide +kernel) rfl
theorem q49 : (.instantiable RX2 15 : Cond) ∈ kAll := kq (i := 49) (by decide +kernel) rfl
theorem q50 : (.methodLink RL 92 yX2_init : Cond) ∈ kAll := kq (i := 50) (by decide +kernel) rfl
theorem q51 : (.instanceMethod yX2_init : Cond) ∈ kAll := kq (i := 51) (by decide +kernel) rfl
theorem q52 : (.code yX2_init cX2_init 1 none : Cond) ∈ kAll := kq (i := 52) (by decide +kernel) rfl
theorem q53 : (.methodLink RX2 1 objectInit : Cond) ∈ kAll := kq (i := 53) (by decide +kernel) rfl
theorem q54 : (.instanceMethod objectInit : Cond) ∈ kAll := kq (i := 54) (by decide +kernel) rfl
theorem q55 : (.code objectInit ⟨#[0xb1]⟩ 1 none : Cond) ∈ kAll := kq (i := 55) (by decide +kernel) rfl
theorem q56 : (.classLink RX2 7 RX1 : Cond) ∈ kAll := kq (i := 56) (by decide +kernel) rfl
theorem q57 : (.instantiable RX1 4 : Cond) ∈ kAll := kq (i := 57) (by decide +kernel) rfl
theorem q59 : (.instanceMethod yX1_init : Cond) ∈ kAll := kq (i := 59) (by decide +kernel) rfl
theorem q60 : (.code yX1_init cX1_init 1 none : Cond) ∈ kAll := kq (i := 60) (by decide +kernel) rfl
theorem q61 : (.methodLink RX1 1 objectInit : Cond) ∈ kAll := kq (i := 61) (by decide +kernel) rfl
theorem q62 : (.fieldLink RX1 7 RX1 "points" "I" : Cond) ∈ kAll := kq (i := 62) (by decide +kernel) rfl
theorem q64 : (.fieldLink RX1 13 RX1 "games" "I" : Cond) ∈ kAll := kq (i := 64) (by decide +kernel) rfl
theorem q66 : (.fieldLink RX1 16 RX1 "rallies" "I" : Cond) ∈ kAll := kq (i := 66) (by decide +kernel) rfl
theorem q68 : (.fieldLink RX1 19 RX1 "strokes" "I" : Cond) ∈ kAll := kq (i := 68) (by decide +kernel) rfl
theorem q79 : (.classLink RX2 19 RX0 : Cond) ∈ kAll := kq (i := 79) (by decide +kernel) rfl
theorem q80 : (.instantiable RX0 11 : Cond) ∈ kAll := kq (i := 80) (by decide +kernel) rfl
theorem q82 : (.instanceMethod yX0_init : Cond) ∈ kAll := kq (i := 82) (by decide +kernel) rfl
theorem q83 : (.code yX0_init cX0_init 1 none : Cond) ∈ kAll := kq (i := 83) (by decide +kernel) rfl
theorem q84 : (.methodLink RX0 3 objectInit : Cond) ∈ kAll := kq (i := 84) (by decide +kernel) rfl
theorem q85 : (.fieldLink RX0 9 RX0 "column" "I" : Cond) ∈ kAll := kq (i := 85) (by decide +kernel) rfl
theorem q86 : (.fieldLink RX0 15 RX0 "row" "I" : Cond) ∈ kAll := kq (i := 86) (by decide +kernel) rfl
theorem q87 : (.fieldLink RX0 18 RX0 "height" "I" : Cond) ∈ kAll := kq (i := 87) (by decide +kernel) rfl
theorem q88 : (.fieldLink RX0 21 RX0 "across" "I" : Cond) ∈ kAll := kq (i := 88) (by decide +kernel) rfl
theorem q89 : (.fieldLink RX0 24 RX0 "along" "I" : Cond) ∈ kAll := kq (i := 89) (by decide +kernel) rfl
theorem q90 : (.fieldLink RX0 27 RX0 "rise" "I" : Cond) ∈ kAll := kq (i := 90) (by decide +kernel) rfl
theorem q91 : (.fieldLink RX0 30 RX0 "fronts" "I" : Cond) ∈ kAll := kq (i := 91) (by decide +kernel) rfl
theorem q93 : (.fieldLink RX0 33 RX0 "bounces" "I" : Cond) ∈ kAll := kq (i := 93) (by decide +kernel) rfl
theorem q94 : (.fieldLink RX0 36 RX0 "touches" "I" : Cond) ∈ kAll := kq (i := 94) (by decide +kernel) rfl
theorem q95 : (.fieldLink RX0 39 RX0 "moments" "I" : Cond) ∈ kAll := kq (i := 95) (by decide +kernel) rfl
theorem q97 : (.fieldLink RX0 42 RX0 "ending" "I" : Cond) ∈ kAll := kq (i := 97) (by decide +kernel) rfl
theorem q122 : (.fieldLink RX2 10 RX2 "first" "LFivesCourt$Side;" : Cond) ∈ kAll := kq (i := 122) (by decide +kernel) rfl
theorem q123 : (.fieldLink RX2 16 RX2 "second" "LFivesCourt$Side;" : Cond) ∈ kAll := kq (i := 123) (by decide +kernel) rfl
theorem q124 : (.fieldLink RX2 22 RX2 "struck" "LFivesCourt$Ball;" : Cond) ∈ kAll := kq (i := 124) (by decide +kernel) rfl
theorem q125 : (.fieldLink RX2 26 RX2 "ended" "LFivesCourt$Ball;" : Cond) ∈ kAll := kq (i := 125) (by decide +kernel) rfl
theorem q126 : (.fieldLink RX2 29 RX2 "ahead" "LFivesCourt$Ball;" : Cond) ∈ kAll := kq (i := 126) (by decide +kernel) rfl
theorem q127 : (.fieldLink RX2 32 RX2 "tried" "LFivesCourt$Ball;" : Cond) ∈ kAll := kq (i := 127) (by decide +kernel) rfl
theorem q128 : (.fieldLink RX2 35 RX2 "server" "I" : Cond) ∈ kAll := kq (i := 128) (by decide +kernel) rfl
theorem q129 : (.fieldLink RX2 56 RX2 "rallying" "Z" : Cond) ∈ kAll := kq (i := 129) (by decide +kernel) rfl
theorem q130 : (.fieldLink RX2 107 RX2 "strokes" "I" : Cond) ∈ kAll := kq (i := 130) (by decide +kernel) rfl
theorem q131 : (.fieldLink RX2 39 RX2 "goal" "I" : Cond) ∈ kAll := kq (i := 131) (by decide +kernel) rfl
theorem q132 : (.fieldLink RX2 42 RX2 "matchWinner" "I" : Cond) ∈ kAll := kq (i := 132) (by decide +kernel) rfl
theorem q133 : (.fieldLink RX2 152 RX2 "wonRallies" "I" : Cond) ∈ kAll := kq (i := 133) (by decide +kernel) rfl
theorem q134 : (.fieldLink RX2 188 RX2 "wonStrokes" "I" : Cond) ∈ kAll := kq (i := 134) (by decide +kernel) rfl
theorem q135 : (.fieldLink RX2 155 RX2 "lets" "I" : Cond) ∈ kAll := kq (i := 135) (by decide +kernel) rfl
theorem q136 : (.fieldLink RX2 158 RX2 "wonGames" "I" : Cond) ∈ kAll := kq (i := 136) (by decide +kernel) rfl
theorem q168 : (.methodLink RL 115 yX2_ball : Cond) ∈ kAll := kq (i := 168) (by decide +kernel) rfl
theorem q169 : (.instanceMethod yX2_ball : Cond) ∈ kAll := kq (i := 169) (by decide +kernel) rfl
theorem q170 : (.selects RX2 yX2_ball yX2_ball : Cond) ∈ kAll := kq (i := 170) (by decide +kernel) rfl
theorem q171 : (.code yX2_ball cX2_ball 2 (some .int) : Cond) ∈ kAll := kq (i := 171) (by decide +kernel) rfl
theorem q172 : (.classLink RX2 123 "java/lang/IndexOutOfBoundsException" : Cond) ∈ kAll := kq (i := 172) (by decide +kernel) rfl
theorem q173 : (.instantiable "java/lang/IndexOutOfBoundsException" 6 : Cond) ∈ kAll := kq (i := 173) (by decide +kernel) rfl
theorem q193 : (.fieldLink "java/lang/Throwable" 198 "java/lang/Throwable" "backtrace" "Ljava/lang/Object;" : Cond) ∈ kAll := kq (i := 193) (by decide +kernel) rfl
theorem q197 : (.methodLink "java/lang/Throwable" 1 objectInit : Cond) ∈ kAll := kq (i := 197) (by decide +kernel) rfl
theorem q198 : (.fieldLink "java/lang/Throwable" 13 "java/lang/Throwable" "UNASSIGNED_STACK" "[Ljava/lang/StackTraceElement;" : Cond) ∈ kAll := kq (i := 198) (by decide +kernel) rfl
theorem q200 : (.fieldLink "java/lang/Throwable" 20 "java/lang/Throwable" "SUPPRESSED_SENTINEL" "Ljava/util/List;" : Cond) ∈ kAll := kq (i := 200) (by decide +kernel) rfl
theorem q211 : (.instantiable "java/lang/Throwable" 6 : Cond) ∈ kAll := kq (i := 211) (by decide +kernel) rfl
theorem q227 : (.fieldLink "java/lang/Throwable" 31 "java/lang/Throwable" "detailMessage" "Ljava/lang/String;" : Cond) ∈ kAll := kq (i := 227) (by decide +kernel) rfl
theorem q228 : (.fieldLink "java/lang/Throwable" 7 "java/lang/Throwable" "cause" "Ljava/lang/Throwable;" : Cond) ∈ kAll := kq (i := 228) (by decide +kernel) rfl
theorem q229 : (.fieldLink "java/lang/Throwable" 17 "java/lang/Throwable" "stackTrace" "[Ljava/lang/StackTraceElement;" : Cond) ∈ kAll := kq (i := 229) (by decide +kernel) rfl
theorem q230 : (.fieldLink "java/lang/Throwable" 24 "java/lang/Throwable" "suppressedExceptions" "Ljava/util/List;" : Cond) ∈ kAll := kq (i := 230) (by decide +kernel) rfl
theorem q242 : (.instanceMethod yX0_part : Cond) ∈ kAll := kq (i := 242) (by decide +kernel) rfl
theorem q243 : (.code yX0_part cX0_part 2 (some .int) : Cond) ∈ kAll := kq (i := 243) (by decide +kernel) rfl
theorem q244 : (.methodLink RL 101 yX2_told : Cond) ∈ kAll := kq (i := 244) (by decide +kernel) rfl
theorem q245 : (.instanceMethod yX2_told : Cond) ∈ kAll := kq (i := 245) (by decide +kernel) rfl
theorem q246 : (.selects RX2 yX2_told yX2_told : Cond) ∈ kAll := kq (i := 246) (by decide +kernel) rfl
theorem q247 : (.code yX2_told cX2_told 3 (some .int) : Cond) ∈ kAll := kq (i := 247) (by decide +kernel) rfl
theorem q248 : (.methodLink RX2 120 yX2_isSide : Cond) ∈ kAll := kq (i := 248) (by decide +kernel) rfl
theorem q249 : (.static yX2_isSide : Cond) ∈ kAll := kq (i := 249) (by decide +kernel) rfl
theorem q250 : (.code yX2_isSide cX2_isSide 1 (some .boolean) : Cond) ∈ kAll := kq (i := 250) (by decide +kernel) rfl
theorem q252 : (.methodLink RX2 147 yX2_sideOf : Cond) ∈ kAll := kq (i := 252) (by decide +kernel) rfl
theorem q254 : (.instanceMethod yX2_sideOf : Cond) ∈ kAll := kq (i := 254) (by decide +kernel) rfl
theorem q255 : (.code yX2_sideOf cX2_sideOf 2 (Option.some (FieldType.object "FivesCourt$Side")) : Cond) ∈ kAll := kq (i := 255) (by decide +kernel) rfl
theorem q258 : (.instanceMethod yX1_part : Cond) ∈ kAll := kq (i := 258) (by decide +kernel) rfl
theorem q259 : (.code yX1_part cX1_part 2 (some .int) : Cond) ∈ kAll := kq (i := 259) (by decide +kernel) rfl
theorem q260 : (.methodLink RL 98 yX2_count : Cond) ∈ kAll := kq (i := 260) (by decide +kernel) rfl
theorem q261 : (.instanceMethod yX2_count : Cond) ∈ kAll := kq (i := 261) (by decide +kernel) rfl
theorem q262 : (.selects RX2 yX2_count yX2_count : Cond) ∈ kAll := kq (i := 262) (by decide +kernel) rfl
theorem q263 : (.code yX2_count cX2_count 2 (some .int) : Cond) ∈ kAll := kq (i := 263) (by decide +kernel) rfl
theorem q264 : (.methodLink RX2 104 yX2_sideToStrike : Cond) ∈ kAll := kq (i := 264) (by decide +kernel) rfl
theorem q266 : (.instanceMethod yX2_sideToStrike : Cond) ∈ kAll := kq (i := 266) (by decide +kernel) rfl
theorem q267 : (.code yX2_sideToStrike cX2_sideToStrike 1 (some .int) : Cond) ∈ kAll := kq (i := 267) (by decide +kernel) rfl
theorem q268 : (.methodLink RX2 211 yX2_otherSide : Cond) ∈ kAll := kq (i := 268) (by decide +kernel) rfl
theorem q269 : (.static yX2_otherSide : Cond) ∈ kAll := kq (i := 269) (by decide +kernel) rfl
theorem q270 : (.code yX2_otherSide cX2_otherSide 1 (some .int) : Cond) ∈ kAll := kq (i := 270) (by decide +kernel) rfl
theorem q271 : (.methodLink RX2 112 yX2_canBeSet : Cond) ∈ kAll := kq (i := 271) (by decide +kernel) rfl
theorem q273 : (.instanceMethod yX2_canBeSet : Cond) ∈ kAll := kq (i := 273) (by decide +kernel) rfl
theorem q274 : (.code yX2_canBeSet cX2_canBeSet 1 (some .boolean) : Cond) ∈ kAll := kq (i := 274) (by decide +kernel) rfl
theorem q276 : (.methodLink RL 117 yX2_flight : Cond) ∈ kAll := kq (i := 276) (by decide +kernel) rfl
theorem q277 : (.instanceMethod yX2_flight : Cond) ∈ kAll := kq (i := 277) (by decide +kernel) rfl
theorem q278 : (.selects RX2 yX2_flight yX2_flight : Cond) ∈ kAll := kq (i := 278) (by decide +kernel) rfl
theorem q279 : (.code yX2_flight cX2_flight 3 (some .int) : Cond) ∈ kAll := kq (i := 279) (by decide +kernel) rfl
theorem q280 : (.methodLink RX2 163 yX2_isLookAhead : Cond) ∈ kAll := kq (i := 280) (by decide +kernel) rfl
theorem q281 : (.static yX2_isLookAhead : Cond) ∈ kAll := kq (i := 281) (by decide +kernel) rfl
theorem q282 : (.code yX2_isLookAhead cX2_isLookAhead 1 (some .boolean) : Cond) ∈ kAll := kq (i := 282) (by decide +kernel) rfl
theorem q283 : (.classLink RX2 49 "java/lang/IllegalArgumentException" : Cond) ∈ kAll := kq (i := 283) (by decide +kernel) rfl
theorem q284 : (.instantiable "java/lang/IllegalArgumentException" 6 : Cond) ∈ kAll := kq (i := 284) (by decide +kernel) rfl
theorem q300 : (.methodLink RX2 78 yX2_isEndedBy : Cond) ∈ kAll := kq (i := 300) (by decide +kernel) rfl
theorem q302 : (.instanceMethod yX2_isEndedBy : Cond) ∈ kAll := kq (i := 302) (by decide +kernel) rfl
theorem q303 : (.code yX2_isEndedBy cX2_isEndedBy 2 (some .boolean) : Cond) ∈ kAll := kq (i := 303) (by decide +kernel) rfl
theorem q304 : (.methodLink RX2 90 yX2_lookAhead : Cond) ∈ kAll := kq (i := 304) (by decide +kernel) rfl
theorem q306 : (.instanceMethod yX2_lookAhead : Cond) ∈ kAll := kq (i := 306) (by decide +kernel) rfl
theorem q307 : (.code yX2_lookAhead cX2_lookAhead 2 none : Cond) ∈ kAll := kq (i := 307) (by decide +kernel) rfl
theorem q310 : (.instanceMethod yX0_become : Cond) ∈ kAll := kq (i := 310) (by decide +kernel) rfl
theorem q311 : (.code yX0_become cX0_become 2 none : Cond) ∈ kAll := kq (i := 311) (by decide +kernel) rfl
theorem q314 : (.instanceMethod yX0_fly : Cond) ∈ kAll := kq (i := 314) (by decide +kernel) rfl
theorem q315 : (.code yX0_fly cX0_fly 3 none : Cond) ∈ kAll := kq (i := 315) (by decide +kernel) rfl
theorem q316 : (.methodLink RX0 51 yX0_passMoment : Cond) ∈ kAll := kq (i := 316) (by decide +kernel) rfl
theorem q318 : (.instanceMethod yX0_passMoment : Cond) ∈ kAll := kq (i := 318) (by decide +kernel) rfl
theorem q319 : (.code yX0_passMoment cX0_passMoment 1 none : Cond) ∈ kAll := kq (i := 319) (by decide +kernel) rfl
theorem q320 : (.methodLink RX0 54 yX0_goAcross : Cond) ∈ kAll := kq (i := 320) (by decide +kernel) rfl
theorem q322 : (.instanceMethod yX0_goAcross : Cond) ∈ kAll := kq (i := 322) (by decide +kernel) rfl
theorem q323 : (.code yX0_goAcross cX0_goAcross 4 none : Cond) ∈ kAll := kq (i := 323) (by decide +kernel) rfl
theorem q324 : (.methodLink RX0 63 yJ9_abs_0f7a4 : Cond) ∈ kAll := kq (i := 324) (by decide +kernel) rfl
theorem q325 : (.static yJ9_abs_0f7a4 : Cond) ∈ kAll := kq (i := 325) (by decide +kernel) rfl
theorem q326 : (.code yJ9_abs_0f7a4 cJ9_abs_0f7a4 1 (some .int) : Cond) ∈ kAll := kq (i := 326) (by decide +kernel) rfl
theorem q327 : (.methodLink RX0 67 yJ6_signum_0f7a4 : Cond) ∈ kAll := kq (i := 327) (by decide +kernel) rfl
theorem q328 : (.static yJ6_signum_0f7a4 : Cond) ∈ kAll := kq (i := 328) (by decide +kernel) rfl
theorem q329 : (.code yJ6_signum_0f7a4 cJ6_signum_0f7a4 1 (some .int) : Cond) ∈ kAll := kq (i := 329) (by decide +kernel) rfl
theorem q330 : (.methodLink RX0 72 yX0_isButtress : Cond) ∈ kAll := kq (i := 330) (by decide +kernel) rfl
theorem q331 : (.static yX0_isButtress : Cond) ∈ kAll := kq (i := 331) (by decide +kernel) rfl
theorem q332 : (.code yX0_isButtress cX0_isButtress 2 (some .boolean) : Cond) ∈ kAll := kq (i := 332) (by decide +kernel) rfl
theorem q333 : (.methodLink RX0 57 yX0_goAlong : Cond) ∈ kAll := kq (i := 333) (by decide +kernel) rfl
theorem q335 : (.instanceMethod yX0_goAlong : Cond) ∈ kAll := kq (i := 335) (by decide +kernel) rfl
theorem q336 : (.code yX0_goAlong cX0_goAlong 3 none : Cond) ∈ kAll := kq (i := 336) (by decide +kernel) rfl
theorem q337 : (.methodLink RX0 76 yX0_goOneRow : Cond) ∈ kAll := kq (i := 337) (by decide +kernel) rfl
theorem q339 : (.instanceMethod yX0_goOneRow : Cond) ∈ kAll := kq (i := 339) (by decide +kernel) rfl
theorem q340 : (.code yX0_goOneRow cX0_goOneRow 2 none : Cond) ∈ kAll := kq (i := 340) (by decide +kernel) rfl
theorem q341 : (.methodLink RX0 79 yX0_touchFront : Cond) ∈ kAll := kq (i := 341) (by decide +kernel) rfl
theorem q343 : (.instanceMethod yX0_touchFront : Cond) ∈ kAll := kq (i := 343) (by decide +kernel) rfl
theorem q344 : (.code yX0_touchFront cX0_touchFront 1 none : Cond) ∈ kAll := kq (i := 344) (by decide +kernel) rfl
theorem q345 : (.methodLink RX0 60 yX0_goUpOrDown : Cond) ∈ kAll := kq (i := 345) (by decide +kernel) rfl
theorem q347 : (.instanceMethod yX0_goUpOrDown : Cond) ∈ kAll := kq (i := 347) (by decide +kernel) rfl
theorem q348 : (.code yX0_goUpOrDown cX0_goUpOrDown 1 none : Cond) ∈ kAll := kq (i := 348) (by decide +kernel) rfl
theorem q349 : (.methodLink RX0 82 yX0_bounce : Cond) ∈ kAll := kq (i := 349) (by decide +kernel) rfl
theorem q351 : (.instanceMethod yX0_bounce : Cond) ∈ kAll := kq (i := 351) (by decide +kernel) rfl
theorem q352 : (.code yX0_bounce cX0_bounce 1 none : Cond) ∈ kAll := kq (i := 352) (by decide +kernel) rfl
theorem q353 : (.methodLink RL 112 yX2_end : Cond) ∈ kAll := kq (i := 353) (by decide +kernel) rfl
theorem q354 : (.instanceMethod yX2_end : Cond) ∈ kAll := kq (i := 354) (by decide +kernel) rfl
theorem q355 : (.selects RX2 yX2_end yX2_end : Cond) ∈ kAll := kq (i := 355) (by decide +kernel) rfl
theorem q356 : (.code yX2_end cX2_end 2 (some .int) : Cond) ∈ kAll := kq (i := 356) (by decide +kernel) rfl
theorem q360 : (.instanceMethod yX0_endPart : Cond) ∈ kAll := kq (i := 360) (by decide +kernel) rfl
theorem q361 : (.code yX0_endPart cX0_endPart 2 (some .int) : Cond) ∈ kAll := kq (i := 361) (by decide +kernel) rfl
theorem q362 : (.methodLink RL 123 yX2_would : Cond) ∈ kAll := kq (i := 362) (by decide +kernel) rfl
theorem q363 : (.instanceMethod yX2_would : Cond) ∈ kAll := kq (i := 363) (by decide +kernel) rfl
theorem q364 : (.selects RX2 yX2_would yX2_would : Cond) ∈ kAll := kq (i := 364) (by decide +kernel) rfl
theorem q365 : (.code yX2_would cX2_would 5 (some .int) : Cond) ∈ kAll := kq (i := 365) (by decide +kernel) rfl
theorem q366 : (.methodLink RX2 45 yX2_isStroke : Cond) ∈ kAll := kq (i := 366) (by decide +kernel) rfl
theorem q367 : (.static yX2_isStroke : Cond) ∈ kAll := kq (i := 367) (by decide +kernel) rfl
theorem q368 : (.code yX2_isStroke cX2_isStroke 3 (some .boolean) : Cond) ∈ kAll := kq (i := 368) (by decide +kernel) rfl
theorem q369 : (.methodLink RX2 208 yX2_isWay : Cond) ∈ kAll := kq (i := 369) (by decide +kernel) rfl
theorem q370 : (.static yX2_isWay : Cond) ∈ kAll := kq (i := 370) (by decide +kernel) rfl
theorem q371 : (.code yX2_isWay cX2_isWay 1 (some .boolean) : Cond) ∈ kAll := kq (i := 371) (by decide +kernel) rfl
theorem q373 : (.methodLink RX2 175 yX2_placeAhead : Cond) ∈ kAll := kq (i := 373) (by decide +kernel) rfl
theorem q375 : (.instanceMethod yX2_placeAhead : Cond) ∈ kAll := kq (i := 375) (by decide +kernel) rfl
theorem q376 : (.code yX2_placeAhead cX2_placeAhead 2 (some .boolean) : Cond) ∈ kAll := kq (i := 376) (by decide +kernel) rfl
theorem q379 : (.instanceMethod yX0_placeToServe : Cond) ∈ kAll := kq (i := 379) (by decide +kernel) rfl
theorem q380 : (.code yX0_placeToServe cX0_placeToServe 1 none : Cond) ∈ kAll := kq (i := 380) (by decide +kernel) rfl
theorem q381 : (.methodLink RX2 60 yX2_isMatchOver : Cond) ∈ kAll := kq (i := 381) (by decide +kernel) rfl
theorem q383 : (.instanceMethod yX2_isMatchOver : Cond) ∈ kAll := kq (i := 383) (by decide +kernel) rfl
theorem q384 : (.code yX2_isMatchOver cX2_isMatchOver 1 (some .boolean) : Cond) ∈ kAll := kq (i := 384) (by decide +kernel) rfl
theorem q385 : (.constant RX2 178 (1000000) : Cond) ∈ kAll := kq (i := 385) (by decide +kernel) rfl
theorem q386 : (.methodLink RX2 179 yX2_tryStroke : Cond) ∈ kAll := kq (i := 386) (by decide +kernel) rfl
theorem q388 : (.instanceMethod yX2_tryStroke : Cond) ∈ kAll := kq (i := 388) (by decide +kernel) rfl
theorem q389 : (.code yX2_tryStroke cX2_tryStroke 5 none : Cond) ∈ kAll := kq (i := 389) (by decide +kernel) rfl
theorem q392 : (.instanceMethod yX0_launch : Cond) ∈ kAll := kq (i := 392) (by decide +kernel) rfl
theorem q393 : (.code yX0_launch cX0_launch 4 none : Cond) ∈ kAll := kq (i := 393) (by decide +kernel) rfl
theorem q394 : (.methodLink RX0 45 yJ9_max_7cf53 : Cond) ∈ kAll := kq (i := 394) (by decide +kernel) rfl
theorem q395 : (.static yJ9_max_7cf53 : Cond) ∈ kAll := kq (i := 395) (by decide +kernel) rfl
theorem q396 : (.code yJ9_max_7cf53 cJ9_max_7cf53 2 (some .int) : Cond) ∈ kAll := kq (i := 396) (by decide +kernel) rfl
theorem q397 : (.methodLink RL 126 yX2_advise : Cond) ∈ kAll := kq (i := 397) (by decide +kernel) rfl
theorem q398 : (.instanceMethod yX2_advise : Cond) ∈ kAll := kq (i := 398) (by decide +kernel) rfl
theorem q399 : (.selects RX2 yX2_advise yX2_advise : Cond) ∈ kAll := kq (i := 399) (by decide +kernel) rfl
theorem q400 : (.code yX2_advise cX2_advise 2 (some .int) : Cond) ∈ kAll := kq (i := 400) (by decide +kernel) rfl
theorem q401 : (.methodLink RX2 185 yX2_shortestDeadStroke : Cond) ∈ kAll := kq (i := 401) (by decide +kernel) rfl
theorem q403 : (.instanceMethod yX2_shortestDeadStroke : Cond) ∈ kAll := kq (i := 403) (by decide +kernel) rfl
theorem q404 : (.code yX2_shortestDeadStroke cX2_shortestDeadStroke 6 (some .int) : Cond) ∈ kAll := kq (i := 404) (by decide +kernel) rfl
theorem q405 : (.methodLink RL 108 yX2_digest : Cond) ∈ kAll := kq (i := 405) (by decide +kernel) rfl
theorem q406 : (.instanceMethod yX2_digest : Cond) ∈ kAll := kq (i := 406) (by decide +kernel) rfl
theorem q407 : (.selects RX2 yX2_digest yX2_digest : Cond) ∈ kAll := kq (i := 407) (by decide +kernel) rfl
theorem q408 : (.code yX2_digest cX2_digest 5 (some .long) : Cond) ∈ kAll := kq (i := 408) (by decide +kernel) rfl
theorem q409 : (.constantLong RX2 191 (1801) : Cond) ∈ kAll := kq (i := 409) (by decide +kernel) rfl
theorem q410 : (.constantLong RX2 193 (31) : Cond) ∈ kAll := kq (i := 410) (by decide +kernel) rfl
theorem q411 : (.methodLink RX2 195 yX2_count : Cond) ∈ kAll := kq (i := 411) (by decide +kernel) rfl
theorem q412 : (.methodLink RX2 198 yX2_told : Cond) ∈ kAll := kq (i := 412) (by decide +kernel) rfl
theorem q413 : (.methodLink RX2 202 yX2_ball : Cond) ∈ kAll := kq (i := 413) (by decide +kernel) rfl
theorem q414 : (.methodLink RX2 205 yX2_end : Cond) ∈ kAll := kq (i := 414) (by decide +kernel) rfl
theorem q415 : (.classLink RL 10 RX4 : Cond) ∈ kAll := kq (i := 415) (by decide +kernel) rfl
theorem q416 : (.instantiable RX4 11 : Cond) ∈ kAll := kq (i := 416) (by decide +kernel) rfl
theorem q418 : (.instanceMethod yX4_init : Cond) ∈ kAll := kq (i := 418) (by decide +kernel) rfl
theorem q419 : (.code yX4_init cX4_init 1 none : Cond) ∈ kAll := kq (i := 419) (by decide +kernel) rfl
theorem q420 : (.methodLink RX4 1 objectInit : Cond) ∈ kAll := kq (i := 420) (by decide +kernel) rfl
theorem q421 : (.classLink RX4 13 "[[I" : Cond) ∈ kAll := kq (i := 421) (by decide +kernel) rfl
theorem q423 : (.fieldLink RX4 38 RX4 "server" "I" : Cond) ∈ kAll := kq (i := 423) (by decide +kernel) rfl
theorem q424 : (.fieldLink RX4 7 RX4 "turn" "I" : Cond) ∈ kAll := kq (i := 424) (by decide +kernel) rfl
theorem q425 : (.fieldLink RX4 29 RX4 "strokes" "I" : Cond) ∈ kAll := kq (i := 425) (by decide +kernel) rfl
theorem q426 : (.fieldLink RX4 21 RX4 "ball" "LFivesCourtLaw$Ball;" : Cond) ∈ kAll := kq (i := 426) (by decide +kernel) rfl
theorem q427 : (.fieldLink RL 9 RX4 "ball" "LFivesCourtLaw$Ball;" : Cond) ∈ kAll := kq (i := 427) (by decide +kernel) rfl
theorem q428 : (.fieldLink RX4 15 RX4 "sides" "[[I" : Cond) ∈ kAll := kq (i := 428) (by decide +kernel) rfl
theorem q429 : (.fieldLink RL 58 RX4 "sides" "[[I" : Cond) ∈ kAll := kq (i := 429) (by decide +kernel) rfl
theorem q430 : (.fieldLink RX4 41 RX4 "rallies" "I" : Cond) ∈ kAll := kq (i := 430) (by decide +kernel) rfl
theorem q431 : (.fieldLink RX4 77 RX4 "lets" "I" : Cond) ∈ kAll := kq (i := 431) (by decide +kernel) rfl
theorem q432 : (.fieldLink RX4 47 RX4 "games" "I" : Cond) ∈ kAll := kq (i := 432) (by decide +kernel) rfl
theorem q433 : (.fieldLink RX4 18 RX4 "goal" "I" : Cond) ∈ kAll := kq (i := 433) (by decide +kernel) rfl
theorem q434 : (.fieldLink RL 62 RX4 "goal" "I" : Cond) ∈ kAll := kq (i := 434) (by decide +kernel) rfl
theorem q435 : (.fieldLink RX4 25 RX4 "wasSet" "Z" : Cond) ∈ kAll := kq (i := 435) (by decide +kernel) rfl
theorem q436 : (.fieldLink RL 54 RX4 "wasSet" "Z" : Cond) ∈ kAll := kq (i := 436) (by decide +kernel) rfl
theorem q437 : (.fieldLink RX4 44 RX4 "sum" "I" : Cond) ∈ kAll := kq (i := 437) (by decide +kernel) rfl
theorem q461 : (.arrayClass .int : Cond) ∈ kAll := kq (i := 461) (by decide +kernel) rfl
theorem q462 : (.methodLink RL 40 yX4_winner : Cond) ∈ kAll := kq (i := 462) (by decide +kernel) rfl
theorem q463 : (.instanceMethod yX4_winner : Cond) ∈ kAll := kq (i := 463) (by decide +kernel) rfl
theorem q464 : (.selects RX4 yX4_winner yX4_winner : Cond) ∈ kAll := kq (i := 464) (by decide +kernel) rfl
theorem q465 : (.code yX4_winner cX4_winner 1 (some .int) : Cond) ∈ kAll := kq (i := 465) (by decide +kernel) rfl
theorem q466 : (.methodLink RL 129 yX4_isSame : Cond) ∈ kAll := kq (i := 466) (by decide +kernel) rfl
theorem q467 : (.instanceMethod yX4_isSame : Cond) ∈ kAll := kq (i := 467) (by decide +kernel) rfl
theorem q468 : (.selects RX4 yX4_isSame yX4_isSame : Cond) ∈ kAll := kq (i := 468) (by decide +kernel) rfl
theorem q469 : (.code yX4_isSame cX4_isSame 4 (some .boolean) : Cond) ∈ kAll := kq (i := 469) (by decide +kernel) rfl
theorem q470 : (.methodLink RX4 87 yX2_count : Cond) ∈ kAll := kq (i := 470) (by decide +kernel) rfl
theorem q471 : (.methodLink RX4 92 yX4_counted : Cond) ∈ kAll := kq (i := 471) (by decide +kernel) rfl
theorem q472 : (.instanceMethod yX4_counted : Cond) ∈ kAll := kq (i := 472) (by decide +kernel) rfl
theorem q473 : (.selects RX4 yX4_counted yX4_counted : Cond) ∈ kAll := kq (i := 473) (by decide +kernel) rfl
theorem q474 : (.code yX4_counted cX4_counted 3 (some .int) : Cond) ∈ kAll := kq (i := 474) (by decide +kernel) rfl
theorem q475 : (.methodLink RX4 80 yX4_canSet : Cond) ∈ kAll := kq (i := 475) (by decide +kernel) rfl
theorem q476 : (.instanceMethod yX4_canSet : Cond) ∈ kAll := kq (i := 476) (by decide +kernel) rfl
theorem q477 : (.selects RX4 yX4_canSet yX4_canSet : Cond) ∈ kAll := kq (i := 477) (by decide +kernel) rfl
theorem q478 : (.code yX4_canSet cX4_canSet 1 (some .boolean) : Cond) ∈ kAll := kq (i := 478) (by decide +kernel) rfl
theorem q479 : (.methodLink RX4 84 yX4_winner : Cond) ∈ kAll := kq (i := 479) (by decide +kernel) rfl
theorem q480 : (.methodLink RX4 95 yX2_told : Cond) ∈ kAll := kq (i := 480) (by decide +kernel) rfl
theorem q481 : (.methodLink RX4 99 yX2_ball : Cond) ∈ kAll := kq (i := 481) (by decide +kernel) rfl
theorem q482 : (.methodLink RX4 101 yX3_told : Cond) ∈ kAll := kq (i := 482) (by decide +kernel) rfl
theorem q483 : (.instanceMethod yX3_told : Cond) ∈ kAll := kq (i := 483) (by decide +kernel) rfl
theorem q484 : (.selects RX3 yX3_told yX3_told : Cond) ∈ kAll := kq (i := 484) (by decide +kernel) rfl
theorem q485 : (.code yX3_told cX3_told 3 (some .int) : Cond) ∈ kAll := kq (i := 485) (by decide +kernel) rfl
theorem q486 : (.methodLink RX4 103 yX2_mean : Cond) ∈ kAll := kq (i := 486) (by decide +kernel) rfl
theorem q487 : (.instanceMethod yX2_mean : Cond) ∈ kAll := kq (i := 487) (by decide +kernel) rfl
theorem q488 : (.selects RX2 yX2_mean yX2_mean : Cond) ∈ kAll := kq (i := 488) (by decide +kernel) rfl
theorem q489 : (.code yX2_mean cX2_mean 1 (some .double) : Cond) ∈ kAll := kq (i := 489) (by decide +kernel) rfl
theorem q490 : (.methodLink RL 94 yL_cell : Cond) ∈ kAll := kq (i := 490) (by decide +kernel) rfl
theorem q491 : (.static yL_cell : Cond) ∈ kAll := kq (i := 491) (by decide +kernel) rfl
theorem q492 : (.code yL_cell cL_cell 2 (some .int) : Cond) ∈ kAll := kq (i := 492) (by decide +kernel) rfl
theorem q493 : (.constant RL 8 (790386105) : Cond) ∈ kAll := kq (i := 493) (by decide +kernel) rfl
theorem q494 : (.methodLink RL 83 yL_moments : Cond) ∈ kAll := kq (i := 494) (by decide +kernel) rfl
theorem q495 : (.static yL_moments : Cond) ∈ kAll := kq (i := 495) (by decide +kernel) rfl
theorem q496 : (.code yL_moments cL_moments 6 (some .int) : Cond) ∈ kAll := kq (i := 496) (by decide +kernel) rfl
theorem q497 : (.methodLink RL 15 yX3_copy : Cond) ∈ kAll := kq (i := 497) (by decide +kernel) rfl
theorem q498 : (.instanceMethod yX3_copy : Cond) ∈ kAll := kq (i := 498) (by decide +kernel) rfl
theorem q499 : (.selects RX3 yX3_copy yX3_copy : Cond) ∈ kAll := kq (i := 499) (by decide +kernel) rfl
theorem q500 : (.code yX3_copy cX3_copy 2 (Option.some (FieldType.object "FivesCourtLaw$Ball")) : Cond) ∈ kAll := kq (i := 500) (by decide +kernel) rfl
theorem q501 : (.methodLink RX3 29 yX3_of : Cond) ∈ kAll := kq (i := 501) (by decide +kernel) rfl
theorem q502 : (.static yX3_of : Cond) ∈ kAll := kq (i := 502) (by decide +kernel) rfl
theorem q503 : (.code yX3_of cX3_of 7 (Option.some (FieldType.object "FivesCourtLaw$Ball")) : Cond) ∈ kAll := kq (i := 503) (by decide +kernel) rfl
theorem q504 : (.classLink RX3 7 RX3 : Cond) ∈ kAll := kq (i := 504) (by decide +kernel) rfl
theorem q505 : (.instantiable RX3 10 : Cond) ∈ kAll := kq (i := 505) (by decide +kernel) rfl
theorem q506 : (.methodLink RX3 9 yX3_init : Cond) ∈ kAll := kq (i := 506) (by decide +kernel) rfl
theorem q507 : (.instanceMethod yX3_init : Cond) ∈ kAll := kq (i := 507) (by decide +kernel) rfl
theorem q508 : (.code yX3_init cX3_init 1 none : Cond) ∈ kAll := kq (i := 508) (by decide +kernel) rfl
theorem q509 : (.methodLink RX3 1 objectInit : Cond) ∈ kAll := kq (i := 509) (by decide +kernel) rfl
theorem q510 : (.fieldLink RX3 10 RX3 "x" "I" : Cond) ∈ kAll := kq (i := 510) (by decide +kernel) rfl
theorem q511 : (.fieldLink RX4 68 RX3 "x" "I" : Cond) ∈ kAll := kq (i := 511) (by decide +kernel) rfl
theorem q512 : (.fieldLink RX3 14 RX3 "y" "I" : Cond) ∈ kAll := kq (i := 512) (by decide +kernel) rfl
theorem q513 : (.fieldLink RX4 71 RX3 "y" "I" : Cond) ∈ kAll := kq (i := 513) (by decide +kernel) rfl
theorem q514 : (.fieldLink RX3 17 RX3 "high" "I" : Cond) ∈ kAll := kq (i := 514) (by decide +kernel) rfl
theorem q515 : (.fieldLink RX4 74 RX3 "high" "I" : Cond) ∈ kAll := kq (i := 515) (by decide +kernel) rfl
theorem q516 : (.fieldLink RX3 20 RX3 "across" "I" : Cond) ∈ kAll := kq (i := 516) (by decide +kernel) rfl
theorem q517 : (.fieldLink RX3 23 RX3 "along" "I" : Cond) ∈ kAll := kq (i := 517) (by decide +kernel) rfl
theorem q518 : (.fieldLink RX3 26 RX3 "rise" "I" : Cond) ∈ kAll := kq (i := 518) (by decide +kernel) rfl
theorem q519 : (.fieldLink RX3 33 RX3 "fronts" "I" : Cond) ∈ kAll := kq (i := 519) (by decide +kernel) rfl
theorem q520 : (.fieldLink RL 25 RX3 "fronts" "I" : Cond) ∈ kAll := kq (i := 520) (by decide +kernel) rfl
theorem q521 : (.fieldLink RX4 61 RX3 "fronts" "I" : Cond) ∈ kAll := kq (i := 521) (by decide +kernel) rfl
theorem q522 : (.fieldLink RX3 36 RX3 "bounces" "I" : Cond) ∈ kAll := kq (i := 522) (by decide +kernel) rfl
theorem q523 : (.fieldLink RX3 39 RX3 "touches" "I" : Cond) ∈ kAll := kq (i := 523) (by decide +kernel) rfl
theorem q524 : (.fieldLink RX3 42 RX3 "moments" "I" : Cond) ∈ kAll := kq (i := 524) (by decide +kernel) rfl
theorem q546 : (.methodLink RL 21 yX3_go : Cond) ∈ kAll := kq (i := 546) (by decide +kernel) rfl
theorem q547 : (.instanceMethod yX3_go : Cond) ∈ kAll := kq (i := 547) (by decide +kernel) rfl
theorem q548 : (.selects RX3 yX3_go yX3_go : Cond) ∈ kAll := kq (i := 548) (by decide +kernel) rfl
theorem q549 : (.code yX3_go cX3_go 4 (some .int) : Cond) ∈ kAll := kq (i := 549) (by decide +kernel) rfl
theorem q550 : (.methodLink RX3 45 yX3_isFree : Cond) ∈ kAll := kq (i := 550) (by decide +kernel) rfl
theorem q551 : (.static yX3_isFree : Cond) ∈ kAll := kq (i := 551) (by decide +kernel) rfl
theorem q552 : (.code yX3_isFree cX3_isFree 2 (some .boolean) : Cond) ∈ kAll := kq (i := 552) (by decide +kernel) rfl
theorem q553 : (.methodLink RL 29 yL_below : Cond) ∈ kAll := kq (i := 553) (by decide +kernel) rfl
theorem q554 : (.static yL_below : Cond) ∈ kAll := kq (i := 554) (by decide +kernel) rfl
theorem q555 : (.code yL_below cL_below 2 (some .int) : Cond) ∈ kAll := kq (i := 555) (by decide +kernel) rfl
theorem q556 : (.constant RL 7 (2147483647) : Cond) ∈ kAll := kq (i := 556) (by decide +kernel) rfl
theorem q557 : (.methodLink RL 35 yJ9_min_7cf53 : Cond) ∈ kAll := kq (i := 557) (by decide +kernel) rfl
theorem q558 : (.static yJ9_min_7cf53 : Cond) ∈ kAll := kq (i := 558) (by decide +kernel) rfl
theorem q559 : (.code yJ9_min_7cf53 cJ9_min_7cf53 2 (some .int) : Cond) ∈ kAll := kq (i := 559) (by decide +kernel) rfl
theorem q560 : (.methodLink RL 104 yL_act : Cond) ∈ kAll := kq (i := 560) (by decide +kernel) rfl
theorem q561 : (.static yL_act : Cond) ∈ kAll := kq (i := 561) (by decide +kernel) rfl
theorem q562 : (.codeWith yL_act cL_act 9 (some .boolean) [(185, 212, 213, 68)] : Cond) ∈ kAll := kq (i := 562) (by decide +kernel) rfl
theorem q563 : (.classLink RL 68 "java/lang/IllegalStateException" : Cond) ∈ kAll := kq (i := 563) (by decide +kernel) rfl
theorem q564 : (.methodLink RL 43 yX2_match : Cond) ∈ kAll := kq (i := 564) (by decide +kernel) rfl
theorem q565 : (.instanceMethod yX2_match : Cond) ∈ kAll := kq (i := 565) (by decide +kernel) rfl
theorem q566 : (.selects RX2 yX2_match yX2_match : Cond) ∈ kAll := kq (i := 566) (by decide +kernel) rfl
theorem q567 : (.code yX2_match cX2_match 3 (some .int) : Cond) ∈ kAll := kq (i := 567) (by decide +kernel) rfl
theorem q569 : (.methodLink RX2 131 yX2_closeRally : Cond) ∈ kAll := kq (i := 569) (by decide +kernel) rfl
theorem q571 : (.instanceMethod yX2_closeRally : Cond) ∈ kAll := kq (i := 571) (by decide +kernel) rfl
theorem q572 : (.code yX2_closeRally cX2_closeRally 1 none : Cond) ∈ kAll := kq (i := 572) (by decide +kernel) rfl
theorem q573 : (.methodLink RX2 134 yX2_beginGame : Cond) ∈ kAll := kq (i := 573) (by decide +kernel) rfl
theorem q575 : (.instanceMethod yX2_beginGame : Cond) ∈ kAll := kq (i := 575) (by decide +kernel) rfl
theorem q576 : (.code yX2_beginGame cX2_beginGame 1 none : Cond) ∈ kAll := kq (i := 576) (by decide +kernel) rfl
theorem q579 : (.instanceMethod yX1_beginMatch : Cond) ∈ kAll := kq (i := 579) (by decide +kernel) rfl
theorem q580 : (.code yX1_beginMatch cX1_beginMatch 1 none : Cond) ∈ kAll := kq (i := 580) (by decide +kernel) rfl
theorem q581 : (.methodLink RL 49 yX4_match : Cond) ∈ kAll := kq (i := 581) (by decide +kernel) rfl
theorem q582 : (.instanceMethod yX4_match : Cond) ∈ kAll := kq (i := 582) (by decide +kernel) rfl
theorem q583 : (.selects RX4 yX4_match yX4_match : Cond) ∈ kAll := kq (i := 583) (by decide +kernel) rfl
theorem q584 : (.code yX4_match cX4_match 3 (some .int) : Cond) ∈ kAll := kq (i := 584) (by decide +kernel) rfl
theorem q585 : (.methodLink RL 50 yX4_canSet : Cond) ∈ kAll := kq (i := 585) (by decide +kernel) rfl
theorem q586 : (.methodLink RL 65 yX2_set : Cond) ∈ kAll := kq (i := 586) (by decide +kernel) rfl
theorem q587 : (.instanceMethod yX2_set : Cond) ∈ kAll := kq (i := 587) (by decide +kernel) rfl
theorem q588 : (.selects RX2 yX2_set yX2_set : Cond) ∈ kAll := kq (i := 588) (by decide +kernel) rfl
theorem q589 : (.code yX2_set cX2_set 2 (some .int) : Cond) ∈ kAll := kq (i := 589) (by decide +kernel) rfl
theorem q591 : (.classLink RX2 64 "java/lang/IllegalStateException" : Cond) ∈ kAll := kq (i := 591) (by decide +kernel) rfl
theorem q592 : (.instantiable "java/lang/IllegalStateException" 6 : Cond) ∈ kAll := kq (i := 592) (by decide +kernel) rfl
theorem q607 : (.methodLink RL 70 yX2_serve : Cond) ∈ kAll := kq (i := 607) (by decide +kernel) rfl
theorem q608 : (.instanceMethod yX2_serve : Cond) ∈ kAll := kq (i := 608) (by decide +kernel) rfl
theorem q609 : (.selects RX2 yX2_serve yX2_serve : Cond) ∈ kAll := kq (i := 609) (by decide +kernel) rfl
theorem q610 : (.code yX2_serve cX2_serve 4 (some .int) : Cond) ∈ kAll := kq (i := 610) (by decide +kernel) rfl
theorem q612 : (.methodLink RX2 72 yX2_play : Cond) ∈ kAll := kq (i := 612) (by decide +kernel) rfl
theorem q614 : (.instanceMethod yX2_play : Cond) ∈ kAll := kq (i := 614) (by decide +kernel) rfl
theorem q615 : (.code yX2_play cX2_play 5 none : Cond) ∈ kAll := kq (i := 615) (by decide +kernel) rfl
theorem q616 : (.methodLink RL 74 yX4_serve : Cond) ∈ kAll := kq (i := 616) (by decide +kernel) rfl
theorem q617 : (.instanceMethod yX4_serve : Cond) ∈ kAll := kq (i := 617) (by decide +kernel) rfl
theorem q618 : (.selects RX4 yX4_serve yX4_serve : Cond) ∈ kAll := kq (i := 618) (by decide +kernel) rfl
theorem q619 : (.code yX4_serve cX4_serve 4 (some .int) : Cond) ∈ kAll := kq (i := 619) (by decide +kernel) rfl
theorem q620 : (.methodLink RX4 32 yX3_of : Cond) ∈ kAll := kq (i := 620) (by decide +kernel) rfl
theorem q621 : (.methodLink RL 75 yX2_leave : Cond) ∈ kAll := kq (i := 621) (by decide +kernel) rfl
theorem q622 : (.instanceMethod yX2_leave : Cond) ∈ kAll := kq (i := 622) (by decide +kernel) rfl
theorem q623 : (.selects RX2 yX2_leave yX2_leave : Cond) ∈ kAll := kq (i := 623) (by decide +kernel) rfl
theorem q624 : (.code yX2_leave cX2_leave 1 (some .int) : Cond) ∈ kAll := kq (i := 624) (by decide +kernel) rfl
theorem q626 : (.methodLink RX2 82 yX2_winnerByFlight : Cond) ∈ kAll := kq (i := 626) (by decide +kernel) rfl
theorem q628 : (.instanceMethod yX2_winnerByFlight : Cond) ∈ kAll := kq (i := 628) (by decide +kernel) rfl
theorem q629 : (.code yX2_winnerByFlight cX2_winnerByFlight 2 (some .int) : Cond) ∈ kAll := kq (i := 629) (by decide +kernel) rfl
theorem q630 : (.methodLink RX2 86 yX2_winRally : Cond) ∈ kAll := kq (i := 630) (by decide +kernel) rfl
theorem q632 : (.instanceMethod yX2_winRally : Cond) ∈ kAll := kq (i := 632) (by decide +kernel) rfl
theorem q633 : (.code yX2_winRally cX2_winRally 2 (some .int) : Cond) ∈ kAll := kq (i := 633) (by decide +kernel) rfl
theorem q634 : (.methodLink RX2 217 yX2_winPoint : Cond) ∈ kAll := kq (i := 634) (by decide +kernel) rfl
theorem q636 : (.instanceMethod yX2_winPoint : Cond) ∈ kAll := kq (i := 636) (by decide +kernel) rfl
theorem q637 : (.code yX2_winPoint cX2_winPoint 2 none : Cond) ∈ kAll := kq (i := 637) (by decide +kernel) rfl
theorem q638 : (.methodLink RX2 220 yX2_winGame : Cond) ∈ kAll := kq (i := 638) (by decide +kernel) rfl
theorem q640 : (.instanceMethod yX2_winGame : Cond) ∈ kAll := kq (i := 640) (by decide +kernel) rfl
theorem q641 : (.code yX2_winGame cX2_winGame 2 none : Cond) ∈ kAll := kq (i := 641) (by decide +kernel) rfl
theorem q642 : (.methodLink RL 78 yX4_leave : Cond) ∈ kAll := kq (i := 642) (by decide +kernel) rfl
theorem q643 : (.instanceMethod yX4_leave : Cond) ∈ kAll := kq (i := 643) (by decide +kernel) rfl
theorem q644 : (.selects RX4 yX4_leave yX4_leave : Cond) ∈ kAll := kq (i := 644) (by decide +kernel) rfl
theorem q645 : (.code yX4_leave cX4_leave 2 (some .int) : Cond) ∈ kAll := kq (i := 645) (by decide +kernel) rfl
theorem q646 : (.methodLink RX4 50 yX3_copy : Cond) ∈ kAll := kq (i := 646) (by decide +kernel) rfl
theorem q647 : (.methodLink RX4 54 yX3_go_ : Cond) ∈ kAll := kq (i := 647) (by decide +kernel) rfl
theorem q648 : (.instanceMethod yX3_go_ : Cond) ∈ kAll := kq (i := 648) (by decide +kernel) rfl
theorem q649 : (.selects RX3 yX3_go_ yX3_go_ : Cond) ∈ kAll := kq (i := 649) (by decide +kernel) rfl
theorem q650 : (.code yX3_go_ cX3_go_ 4 (some .int) : Cond) ∈ kAll := kq (i := 650) (by decide +kernel) rfl
theorem q651 : (.methodLink RX3 49 yX3_go : Cond) ∈ kAll := kq (i := 651) (by decide +kernel) rfl
theorem q652 : (.methodLink RX4 58 yX4_over : Cond) ∈ kAll := kq (i := 652) (by decide +kernel) rfl
theorem q654 : (.instanceMethod yX4_over : Cond) ∈ kAll := kq (i := 654) (by decide +kernel) rfl
theorem q655 : (.code yX4_over cX4_over 3 (some .int) : Cond) ∈ kAll := kq (i := 655) (by decide +kernel) rfl
theorem q656 : (.methodLink RL 79 yX2_let : Cond) ∈ kAll := kq (i := 656) (by decide +kernel) rfl
theorem q657 : (.instanceMethod yX2_let : Cond) ∈ kAll := kq (i := 657) (by decide +kernel) rfl
theorem q658 : (.selects RX2 yX2_let yX2_let : Cond) ∈ kAll := kq (i := 658) (by decide +kernel) rfl
theorem q659 : (.code yX2_let cX2_let 2 (some .int) : Cond) ∈ kAll := kq (i := 659) (by decide +kernel) rfl
theorem q660 : (.methodLink RX2 97 yX2_replayRally : Cond) ∈ kAll := kq (i := 660) (by decide +kernel) rfl
theorem q662 : (.instanceMethod yX2_replayRally : Cond) ∈ kAll := kq (i := 662) (by decide +kernel) rfl
theorem q663 : (.code yX2_replayRally cX2_replayRally 1 none : Cond) ∈ kAll := kq (i := 663) (by decide +kernel) rfl
theorem q664 : (.methodLink RL 82 yX4_let : Cond) ∈ kAll := kq (i := 664) (by decide +kernel) rfl
theorem q665 : (.instanceMethod yX4_let : Cond) ∈ kAll := kq (i := 665) (by decide +kernel) rfl
theorem q666 : (.selects RX4 yX4_let yX4_let : Cond) ∈ kAll := kq (i := 666) (by decide +kernel) rfl
theorem q667 : (.code yX4_let cX4_let 1 (some .int) : Cond) ∈ kAll := kq (i := 667) (by decide +kernel) rfl
theorem q668 : (.methodLink RL 87 yX2_strike : Cond) ∈ kAll := kq (i := 668) (by decide +kernel) rfl
theorem q669 : (.instanceMethod yX2_strike : Cond) ∈ kAll := kq (i := 669) (by decide +kernel) rfl
theorem q670 : (.selects RX2 yX2_strike yX2_strike : Cond) ∈ kAll := kq (i := 670) (by decide +kernel) rfl
theorem q671 : (.code yX2_strike cX2_strike 5 (some .int) : Cond) ∈ kAll := kq (i := 671) (by decide +kernel) rfl
theorem q672 : (.methodLink RL 91 yX4_strike : Cond) ∈ kAll := kq (i := 672) (by decide +kernel) rfl
theorem q673 : (.instanceMethod yX4_strike : Cond) ∈ kAll := kq (i := 673) (by decide +kernel) rfl
theorem q674 : (.selects RX4 yX4_strike yX4_strike : Cond) ∈ kAll := kq (i := 674) (by decide +kernel) rfl
theorem q675 : (.code yX4_strike cX4_strike 7 (some .int) : Cond) ∈ kAll := kq (i := 675) (by decide +kernel) rfl
theorem q676 : (.methodLink RX4 64 yX4_let : Cond) ∈ kAll := kq (i := 676) (by decide +kernel) rfl
theorem q677 : (.methodLink RL 120 yJ9_abs_0f7a4 : Cond) ∈ kAll := kq (i := 677) (by decide +kernel) rfl
theorem iwX0 : ∀ w ∈ u_ws RX0 TX0 11, w ∈ kAll := kq_r [99, 101, 103, 105, 107, 109, 111, 113, 115, 117, 119] (by decide +kernel) (by decide +kernel)
theorem iwX1 : ∀ w ∈ u_ws RX1 TX1 4, w ∈ kAll := kq_r [70, 72, 74, 76] (by decide +kernel) (by decide +kernel)
theorem iwX2 : ∀ w ∈ u_ws RX2 TX2 15, w ∈ kAll := kq_r [137, 139, 141, 143, 145, 147, 149, 151, 153, 155, 157, 159, 161, 163, 165] (by decide +kernel) (by decide +kernel)
theorem iwX3 : ∀ w ∈ u_ws RX3 TX3 10, w ∈ kAll := kq_r [525, 527, 529, 531, 533, 535, 537, 539, 541, 543] (by decide +kernel) (by decide +kernel)
theorem iwX4 : ∀ w ∈ u_ws RX4 TX4 11, w ∈ kAll := kq_r [438, 440, 442, 444, 446, 448, 450, 452, 454, 456, 458] (by decide +kernel) (by decide +kernel)
