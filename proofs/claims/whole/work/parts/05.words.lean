/-! the words that every method of this proof needs: the tables' own, those of them that stay true when methods run -/
def kAll : List Cond := lw_tbl.filter goodWord
theorem kq {i : Nat} {w : Cond} (h : lw_tbl[i]? = some w) (g : goodWord w = true) : w ∈ kAll := List.mem_filter.mpr ⟨List.mem_of_getElem? h, g⟩
theorem kAll_tbl {w : Cond} (h : w ∈ kAll) : w ∈ lw_tbl := (List.mem_filter.mp h).1
theorem kAll_good {w : Cond} (h : w ∈ kAll) : goodWord w = true := (List.mem_filter.mp h).2
theorem kG : GoodIn kAll kAll := fun _ h => ⟨h, good_of_word (kAll_good h)⟩
theorem kq_r {ws : List Cond} (ps : List Nat) (hp : ws = ps.filterMap (fun i => lw_tbl[i]?)) (h : ws.all goodWord = true) : ∀ w ∈ ws, w ∈ kAll := fun w hw => List.mem_filter.mpr ⟨(goodIn_r (big := lw_tbl) ws ps hp h w hw).1, List.all_eq_true.mp h w hw⟩

theorem q0 : (.selects RX2 yX2_sideToStrike yX2_sideToStrike : Cond) ∈ kAll := kq (i := 0) (by decide +kernel) rfl
theorem q1 : (.selects RX2 yX2_canBeSet yX2_canBeSet : Cond) ∈ kAll := kq (i := 1) (by decide +kernel) rfl
theorem q3 : (.selects RX2 yX2_sideOf yX2_sideOf : Cond) ∈ kAll := kq (i := 3) (by decide +kernel) rfl
theorem q4 : (.selects RX1 yX1_part yX1_part : Cond) ∈ kAll := kq (i := 4) (by decide +kernel) rfl
theorem q5 : (.selects RX0 yX0_part yX0_part : Cond) ∈ kAll := kq (i := 5) (by decide +kernel) rfl
theorem q6 : (.selects RX0 yX0_endPart yX0_endPart : Cond) ∈ kAll := kq (i := 6) (by decide +kernel) rfl
theorem q7 : (.selects RX2 yX2_isMatchOver yX2_isMatchOver : Cond) ∈ kAll := kq (i := 7) (by decide +kernel) rfl
theorem q8 : (.selects RX0 yX0_placeToServe yX0_placeToServe : Cond) ∈ kAll := kq (i := 8) (by decide +kernel) rfl
theorem q9 : (.selects RX2 yX2_play yX2_play : Cond) ∈ kAll := kq (i := 9) (by decide +kernel) rfl
theorem q10 : (.selects RX0 yX0_launch yX0_launch : Cond) ∈ kAll := kq (i := 10) (by decide +kernel) rfl
theorem q11 : (.selects RX0 yX0_become yX0_become : Cond) ∈ kAll := kq (i := 11) (by decide +kernel) rfl
theorem q12 : (.selects RX0 yX0_fly yX0_fly : Cond) ∈ kAll := kq (i := 12) (by decide +kernel) rfl
theorem q13 : (.selects RX0 yX0_passMoment yX0_passMoment : Cond) ∈ kAll := kq (i := 13) (by decide +kernel) rfl
theorem q14 : (.selects RX0 yX0_goAcross yX0_goAcross : Cond) ∈ kAll := kq (i := 14) (by decide +kernel) rfl
theorem q15 : (.selects RX0 yX0_goAlong yX0_goAlong : Cond) ∈ kAll := kq (i := 15) (by decide +kernel) rfl
theorem q16 : (.selects RX0 yX0_goOneRow yX0_goOneRow : Cond) ∈ kAll := kq (i := 16) (by decide +kernel) rfl
theorem q17 : (.selects RX0 yX0_touchFront yX0_touchFront : Cond) ∈ kAll := kq (i := 17) (by decide +kernel) rfl
theorem q18 : (.selects RX0 yX0_goUpOrDown yX0_goUpOrDown : Cond) ∈ kAll := kq (i := 18) (by decide +kernel) rfl
theorem q19 : (.selects RX0 yX0_bounce yX0_bounce : Cond) ∈ kAll := kq (i := 19) (by decide +kernel) rfl
theorem q20 : (.selects RX2 yX2_isEndedBy yX2_isEndedBy : Cond) ∈ kAll := kq (i := 20) (by decide +kernel) rfl
theorem q21 : (.selects RX2 yX2_winnerByFlight yX2_winnerByFlight : Cond) ∈ kAll := kq (i := 21) (by decide +kernel) rfl
theorem q22 : (.selects RX2 yX2_winRally yX2_winRally : Cond) ∈ kAll := kq (i := 22) (by decide +kernel) rfl
theorem q23 : (.selects RX2 yX2_closeRally yX2_closeRally : Cond) ∈ kAll := kq (i := 23) (by decide +kernel) rfl
theorem q24 : (.selects RX2 yX2_winPoint yX2_winPoint : Cond) ∈ kAll := kq (i := 24) (by decide +kernel) rfl
theorem q25 : (.selects RX2 yX2_winGame yX2_winGame : Cond) ∈ kAll := kq (i := 25) (by decide +kernel) rfl
theorem q26 : (.selects RX2 yX2_beginGame yX2_beginGame : Cond) ∈ kAll := kq (i := 26) (by decide +kernel) rfl
theorem q27 : (.selects RX2 yX2_lookAhead yX2_lookAhead : Cond) ∈ kAll := kq (i := 27) (by decide +kernel) rfl
theorem q28 : (.selects RX2 yX2_replayRally yX2_replayRally : Cond) ∈ kAll := kq (i := 28) (by decide +kernel) rfl
theorem q29 : (.selects RX1 yX1_beginMatch yX1_beginMatch : Cond) ∈ kAll := kq (i := 29) (by decide +kernel) rfl
theorem q30 : (.selects RX2 yX2_placeAhead yX2_placeAhead : Cond) ∈ kAll := kq (i := 30) (by decide +kernel) rfl
theorem q31 : (.selects RX2 yX2_tryStroke yX2_tryStroke : Cond) ∈ kAll := kq (i := 31) (by decide +kernel) rfl
theorem q32 : (.selects RX2 yX2_shortestDeadStroke yX2_shortestDeadStroke : Cond) ∈ kAll := kq (i := 32) (by decide +kernel) rfl
theorem q33 : (.selects RX3 yX3_no yX3_no : Cond) ∈ kAll := kq (i := 33) (by decide +kernel) rfl
theorem q34 : (.selects RX3 yX3_winner yX3_winner : Cond) ∈ kAll := kq (i := 34) (by decide +kernel) rfl
theorem q35 : (.selects RX3 yX3_putToServe yX3_putToServe : Cond) ∈ kAll := kq (i := 35) (by decide +kernel) rfl
theorem q36 : (.selects RX3 yX3_hit yX3_hit : Cond) ∈ kAll := kq (i := 36) (by decide +kernel) rfl
theorem q37 : (.selects RX3 yX3_keepStroke yX3_keepStroke : Cond) ∈ kAll := kq (i := 37) (by decide +kernel) rfl
theorem q38 : (.selects RX3 yX3_flyOn yX3_flyOn : Cond) ∈ kAll := kq (i := 38) (by decide +kernel) rfl
theorem q39 : (.selects RX3 yX3_look yX3_look : Cond) ∈ kAll := kq (i := 39) (by decide +kernel) rfl
theorem q40 : (.selects RX3 yX3_moment yX3_moment : Cond) ∈ kAll := kq (i := 40) (by decide +kernel) rfl
theorem q41 : (.selects RX3 yX3_goAcross yX3_goAcross : Cond) ∈ kAll := kq (i := 41) (by decide +kernel) rfl
theorem q42 : (.selects RX3 yX3_goAlong yX3_goAlong : Cond) ∈ kAll := kq (i := 42) (by decide +kernel) rfl
theorem q43 : (.selects RX3 yX3_fall yX3_fall : Cond) ∈ kAll := kq (i := 43) (by decide +kernel) rfl
theorem q44 : (.selects RX3 yX3_win yX3_win : Cond) ∈ kAll := kq (i := 44) (by decide +kernel) rfl
theorem q45 : (.selects RX3 yX3_winGame yX3_winGame : Cond) ∈ kAll := kq (i := 45) (by decide +kernel) rfl
theorem q46 : (.selects RX3 yX3_endByLet yX3_endByLet : Cond) ∈ kAll := kq (i := 46) (by decide +kernel) rfl
theorem q47 : (.selects RX3 yX3_fullFlight yX3_fullFlight : Cond) ∈ kAll := kq (i := 47) (by decide +kernel) rfl
theorem q48 : (.selects RX3 yX3_finish yX3_finish : Cond) ∈ kAll := kq (i := 48) (by decide +kernel) rfl
theorem q49 : (.selects RX3 yX3_canSet yX3_canSet : Cond) ∈ kAll := kq (i := 49) (by decide +kernel) rfl
theorem q50 : (.selects RX3 yX3_ballTold yX3_ballTold : Cond) ∈ kAll := kq (i := 50) (by decide +kernel) rfl
theorem q51 : (.selects RX3 yX3_sideTold yX3_sideTold : Cond) ∈ kAll := kq (i := 51) (by decide +kernel) rfl
theorem q52 : (.selects RX3 yX3_counted yX3_counted : Cond) ∈ kAll := kq (i := 52) (by decide +kernel) rfl
theorem q53 : (.selects RX3 yX3_endTold yX3_endTold : Cond) ∈ kAll := kq (i := 53) (by decide +kernel) rfl
theorem q54 : (.selects RX3 yX3_endOf yX3_endOf : Cond) ∈ kAll := kq (i := 54) (by decide +kernel) rfl
theorem q55 : (.selects RX3 yX3_comes yX3_comes : Cond) ∈ kAll := kq (i := 55) (by decide +kernel) rfl
theorem q56 : (.selects RX3 yX3_bestAt yX3_bestAt : Cond) ∈ kAll := kq (i := 56) (by decide +kernel) rfl
theorem q57 : (.initialized RL : Cond) ∈ kAll := kq (i := 57) (by decide +kernel) rfl
theorem q58 : (.initialized RX2 : Cond) ∈ kAll := kq (i := 58) (by decide +kernel) rfl
theorem q59 : (.initialized RX1 : Cond) ∈ kAll := kq (i := 59) (by decide +kernel) rfl
theorem q60 : (.initialized RX0 : Cond) ∈ kAll := kq (i := 60) (by decide +kernel) rfl
theorem q61 : (.initialized RX3 : Cond) ∈ kAll := kq (i := 61) (by decide +kernel) rfl
theorem q62 : (.initialized "java/lang/Throwable" : Cond) ∈ kAll := kq (i := 62) (by decide +kernel) rfl
theorem q63 : (.initialized "java/lang/Exception" : Cond) ∈ kAll := kq (i := 63) (by decide +kernel) rfl
theorem q64 : (.initialized "java/lang/RuntimeException" : Cond) ∈ kAll := kq (i := 64) (by decide +kernel) rfl
theorem q65 : (.initialized "java/lang/IllegalArgumentException" : Cond) ∈ kAll := kq (i := 65) (by decide +kernel) rfl
theorem q66 : (.initialized "java/lang/IllegalStateException" : Cond) ∈ kAll := kq (i := 66) (by decide +kernel) rfl
theorem q67 : (.initialized RJ9 : Cond) ∈ kAll := kq (i := 67) (by decide +kernel) rfl
theorem q68 : (.initialized RJ6 : Cond) ∈ kAll := kq (i := 68) (by decide +kernel) rfl
theorem q69 : (.initialized "java/lang/System" : Cond) ∈ kAll := kq (i := 69) (by decide +kernel) rfl
theorem q70 : (.initialized "java/lang/IndexOutOfBoundsException" : Cond) ∈ kAll := kq (i := 70) (by decide +kernel) rfl
theorem q71 : (.classLink RL 8 RX2 : Cond) ∈ kAll := kq (i := 71) (by decide +kernel) rfl
theorem q72 : (.instantiable RX2 15 : Cond) ∈ kAll := kq (i := 72) (by decide +kernel) rfl
theorem q73 : (.methodLink RL 59 yX2_init : Cond) ∈ kAll := kq (i := 73) (by decide +kernel) rfl
theorem q74 : (.instanceMethod yX2_init : Cond) ∈ kAll := kq (i := 74) (by decide +kernel) rfl
theorem q75 : (.code yX2_init cX2_init 1 none : Cond) ∈ kAll := kq (i := 75) (by decide +kernel) rfl
theorem q76 : (.methodLink RX2 1 objectInit : Cond) ∈ kAll := kq (i := 76) (by decide +kernel) rfl
theorem q77 : (.instanceMethod objectInit : Cond) ∈ kAll := kq (i := 77) (by decide +kernel) rfl
theorem q78 : (.code objectInit ⟨#[0xb1]⟩ 1 none : Cond) ∈ kAll := kq (i := 78) (by decide +kernel) rfl
theorem q79 : (.classLink RX2 7 RX1 : Cond) ∈ kAll := kq (i := 79) (by decide +kernel) rfl
theorem q80 : (.instantiable RX1 4 : Cond) ∈ kAll := kq (i := 80) (by decide +kernel) rfl
theorem q82 : (.instanceMethod yX1_init : Cond) ∈ kAll := kq (i := 82) (by decide +kernel) rfl
theorem q83 : (.code yX1_init cX1_init 1 none : Cond) ∈ kAll := kq (i := 83) (by decide +kernel) rfl
theorem q84 : (.methodLink RX1 1 objectInit : Cond) ∈ kAll := kq (i := 84) (by decide +kernel) rfl
theorem q85 : (.fieldLink RX1 7 RX1 "points" "I" : Cond) ∈ kAll := kq (i := 85) (by decide +kernel) rfl
theorem q87 : (.fieldLink RX1 13 RX1 "games" "I" : Cond) ∈ kAll := kq (i := 87) (by decide +kernel) rfl
theorem q89 : (.fieldLink RX1 16 RX1 "rallies" "I" : Cond) ∈ kAll := kq (i := 89) (by decide +kernel) rfl
theorem q91 : (.fieldLink RX1 19 RX1 "strokes" "I" : Cond) ∈ kAll := kq (i := 91) (by decide +kernel) rfl
theorem q102 : (.classLink RX2 19 RX0 : Cond) ∈ kAll := kq (i := 102) (by decide +kernel) rfl
theorem q103 : (.instantiable RX0 11 : Cond) ∈ kAll := kq (i := 103) (by decide +kernel) rfl
theorem q105 : (.instanceMethod yX0_init : Cond) ∈ kAll := kq (i := 105) (by decide +kernel) rfl
theorem q106 : (.code yX0_init cX0_init 1 none : Cond) ∈ kAll := kq (i := 106) (by decide +kernel) rfl
theorem q107 : (.methodLink RX0 3 objectInit : Cond) ∈ kAll := kq (i := 107) (by decide +kernel) rfl
theorem q108 : (.fieldLink RX0 9 RX0 "column" "I" : Cond) ∈ kAll := kq (i := 108) (by decide +kernel) rfl
theorem q109 : (.fieldLink RX0 15 RX0 "row" "I" : Cond) ∈ kAll := kq (i := 109) (by decide +kernel) rfl
theorem q110 : (.fieldLink RX0 18 RX0 "height" "I" : Cond) ∈ kAll := kq (i := 110) (by decide +kernel) rfl
theorem q111 : (.fieldLink RX0 21 RX0 "across" "I" : Cond) ∈ kAll := kq (i := 111) (by decide +kernel) rfl
theorem q112 : (.fieldLink RX0 24 RX0 "along" "I" : Cond) ∈ kAll := kq (i := 112) (by decide +kernel) rfl
theorem q113 : (.fieldLink RX0 27 RX0 "rise" "I" : Cond) ∈ kAll := kq (i := 113) (by decide +kernel) rfl
theorem q114 : (.fieldLink RX0 30 RX0 "fronts" "I" : Cond) ∈ kAll := kq (i := 114) (by decide +kernel) rfl
theorem q116 : (.fieldLink RX0 33 RX0 "bounces" "I" : Cond) ∈ kAll := kq (i := 116) (by decide +kernel) rfl
theorem q117 : (.fieldLink RX0 36 RX0 "touches" "I" : Cond) ∈ kAll := kq (i := 117) (by decide +kernel) rfl
theorem q118 : (.fieldLink RX0 39 RX0 "moments" "I" : Cond) ∈ kAll := kq (i := 118) (by decide +kernel) rfl
theorem q120 : (.fieldLink RX0 42 RX0 "ending" "I" : Cond) ∈ kAll := kq (i := 120) (by decide +kernel) rfl
theorem q145 : (.fieldLink RX2 10 RX2 "first" "LFivesCourt$Side;" : Cond) ∈ kAll := kq (i := 145) (by decide +kernel) rfl
theorem q146 : (.fieldLink RX2 16 RX2 "second" "LFivesCourt$Side;" : Cond) ∈ kAll := kq (i := 146) (by decide +kernel) rfl
theorem q147 : (.fieldLink RX2 22 RX2 "struck" "LFivesCourt$Ball;" : Cond) ∈ kAll := kq (i := 147) (by decide +kernel) rfl
theorem q148 : (.fieldLink RX2 26 RX2 "ended" "LFivesCourt$Ball;" : Cond) ∈ kAll := kq (i := 148) (by decide +kernel) rfl
theorem q149 : (.fieldLink RX2 29 RX2 "ahead" "LFivesCourt$Ball;" : Cond) ∈ kAll := kq (i := 149) (by decide +kernel) rfl
theorem q150 : (.fieldLink RX2 32 RX2 "tried" "LFivesCourt$Ball;" : Cond) ∈ kAll := kq (i := 150) (by decide +kernel) rfl
theorem q151 : (.fieldLink RX2 35 RX2 "server" "I" : Cond) ∈ kAll := kq (i := 151) (by decide +kernel) rfl
theorem q152 : (.fieldLink RX2 56 RX2 "rallying" "Z" : Cond) ∈ kAll := kq (i := 152) (by decide +kernel) rfl
theorem q153 : (.fieldLink RX2 107 RX2 "strokes" "I" : Cond) ∈ kAll := kq (i := 153) (by decide +kernel) rfl
theorem q154 : (.fieldLink RX2 39 RX2 "goal" "I" : Cond) ∈ kAll := kq (i := 154) (by decide +kernel) rfl
theorem q155 : (.fieldLink RX2 42 RX2 "matchWinner" "I" : Cond) ∈ kAll := kq (i := 155) (by decide +kernel) rfl
theorem q156 : (.fieldLink RX2 152 RX2 "wonRallies" "I" : Cond) ∈ kAll := kq (i := 156) (by decide +kernel) rfl
theorem q157 : (.fieldLink RX2 188 RX2 "wonStrokes" "I" : Cond) ∈ kAll := kq (i := 157) (by decide +kernel) rfl
theorem q158 : (.fieldLink RX2 155 RX2 "lets" "I" : Cond) ∈ kAll := kq (i := 158) (by decide +kernel) rfl
theorem q159 : (.fieldLink RX2 158 RX2 "wonGames" "I" : Cond) ∈ kAll := kq (i := 159) (by decide +kernel) rfl
theorem q191 : (.methodLink RL 112 yX2_mean : Cond) ∈ kAll := kq (i := 191) (by decide +kernel) rfl
theorem q192 : (.instanceMethod yX2_mean : Cond) ∈ kAll := kq (i := 192) (by decide +kernel) rfl
theorem q193 : (.selects RX2 yX2_mean yX2_mean : Cond) ∈ kAll := kq (i := 193) (by decide +kernel) rfl
theorem q194 : (.code yX2_mean cX2_mean 1 (some .double) : Cond) ∈ kAll := kq (i := 194) (by decide +kernel) rfl
theorem q195 : (.methodLink RL 117 yX2_digest : Cond) ∈ kAll := kq (i := 195) (by decide +kernel) rfl
theorem q196 : (.instanceMethod yX2_digest : Cond) ∈ kAll := kq (i := 196) (by decide +kernel) rfl
theorem q197 : (.selects RX2 yX2_digest yX2_digest : Cond) ∈ kAll := kq (i := 197) (by decide +kernel) rfl
theorem q198 : (.code yX2_digest cX2_digest 5 (some .long) : Cond) ∈ kAll := kq (i := 198) (by decide +kernel) rfl
theorem q199 : (.constantLong RX2 191 (1801) : Cond) ∈ kAll := kq (i := 199) (by decide +kernel) rfl
theorem q200 : (.constantLong RX2 193 (31) : Cond) ∈ kAll := kq (i := 200) (by decide +kernel) rfl
theorem q201 : (.methodLink RX2 195 yX2_count : Cond) ∈ kAll := kq (i := 201) (by decide +kernel) rfl
theorem q202 : (.instanceMethod yX2_count : Cond) ∈ kAll := kq (i := 202) (by decide +kernel) rfl
theorem q203 : (.selects RX2 yX2_count yX2_count : Cond) ∈ kAll := kq (i := 203) (by decide +kernel) rfl
theorem q204 : (.code yX2_count cX2_count 2 (some .int) : Cond) ∈ kAll := kq (i := 204) (by decide +kernel) rfl
theorem q205 : (.methodLink RX2 104 yX2_sideToStrike : Cond) ∈ kAll := kq (i := 205) (by decide +kernel) rfl
theorem q207 : (.instanceMethod yX2_sideToStrike : Cond) ∈ kAll := kq (i := 207) (by decide +kernel) rfl
theorem q208 : (.code yX2_sideToStrike cX2_sideToStrike 1 (some .int) : Cond) ∈ kAll := kq (i := 208) (by decide +kernel) rfl
theorem q209 : (.methodLink RX2 211 yX2_otherSide : Cond) ∈ kAll := kq (i := 209) (by decide +kernel) rfl
theorem q210 : (.static yX2_otherSide : Cond) ∈ kAll := kq (i := 210) (by decide +kernel) rfl
theorem q211 : (.code yX2_otherSide cX2_otherSide 1 (some .int) : Cond) ∈ kAll := kq (i := 211) (by decide +kernel) rfl
theorem q212 : (.methodLink RX2 112 yX2_canBeSet : Cond) ∈ kAll := kq (i := 212) (by decide +kernel) rfl
theorem q214 : (.instanceMethod yX2_canBeSet : Cond) ∈ kAll := kq (i := 214) (by decide +kernel) rfl
theorem q215 : (.code yX2_canBeSet cX2_canBeSet 1 (some .boolean) : Cond) ∈ kAll := kq (i := 215) (by decide +kernel) rfl
theorem q216 : (.classLink RX2 123 "java/lang/IndexOutOfBoundsException" : Cond) ∈ kAll := kq (i := 216) (by decide +kernel) rfl
theorem q217 : (.instantiable "java/lang/IndexOutOfBoundsException" 6 : Cond) ∈ kAll := kq (i := 217) (by decide +kernel) rfl
theorem q237 : (.fieldLink "java/lang/Throwable" 198 "java/lang/Throwable" "backtrace" "Ljava/lang/Object;" : Cond) ∈ kAll := kq (i := 237) (by decide +kernel) rfl
theorem q241 : (.methodLink "java/lang/Throwable" 1 objectInit : Cond) ∈ kAll := kq (i := 241) (by decide +kernel) rfl
theorem q242 : (.fieldLink "java/lang/Throwable" 13 "java/lang/Throwable" "UNASSIGNED_STACK" "[Ljava/lang/StackTraceElement;" : Cond) ∈ kAll := kq (i := 242) (by decide +kernel) rfl
theorem q244 : (.fieldLink "java/lang/Throwable" 20 "java/lang/Throwable" "SUPPRESSED_SENTINEL" "Ljava/util/List;" : Cond) ∈ kAll := kq (i := 244) (by decide +kernel) rfl
theorem q255 : (.instantiable "java/lang/Throwable" 6 : Cond) ∈ kAll := kq (i := 255) (by decide +kernel) rfl
theorem q271 : (.fieldLink "java/lang/Throwable" 31 "java/lang/Throwable" "detailMessage" "Ljava/lang/String;" : Cond) ∈ kAll := kq (i := 271) (by decide +kernel) rfl
theorem q272 : (.fieldLink "java/lang/Throwable" 7 "java/lang/Throwable" "cause" "Ljava/lang/Throwable;" : Cond) ∈ kAll := kq (i := 272) (by decide +kernel) rfl
theorem q273 : (.fieldLink "java/lang/Throwable" 17 "java/lang/Throwable" "stackTrace" "[Ljava/lang/StackTraceElement;" : Cond) ∈ kAll := kq (i := 273) (by decide +kernel) rfl
theorem q274 : (.fieldLink "java/lang/Throwable" 24 "java/lang/Throwable" "suppressedExceptions" "Ljava/util/List;" : Cond) ∈ kAll := kq (i := 274) (by decide +kernel) rfl
theorem q284 : (.methodLink RX2 198 yX2_told : Cond) ∈ kAll := kq (i := 284) (by decide +kernel) rfl
theorem q285 : (.instanceMethod yX2_told : Cond) ∈ kAll := kq (i := 285) (by decide +kernel) rfl
theorem q286 : (.selects RX2 yX2_told yX2_told : Cond) ∈ kAll := kq (i := 286) (by decide +kernel) rfl
theorem q287 : (.code yX2_told cX2_told 3 (some .int) : Cond) ∈ kAll := kq (i := 287) (by decide +kernel) rfl
theorem q288 : (.methodLink RX2 120 yX2_isSide : Cond) ∈ kAll := kq (i := 288) (by decide +kernel) rfl
theorem q289 : (.static yX2_isSide : Cond) ∈ kAll := kq (i := 289) (by decide +kernel) rfl
theorem q290 : (.code yX2_isSide cX2_isSide 1 (some .boolean) : Cond) ∈ kAll := kq (i := 290) (by decide +kernel) rfl
theorem q292 : (.methodLink RX2 147 yX2_sideOf : Cond) ∈ kAll := kq (i := 292) (by decide +kernel) rfl
theorem q294 : (.instanceMethod yX2_sideOf : Cond) ∈ kAll := kq (i := 294) (by decide +kernel) rfl
theorem q295 : (.code yX2_sideOf cX2_sideOf 2 (Option.some (FieldType.object "FivesCourt$Side")) : Cond) ∈ kAll := kq (i := 295) (by decide +kernel) rfl
theorem q298 : (.instanceMethod yX1_part : Cond) ∈ kAll := kq (i := 298) (by decide +kernel) rfl
theorem q299 : (.code yX1_part cX1_part 2 (some .int) : Cond) ∈ kAll := kq (i := 299) (by decide +kernel) rfl
theorem q300 : (.methodLink RX2 202 yX2_ball : Cond) ∈ kAll := kq (i := 300) (by decide +kernel) rfl
theorem q301 : (.instanceMethod yX2_ball : Cond) ∈ kAll := kq (i := 301) (by decide +kernel) rfl
theorem q302 : (.selects RX2 yX2_ball yX2_ball : Cond) ∈ kAll := kq (i := 302) (by decide +kernel) rfl
theorem q303 : (.code yX2_ball cX2_ball 2 (some .int) : Cond) ∈ kAll := kq (i := 303) (by decide +kernel) rfl
theorem q307 : (.instanceMethod yX0_part : Cond) ∈ kAll := kq (i := 307) (by decide +kernel) rfl
theorem q308 : (.code yX0_part cX0_part 2 (some .int) : Cond) ∈ kAll := kq (i := 308) (by decide +kernel) rfl
theorem q309 : (.methodLink RX2 205 yX2_end : Cond) ∈ kAll := kq (i := 309) (by decide +kernel) rfl
theorem q310 : (.instanceMethod yX2_end : Cond) ∈ kAll := kq (i := 310) (by decide +kernel) rfl
theorem q311 : (.selects RX2 yX2_end yX2_end : Cond) ∈ kAll := kq (i := 311) (by decide +kernel) rfl
theorem q312 : (.code yX2_end cX2_end 2 (some .int) : Cond) ∈ kAll := kq (i := 312) (by decide +kernel) rfl
theorem q316 : (.instanceMethod yX0_endPart : Cond) ∈ kAll := kq (i := 316) (by decide +kernel) rfl
theorem q317 : (.code yX0_endPart cX0_endPart 2 (some .int) : Cond) ∈ kAll := kq (i := 317) (by decide +kernel) rfl
theorem q318 : (.methodLink RL 63 yL_serve : Cond) ∈ kAll := kq (i := 318) (by decide +kernel) rfl
theorem q319 : (.static yL_serve : Cond) ∈ kAll := kq (i := 319) (by decide +kernel) rfl
theorem q320 : (.codeWith yL_serve cL_serve 6 (some .int) [(0, 12, 15, 13), (0, 12, 19, 15)] : Cond) ∈ kAll := kq (i := 320) (by decide +kernel) rfl
theorem q321 : (.classLink RL 13 "java/lang/IllegalArgumentException" : Cond) ∈ kAll := kq (i := 321) (by decide +kernel) rfl
theorem q322 : (.classLink RL 15 "java/lang/IllegalStateException" : Cond) ∈ kAll := kq (i := 322) (by decide +kernel) rfl
theorem q323 : (.methodLink RL 7 yX2_serve : Cond) ∈ kAll := kq (i := 323) (by decide +kernel) rfl
theorem q324 : (.instanceMethod yX2_serve : Cond) ∈ kAll := kq (i := 324) (by decide +kernel) rfl
theorem q325 : (.selects RX2 yX2_serve yX2_serve : Cond) ∈ kAll := kq (i := 325) (by decide +kernel) rfl
theorem q326 : (.code yX2_serve cX2_serve 4 (some .int) : Cond) ∈ kAll := kq (i := 326) (by decide +kernel) rfl
theorem q327 : (.methodLink RX2 45 yX2_isStroke : Cond) ∈ kAll := kq (i := 327) (by decide +kernel) rfl
theorem q328 : (.static yX2_isStroke : Cond) ∈ kAll := kq (i := 328) (by decide +kernel) rfl
theorem q329 : (.code yX2_isStroke cX2_isStroke 3 (some .boolean) : Cond) ∈ kAll := kq (i := 329) (by decide +kernel) rfl
theorem q330 : (.methodLink RX2 208 yX2_isWay : Cond) ∈ kAll := kq (i := 330) (by decide +kernel) rfl
theorem q331 : (.static yX2_isWay : Cond) ∈ kAll := kq (i := 331) (by decide +kernel) rfl
theorem q332 : (.code yX2_isWay cX2_isWay 1 (some .boolean) : Cond) ∈ kAll := kq (i := 332) (by decide +kernel) rfl
theorem q333 : (.classLink RX2 49 "java/lang/IllegalArgumentException" : Cond) ∈ kAll := kq (i := 333) (by decide +kernel) rfl
theorem q334 : (.instantiable "java/lang/IllegalArgumentException" 6 : Cond) ∈ kAll := kq (i := 334) (by decide +kernel) rfl
theorem q349 : (.methodLink RX2 60 yX2_isMatchOver : Cond) ∈ kAll := kq (i := 349) (by decide +kernel) rfl
theorem q351 : (.instanceMethod yX2_isMatchOver : Cond) ∈ kAll := kq (i := 351) (by decide +kernel) rfl
theorem q352 : (.code yX2_isMatchOver cX2_isMatchOver 1 (some .boolean) : Cond) ∈ kAll := kq (i := 352) (by decide +kernel) rfl
theorem q353 : (.classLink RX2 64 "java/lang/IllegalStateException" : Cond) ∈ kAll := kq (i := 353) (by decide +kernel) rfl
theorem q354 : (.instantiable "java/lang/IllegalStateException" 6 : Cond) ∈ kAll := kq (i := 354) (by decide +kernel) rfl
theorem q371 : (.instanceMethod yX0_placeToServe : Cond) ∈ kAll := kq (i := 371) (by decide +kernel) rfl
theorem q372 : (.code yX0_placeToServe cX0_placeToServe 1 none : Cond) ∈ kAll := kq (i := 372) (by decide +kernel) rfl
theorem q373 : (.methodLink RX2 72 yX2_play : Cond) ∈ kAll := kq (i := 373) (by decide +kernel) rfl
theorem q375 : (.instanceMethod yX2_play : Cond) ∈ kAll := kq (i := 375) (by decide +kernel) rfl
theorem q376 : (.code yX2_play cX2_play 5 none : Cond) ∈ kAll := kq (i := 376) (by decide +kernel) rfl
theorem q379 : (.instanceMethod yX0_launch : Cond) ∈ kAll := kq (i := 379) (by decide +kernel) rfl
theorem q380 : (.code yX0_launch cX0_launch 4 none : Cond) ∈ kAll := kq (i := 380) (by decide +kernel) rfl
theorem q381 : (.methodLink RX0 45 yJ9_max_7cf53 : Cond) ∈ kAll := kq (i := 381) (by decide +kernel) rfl
theorem q382 : (.static yJ9_max_7cf53 : Cond) ∈ kAll := kq (i := 382) (by decide +kernel) rfl
theorem q383 : (.code yJ9_max_7cf53 cJ9_max_7cf53 2 (some .int) : Cond) ∈ kAll := kq (i := 383) (by decide +kernel) rfl
theorem q386 : (.instanceMethod yX0_become : Cond) ∈ kAll := kq (i := 386) (by decide +kernel) rfl
theorem q387 : (.code yX0_become cX0_become 2 none : Cond) ∈ kAll := kq (i := 387) (by decide +kernel) rfl
theorem q388 : (.constant RX2 178 (1000000) : Cond) ∈ kAll := kq (i := 388) (by decide +kernel) rfl
theorem q391 : (.instanceMethod yX0_fly : Cond) ∈ kAll := kq (i := 391) (by decide +kernel) rfl
theorem q392 : (.code yX0_fly cX0_fly 3 none : Cond) ∈ kAll := kq (i := 392) (by decide +kernel) rfl
theorem q393 : (.methodLink RX0 51 yX0_passMoment : Cond) ∈ kAll := kq (i := 393) (by decide +kernel) rfl
theorem q395 : (.instanceMethod yX0_passMoment : Cond) ∈ kAll := kq (i := 395) (by decide +kernel) rfl
theorem q396 : (.code yX0_passMoment cX0_passMoment 1 none : Cond) ∈ kAll := kq (i := 396) (by decide +kernel) rfl
theorem q397 : (.methodLink RX0 54 yX0_goAcross : Cond) ∈ kAll := kq (i := 397) (by decide +kernel) rfl
theorem q399 : (.instanceMethod yX0_goAcross : Cond) ∈ kAll := kq (i := 399) (by decide +kernel) rfl
theorem q400 : (.code yX0_goAcross cX0_goAcross 4 none : Cond) ∈ kAll := kq (i := 400) (by decide +kernel) rfl
theorem q401 : (.methodLink RX0 63 yJ9_abs_0f7a4 : Cond) ∈ kAll := kq (i := 401) (by decide +kernel) rfl
theorem q402 : (.static yJ9_abs_0f7a4 : Cond) ∈ kAll := kq (i := 402) (by decide +kernel) rfl
theorem q403 : (.code yJ9_abs_0f7a4 cJ9_abs_0f7a4 1 (some .int) : Cond) ∈ kAll := kq (i := 403) (by decide +kernel) rfl
theorem q404 : (.methodLink RX0 67 yJ6_signum_0f7a4 : Cond) ∈ kAll := kq (i := 404) (by decide +kernel) rfl
theorem q405 : (.static yJ6_signum_0f7a4 : Cond) ∈ kAll := kq (i := 405) (by decide +kernel) rfl
theorem q406 : (.code yJ6_signum_0f7a4 cJ6_signum_0f7a4 1 (some .int) : Cond) ∈ kAll := kq (i := 406) (by decide +kernel) rfl
theorem q407 : (.methodLink RX0 72 yX0_isButtress : Cond) ∈ kAll := kq (i := 407) (by decide +kernel) rfl
theorem q408 : (.static yX0_isButtress : Cond) ∈ kAll := kq (i := 408) (by decide +kernel) rfl
theorem q409 : (.code yX0_isButtress cX0_isButtress 2 (some .boolean) : Cond) ∈ kAll := kq (i := 409) (by decide +kernel) rfl
theorem q410 : (.methodLink RX0 57 yX0_goAlong : Cond) ∈ kAll := kq (i := 410) (by decide +kernel) rfl
theorem q412 : (.instanceMethod yX0_goAlong : Cond) ∈ kAll := kq (i := 412) (by decide +kernel) rfl
theorem q413 : (.code yX0_goAlong cX0_goAlong 3 none : Cond) ∈ kAll := kq (i := 413) (by decide +kernel) rfl
theorem q414 : (.methodLink RX0 76 yX0_goOneRow : Cond) ∈ kAll := kq (i := 414) (by decide +kernel) rfl
theorem q416 : (.instanceMethod yX0_goOneRow : Cond) ∈ kAll := kq (i := 416) (by decide +kernel) rfl
theorem q417 : (.code yX0_goOneRow cX0_goOneRow 2 none : Cond) ∈ kAll := kq (i := 417) (by decide +kernel) rfl
theorem q418 : (.methodLink RX0 79 yX0_touchFront : Cond) ∈ kAll := kq (i := 418) (by decide +kernel) rfl
theorem q420 : (.instanceMethod yX0_touchFront : Cond) ∈ kAll := kq (i := 420) (by decide +kernel) rfl
theorem q421 : (.code yX0_touchFront cX0_touchFront 1 none : Cond) ∈ kAll := kq (i := 421) (by decide +kernel) rfl
theorem q422 : (.methodLink RX0 60 yX0_goUpOrDown : Cond) ∈ kAll := kq (i := 422) (by decide +kernel) rfl
theorem q424 : (.instanceMethod yX0_goUpOrDown : Cond) ∈ kAll := kq (i := 424) (by decide +kernel) rfl
theorem q425 : (.code yX0_goUpOrDown cX0_goUpOrDown 1 none : Cond) ∈ kAll := kq (i := 425) (by decide +kernel) rfl
theorem q426 : (.methodLink RX0 82 yX0_bounce : Cond) ∈ kAll := kq (i := 426) (by decide +kernel) rfl
theorem q428 : (.instanceMethod yX0_bounce : Cond) ∈ kAll := kq (i := 428) (by decide +kernel) rfl
theorem q429 : (.code yX0_bounce cX0_bounce 1 none : Cond) ∈ kAll := kq (i := 429) (by decide +kernel) rfl
theorem q430 : (.methodLink RL 72 yL_strike : Cond) ∈ kAll := kq (i := 430) (by decide +kernel) rfl
theorem q431 : (.static yL_strike : Cond) ∈ kAll := kq (i := 431) (by decide +kernel) rfl
theorem q432 : (.codeWith yL_strike cL_strike 7 (some .int) [(0, 14, 17, 13), (0, 14, 21, 15)] : Cond) ∈ kAll := kq (i := 432) (by decide +kernel) rfl
theorem q433 : (.methodLink RL 17 yX2_strike : Cond) ∈ kAll := kq (i := 433) (by decide +kernel) rfl
theorem q434 : (.instanceMethod yX2_strike : Cond) ∈ kAll := kq (i := 434) (by decide +kernel) rfl
theorem q435 : (.selects RX2 yX2_strike yX2_strike : Cond) ∈ kAll := kq (i := 435) (by decide +kernel) rfl
theorem q436 : (.code yX2_strike cX2_strike 5 (some .int) : Cond) ∈ kAll := kq (i := 436) (by decide +kernel) rfl
theorem q438 : (.methodLink RX2 78 yX2_isEndedBy : Cond) ∈ kAll := kq (i := 438) (by decide +kernel) rfl
theorem q440 : (.instanceMethod yX2_isEndedBy : Cond) ∈ kAll := kq (i := 440) (by decide +kernel) rfl
theorem q441 : (.code yX2_isEndedBy cX2_isEndedBy 2 (some .boolean) : Cond) ∈ kAll := kq (i := 441) (by decide +kernel) rfl
theorem q442 : (.methodLink RX2 82 yX2_winnerByFlight : Cond) ∈ kAll := kq (i := 442) (by decide +kernel) rfl
theorem q444 : (.instanceMethod yX2_winnerByFlight : Cond) ∈ kAll := kq (i := 444) (by decide +kernel) rfl
theorem q445 : (.code yX2_winnerByFlight cX2_winnerByFlight 2 (some .int) : Cond) ∈ kAll := kq (i := 445) (by decide +kernel) rfl
theorem q446 : (.methodLink RX2 86 yX2_winRally : Cond) ∈ kAll := kq (i := 446) (by decide +kernel) rfl
theorem q448 : (.instanceMethod yX2_winRally : Cond) ∈ kAll := kq (i := 448) (by decide +kernel) rfl
theorem q449 : (.code yX2_winRally cX2_winRally 2 (some .int) : Cond) ∈ kAll := kq (i := 449) (by decide +kernel) rfl
theorem q450 : (.methodLink RX2 131 yX2_closeRally : Cond) ∈ kAll := kq (i := 450) (by decide +kernel) rfl
theorem q452 : (.instanceMethod yX2_closeRally : Cond) ∈ kAll := kq (i := 452) (by decide +kernel) rfl
theorem q453 : (.code yX2_closeRally cX2_closeRally 1 none : Cond) ∈ kAll := kq (i := 453) (by decide +kernel) rfl
theorem q454 : (.methodLink RX2 217 yX2_winPoint : Cond) ∈ kAll := kq (i := 454) (by decide +kernel) rfl
theorem q456 : (.instanceMethod yX2_winPoint : Cond) ∈ kAll := kq (i := 456) (by decide +kernel) rfl
theorem q457 : (.code yX2_winPoint cX2_winPoint 2 none : Cond) ∈ kAll := kq (i := 457) (by decide +kernel) rfl
theorem q458 : (.methodLink RX2 220 yX2_winGame : Cond) ∈ kAll := kq (i := 458) (by decide +kernel) rfl
theorem q460 : (.instanceMethod yX2_winGame : Cond) ∈ kAll := kq (i := 460) (by decide +kernel) rfl
theorem q461 : (.code yX2_winGame cX2_winGame 2 none : Cond) ∈ kAll := kq (i := 461) (by decide +kernel) rfl
theorem q462 : (.methodLink RX2 134 yX2_beginGame : Cond) ∈ kAll := kq (i := 462) (by decide +kernel) rfl
theorem q464 : (.instanceMethod yX2_beginGame : Cond) ∈ kAll := kq (i := 464) (by decide +kernel) rfl
theorem q465 : (.code yX2_beginGame cX2_beginGame 1 none : Cond) ∈ kAll := kq (i := 465) (by decide +kernel) rfl
theorem q466 : (.methodLink RX2 90 yX2_lookAhead : Cond) ∈ kAll := kq (i := 466) (by decide +kernel) rfl
theorem q468 : (.instanceMethod yX2_lookAhead : Cond) ∈ kAll := kq (i := 468) (by decide +kernel) rfl
theorem q469 : (.code yX2_lookAhead cX2_lookAhead 2 none : Cond) ∈ kAll := kq (i := 469) (by decide +kernel) rfl
theorem q470 : (.methodLink RX2 97 yX2_replayRally : Cond) ∈ kAll := kq (i := 470) (by decide +kernel) rfl
theorem q472 : (.instanceMethod yX2_replayRally : Cond) ∈ kAll := kq (i := 472) (by decide +kernel) rfl
theorem q473 : (.code yX2_replayRally cX2_replayRally 1 none : Cond) ∈ kAll := kq (i := 473) (by decide +kernel) rfl
theorem q474 : (.methodLink RL 76 yL_leave : Cond) ∈ kAll := kq (i := 474) (by decide +kernel) rfl
theorem q475 : (.static yL_leave : Cond) ∈ kAll := kq (i := 475) (by decide +kernel) rfl
theorem q476 : (.codeWith yL_leave cL_leave 3 (some .int) [(0, 8, 11, 15)] : Cond) ∈ kAll := kq (i := 476) (by decide +kernel) rfl
theorem q477 : (.methodLink RL 21 yX2_leave : Cond) ∈ kAll := kq (i := 477) (by decide +kernel) rfl
theorem q478 : (.instanceMethod yX2_leave : Cond) ∈ kAll := kq (i := 478) (by decide +kernel) rfl
theorem q479 : (.selects RX2 yX2_leave yX2_leave : Cond) ∈ kAll := kq (i := 479) (by decide +kernel) rfl
theorem q480 : (.code yX2_leave cX2_leave 1 (some .int) : Cond) ∈ kAll := kq (i := 480) (by decide +kernel) rfl
theorem q481 : (.methodLink RL 80 yL_let : Cond) ∈ kAll := kq (i := 481) (by decide +kernel) rfl
theorem q482 : (.static yL_let : Cond) ∈ kAll := kq (i := 482) (by decide +kernel) rfl
theorem q483 : (.codeWith yL_let cL_let 3 (some .int) [(0, 8, 11, 15)] : Cond) ∈ kAll := kq (i := 483) (by decide +kernel) rfl
theorem q484 : (.methodLink RL 25 yX2_let : Cond) ∈ kAll := kq (i := 484) (by decide +kernel) rfl
theorem q485 : (.instanceMethod yX2_let : Cond) ∈ kAll := kq (i := 485) (by decide +kernel) rfl
theorem q486 : (.selects RX2 yX2_let yX2_let : Cond) ∈ kAll := kq (i := 486) (by decide +kernel) rfl
theorem q487 : (.code yX2_let cX2_let 2 (some .int) : Cond) ∈ kAll := kq (i := 487) (by decide +kernel) rfl
theorem q488 : (.methodLink RL 83 yL_set : Cond) ∈ kAll := kq (i := 488) (by decide +kernel) rfl
theorem q489 : (.static yL_set : Cond) ∈ kAll := kq (i := 489) (by decide +kernel) rfl
theorem q490 : (.codeWith yL_set cL_set 4 (some .int) [(0, 9, 12, 13), (0, 9, 15, 15)] : Cond) ∈ kAll := kq (i := 490) (by decide +kernel) rfl
theorem q491 : (.methodLink RL 28 yX2_set : Cond) ∈ kAll := kq (i := 491) (by decide +kernel) rfl
theorem q492 : (.instanceMethod yX2_set : Cond) ∈ kAll := kq (i := 492) (by decide +kernel) rfl
theorem q493 : (.selects RX2 yX2_set yX2_set : Cond) ∈ kAll := kq (i := 493) (by decide +kernel) rfl
theorem q494 : (.code yX2_set cX2_set 2 (some .int) : Cond) ∈ kAll := kq (i := 494) (by decide +kernel) rfl
theorem q497 : (.methodLink RL 87 yL_match : Cond) ∈ kAll := kq (i := 497) (by decide +kernel) rfl
theorem q498 : (.static yL_match : Cond) ∈ kAll := kq (i := 498) (by decide +kernel) rfl
theorem q499 : (.codeWith yL_match cL_match 4 (some .int) [(0, 9, 12, 35)] : Cond) ∈ kAll := kq (i := 499) (by decide +kernel) rfl
theorem q500 : (.classLink RL 35 "java/lang/IndexOutOfBoundsException" : Cond) ∈ kAll := kq (i := 500) (by decide +kernel) rfl
theorem q501 : (.methodLink RL 32 yX2_match : Cond) ∈ kAll := kq (i := 501) (by decide +kernel) rfl
theorem q502 : (.instanceMethod yX2_match : Cond) ∈ kAll := kq (i := 502) (by decide +kernel) rfl
theorem q503 : (.selects RX2 yX2_match yX2_match : Cond) ∈ kAll := kq (i := 503) (by decide +kernel) rfl
theorem q504 : (.code yX2_match cX2_match 3 (some .int) : Cond) ∈ kAll := kq (i := 504) (by decide +kernel) rfl
theorem q508 : (.instanceMethod yX1_beginMatch : Cond) ∈ kAll := kq (i := 508) (by decide +kernel) rfl
theorem q509 : (.code yX1_beginMatch cX1_beginMatch 1 none : Cond) ∈ kAll := kq (i := 509) (by decide +kernel) rfl
theorem q510 : (.methodLink RL 90 yL_ball : Cond) ∈ kAll := kq (i := 510) (by decide +kernel) rfl
theorem q511 : (.static yL_ball : Cond) ∈ kAll := kq (i := 511) (by decide +kernel) rfl
theorem q512 : (.codeWith yL_ball cL_ball 4 (some .int) [(0, 9, 12, 35)] : Cond) ∈ kAll := kq (i := 512) (by decide +kernel) rfl
theorem q513 : (.methodLink RL 37 yX2_ball : Cond) ∈ kAll := kq (i := 513) (by decide +kernel) rfl
theorem q514 : (.methodLink RL 93 yL_told : Cond) ∈ kAll := kq (i := 514) (by decide +kernel) rfl
theorem q515 : (.static yL_told : Cond) ∈ kAll := kq (i := 515) (by decide +kernel) rfl
theorem q516 : (.codeWith yL_told cL_told 5 (some .int) [(0, 10, 13, 35)] : Cond) ∈ kAll := kq (i := 516) (by decide +kernel) rfl
theorem q517 : (.methodLink RL 40 yX2_told : Cond) ∈ kAll := kq (i := 517) (by decide +kernel) rfl
theorem q518 : (.methodLink RL 97 yL_count : Cond) ∈ kAll := kq (i := 518) (by decide +kernel) rfl
theorem q519 : (.static yL_count : Cond) ∈ kAll := kq (i := 519) (by decide +kernel) rfl
theorem q520 : (.codeWith yL_count cL_count 4 (some .int) [(0, 9, 12, 35)] : Cond) ∈ kAll := kq (i := 520) (by decide +kernel) rfl
theorem q521 : (.methodLink RL 44 yX2_count : Cond) ∈ kAll := kq (i := 521) (by decide +kernel) rfl
theorem q522 : (.methodLink RL 100 yL_flight : Cond) ∈ kAll := kq (i := 522) (by decide +kernel) rfl
theorem q523 : (.static yL_flight : Cond) ∈ kAll := kq (i := 523) (by decide +kernel) rfl
theorem q524 : (.codeWith yL_flight cL_flight 5 (some .int) [(0, 10, 13, 13), (0, 10, 17, 35)] : Cond) ∈ kAll := kq (i := 524) (by decide +kernel) rfl
theorem q525 : (.methodLink RL 47 yX2_flight : Cond) ∈ kAll := kq (i := 525) (by decide +kernel) rfl
theorem q526 : (.instanceMethod yX2_flight : Cond) ∈ kAll := kq (i := 526) (by decide +kernel) rfl
theorem q527 : (.selects RX2 yX2_flight yX2_flight : Cond) ∈ kAll := kq (i := 527) (by decide +kernel) rfl
theorem q528 : (.code yX2_flight cX2_flight 3 (some .int) : Cond) ∈ kAll := kq (i := 528) (by decide +kernel) rfl
theorem q529 : (.methodLink RX2 163 yX2_isLookAhead : Cond) ∈ kAll := kq (i := 529) (by decide +kernel) rfl
theorem q530 : (.static yX2_isLookAhead : Cond) ∈ kAll := kq (i := 530) (by decide +kernel) rfl
theorem q531 : (.code yX2_isLookAhead cX2_isLookAhead 1 (some .boolean) : Cond) ∈ kAll := kq (i := 531) (by decide +kernel) rfl
theorem q534 : (.methodLink RL 103 yL_end : Cond) ∈ kAll := kq (i := 534) (by decide +kernel) rfl
theorem q535 : (.static yL_end : Cond) ∈ kAll := kq (i := 535) (by decide +kernel) rfl
theorem q536 : (.codeWith yL_end cL_end 4 (some .int) [(0, 9, 12, 35)] : Cond) ∈ kAll := kq (i := 536) (by decide +kernel) rfl
theorem q537 : (.methodLink RL 50 yX2_end : Cond) ∈ kAll := kq (i := 537) (by decide +kernel) rfl
theorem q538 : (.methodLink RL 106 yL_would : Cond) ∈ kAll := kq (i := 538) (by decide +kernel) rfl
theorem q539 : (.static yL_would : Cond) ∈ kAll := kq (i := 539) (by decide +kernel) rfl
theorem q540 : (.codeWith yL_would cL_would 7 (some .int) [(0, 14, 17, 13)] : Cond) ∈ kAll := kq (i := 540) (by decide +kernel) rfl
theorem q541 : (.methodLink RL 53 yX2_would : Cond) ∈ kAll := kq (i := 541) (by decide +kernel) rfl
theorem q542 : (.instanceMethod yX2_would : Cond) ∈ kAll := kq (i := 542) (by decide +kernel) rfl
theorem q543 : (.selects RX2 yX2_would yX2_would : Cond) ∈ kAll := kq (i := 543) (by decide +kernel) rfl
theorem q544 : (.code yX2_would cX2_would 5 (some .int) : Cond) ∈ kAll := kq (i := 544) (by decide +kernel) rfl
theorem q545 : (.methodLink RX2 175 yX2_placeAhead : Cond) ∈ kAll := kq (i := 545) (by decide +kernel) rfl
theorem q547 : (.instanceMethod yX2_placeAhead : Cond) ∈ kAll := kq (i := 547) (by decide +kernel) rfl
theorem q548 : (.code yX2_placeAhead cX2_placeAhead 2 (some .boolean) : Cond) ∈ kAll := kq (i := 548) (by decide +kernel) rfl
theorem q549 : (.methodLink RX2 179 yX2_tryStroke : Cond) ∈ kAll := kq (i := 549) (by decide +kernel) rfl
theorem q551 : (.instanceMethod yX2_tryStroke : Cond) ∈ kAll := kq (i := 551) (by decide +kernel) rfl
theorem q552 : (.code yX2_tryStroke cX2_tryStroke 5 none : Cond) ∈ kAll := kq (i := 552) (by decide +kernel) rfl
theorem q553 : (.methodLink RL 109 yL_advise : Cond) ∈ kAll := kq (i := 553) (by decide +kernel) rfl
theorem q554 : (.static yL_advise : Cond) ∈ kAll := kq (i := 554) (by decide +kernel) rfl
theorem q555 : (.codeWith yL_advise cL_advise 4 (some .int) [(0, 9, 12, 13)] : Cond) ∈ kAll := kq (i := 555) (by decide +kernel) rfl
theorem q556 : (.methodLink RL 56 yX2_advise : Cond) ∈ kAll := kq (i := 556) (by decide +kernel) rfl
theorem q557 : (.instanceMethod yX2_advise : Cond) ∈ kAll := kq (i := 557) (by decide +kernel) rfl
theorem q558 : (.selects RX2 yX2_advise yX2_advise : Cond) ∈ kAll := kq (i := 558) (by decide +kernel) rfl
theorem q559 : (.code yX2_advise cX2_advise 2 (some .int) : Cond) ∈ kAll := kq (i := 559) (by decide +kernel) rfl
theorem q560 : (.methodLink RX2 185 yX2_shortestDeadStroke : Cond) ∈ kAll := kq (i := 560) (by decide +kernel) rfl
theorem q562 : (.instanceMethod yX2_shortestDeadStroke : Cond) ∈ kAll := kq (i := 562) (by decide +kernel) rfl
theorem q563 : (.code yX2_shortestDeadStroke cX2_shortestDeadStroke 6 (some .int) : Cond) ∈ kAll := kq (i := 563) (by decide +kernel) rfl
theorem q564 : (.classLink RL 60 RX3 : Cond) ∈ kAll := kq (i := 564) (by decide +kernel) rfl
theorem q565 : (.instantiable RX3 18 : Cond) ∈ kAll := kq (i := 565) (by decide +kernel) rfl
theorem q566 : (.methodLink RL 62 yX3_init : Cond) ∈ kAll := kq (i := 566) (by decide +kernel) rfl
theorem q567 : (.instanceMethod yX3_init : Cond) ∈ kAll := kq (i := 567) (by decide +kernel) rfl
theorem q568 : (.code yX3_init cX3_init 1 none : Cond) ∈ kAll := kq (i := 568) (by decide +kernel) rfl
theorem q569 : (.methodLink RX3 1 objectInit : Cond) ∈ kAll := kq (i := 569) (by decide +kernel) rfl
theorem q570 : (.fieldLink RX3 32 RX3 "thrown" "I" : Cond) ∈ kAll := kq (i := 570) (by decide +kernel) rfl
theorem q571 : (.fieldLink RX3 98 RX3 "server" "I" : Cond) ∈ kAll := kq (i := 571) (by decide +kernel) rfl
theorem q572 : (.fieldLink RX3 101 RX3 "isOn" "Z" : Cond) ∈ kAll := kq (i := 572) (by decide +kernel) rfl
theorem q573 : (.fieldLink RX3 88 RX3 "turn" "I" : Cond) ∈ kAll := kq (i := 573) (by decide +kernel) rfl
theorem q574 : (.fieldLink RX3 85 RX3 "strokes" "I" : Cond) ∈ kAll := kq (i := 574) (by decide +kernel) rfl
theorem q575 : (.fieldLink RX3 9 RX3 "struck" "[I" : Cond) ∈ kAll := kq (i := 575) (by decide +kernel) rfl
theorem q576 : (.fieldLink RX3 13 RX3 "points" "[I" : Cond) ∈ kAll := kq (i := 576) (by decide +kernel) rfl
theorem q577 : (.fieldLink RX3 16 RX3 "games" "[I" : Cond) ∈ kAll := kq (i := 577) (by decide +kernel) rfl
theorem q578 : (.fieldLink RX3 19 RX3 "won" "[I" : Cond) ∈ kAll := kq (i := 578) (by decide +kernel) rfl
theorem q579 : (.fieldLink RX3 22 RX3 "played" "[I" : Cond) ∈ kAll := kq (i := 579) (by decide +kernel) rfl
theorem q580 : (.fieldLink RX3 104 RX3 "rallies" "I" : Cond) ∈ kAll := kq (i := 580) (by decide +kernel) rfl
theorem q581 : (.fieldLink RX3 114 RX3 "lets" "I" : Cond) ∈ kAll := kq (i := 581) (by decide +kernel) rfl
theorem q582 : (.fieldLink RX3 91 RX3 "allGames" "I" : Cond) ∈ kAll := kq (i := 582) (by decide +kernel) rfl
theorem q583 : (.fieldLink RX3 25 RX3 "target" "I" : Cond) ∈ kAll := kq (i := 583) (by decide +kernel) rfl
theorem q584 : (.fieldLink RX3 94 RX3 "isSet" "Z" : Cond) ∈ kAll := kq (i := 584) (by decide +kernel) rfl
theorem q585 : (.fieldLink RX3 107 RX3 "inWon" "I" : Cond) ∈ kAll := kq (i := 585) (by decide +kernel) rfl
theorem q586 : (.fieldLink RX3 29 RX3 "ball" "[I" : Cond) ∈ kAll := kq (i := 586) (by decide +kernel) rfl
theorem q587 : (.fieldLink RX3 52 RX3 "moments" "I" : Cond) ∈ kAll := kq (i := 587) (by decide +kernel) rfl
theorem q625 : (.arrayClass .int : Cond) ∈ kAll := kq (i := 625) (by decide +kernel) rfl
theorem q626 : (.methodLink RL 69 yX3_thrown : Cond) ∈ kAll := kq (i := 626) (by decide +kernel) rfl
theorem q627 : (.instanceMethod yX3_thrown : Cond) ∈ kAll := kq (i := 627) (by decide +kernel) rfl
theorem q628 : (.selects RX3 yX3_thrown yX3_thrown : Cond) ∈ kAll := kq (i := 628) (by decide +kernel) rfl
theorem q629 : (.code yX3_thrown cX3_thrown 1 (some .int) : Cond) ∈ kAll := kq (i := 629) (by decide +kernel) rfl
theorem q630 : (.methodLink RL 68 yX3_serve : Cond) ∈ kAll := kq (i := 630) (by decide +kernel) rfl
theorem q631 : (.instanceMethod yX3_serve : Cond) ∈ kAll := kq (i := 631) (by decide +kernel) rfl
theorem q632 : (.selects RX3 yX3_serve yX3_serve : Cond) ∈ kAll := kq (i := 632) (by decide +kernel) rfl
theorem q633 : (.code yX3_serve cX3_serve 4 (some .int) : Cond) ∈ kAll := kq (i := 633) (by decide +kernel) rfl
theorem q634 : (.methodLink RX3 120 yX3_isStroke : Cond) ∈ kAll := kq (i := 634) (by decide +kernel) rfl
theorem q635 : (.static yX3_isStroke : Cond) ∈ kAll := kq (i := 635) (by decide +kernel) rfl
theorem q636 : (.code yX3_isStroke cX3_isStroke 3 (some .boolean) : Cond) ∈ kAll := kq (i := 636) (by decide +kernel) rfl
theorem q637 : (.methodLink RX3 35 yX3_isIn : Cond) ∈ kAll := kq (i := 637) (by decide +kernel) rfl
theorem q638 : (.static yX3_isIn : Cond) ∈ kAll := kq (i := 638) (by decide +kernel) rfl
theorem q639 : (.code yX3_isIn cX3_isIn 3 (some .boolean) : Cond) ∈ kAll := kq (i := 639) (by decide +kernel) rfl
theorem q640 : (.methodLink RX3 123 yX3_no : Cond) ∈ kAll := kq (i := 640) (by decide +kernel) rfl
theorem q642 : (.instanceMethod yX3_no : Cond) ∈ kAll := kq (i := 642) (by decide +kernel) rfl
theorem q643 : (.code yX3_no cX3_no 2 (some .int) : Cond) ∈ kAll := kq (i := 643) (by decide +kernel) rfl
theorem q644 : (.methodLink RX3 117 yX3_winner : Cond) ∈ kAll := kq (i := 644) (by decide +kernel) rfl
theorem q646 : (.instanceMethod yX3_winner : Cond) ∈ kAll := kq (i := 646) (by decide +kernel) rfl
theorem q647 : (.code yX3_winner cX3_winner 1 (some .int) : Cond) ∈ kAll := kq (i := 647) (by decide +kernel) rfl
theorem q648 : (.methodLink RX3 126 yX3_putToServe : Cond) ∈ kAll := kq (i := 648) (by decide +kernel) rfl
theorem q650 : (.instanceMethod yX3_putToServe : Cond) ∈ kAll := kq (i := 650) (by decide +kernel) rfl
theorem q651 : (.code yX3_putToServe cX3_putToServe 1 none : Cond) ∈ kAll := kq (i := 651) (by decide +kernel) rfl
theorem q652 : (.methodLink RX3 129 yX3_hit : Cond) ∈ kAll := kq (i := 652) (by decide +kernel) rfl
theorem q654 : (.instanceMethod yX3_hit : Cond) ∈ kAll := kq (i := 654) (by decide +kernel) rfl
theorem q655 : (.code yX3_hit cX3_hit 4 none : Cond) ∈ kAll := kq (i := 655) (by decide +kernel) rfl
theorem q656 : (.methodLink RX3 81 yJ9_max_7cf53 : Cond) ∈ kAll := kq (i := 656) (by decide +kernel) rfl
theorem q657 : (.methodLink RX3 133 yX3_keepStroke : Cond) ∈ kAll := kq (i := 657) (by decide +kernel) rfl
theorem q659 : (.instanceMethod yX3_keepStroke : Cond) ∈ kAll := kq (i := 659) (by decide +kernel) rfl
theorem q660 : (.code yX3_keepStroke cX3_keepStroke 2 none : Cond) ∈ kAll := kq (i := 660) (by decide +kernel) rfl
theorem q661 : (.methodLink RX3 65 arraycopyName : Cond) ∈ kAll := kq (i := 661) (by decide +kernel) rfl
theorem q662 : (.static arraycopyName : Cond) ∈ kAll := kq (i := 662) (by decide +kernel) rfl
theorem q663 : (.native arraycopyName : Cond) ∈ kAll := kq (i := 663) (by decide +kernel) rfl
theorem q664 : (.methodLink RL 75 yX3_strike : Cond) ∈ kAll := kq (i := 664) (by decide +kernel) rfl
theorem q665 : (.instanceMethod yX3_strike : Cond) ∈ kAll := kq (i := 665) (by decide +kernel) rfl
theorem q666 : (.selects RX3 yX3_strike yX3_strike : Cond) ∈ kAll := kq (i := 666) (by decide +kernel) rfl
theorem q667 : (.code yX3_strike cX3_strike 6 (some .int) : Cond) ∈ kAll := kq (i := 667) (by decide +kernel) rfl
theorem q668 : (.methodLink RX3 136 yX3_flyOn : Cond) ∈ kAll := kq (i := 668) (by decide +kernel) rfl
theorem q670 : (.instanceMethod yX3_flyOn : Cond) ∈ kAll := kq (i := 670) (by decide +kernel) rfl
theorem q671 : (.code yX3_flyOn cX3_flyOn 4 (some .int) : Cond) ∈ kAll := kq (i := 671) (by decide +kernel) rfl
theorem q672 : (.methodLink RX3 71 yX3_look : Cond) ∈ kAll := kq (i := 672) (by decide +kernel) rfl
theorem q674 : (.instanceMethod yX3_look : Cond) ∈ kAll := kq (i := 674) (by decide +kernel) rfl
theorem q675 : (.code yX3_look cX3_look 2 none : Cond) ∈ kAll := kq (i := 675) (by decide +kernel) rfl
theorem q676 : (.methodLink RX3 75 yX3_moment : Cond) ∈ kAll := kq (i := 676) (by decide +kernel) rfl
theorem q678 : (.instanceMethod yX3_moment : Cond) ∈ kAll := kq (i := 678) (by decide +kernel) rfl
theorem q679 : (.code yX3_moment cX3_moment 2 (some .int) : Cond) ∈ kAll := kq (i := 679) (by decide +kernel) rfl
theorem q680 : (.methodLink RX3 55 yX3_goAcross : Cond) ∈ kAll := kq (i := 680) (by decide +kernel) rfl
theorem q682 : (.instanceMethod yX3_goAcross : Cond) ∈ kAll := kq (i := 682) (by decide +kernel) rfl
theorem q683 : (.code yX3_goAcross cX3_goAcross 3 none : Cond) ∈ kAll := kq (i := 683) (by decide +kernel) rfl
theorem q684 : (.methodLink RX3 39 yJ9_abs_0f7a4 : Cond) ∈ kAll := kq (i := 684) (by decide +kernel) rfl
theorem q685 : (.methodLink RX3 45 yX3_sign : Cond) ∈ kAll := kq (i := 685) (by decide +kernel) rfl
theorem q686 : (.static yX3_sign : Cond) ∈ kAll := kq (i := 686) (by decide +kernel) rfl
theorem q687 : (.code yX3_sign cX3_sign 1 (some .int) : Cond) ∈ kAll := kq (i := 687) (by decide +kernel) rfl
theorem q688 : (.methodLink RX3 48 yX3_isButtress : Cond) ∈ kAll := kq (i := 688) (by decide +kernel) rfl
theorem q689 : (.static yX3_isButtress : Cond) ∈ kAll := kq (i := 689) (by decide +kernel) rfl
theorem q690 : (.code yX3_isButtress cX3_isButtress 2 (some .boolean) : Cond) ∈ kAll := kq (i := 690) (by decide +kernel) rfl
theorem q691 : (.methodLink RX3 58 yX3_goAlong : Cond) ∈ kAll := kq (i := 691) (by decide +kernel) rfl
theorem q693 : (.instanceMethod yX3_goAlong : Cond) ∈ kAll := kq (i := 693) (by decide +kernel) rfl
theorem q694 : (.code yX3_goAlong cX3_goAlong 4 (some .int) : Cond) ∈ kAll := kq (i := 694) (by decide +kernel) rfl
theorem q695 : (.methodLink RX3 62 yX3_fall : Cond) ∈ kAll := kq (i := 695) (by decide +kernel) rfl
theorem q697 : (.instanceMethod yX3_fall : Cond) ∈ kAll := kq (i := 697) (by decide +kernel) rfl
theorem q698 : (.code yX3_fall cX3_fall 1 (some .int) : Cond) ∈ kAll := kq (i := 698) (by decide +kernel) rfl
theorem q699 : (.methodLink RX3 139 yX3_win : Cond) ∈ kAll := kq (i := 699) (by decide +kernel) rfl
theorem q701 : (.instanceMethod yX3_win : Cond) ∈ kAll := kq (i := 701) (by decide +kernel) rfl
theorem q702 : (.code yX3_win cX3_win 2 (some .int) : Cond) ∈ kAll := kq (i := 702) (by decide +kernel) rfl
theorem q703 : (.methodLink RX3 110 yX3_winGame : Cond) ∈ kAll := kq (i := 703) (by decide +kernel) rfl
theorem q705 : (.instanceMethod yX3_winGame : Cond) ∈ kAll := kq (i := 705) (by decide +kernel) rfl
theorem q706 : (.code yX3_winGame cX3_winGame 2 none : Cond) ∈ kAll := kq (i := 706) (by decide +kernel) rfl
theorem q707 : (.methodLink RX3 142 yX3_endByLet : Cond) ∈ kAll := kq (i := 707) (by decide +kernel) rfl
theorem q709 : (.instanceMethod yX3_endByLet : Cond) ∈ kAll := kq (i := 709) (by decide +kernel) rfl
theorem q710 : (.code yX3_endByLet cX3_endByLet 1 none : Cond) ∈ kAll := kq (i := 710) (by decide +kernel) rfl
theorem q711 : (.methodLink RL 79 yX3_leave : Cond) ∈ kAll := kq (i := 711) (by decide +kernel) rfl
theorem q712 : (.instanceMethod yX3_leave : Cond) ∈ kAll := kq (i := 712) (by decide +kernel) rfl
theorem q713 : (.selects RX3 yX3_leave yX3_leave : Cond) ∈ kAll := kq (i := 713) (by decide +kernel) rfl
theorem q714 : (.code yX3_leave cX3_leave 1 (some .int) : Cond) ∈ kAll := kq (i := 714) (by decide +kernel) rfl
theorem q715 : (.methodLink RX3 145 yX3_fullFlight : Cond) ∈ kAll := kq (i := 715) (by decide +kernel) rfl
theorem q717 : (.instanceMethod yX3_fullFlight : Cond) ∈ kAll := kq (i := 717) (by decide +kernel) rfl
theorem q718 : (.code yX3_fullFlight cX3_fullFlight 1 (some .int) : Cond) ∈ kAll := kq (i := 718) (by decide +kernel) rfl
theorem q719 : (.methodLink RX3 78 yX3_finish : Cond) ∈ kAll := kq (i := 719) (by decide +kernel) rfl
theorem q721 : (.instanceMethod yX3_finish : Cond) ∈ kAll := kq (i := 721) (by decide +kernel) rfl
theorem q722 : (.code yX3_finish cX3_finish 2 (some .int) : Cond) ∈ kAll := kq (i := 722) (by decide +kernel) rfl
theorem q723 : (.methodLink RL 82 yX3_let : Cond) ∈ kAll := kq (i := 723) (by decide +kernel) rfl
theorem q724 : (.instanceMethod yX3_let : Cond) ∈ kAll := kq (i := 724) (by decide +kernel) rfl
theorem q725 : (.selects RX3 yX3_let yX3_let : Cond) ∈ kAll := kq (i := 725) (by decide +kernel) rfl
theorem q726 : (.code yX3_let cX3_let 1 (some .int) : Cond) ∈ kAll := kq (i := 726) (by decide +kernel) rfl
theorem q727 : (.methodLink RL 86 yX3_set : Cond) ∈ kAll := kq (i := 727) (by decide +kernel) rfl
theorem q728 : (.instanceMethod yX3_set : Cond) ∈ kAll := kq (i := 728) (by decide +kernel) rfl
theorem q729 : (.selects RX3 yX3_set yX3_set : Cond) ∈ kAll := kq (i := 729) (by decide +kernel) rfl
theorem q730 : (.code yX3_set cX3_set 2 (some .int) : Cond) ∈ kAll := kq (i := 730) (by decide +kernel) rfl
theorem q731 : (.methodLink RX3 148 yX3_canSet : Cond) ∈ kAll := kq (i := 731) (by decide +kernel) rfl
theorem q733 : (.instanceMethod yX3_canSet : Cond) ∈ kAll := kq (i := 733) (by decide +kernel) rfl
theorem q734 : (.code yX3_canSet cX3_canSet 1 (some .boolean) : Cond) ∈ kAll := kq (i := 734) (by decide +kernel) rfl
theorem q735 : (.methodLink RL 89 yX3_match : Cond) ∈ kAll := kq (i := 735) (by decide +kernel) rfl
theorem q736 : (.instanceMethod yX3_match : Cond) ∈ kAll := kq (i := 736) (by decide +kernel) rfl
theorem q737 : (.selects RX3 yX3_match yX3_match : Cond) ∈ kAll := kq (i := 737) (by decide +kernel) rfl
theorem q738 : (.code yX3_match cX3_match 4 (some .int) : Cond) ∈ kAll := kq (i := 738) (by decide +kernel) rfl
theorem q739 : (.methodLink RL 92 yX3_ball : Cond) ∈ kAll := kq (i := 739) (by decide +kernel) rfl
theorem q740 : (.instanceMethod yX3_ball : Cond) ∈ kAll := kq (i := 740) (by decide +kernel) rfl
theorem q741 : (.selects RX3 yX3_ball yX3_ball : Cond) ∈ kAll := kq (i := 741) (by decide +kernel) rfl
theorem q742 : (.code yX3_ball cX3_ball 2 (some .int) : Cond) ∈ kAll := kq (i := 742) (by decide +kernel) rfl
theorem q743 : (.methodLink RX3 152 yX3_ballTold : Cond) ∈ kAll := kq (i := 743) (by decide +kernel) rfl
theorem q745 : (.instanceMethod yX3_ballTold : Cond) ∈ kAll := kq (i := 745) (by decide +kernel) rfl
theorem q746 : (.code yX3_ballTold cX3_ballTold 2 (some .int) : Cond) ∈ kAll := kq (i := 746) (by decide +kernel) rfl
theorem q747 : (.methodLink RL 96 yX3_told : Cond) ∈ kAll := kq (i := 747) (by decide +kernel) rfl
theorem q748 : (.instanceMethod yX3_told : Cond) ∈ kAll := kq (i := 748) (by decide +kernel) rfl
theorem q749 : (.selects RX3 yX3_told yX3_told : Cond) ∈ kAll := kq (i := 749) (by decide +kernel) rfl
theorem q750 : (.code yX3_told cX3_told 3 (some .int) : Cond) ∈ kAll := kq (i := 750) (by decide +kernel) rfl
theorem q751 : (.methodLink RX3 155 yX3_sideTold : Cond) ∈ kAll := kq (i := 751) (by decide +kernel) rfl
theorem q753 : (.instanceMethod yX3_sideTold : Cond) ∈ kAll := kq (i := 753) (by decide +kernel) rfl
theorem q754 : (.code yX3_sideTold cX3_sideTold 3 (some .int) : Cond) ∈ kAll := kq (i := 754) (by decide +kernel) rfl
theorem q755 : (.methodLink RL 99 yX3_count : Cond) ∈ kAll := kq (i := 755) (by decide +kernel) rfl
theorem q756 : (.instanceMethod yX3_count : Cond) ∈ kAll := kq (i := 756) (by decide +kernel) rfl
theorem q757 : (.selects RX3 yX3_count yX3_count : Cond) ∈ kAll := kq (i := 757) (by decide +kernel) rfl
theorem q758 : (.code yX3_count cX3_count 2 (some .int) : Cond) ∈ kAll := kq (i := 758) (by decide +kernel) rfl
theorem q759 : (.methodLink RX3 158 yX3_counted : Cond) ∈ kAll := kq (i := 759) (by decide +kernel) rfl
theorem q761 : (.instanceMethod yX3_counted : Cond) ∈ kAll := kq (i := 761) (by decide +kernel) rfl
theorem q762 : (.code yX3_counted cX3_counted 2 (some .int) : Cond) ∈ kAll := kq (i := 762) (by decide +kernel) rfl
theorem q763 : (.methodLink RL 102 yX3_flight : Cond) ∈ kAll := kq (i := 763) (by decide +kernel) rfl
theorem q764 : (.instanceMethod yX3_flight : Cond) ∈ kAll := kq (i := 764) (by decide +kernel) rfl
theorem q765 : (.selects RX3 yX3_flight yX3_flight : Cond) ∈ kAll := kq (i := 765) (by decide +kernel) rfl
theorem q766 : (.code yX3_flight cX3_flight 3 (some .int) : Cond) ∈ kAll := kq (i := 766) (by decide +kernel) rfl
theorem q767 : (.methodLink RL 105 yX3_end : Cond) ∈ kAll := kq (i := 767) (by decide +kernel) rfl
theorem q768 : (.instanceMethod yX3_end : Cond) ∈ kAll := kq (i := 768) (by decide +kernel) rfl
theorem q769 : (.selects RX3 yX3_end yX3_end : Cond) ∈ kAll := kq (i := 769) (by decide +kernel) rfl
theorem q770 : (.code yX3_end cX3_end 2 (some .int) : Cond) ∈ kAll := kq (i := 770) (by decide +kernel) rfl
theorem q771 : (.methodLink RX3 161 yX3_endTold : Cond) ∈ kAll := kq (i := 771) (by decide +kernel) rfl
theorem q773 : (.instanceMethod yX3_endTold : Cond) ∈ kAll := kq (i := 773) (by decide +kernel) rfl
theorem q774 : (.code yX3_endTold cX3_endTold 3 (some .int) : Cond) ∈ kAll := kq (i := 774) (by decide +kernel) rfl
theorem q775 : (.methodLink RL 108 yX3_would : Cond) ∈ kAll := kq (i := 775) (by decide +kernel) rfl
theorem q776 : (.instanceMethod yX3_would : Cond) ∈ kAll := kq (i := 776) (by decide +kernel) rfl
theorem q777 : (.selects RX3 yX3_would yX3_would : Cond) ∈ kAll := kq (i := 777) (by decide +kernel) rfl
theorem q778 : (.code yX3_would cX3_would 5 (some .int) : Cond) ∈ kAll := kq (i := 778) (by decide +kernel) rfl
theorem q779 : (.methodLink RX3 168 yX3_endOf : Cond) ∈ kAll := kq (i := 779) (by decide +kernel) rfl
theorem q781 : (.instanceMethod yX3_endOf : Cond) ∈ kAll := kq (i := 781) (by decide +kernel) rfl
theorem q782 : (.code yX3_endOf cX3_endOf 5 (some .int) : Cond) ∈ kAll := kq (i := 782) (by decide +kernel) rfl
theorem q783 : (.methodLink RX3 164 yX3_comes : Cond) ∈ kAll := kq (i := 783) (by decide +kernel) rfl
theorem q785 : (.instanceMethod yX3_comes : Cond) ∈ kAll := kq (i := 785) (by decide +kernel) rfl
theorem q786 : (.code yX3_comes cX3_comes 2 (some .boolean) : Cond) ∈ kAll := kq (i := 786) (by decide +kernel) rfl
theorem q787 : (.methodLink RL 111 yX3_advise : Cond) ∈ kAll := kq (i := 787) (by decide +kernel) rfl
theorem q788 : (.instanceMethod yX3_advise : Cond) ∈ kAll := kq (i := 788) (by decide +kernel) rfl
theorem q789 : (.selects RX3 yX3_advise yX3_advise : Cond) ∈ kAll := kq (i := 789) (by decide +kernel) rfl
theorem q790 : (.code yX3_advise cX3_advise 2 (some .int) : Cond) ∈ kAll := kq (i := 790) (by decide +kernel) rfl
theorem q791 : (.methodLink RX3 172 yX3_bestAt : Cond) ∈ kAll := kq (i := 791) (by decide +kernel) rfl
theorem q793 : (.instanceMethod yX3_bestAt : Cond) ∈ kAll := kq (i := 793) (by decide +kernel) rfl
theorem q794 : (.code yX3_bestAt cX3_bestAt 5 (some .int) : Cond) ∈ kAll := kq (i := 794) (by decide +kernel) rfl
theorem q795 : (.methodLink RL 116 yX3_mean : Cond) ∈ kAll := kq (i := 795) (by decide +kernel) rfl
theorem q796 : (.instanceMethod yX3_mean : Cond) ∈ kAll := kq (i := 796) (by decide +kernel) rfl
theorem q797 : (.selects RX3 yX3_mean yX3_mean : Cond) ∈ kAll := kq (i := 797) (by decide +kernel) rfl
theorem q798 : (.code yX3_mean cX3_mean 1 (some .double) : Cond) ∈ kAll := kq (i := 798) (by decide +kernel) rfl
theorem q799 : (.methodLink RL 121 yX3_digest : Cond) ∈ kAll := kq (i := 799) (by decide +kernel) rfl
theorem q800 : (.instanceMethod yX3_digest : Cond) ∈ kAll := kq (i := 800) (by decide +kernel) rfl
theorem q801 : (.selects RX3 yX3_digest yX3_digest : Cond) ∈ kAll := kq (i := 801) (by decide +kernel) rfl
theorem q802 : (.code yX3_digest cX3_digest 5 (some .long) : Cond) ∈ kAll := kq (i := 802) (by decide +kernel) rfl
theorem q803 : (.constantLong RX3 175 (1801) : Cond) ∈ kAll := kq (i := 803) (by decide +kernel) rfl
theorem q804 : (.constantLong RX3 177 (31) : Cond) ∈ kAll := kq (i := 804) (by decide +kernel) rfl
theorem q805 : (.arrayClass .long : Cond) ∈ kAll := kq (i := 805) (by decide +kernel) rfl
theorem iwX0 : ∀ w ∈ u_ws RX0 TX0 11, w ∈ kAll := kq_r [122, 124, 126, 128, 130, 132, 134, 136, 138, 140, 142] (by decide +kernel) (by decide +kernel)
theorem iwX1 : ∀ w ∈ u_ws RX1 TX1 4, w ∈ kAll := kq_r [93, 95, 97, 99] (by decide +kernel) (by decide +kernel)
theorem iwX2 : ∀ w ∈ u_ws RX2 TX2 15, w ∈ kAll := kq_r [160, 162, 164, 166, 168, 170, 172, 174, 176, 178, 180, 182, 184, 186, 188] (by decide +kernel) (by decide +kernel)
theorem iwX3 : ∀ w ∈ u_ws RX3 TX3 18, w ∈ kAll := kq_r [588, 590, 592, 594, 596, 598, 600, 602, 604, 606, 608, 610, 612, 614, 616, 618, 620, 622] (by decide +kernel) (by decide +kernel)
