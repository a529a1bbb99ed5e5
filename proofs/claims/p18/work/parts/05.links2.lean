set_option maxRecDepth 100000 in
theorem mv_X10_tellVerdict : xcV yX10_tellVerdict RX10 cX10_tellVerdict 4 none 2 := ⟨⟨GT_m4 154 rfl rfl, GT_m4 153 (by decide +kernel) rfl, GT_mem 20 (by decide +kernel) rfl, GT_m1 1 (by decide +kernel) rfl⟩, by decide +kernel⟩
set_option maxRecDepth 100000 in
theorem mv_X10_told : xcV yX10_told RX10 cX10_told 4 (some .int) 2 := ⟨⟨GT_m5 92 rfl rfl, GT_m5 90 (by decide +kernel) rfl, GT_m5 91 (by decide +kernel) rfl, GT_m1 1 (by decide +kernel) rfl⟩, by decide +kernel⟩
set_option maxRecDepth 100000 in
theorem mv_X10_value : xcV yX10_value RX10 cX10_value 4 (some .int) 3 := ⟨⟨GT_m6 30 rfl rfl, GT_m6 28 (by decide +kernel) rfl, GT_m6 29 (by decide +kernel) rfl, GT_m1 1 (by decide +kernel) rfl⟩, by decide +kernel⟩
set_option maxRecDepth 100000 in
theorem mv_X10_verdict : xcV yX10_verdict RX10 cX10_verdict 2 (some .int) 1 := ⟨⟨GT_m5 147 rfl rfl, GT_m5 145 (by decide +kernel) rfl, GT_m5 146 (by decide +kernel) rfl, GT_m1 1 (by decide +kernel) rfl⟩, by decide +kernel⟩
set_option maxRecDepth 100000 in
theorem ms_X10_wordOf : xcS yX10_wordOf cX10_wordOf 1 (some (.object "java/lang/String")) 1 := ⟨⟨GT_m2 190 rfl rfl, GT_m2 189 (by decide +kernel) rfl, GT_m1 1 (by decide +kernel) rfl⟩, by decide +kernel⟩
set_option maxRecDepth 100000 in
theorem mv_X10_wouldCut : xcV yX10_wouldCut RX10 cX10_wouldCut 4 (some .int) 3 := ⟨⟨GT_m5 200 rfl rfl, GT_m5 198 (by decide +kernel) rfl, GT_m5 199 (by decide +kernel) rfl, GT_m1 1 (by decide +kernel) rfl⟩, by decide +kernel⟩
set_option maxRecDepth 100000 in
theorem mv_X10_wouldSet : xcV yX10_wouldSet RX10 cX10_wouldSet 6 (some .int) 4 := ⟨⟨GT_m5 192 rfl rfl, GT_m5 190 (by decide +kernel) rfl, GT_m5 191 (by decide +kernel) rfl, GT_m1 1 (by decide +kernel) rfl⟩, by decide +kernel⟩
set_option maxRecDepth 100000 in
theorem mv_X11_abort : xcV yX11_abort RX11 cX11_abort 2 (some .int) 0 := ⟨⟨GT_m8 63 rfl rfl, GT_m8 61 (by decide +kernel) rfl, GT_m8 62 (by decide +kernel) rfl, GT_m1 15 (by decide +kernel) rfl⟩, by decide +kernel⟩
set_option maxRecDepth 100000 in
theorem mv_X11_all : xcV yX11_all RX11 cX11_all 7 (some .int) 1 := ⟨⟨GT_m8 121 rfl rfl, GT_m8 119 (by decide +kernel) rfl, GT_m8 120 (by decide +kernel) rfl, GT_m1 15 (by decide +kernel) rfl⟩, by decide +kernel⟩
set_option maxRecDepth 100000 in
theorem mv_X11_asked : xcV yX11_asked RX11 cX11_asked 3 (some .int) 2 := ⟨⟨GT_m8 104 rfl rfl, GT_m8 102 (by decide +kernel) rfl, GT_m8 103 (by decide +kernel) rfl, GT_m1 15 (by decide +kernel) rfl⟩, by decide +kernel⟩
set_option maxRecDepth 100000 in
theorem mv_X11_asks : xcV yX11_asks RX11 cX11_asks 2 (some .int) 1 := ⟨⟨GT_m8 0 rfl rfl, GT_m7 239 (by decide +kernel) rfl, GT_mem 75 (by decide +kernel) rfl, GT_m1 15 (by decide +kernel) rfl⟩, by decide +kernel⟩
set_option maxRecDepth 100000 in
theorem ms_X11_at : xcS yX11_at cX11_at 2 (some .int) 2 := ⟨⟨GT_m7 132 rfl rfl, GT_m7 131 (by decide +kernel) rfl, GT_m1 15 (by decide +kernel) rfl⟩, by decide +kernel⟩
set_option maxRecDepth 100000 in
theorem mv_X11_back : xcV yX11_back RX11 cX11_back 5 (some .int) 1 := ⟨⟨GT_m8 75 rfl rfl, GT_m8 73 (by decide +kernel) rfl, GT_m8 74 (by decide +kernel) rfl, GT_m1 15 (by decide +kernel) rfl⟩, by decide +kernel⟩
set_option maxRecDepth 100000 in
theorem mv_X11_begin : xcV yX11_begin RX11 cX11_begin 2 (some .int) 0 := ⟨⟨GT_m8 51 rfl rfl, GT_m8 49 (by decide +kernel) rfl, GT_m8 50 (by decide +kernel) rfl, GT_m1 15 (by decide +kernel) rfl⟩, by decide +kernel⟩
set_option maxRecDepth 100000 in
theorem mv_X11_commit : xcV yX11_commit RX11 cX11_commit 1 (some .int) 0 := ⟨⟨GT_m8 59 rfl rfl, GT_m8 57 (by decide +kernel) rfl, GT_m8 58 (by decide +kernel) rfl, GT_m1 15 (by decide +kernel) rfl⟩, by decide +kernel⟩
set_option maxRecDepth 100000 in
theorem ms_X11_copy : xcS yX11_copy cX11_copy 5 none 4 := ⟨⟨GT_m7 228 rfl rfl, GT_m7 227 (by decide +kernel) rfl, GT_m1 15 (by decide +kernel) rfl⟩, by decide +kernel⟩
set_option maxRecDepth 100000 in
theorem mv_X11_count : xcV yX11_count RX11 cX11_count 2 (some .int) 1 := ⟨⟨GT_m8 158 rfl rfl, GT_m8 156 (by decide +kernel) rfl, GT_m8 157 (by decide +kernel) rfl, GT_m1 15 (by decide +kernel) rfl⟩, by decide +kernel⟩
set_option maxRecDepth 100000 in
theorem mv_X11_cut : xcV yX11_cut RX11 cX11_cut 3 (some .int) 2 := ⟨⟨GT_m8 31 rfl rfl, GT_m8 29 (by decide +kernel) rfl, GT_m8 30 (by decide +kernel) rfl, GT_m1 15 (by decide +kernel) rfl⟩, by decide +kernel⟩
set_option maxRecDepth 100000 in
theorem mv_X11_cutAll : xcV yX11_cutAll RX11 cX11_cutAll 8 none 2 := ⟨⟨GT_m8 35 rfl rfl, GT_m8 34 (by decide +kernel) rfl, GT_mem 81 (by decide +kernel) rfl, GT_m1 15 (by decide +kernel) rfl⟩, by decide +kernel⟩
set_option maxRecDepth 100000 in
theorem mv_X11_depth : xcV yX11_depth RX11 cX11_depth 6 (some .int) 2 := ⟨⟨GT_m8 149 rfl rfl, GT_m8 147 (by decide +kernel) rfl, GT_m8 148 (by decide +kernel) rfl, GT_m1 15 (by decide +kernel) rfl⟩, by decide +kernel⟩
set_option maxRecDepth 100000 in
theorem mv_X11_drop : xcV yX11_drop RX11 cX11_drop 2 (some .int) 1 := ⟨⟨GT_m7 169 rfl rfl, GT_m7 167 (by decide +kernel) rfl, GT_m7 168 (by decide +kernel) rfl, GT_m1 15 (by decide +kernel) rfl⟩, by decide +kernel⟩
set_option maxRecDepth 100000 in
theorem mv_X11_end : xcV yX11_end RX11 cX11_end 2 (some .boolean) 1 := ⟨⟨GT_m7 46 rfl rfl, GT_m7 44 (by decide +kernel) rfl, GT_m7 45 (by decide +kernel) rfl, GT_m1 15 (by decide +kernel) rfl⟩, by decide +kernel⟩
set_option maxRecDepth 100000 in
theorem mv_X11_failed : xcV yX11_failed RX11 cX11_failed 3 none 2 := ⟨⟨GT_m7 153 rfl rfl, GT_m7 152 (by decide +kernel) rfl, GT_mem 60 (by decide +kernel) rfl, GT_m1 15 (by decide +kernel) rfl⟩, by decide +kernel⟩
set_option maxRecDepth 100000 in
theorem mv_X11_fails : xcV yX11_fails RX11 cX11_fails 8 (some .boolean) 4 := ⟨⟨GT_m7 125 rfl rfl, GT_m7 124 (by decide +kernel) rfl, GT_mem 55 (by decide +kernel) rfl, GT_m1 15 (by decide +kernel) rfl⟩, by decide +kernel⟩
set_option maxRecDepth 100000 in
theorem mv_X11_findQueue : xcV yX11_findQueue RX11 cX11_findQueue 1 none 0 := ⟨⟨GT_m7 185 rfl rfl, GT_m7 184 (by decide +kernel) rfl, GT_mem 66 (by decide +kernel) rfl, GT_m1 15 (by decide +kernel) rfl⟩, by decide +kernel⟩
set_option maxRecDepth 100000 in
theorem mv_X11_findUnlike : xcV yX11_findUnlike RX11 cX11_findUnlike 7 none 3 := ⟨⟨GT_m7 196 rfl rfl, GT_m7 195 (by decide +kernel) rfl, GT_mem 68 (by decide +kernel) rfl, GT_m1 15 (by decide +kernel) rfl⟩, by decide +kernel⟩
set_option maxRecDepth 100000 in
theorem mv_X11_first : xcV yX11_first RX11 cX11_first 4 (some .int) 1 := ⟨⟨GT_m8 116 rfl rfl, GT_m8 114 (by decide +kernel) rfl, GT_m8 115 (by decide +kernel) rfl, GT_m1 15 (by decide +kernel) rfl⟩, by decide +kernel⟩
set_option maxRecDepth 100000 in
theorem mv_X11_firstFailing : xcV yX11_firstFailing RX11 cX11_firstFailing 2 (some .int) 0 := ⟨⟨GT_m8 4 rfl rfl, GT_m8 3 (by decide +kernel) rfl, GT_mem 76 (by decide +kernel) rfl, GT_m1 15 (by decide +kernel) rfl⟩, by decide +kernel⟩
set_option maxRecDepth 100000 in
theorem mv_X11_firstSubject : xcV yX11_firstSubject RX11 cX11_firstSubject 2 (some .int) 1 := ⟨⟨GT_m7 110 rfl rfl, GT_m7 109 (by decide +kernel) rfl, GT_mem 52 (by decide +kernel) rfl, GT_m1 15 (by decide +kernel) rfl⟩, by decide +kernel⟩
set_option maxRecDepth 100000 in
theorem mv_X11_freeRule : xcV yX11_freeRule RX11 cX11_freeRule 2 (some .int) 0 := ⟨⟨GT_m7 101 rfl rfl, GT_m7 100 (by decide +kernel) rfl, GT_mem 50 (by decide +kernel) rfl, GT_m1 15 (by decide +kernel) rfl⟩, by decide +kernel⟩
set_option maxRecDepth 100000 in
theorem mv_X11_fresh : xcV yX11_fresh RX11 cX11_fresh 8 (some .int) 2 := ⟨⟨GT_m8 108 rfl rfl, GT_m8 106 (by decide +kernel) rfl, GT_m8 107 (by decide +kernel) rfl, GT_m1 15 (by decide +kernel) rfl⟩, by decide +kernel⟩
set_option maxRecDepth 100000 in
theorem mv_X11_goes : xcV yX11_goes RX11 cX11_goes 4 none 3 := ⟨⟨GT_m8 39 rfl rfl, GT_m8 38 (by decide +kernel) rfl, GT_mem 82 (by decide +kernel) rfl, GT_m1 15 (by decide +kernel) rfl⟩, by decide +kernel⟩
set_option maxRecDepth 100000 in
theorem mv_X11_goesBack : xcV yX11_goesBack RX11 cX11_goesBack 1 (some .int) 0 := ⟨⟨GT_m8 8 rfl rfl, GT_m8 7 (by decide +kernel) rfl, GT_mem 77 (by decide +kernel) rfl, GT_m1 15 (by decide +kernel) rfl⟩, by decide +kernel⟩
set_option maxRecDepth 100000 in
theorem mv_X11_group : xcV yX11_group RX11 cX11_group 6 (some .int) 2 := ⟨⟨GT_m8 100 rfl rfl, GT_m8 98 (by decide +kernel) rfl, GT_m8 99 (by decide +kernel) rfl, GT_m1 15 (by decide +kernel) rfl⟩, by decide +kernel⟩
set_option maxRecDepth 100000 in
theorem ms_X11_in : xcS yX11_in cX11_in 6 (some .boolean) 3 := ⟨⟨GT_m7 38 rfl rfl, GT_m7 37 (by decide +kernel) rfl, GT_m1 15 (by decide +kernel) rfl⟩, by decide +kernel⟩
set_option maxRecDepth 100000 in
theorem mv_X11_inQueue : xcV yX11_inQueue RX11 cX11_inQueue 4 (some .int) 1 := ⟨⟨GT_m7 181 rfl rfl, GT_m7 180 (by decide +kernel) rfl, GT_mem 65 (by decide +kernel) rfl, GT_m1 15 (by decide +kernel) rfl⟩, by decide +kernel⟩
set_option maxRecDepth 100000 in
theorem mi_X11_init : (Cond.code yX11_init cX11_init 2 none ∈ GT ∧ Cond.instanceMethod yX11_init ∈ GT ∧ Cond.initialized RX11 ∈ GT) ∧ yX11_init.cls ≠ "java/lang/invoke/MethodHandle" ∧ yX11_init.cls ≠ "java/lang/invoke/VarHandle" ∧ (parseMethodDescriptor yX11_init.desc).map (fun d => d.parameters.length) = some 0 := ⟨⟨GT_m6 108 rfl rfl, GT_m6 107 (by decide +kernel) rfl, GT_m1 15 (by decide +kernel) rfl⟩, by decide +kernel⟩
set_option maxRecDepth 100000 in
theorem ms_X11_isColumn : xcS yX11_isColumn cX11_isColumn 1 (some .boolean) 1 := ⟨⟨GT_m8 27 rfl rfl, GT_m8 26 (by decide +kernel) rfl, GT_m1 15 (by decide +kernel) rfl⟩, by decide +kernel⟩
set_option maxRecDepth 100000 in
theorem ms_X11_isDigit : xcS yX11_isDigit cX11_isDigit 1 (some .boolean) 1 := ⟨⟨GT_m7 94 rfl rfl, GT_m7 93 (by decide +kernel) rfl, GT_m1 15 (by decide +kernel) rfl⟩, by decide +kernel⟩
set_option maxRecDepth 100000 in
theorem mv_X11_isFor : xcV yX11_isFor RX11 cX11_isFor 3 (some .boolean) 2 := ⟨⟨GT_m8 43 rfl rfl, GT_m8 42 (by decide +kernel) rfl, GT_mem 83 (by decide +kernel) rfl, GT_m1 15 (by decide +kernel) rfl⟩, by decide +kernel⟩
set_option maxRecDepth 100000 in
theorem ms_X11_isKey : xcS yX11_isKey cX11_isKey 1 (some .boolean) 1 := ⟨⟨GT_m7 135 rfl rfl, GT_m7 134 (by decide +kernel) rfl, GT_m1 15 (by decide +kernel) rfl⟩, by decide +kernel⟩
set_option maxRecDepth 100000 in
theorem ms_X11_isLetter : xcS yX11_isLetter cX11_isLetter 1 (some .boolean) 1 := ⟨⟨GT_m7 81 rfl rfl, GT_m7 80 (by decide +kernel) rfl, GT_m1 15 (by decide +kernel) rfl⟩, by decide +kernel⟩
set_option maxRecDepth 100000 in
theorem mv_X11_isMark : xcV yX11_isMark RX11 cX11_isMark 2 (some .boolean) 1 := ⟨⟨GT_m8 79 rfl rfl, GT_m8 78 (by decide +kernel) rfl, GT_mem 86 (by decide +kernel) rfl, GT_m1 15 (by decide +kernel) rfl⟩, by decide +kernel⟩
set_option maxRecDepth 100000 in
theorem mv_X11_isRing : xcV yX11_isRing RX11 cX11_isRing 9 (some .boolean) 4 := ⟨⟨GT_m7 129 rfl rfl, GT_m7 128 (by decide +kernel) rfl, GT_mem 56 (by decide +kernel) rfl, GT_m1 15 (by decide +kernel) rfl⟩, by decide +kernel⟩
set_option maxRecDepth 100000 in
theorem mv_X11_isRow : xcV yX11_isRow RX11 cX11_isRow 3 (some .boolean) 2 := ⟨⟨GT_m7 221 rfl rfl, GT_m7 220 (by decide +kernel) rfl, GT_mem 71 (by decide +kernel) rfl, GT_m1 15 (by decide +kernel) rfl⟩, by decide +kernel⟩
set_option maxRecDepth 100000 in
theorem mv_X11_isRule : xcV yX11_isRule RX11 cX11_isRule 2 (some .boolean) 1 := ⟨⟨GT_m7 105 rfl rfl, GT_m7 104 (by decide +kernel) rfl, GT_mem 51 (by decide +kernel) rfl, GT_m1 15 (by decide +kernel) rfl⟩, by decide +kernel⟩
set_option maxRecDepth 100000 in
theorem ms_X11_isTable : xcS yX11_isTable cX11_isTable 1 (some .boolean) 1 := ⟨⟨GT_m7 207 rfl rfl, GT_m7 206 (by decide +kernel) rfl, GT_m1 15 (by decide +kernel) rfl⟩, by decide +kernel⟩
set_option maxRecDepth 100000 in
theorem ms_X11_isValue : xcS yX11_isValue cX11_isValue 1 (some .boolean) 1 := ⟨⟨GT_m7 211 rfl rfl, GT_m7 210 (by decide +kernel) rfl, GT_m1 15 (by decide +kernel) rfl⟩, by decide +kernel⟩
set_option maxRecDepth 100000 in
theorem mv_X11_isWord : xcV yX11_isWord RX11 cX11_isWord 5 (some .boolean) 1 := ⟨⟨GT_m7 70 rfl rfl, GT_m7 69 (by decide +kernel) rfl, GT_mem 45 (by decide +kernel) rfl, GT_m1 15 (by decide +kernel) rfl⟩, by decide +kernel⟩
set_option maxRecDepth 100000 in
theorem mv_X11_kindHere : xcV yX11_kindHere RX11 cX11_kindHere 2 (some .int) 0 := ⟨⟨GT_m7 62 rfl rfl, GT_m7 61 (by decide +kernel) rfl, GT_mem 43 (by decide +kernel) rfl, GT_m1 15 (by decide +kernel) rfl⟩, by decide +kernel⟩
set_option maxRecDepth 100000 in
theorem mv_X11_lastSubject : xcV yX11_lastSubject RX11 cX11_lastSubject 2 (some .int) 1 := ⟨⟨GT_m7 121 rfl rfl, GT_m7 120 (by decide +kernel) rfl, GT_mem 54 (by decide +kernel) rfl, GT_m1 15 (by decide +kernel) rfl⟩, by decide +kernel⟩
set_option maxRecDepth 100000 in
theorem mv_X11_lateMany : xcV yX11_lateMany RX11 cX11_lateMany 3 (some .int) 0 := ⟨⟨GT_m8 162 rfl rfl, GT_m8 161 (by decide +kernel) rfl, GT_mem 89 (by decide +kernel) rfl, GT_m1 15 (by decide +kernel) rfl⟩, by decide +kernel⟩
set_option maxRecDepth 100000 in
theorem mv_X11_later : xcV yX11_later RX11 cX11_later 5 (some .int) 2 := ⟨⟨GT_m7 177 rfl rfl, GT_m7 175 (by decide +kernel) rfl, GT_m7 176 (by decide +kernel) rfl, GT_m1 15 (by decide +kernel) rfl⟩, by decide +kernel⟩
set_option maxRecDepth 100000 in
theorem mv_X11_layOrder : xcV yX11_layOrder RX11 cX11_layOrder 3 none 0 := ⟨⟨GT_m7 200 rfl rfl, GT_m7 199 (by decide +kernel) rfl, GT_mem 69 (by decide +kernel) rfl, GT_m1 15 (by decide +kernel) rfl⟩, by decide +kernel⟩
set_option maxRecDepth 100000 in
theorem mv_X11_layStates : xcV yX11_layStates RX11 cX11_layStates 6 none 3 := ⟨⟨GT_m7 189 rfl rfl, GT_m7 188 (by decide +kernel) rfl, GT_mem 67 (by decide +kernel) rfl, GT_m1 15 (by decide +kernel) rfl⟩, by decide +kernel⟩
set_option maxRecDepth 100000 in
theorem mv_X11_leans : xcV yX11_leans RX11 cX11_leans 8 (some .int) 3 := ⟨⟨GT_m8 137 rfl rfl, GT_m8 135 (by decide +kernel) rfl, GT_m8 136 (by decide +kernel) rfl, GT_m1 15 (by decide +kernel) rfl⟩, by decide +kernel⟩
set_option maxRecDepth 100000 in
theorem mv_X11_leansOn : xcV yX11_leansOn RX11 cX11_leansOn 7 (some .boolean) 4 := ⟨⟨GT_m8 141 rfl rfl, GT_m8 140 (by decide +kernel) rfl, GT_mem 88 (by decide +kernel) rfl, GT_m1 15 (by decide +kernel) rfl⟩, by decide +kernel⟩
set_option maxRecDepth 100000 in
theorem mv_X11_least : xcV yX11_least RX11 cX11_least 7 (some .int) 3 := ⟨⟨GT_m8 145 rfl rfl, GT_m8 143 (by decide +kernel) rfl, GT_m8 144 (by decide +kernel) rfl, GT_m1 15 (by decide +kernel) rfl⟩, by decide +kernel⟩
set_option maxRecDepth 100000 in
theorem mv_X11_letter : xcV yX11_letter RX11 cX11_letter 2 (some .int) 1 := ⟨⟨GT_m7 35 rfl rfl, GT_m7 33 (by decide +kernel) rfl, GT_m7 34 (by decide +kernel) rfl, GT_m1 15 (by decide +kernel) rfl⟩, by decide +kernel⟩
set_option maxRecDepth 100000 in
theorem mv_X11_look : xcV yX11_look RX11 cX11_look 1 (some .int) 0 := ⟨⟨GT_m7 236 rfl rfl, GT_m7 235 (by decide +kernel) rfl, GT_mem 74 (by decide +kernel) rfl, GT_m1 15 (by decide +kernel) rfl⟩, by decide +kernel⟩
set_option maxRecDepth 100000 in
theorem mv_X11_many : xcV yX11_many RX11 cX11_many 8 (some .int) 4 := ⟨⟨GT_m7 144 rfl rfl, GT_m7 143 (by decide +kernel) rfl, GT_mem 58 (by decide +kernel) rfl, GT_m1 15 (by decide +kernel) rfl⟩, by decide +kernel⟩
set_option maxRecDepth 100000 in
theorem mv_X11_mark : xcV yX11_mark RX11 cX11_mark 1 (some .int) 0 := ⟨⟨GT_m8 71 rfl rfl, GT_m8 69 (by decide +kernel) rfl, GT_m8 70 (by decide +kernel) rfl, GT_m1 15 (by decide +kernel) rfl⟩, by decide +kernel⟩
set_option maxRecDepth 100000 in
theorem mv_X11_moves : xcV yX11_moves RX11 cX11_moves 9 none 3 := ⟨⟨GT_m8 12 rfl rfl, GT_m8 11 (by decide +kernel) rfl, GT_mem 78 (by decide +kernel) rfl, GT_m1 15 (by decide +kernel) rfl⟩, by decide +kernel⟩
set_option maxRecDepth 100000 in
theorem mv_X11_next : xcV yX11_next RX11 cX11_next 1 (some .int) 0 := ⟨⟨GT_m7 74 rfl rfl, GT_m7 73 (by decide +kernel) rfl, GT_mem 46 (by decide +kernel) rfl, GT_m1 15 (by decide +kernel) rfl⟩, by decide +kernel⟩
set_option maxRecDepth 100000 in
theorem mv_X11_nothing : xcV yX11_nothing RX11 cX11_nothing 1 none 0 := ⟨⟨GT_m7 54 rfl rfl, GT_m7 53 (by decide +kernel) rfl, GT_mem 41 (by decide +kernel) rfl, GT_m1 15 (by decide +kernel) rfl⟩, by decide +kernel⟩
set_option maxRecDepth 100000 in
theorem mv_X11_number : xcV yX11_number RX11 cX11_number 8 (some .int) 2 := ⟨⟨GT_m7 91 rfl rfl, GT_m7 90 (by decide +kernel) rfl, GT_mem 49 (by decide +kernel) rfl, GT_m1 15 (by decide +kernel) rfl⟩, by decide +kernel⟩
set_option maxRecDepth 100000 in
theorem mv_X11_of : xcV yX11_of RX11 cX11_of 3 (some .int) 2 := ⟨⟨GT_m7 114 rfl rfl, GT_m7 113 (by decide +kernel) rfl, GT_mem 53 (by decide +kernel) rfl, GT_m1 15 (by decide +kernel) rfl⟩, by decide +kernel⟩
set_option maxRecDepth 100000 in
theorem ms_X11_ofKeys : xcS yX11_ofKeys cX11_ofKeys 1 (some .boolean) 1 := ⟨⟨GT_m7 117 rfl rfl, GT_m7 116 (by decide +kernel) rfl, GT_m1 15 (by decide +kernel) rfl⟩, by decide +kernel⟩
set_option maxRecDepth 100000 in
theorem ms_X11_placeOf : xcS yX11_placeOf cX11_placeOf 2 (some .int) 2 := ⟨⟨GT_m7 192 rfl rfl, GT_m7 191 (by decide +kernel) rfl, GT_m1 15 (by decide +kernel) rfl⟩, by decide +kernel⟩
set_option maxRecDepth 100000 in
theorem mv_X11_put : xcV yX11_put RX11 cX11_put 7 (some .int) 5 := ⟨⟨GT_m7 204 rfl rfl, GT_m7 202 (by decide +kernel) rfl, GT_m7 203 (by decide +kernel) rfl, GT_m1 15 (by decide +kernel) rfl⟩, by decide +kernel⟩
set_option maxRecDepth 100000 in
theorem mv_X11_putNumber : xcV yX11_putNumber RX11 cX11_putNumber 3 none 1 := ⟨⟨GT_m7 165 rfl rfl, GT_m7 164 (by decide +kernel) rfl, GT_mem 63 (by decide +kernel) rfl, GT_m1 15 (by decide +kernel) rfl⟩, by decide +kernel⟩
set_option maxRecDepth 100000 in
theorem mv_X11_putWord : xcV yX11_putWord RX11 cX11_putWord 3 none 1 := ⟨⟨GT_m7 157 rfl rfl, GT_m7 156 (by decide +kernel) rfl, GT_mem 61 (by decide +kernel) rfl, GT_m1 15 (by decide +kernel) rfl⟩, by decide +kernel⟩
set_option maxRecDepth 100000 in
theorem mv_X11_puts : xcV yX11_puts RX11 cX11_puts 2 none 1 := ⟨⟨GT_m7 161 rfl rfl, GT_m7 160 (by decide +kernel) rfl, GT_mem 62 (by decide +kernel) rfl, GT_m1 15 (by decide +kernel) rfl⟩, by decide +kernel⟩
set_option maxRecDepth 100000 in
theorem mv_X11_question : xcV yX11_question RX11 cX11_question 4 (some .int) 3 := ⟨⟨GT_m8 112 rfl rfl, GT_m8 110 (by decide +kernel) rfl, GT_m8 111 (by decide +kernel) rfl, GT_m1 15 (by decide +kernel) rfl⟩, by decide +kernel⟩
set_option maxRecDepth 100000 in
theorem mv_X11_queue : xcV yX11_queue RX11 cX11_queue 4 (some .int) 2 := ⟨⟨GT_m8 96 rfl rfl, GT_m8 94 (by decide +kernel) rfl, GT_m8 95 (by decide +kernel) rfl, GT_m1 15 (by decide +kernel) rfl⟩, by decide +kernel⟩
set_option maxRecDepth 100000 in
theorem mv_X11_queueMany : xcV yX11_queueMany RX11 cX11_queueMany 1 (some .int) 0 := ⟨⟨GT_m8 67 rfl rfl, GT_m8 66 (by decide +kernel) rfl, GT_mem 85 (by decide +kernel) rfl, GT_m1 15 (by decide +kernel) rfl⟩, by decide +kernel⟩
set_option maxRecDepth 100000 in
theorem mv_X11_read : xcV yX11_read RX11 cX11_read 3 (some .boolean) 0 := ⟨⟨GT_m7 58 rfl rfl, GT_m7 57 (by decide +kernel) rfl, GT_mem 42 (by decide +kernel) rfl, GT_m1 15 (by decide +kernel) rfl⟩, by decide +kernel⟩
set_option maxRecDepth 100000 in
theorem mv_X11_refuses : xcV yX11_refuses RX11 cX11_refuses 2 (some .int) 1 := ⟨⟨GT_m7 217 rfl rfl, GT_m7 216 (by decide +kernel) rfl, GT_mem 70 (by decide +kernel) rfl, GT_m1 15 (by decide +kernel) rfl⟩, by decide +kernel⟩
set_option maxRecDepth 100000 in
theorem mv_X11_rekey : xcV yX11_rekey RX11 cX11_rekey 7 (some .int) 3 := ⟨⟨GT_m8 47 rfl rfl, GT_m8 45 (by decide +kernel) rfl, GT_m8 46 (by decide +kernel) rfl, GT_m1 15 (by decide +kernel) rfl⟩, by decide +kernel⟩
set_option maxRecDepth 100000 in
theorem mv_X11_rowMany : xcV yX11_rowMany RX11 cX11_rowMany 3 (some .int) 0 := ⟨⟨GT_m8 55 rfl rfl, GT_m8 54 (by decide +kernel) rfl, GT_mem 84 (by decide +kernel) rfl, GT_m1 15 (by decide +kernel) rfl⟩, by decide +kernel⟩
set_option maxRecDepth 100000 in
theorem mv_X11_rows : xcV yX11_rows RX11 cX11_rows 6 (some .int) 2 := ⟨⟨GT_m8 87 rfl rfl, GT_m8 85 (by decide +kernel) rfl, GT_m8 86 (by decide +kernel) rfl, GT_m1 15 (by decide +kernel) rfl⟩, by decide +kernel⟩
set_option maxRecDepth 100000 in
theorem mv_X11_rule : xcV yX11_rule RX11 cX11_rule 4 (some .int) 0 := ⟨⟨GT_m7 50 rfl rfl, GT_m7 48 (by decide +kernel) rfl, GT_m7 49 (by decide +kernel) rfl, GT_m1 15 (by decide +kernel) rfl⟩, by decide +kernel⟩
set_option maxRecDepth 100000 in
theorem mv_X11_ruleMany : xcV yX11_ruleMany RX11 cX11_ruleMany 3 (some .int) 0 := ⟨⟨GT_m7 173 rfl rfl, GT_m7 172 (by decide +kernel) rfl, GT_mem 64 (by decide +kernel) rfl, GT_m1 15 (by decide +kernel) rfl⟩, by decide +kernel⟩
set_option maxRecDepth 100000 in
theorem mv_X11_set : xcV yX11_set RX11 cX11_set 6 (some .int) 4 := ⟨⟨GT_m8 20 rfl rfl, GT_m8 18 (by decide +kernel) rfl, GT_m8 19 (by decide +kernel) rfl, GT_m1 15 (by decide +kernel) rfl⟩, by decide +kernel⟩
set_option maxRecDepth 100000 in
theorem mv_X11_settles : xcV yX11_settles RX11 cX11_settles 1 (some .int) 0 := ⟨⟨GT_m7 232 rfl rfl, GT_m7 231 (by decide +kernel) rfl, GT_mem 73 (by decide +kernel) rfl, GT_m1 15 (by decide +kernel) rfl⟩, by decide +kernel⟩
set_option maxRecDepth 100000 in
theorem mv_X11_sign : xcV yX11_sign RX11 cX11_sign 3 (some .int) 1 := ⟨⟨GT_m7 42 rfl rfl, GT_m7 40 (by decide +kernel) rfl, GT_m7 41 (by decide +kernel) rfl, GT_m1 15 (by decide +kernel) rfl⟩, by decide +kernel⟩
set_option maxRecDepth 100000 in
theorem mv_X11_signAt : xcV yX11_signAt RX11 cX11_signAt 2 (some .int) 1 := ⟨⟨GT_m7 78 rfl rfl, GT_m7 77 (by decide +kernel) rfl, GT_mem 47 (by decide +kernel) rfl, GT_m1 15 (by decide +kernel) rfl⟩, by decide +kernel⟩
set_option maxRecDepth 100000 in
theorem mv_X11_since : xcV yX11_since RX11 cX11_since 2 (some .int) 1 := ⟨⟨GT_m8 153 rfl rfl, GT_m8 151 (by decide +kernel) rfl, GT_m8 152 (by decide +kernel) rfl, GT_m1 15 (by decide +kernel) rfl⟩, by decide +kernel⟩
set_option maxRecDepth 100000 in
theorem mv_X11_start : xcV yX11_start RX11 cX11_start 1 none 0 := ⟨⟨GT_m7 225 rfl rfl, GT_m7 224 (by decide +kernel) rfl, GT_mem 72 (by decide +kernel) rfl, GT_m1 15 (by decide +kernel) rfl⟩, by decide +kernel⟩
set_option maxRecDepth 100000 in
theorem mv_X11_stateOf : xcV yX11_stateOf RX11 cX11_stateOf 7 (some .int) 4 := ⟨⟨GT_m7 140 rfl rfl, GT_m7 139 (by decide +kernel) rfl, GT_mem 57 (by decide +kernel) rfl, GT_m1 15 (by decide +kernel) rfl⟩, by decide +kernel⟩
set_option maxRecDepth 100000 in
theorem mv_X11_sumOf : xcV yX11_sumOf RX11 cX11_sumOf 10 (some .int) 4 := ⟨⟨GT_m7 149 rfl rfl, GT_m7 148 (by decide +kernel) rfl, GT_mem 59 (by decide +kernel) rfl, GT_m1 15 (by decide +kernel) rfl⟩, by decide +kernel⟩
set_option maxRecDepth 100000 in
theorem mv_X11_takeAsked : xcV yX11_takeAsked RX11 cX11_takeAsked 2 none 0 := ⟨⟨GT_m8 16 rfl rfl, GT_m8 15 (by decide +kernel) rfl, GT_mem 79 (by decide +kernel) rfl, GT_m1 15 (by decide +kernel) rfl⟩, by decide +kernel⟩
set_option maxRecDepth 100000 in
theorem mv_X11_told : xcV yX11_told RX11 cX11_told 3 (some .int) 2 := ⟨⟨GT_m8 91 rfl rfl, GT_m8 89 (by decide +kernel) rfl, GT_m8 90 (by decide +kernel) rfl, GT_m1 15 (by decide +kernel) rfl⟩, by decide +kernel⟩
set_option maxRecDepth 100000 in
theorem mv_X11_value : xcV yX11_value RX11 cX11_value 4 (some .int) 3 := ⟨⟨GT_m8 83 rfl rfl, GT_m8 81 (by decide +kernel) rfl, GT_m8 82 (by decide +kernel) rfl, GT_m1 15 (by decide +kernel) rfl⟩, by decide +kernel⟩
set_option maxRecDepth 100000 in
theorem mv_X11_verdict : xcV yX11_verdict RX11 cX11_verdict 2 (some .int) 1 := ⟨⟨GT_m7 31 rfl rfl, GT_m7 29 (by decide +kernel) rfl, GT_m7 30 (by decide +kernel) rfl, GT_m1 15 (by decide +kernel) rfl⟩, by decide +kernel⟩
set_option maxRecDepth 100000 in
theorem mv_X11_whyNotSet : xcV yX11_whyNotSet RX11 cX11_whyNotSet 5 (some .int) 4 := ⟨⟨GT_m8 24 rfl rfl, GT_m8 23 (by decide +kernel) rfl, GT_mem 80 (by decide +kernel) rfl, GT_m1 15 (by decide +kernel) rfl⟩, by decide +kernel⟩
set_option maxRecDepth 100000 in
theorem mv_X11_wordOf : xcV yX11_wordOf RX11 cX11_wordOf 2 (some (.array .char)) 1 := ⟨⟨GT_m7 66 rfl rfl, GT_m7 65 (by decide +kernel) rfl, GT_mem 44 (by decide +kernel) rfl, GT_m1 15 (by decide +kernel) rfl⟩, by decide +kernel⟩
set_option maxRecDepth 100000 in
theorem mv_X11_wouldCut : xcV yX11_wouldCut RX11 cX11_wouldCut 8 (some .int) 3 := ⟨⟨GT_m8 133 rfl rfl, GT_m8 131 (by decide +kernel) rfl, GT_m8 132 (by decide +kernel) rfl, GT_m1 15 (by decide +kernel) rfl⟩, by decide +kernel⟩
set_option maxRecDepth 100000 in
theorem mv_X11_wouldSet : xcV yX11_wouldSet RX11 cX11_wouldSet 6 (some .int) 4 := ⟨⟨GT_m8 125 rfl rfl, GT_m8 123 (by decide +kernel) rfl, GT_m8 124 (by decide +kernel) rfl, GT_m1 15 (by decide +kernel) rfl⟩, by decide +kernel⟩
set_option maxRecDepth 100000 in
theorem mv_X11_wouldTell : xcV yX11_wouldTell RX11 cX11_wouldTell 2 (some .int) 0 := ⟨⟨GT_m8 129 rfl rfl, GT_m8 128 (by decide +kernel) rfl, GT_mem 87 (by decide +kernel) rfl, GT_m1 15 (by decide +kernel) rfl⟩, by decide +kernel⟩
set_option maxRecDepth 100000 in
theorem mv_X11_wrong : xcV yX11_wrong RX11 cX11_wrong 2 none 1 := ⟨⟨GT_m7 87 rfl rfl, GT_m7 86 (by decide +kernel) rfl, GT_mem 48 (by decide +kernel) rfl, GT_m1 15 (by decide +kernel) rfl⟩, by decide +kernel⟩
set_option maxRecDepth 100000 in
theorem mv_X1_addQuestions : xcV yX1_addQuestions RX1 cX1_addQuestions 9 none 4 := ⟨⟨GT_m3 135 rfl rfl, GT_m3 133 (by decide +kernel) rfl, GT_m3 134 (by decide +kernel) rfl, GT_m1 7 (by decide +kernel) rfl⟩, by decide +kernel⟩
set_option maxRecDepth 100000 in
theorem mi_X1_init : (Cond.code yX1_init cX1_init 1 none ∈ GT ∧ Cond.instanceMethod yX1_init ∈ GT ∧ Cond.initialized RX1 ∈ GT) ∧ yX1_init.cls ≠ "java/lang/invoke/MethodHandle" ∧ yX1_init.cls ≠ "java/lang/invoke/VarHandle" ∧ (parseMethodDescriptor yX1_init.desc).map (fun d => d.parameters.length) = some 0 := ⟨⟨GT_m1 142 rfl rfl, GT_m1 141 (by decide +kernel) rfl, GT_m1 7 (by decide +kernel) rfl⟩, by decide +kernel⟩
set_option maxRecDepth 100000 in
theorem mv_X1_insert : xcV yX1_insert RX1 cX1_insert 5 none 1 := ⟨⟨GT_m3 148 rfl rfl, GT_m3 147 (by decide +kernel) rfl, GT_mem 10 (by decide +kernel) rfl, GT_m1 7 (by decide +kernel) rfl⟩, by decide +kernel⟩
set_option maxRecDepth 100000 in
theorem mv_X1_ofAllRows : xcV yX1_ofAllRows RX1 cX1_ofAllRows 6 none 2 := ⟨⟨GT_m3 108 rfl rfl, GT_m3 106 (by decide +kernel) rfl, GT_m3 107 (by decide +kernel) rfl, GT_m1 7 (by decide +kernel) rfl⟩, by decide +kernel⟩
set_option maxRecDepth 100000 in
theorem mv_X1_ofOneRow : xcV yX1_ofOneRow RX1 cX1_ofOneRow 4 none 2 := ⟨⟨GT_m6 5 rfl rfl, GT_m6 3 (by decide +kernel) rfl, GT_m6 4 (by decide +kernel) rfl, GT_m1 7 (by decide +kernel) rfl⟩, by decide +kernel⟩
set_option maxRecDepth 100000 in
theorem mv_X1_offerByRows : xcV yX1_offerByRows RX1 cX1_offerByRows 6 none 3 := ⟨⟨GT_m3 139 rfl rfl, GT_m3 138 (by decide +kernel) rfl, GT_mem 8 (by decide +kernel) rfl, GT_m1 7 (by decide +kernel) rfl⟩, by decide +kernel⟩
set_option maxRecDepth 100000 in
theorem mv_X1_offerKeys : xcV yX1_offerKeys RX1 cX1_offerKeys 3 none 1 := ⟨⟨GT_m3 144 rfl rfl, GT_m3 143 (by decide +kernel) rfl, GT_mem 9 (by decide +kernel) rfl, GT_m1 7 (by decide +kernel) rfl⟩, by decide +kernel⟩
set_option maxRecDepth 100000 in
theorem mv_X1_offerValues : xcV yX1_offerValues RX1 cX1_offerValues 7 none 4 := ⟨⟨GT_m3 152 rfl rfl, GT_m3 151 (by decide +kernel) rfl, GT_mem 11 (by decide +kernel) rfl, GT_m1 7 (by decide +kernel) rfl⟩, by decide +kernel⟩
set_option maxRecDepth 100000 in
theorem ms_X1_valuesDiffer : xcS yX1_valuesDiffer cX1_valuesDiffer 5 (some .boolean) 4 := ⟨⟨GT_m3 118 rfl rfl, GT_m3 117 (by decide +kernel) rfl, GT_m1 7 (by decide +kernel) rfl⟩, by decide +kernel⟩
set_option maxRecDepth 100000 in
theorem mv_X2_cutRow : xcV yX2_cutRow RX2 cX2_cutRow 6 none 4 := ⟨⟨GT_m4 238 rfl rfl, GT_m4 236 (by decide +kernel) rfl, GT_m4 237 (by decide +kernel) rfl, GT_m1 8 (by decide +kernel) rfl⟩, by decide +kernel⟩
set_option maxRecDepth 100000 in
theorem mv_X2_descend : xcV yX2_descend RX2 cX2_descend 4 none 3 := ⟨⟨GT_m5 2 rfl rfl, GT_m5 1 (by decide +kernel) rfl, GT_mem 28 (by decide +kernel) rfl, GT_m1 8 (by decide +kernel) rfl⟩, by decide +kernel⟩
set_option maxRecDepth 100000 in
theorem mv_X2_goOn : xcV yX2_goOn RX2 cX2_goOn 6 none 2 := ⟨⟨GT_m5 10 rfl rfl, GT_m5 9 (by decide +kernel) rfl, GT_mem 29 (by decide +kernel) rfl, GT_m1 8 (by decide +kernel) rfl⟩, by decide +kernel⟩
set_option maxRecDepth 100000 in
theorem mi_X2_init : (Cond.code yX2_init cX2_init 1 none ∈ GT ∧ Cond.instanceMethod yX2_init ∈ GT ∧ Cond.initialized RX2 ∈ GT) ∧ yX2_init.cls ≠ "java/lang/invoke/MethodHandle" ∧ yX2_init.cls ≠ "java/lang/invoke/VarHandle" ∧ (parseMethodDescriptor yX2_init.desc).map (fun d => d.parameters.length) = some 0 := ⟨⟨GT_m1 161 rfl rfl, GT_m1 160 (by decide +kernel) rfl, GT_m1 8 (by decide +kernel) rfl⟩, by decide +kernel⟩
set_option maxRecDepth 100000 in
theorem mv_X2_moveRow : xcV yX2_moveRow RX2 cX2_moveRow 8 none 5 := ⟨⟨GT_m5 31 rfl rfl, GT_m5 29 (by decide +kernel) rfl, GT_m5 30 (by decide +kernel) rfl, GT_m1 8 (by decide +kernel) rfl⟩, by decide +kernel⟩
set_option maxRecDepth 100000 in
theorem ms_X2_nextWith : xcS yX2_nextWith cX2_nextWith 5 (some .int) 4 := ⟨⟨GT_m5 23 rfl rfl, GT_m5 22 (by decide +kernel) rfl, GT_m1 8 (by decide +kernel) rfl⟩, by decide +kernel⟩
set_option maxRecDepth 100000 in
theorem ms_X2_replace : xcS yX2_replace cX2_replace 5 none 4 := ⟨⟨GT_m5 18 rfl rfl, GT_m5 17 (by decide +kernel) rfl, GT_m1 8 (by decide +kernel) rfl⟩, by decide +kernel⟩
set_option maxRecDepth 100000 in
theorem mv_X3_clear : xcV yX3_clear RX3 cX3_clear 2 none 0 := ⟨⟨GT_m5 216 rfl rfl, GT_m5 215 (by decide +kernel) rfl, GT_mem 36 (by decide +kernel) rfl, GT_m1 9 (by decide +kernel) rfl⟩, by decide +kernel⟩
set_option maxRecDepth 100000 in
theorem mi_X3_init : (Cond.code yX3_init cX3_init 1 none ∈ GT ∧ Cond.instanceMethod yX3_init ∈ GT ∧ Cond.initialized RX3 ∈ GT) ∧ yX3_init.cls ≠ "java/lang/invoke/MethodHandle" ∧ yX3_init.cls ≠ "java/lang/invoke/VarHandle" ∧ (parseMethodDescriptor yX3_init.desc).map (fun d => d.parameters.length) = some 0 := ⟨⟨GT_m1 183 rfl rfl, GT_m1 182 (by decide +kernel) rfl, GT_m1 9 (by decide +kernel) rfl⟩, by decide +kernel⟩
set_option maxRecDepth 100000 in
theorem mv_X3_reach : xcV yX3_reach RX3 cX3_reach 3 none 2 := ⟨⟨GT_m5 227 rfl rfl, GT_m5 226 (by decide +kernel) rfl, GT_mem 38 (by decide +kernel) rfl, GT_m1 9 (by decide +kernel) rfl⟩, by decide +kernel⟩
set_option maxRecDepth 100000 in
theorem mv_X3_reachFrom : xcV yX3_reachFrom RX3 cX3_reachFrom 8 none 4 := ⟨⟨GT_m5 220 rfl rfl, GT_m5 219 (by decide +kernel) rfl, GT_mem 37 (by decide +kernel) rfl, GT_m1 9 (by decide +kernel) rfl⟩, by decide +kernel⟩
set_option maxRecDepth 100000 in
theorem mv_X3_straight : xcV yX3_straight RX3 cX3_straight 5 (some .int) 4 := ⟨⟨GT_m5 212 rfl rfl, GT_m5 210 (by decide +kernel) rfl, GT_m5 211 (by decide +kernel) rfl, GT_m1 9 (by decide +kernel) rfl⟩, by decide +kernel⟩
set_option maxRecDepth 100000 in
theorem mv_X3_straightOrNot : xcV yX3_straightOrNot RX3 cX3_straightOrNot 6 (some .int) 4 := ⟨⟨GT_m5 233 rfl rfl, GT_m5 231 (by decide +kernel) rfl, GT_m5 232 (by decide +kernel) rfl, GT_m1 9 (by decide +kernel) rfl⟩, by decide +kernel⟩
set_option maxRecDepth 100000 in
theorem mv_X4_add : xcV yX4_add RX4 cX4_add 6 none 5 := ⟨⟨GT_m3 203 rfl rfl, GT_m3 201 (by decide +kernel) rfl, GT_m3 202 (by decide +kernel) rfl, GT_m1 6 (by decide +kernel) rfl⟩, by decide +kernel⟩
set_option maxRecDepth 100000 in
theorem mv_X4_after : xcV yX4_after RX4 cX4_after 2 (some .int) 1 := ⟨⟨GT_m4 220 rfl rfl, GT_m4 218 (by decide +kernel) rfl, GT_m4 219 (by decide +kernel) rfl, GT_m1 6 (by decide +kernel) rfl⟩, by decide +kernel⟩
set_option maxRecDepth 100000 in
theorem mv_X4_before : xcV yX4_before RX4 cX4_before 2 (some .int) 1 := ⟨⟨GT_m4 216 rfl rfl, GT_m4 214 (by decide +kernel) rfl, GT_m4 215 (by decide +kernel) rfl, GT_m1 6 (by decide +kernel) rfl⟩, by decide +kernel⟩
set_option maxRecDepth 100000 in
theorem mv_X4_clear : xcV yX4_clear RX4 cX4_clear 1 none 0 := ⟨⟨GT_m3 104 rfl rfl, GT_m3 102 (by decide +kernel) rfl, GT_m3 103 (by decide +kernel) rfl, GT_m1 6 (by decide +kernel) rfl⟩, by decide +kernel⟩
set_option maxRecDepth 100000 in
theorem mv_X4_failing : xcV yX4_failing RX4 cX4_failing 3 (some .int) 0 := ⟨⟨GT_m5 139 rfl rfl, GT_m5 137 (by decide +kernel) rfl, GT_m5 138 (by decide +kernel) rfl, GT_m1 6 (by decide +kernel) rfl⟩, by decide +kernel⟩
set_option maxRecDepth 100000 in
theorem mv_X4_fails : xcV yX4_fails RX4 cX4_fails 2 (some .boolean) 1 := ⟨⟨GT_m3 211 rfl rfl, GT_m3 209 (by decide +kernel) rfl, GT_m3 210 (by decide +kernel) rfl, GT_m1 6 (by decide +kernel) rfl⟩, by decide +kernel⟩
set_option maxRecDepth 100000 in
theorem mv_X4_firstFailing : xcV yX4_firstFailing RX4 cX4_firstFailing 2 (some .int) 0 := ⟨⟨GT_m3 207 rfl rfl, GT_m3 205 (by decide +kernel) rfl, GT_m3 206 (by decide +kernel) rfl, GT_m1 6 (by decide +kernel) rfl⟩, by decide +kernel⟩
set_option maxRecDepth 100000 in
theorem mv_X4_groupStart : xcV yX4_groupStart RX4 cX4_groupStart 4 (some .int) 1 := ⟨⟨GT_m5 109 rfl rfl, GT_m5 107 (by decide +kernel) rfl, GT_m5 108 (by decide +kernel) rfl, GT_m1 6 (by decide +kernel) rfl⟩, by decide +kernel⟩
set_option maxRecDepth 100000 in
theorem mv_X4_groups : xcV yX4_groups RX4 cX4_groups 3 (some .int) 0 := ⟨⟨GT_m5 101 rfl rfl, GT_m5 99 (by decide +kernel) rfl, GT_m5 100 (by decide +kernel) rfl, GT_m1 6 (by decide +kernel) rfl⟩, by decide +kernel⟩
set_option maxRecDepth 100000 in
theorem mi_X4_init : (Cond.code yX4_init cX4_init 1 none ∈ GT ∧ Cond.instanceMethod yX4_init ∈ GT ∧ Cond.initialized RX4 ∈ GT) ∧ yX4_init.cls ≠ "java/lang/invoke/MethodHandle" ∧ yX4_init.cls ≠ "java/lang/invoke/VarHandle" ∧ (parseMethodDescriptor yX4_init.desc).map (fun d => d.parameters.length) = some 0 := ⟨⟨GT_m1 113 rfl rfl, GT_m1 112 (by decide +kernel) rfl, GT_m1 6 (by decide +kernel) rfl⟩, by decide +kernel⟩
set_option maxRecDepth 100000 in
theorem mv_X4_isInside : xcV yX4_isInside RX4 cX4_isInside 2 (some .boolean) 1 := ⟨⟨GT_m3 215 rfl rfl, GT_m3 214 (by decide +kernel) rfl, GT_mem 14 (by decide +kernel) rfl, GT_m1 6 (by decide +kernel) rfl⟩, by decide +kernel⟩
set_option maxRecDepth 100000 in
theorem mv_X4_isLate : xcV yX4_isLate RX4 cX4_isLate 2 (some .boolean) 1 := ⟨⟨GT_m4 199 rfl rfl, GT_m4 197 (by decide +kernel) rfl, GT_m4 198 (by decide +kernel) rfl, GT_m1 6 (by decide +kernel) rfl⟩, by decide +kernel⟩
set_option maxRecDepth 100000 in
theorem mv_X4_number : xcV yX4_number RX4 cX4_number 2 (some .int) 1 := ⟨⟨GT_m4 140 rfl rfl, GT_m4 138 (by decide +kernel) rfl, GT_m4 139 (by decide +kernel) rfl, GT_m1 6 (by decide +kernel) rfl⟩, by decide +kernel⟩
set_option maxRecDepth 100000 in
theorem mv_X4_ofRule : xcV yX4_ofRule RX4 cX4_ofRule 4 (some .int) 1 := ⟨⟨GT_m4 136 rfl rfl, GT_m4 134 (by decide +kernel) rfl, GT_m4 135 (by decide +kernel) rfl, GT_m1 6 (by decide +kernel) rfl⟩, by decide +kernel⟩
set_option maxRecDepth 100000 in
theorem mv_X4_size : xcV yX4_size RX4 cX4_size 1 (some .int) 0 := ⟨⟨GT_m4 148 rfl rfl, GT_m4 146 (by decide +kernel) rfl, GT_m4 147 (by decide +kernel) rfl, GT_m1 6 (by decide +kernel) rfl⟩, by decide +kernel⟩
set_option maxRecDepth 100000 in
theorem mv_X4_startsGroup : xcV yX4_startsGroup RX4 cX4_startsGroup 2 (some .boolean) 1 := ⟨⟨GT_m5 105 rfl rfl, GT_m5 104 (by decide +kernel) rfl, GT_mem 32 (by decide +kernel) rfl, GT_m1 6 (by decide +kernel) rfl⟩, by decide +kernel⟩
set_option maxRecDepth 100000 in
theorem mv_X4_subject : xcV yX4_subject RX4 cX4_subject 2 (some .int) 1 := ⟨⟨GT_m3 220 rfl rfl, GT_m3 218 (by decide +kernel) rfl, GT_m3 219 (by decide +kernel) rfl, GT_m1 6 (by decide +kernel) rfl⟩, by decide +kernel⟩
set_option maxRecDepth 100000 in
theorem mv_X4_take : xcV yX4_take RX4 cX4_take 3 none 2 := ⟨⟨GT_m4 207 rfl rfl, GT_m4 205 (by decide +kernel) rfl, GT_m4 206 (by decide +kernel) rfl, GT_m1 6 (by decide +kernel) rfl⟩, by decide +kernel⟩
set_option maxRecDepth 100000 in
theorem mv_X5_advance : xcV yX5_advance RX5 cX5_advance 1 none 0 := ⟨⟨GT_m2 162 rfl rfl, GT_m2 161 (by decide +kernel) rfl, GT_mem 0 (by decide +kernel) rfl, GT_m1 3 (by decide +kernel) rfl⟩, by decide +kernel⟩
set_option maxRecDepth 100000 in
theorem mv_X5_advanceNumber : xcV yX5_advanceNumber RX5 cX5_advanceNumber 4 none 0 := ⟨⟨GT_m2 178 rfl rfl, GT_m2 177 (by decide +kernel) rfl, GT_mem 2 (by decide +kernel) rfl, GT_m1 3 (by decide +kernel) rfl⟩, by decide +kernel⟩
set_option maxRecDepth 100000 in
theorem mv_X5_advanceWord : xcV yX5_advanceWord RX5 cX5_advanceWord 1 none 0 := ⟨⟨GT_m2 174 rfl rfl, GT_m2 173 (by decide +kernel) rfl, GT_mem 1 (by decide +kernel) rfl, GT_m1 3 (by decide +kernel) rfl⟩, by decide +kernel⟩
set_option maxRecDepth 100000 in
theorem mv_X5_faultPlace : xcV yX5_faultPlace RX5 cX5_faultPlace 1 (some .int) 0 := ⟨⟨GT_m3 92 rfl rfl, GT_m3 90 (by decide +kernel) rfl, GT_m3 91 (by decide +kernel) rfl, GT_m1 3 (by decide +kernel) rfl⟩, by decide +kernel⟩
set_option maxRecDepth 100000 in
theorem mi_X5_init : (Cond.code yX5_init cX5_init 2 none ∈ GT ∧ Cond.instanceMethod yX5_init ∈ GT ∧ Cond.initialized RX5 ∈ GT) ∧ yX5_init.cls ≠ "java/lang/invoke/MethodHandle" ∧ yX5_init.cls ≠ "java/lang/invoke/VarHandle" ∧ (parseMethodDescriptor yX5_init.desc).map (fun d => d.parameters.length) = some 1 := ⟨⟨GT_m1 55 rfl rfl, GT_m1 54 (by decide +kernel) rfl, GT_m1 3 (by decide +kernel) rfl⟩, by decide +kernel⟩
set_option maxRecDepth 100000 in
theorem ms_X5_isDigit : xcS yX5_isDigit cX5_isDigit 1 (some .boolean) 1 := ⟨⟨GT_m2 181 rfl rfl, GT_m2 180 (by decide +kernel) rfl, GT_m1 3 (by decide +kernel) rfl⟩, by decide +kernel⟩
set_option maxRecDepth 100000 in
theorem ms_X5_isLetter : xcS yX5_isLetter cX5_isLetter 1 (some .boolean) 1 := ⟨⟨GT_m2 170 rfl rfl, GT_m2 169 (by decide +kernel) rfl, GT_m1 3 (by decide +kernel) rfl⟩, by decide +kernel⟩
set_option maxRecDepth 100000 in
theorem mv_X5_read : xcV yX5_read RX5 cX5_read 2 (some (.object "LateRules$Rule")) 0 := ⟨⟨GT_m2 158 rfl rfl, GT_m2 156 (by decide +kernel) rfl, GT_m2 157 (by decide +kernel) rfl, GT_m1 3 (by decide +kernel) rfl⟩, by decide +kernel⟩
set_option maxRecDepth 100000 in
theorem mv_X5_takeAction : xcV yX5_takeAction RX5 cX5_takeAction 1 (some .int) 0 := ⟨⟨GT_m3 84 rfl rfl, GT_m3 83 (by decide +kernel) rfl, GT_mem 6 (by decide +kernel) rfl, GT_m1 3 (by decide +kernel) rfl⟩, by decide +kernel⟩
set_option maxRecDepth 100000 in
theorem mv_X5_takeKind : xcV yX5_takeKind RX5 cX5_takeKind 2 (some .int) 0 := ⟨⟨GT_m2 187 rfl rfl, GT_m2 186 (by decide +kernel) rfl, GT_mem 3 (by decide +kernel) rfl, GT_m1 3 (by decide +kernel) rfl⟩, by decide +kernel⟩
set_option maxRecDepth 100000 in
theorem mv_X5_takeNumber : xcV yX5_takeNumber RX5 cX5_takeNumber 4 (some .int) 2 := ⟨⟨GT_m3 80 rfl rfl, GT_m3 79 (by decide +kernel) rfl, GT_mem 5 (by decide +kernel) rfl, GT_m1 3 (by decide +kernel) rfl⟩, by decide +kernel⟩
set_option maxRecDepth 100000 in
theorem mv_X5_takeWord : xcV yX5_takeWord RX5 cX5_takeWord 3 (some .boolean) 1 := ⟨⟨GT_m2 200 rfl rfl, GT_m2 199 (by decide +kernel) rfl, GT_mem 4 (by decide +kernel) rfl, GT_m1 3 (by decide +kernel) rfl⟩, by decide +kernel⟩
set_option maxRecDepth 100000 in
theorem mv_X6_add : xcV yX6_add RX6 cX6_add 3 none 2 := ⟨⟨GT_m4 178 rfl rfl, GT_m4 176 (by decide +kernel) rfl, GT_m4 177 (by decide +kernel) rfl, GT_m1 5 (by decide +kernel) rfl⟩, by decide +kernel⟩
set_option maxRecDepth 100000 in
theorem mv_X6_cell : xcV yX6_cell RX6 cX6_cell 4 (some .int) 3 := ⟨⟨GT_m3 122 rfl rfl, GT_m3 120 (by decide +kernel) rfl, GT_m3 121 (by decide +kernel) rfl, GT_m1 5 (by decide +kernel) rfl⟩, by decide +kernel⟩
set_option maxRecDepth 100000 in
theorem mv_X6_change : xcV yX6_change RX6 cX6_change 5 none 4 := ⟨⟨GT_m4 186 rfl rfl, GT_m4 184 (by decide +kernel) rfl, GT_m4 185 (by decide +kernel) rfl, GT_m1 5 (by decide +kernel) rfl⟩, by decide +kernel⟩
set_option maxRecDepth 100000 in
theorem mv_X6_copy : xcV yX6_copy RX6 cX6_copy 2 none 1 := ⟨⟨GT_m4 173 rfl rfl, GT_m4 171 (by decide +kernel) rfl, GT_m4 172 (by decide +kernel) rfl, GT_m1 5 (by decide +kernel) rfl⟩, by decide +kernel⟩
set_option maxRecDepth 100000 in
theorem mv_X6_fill : xcV yX6_fill RX6 cX6_fill 5 none 3 := ⟨⟨GT_m4 182 rfl rfl, GT_m4 181 (by decide +kernel) rfl, GT_mem 22 (by decide +kernel) rfl, GT_m1 5 (by decide +kernel) rfl⟩, by decide +kernel⟩
set_option maxRecDepth 100000 in
theorem mv_X6_has : xcV yX6_has RX6 cX6_has 3 (some .boolean) 2 := ⟨⟨GT_m3 180 rfl rfl, GT_m3 178 (by decide +kernel) rfl, GT_m3 179 (by decide +kernel) rfl, GT_m1 5 (by decide +kernel) rfl⟩, by decide +kernel⟩
set_option maxRecDepth 100000 in
theorem mv_X6_having : xcV yX6_having RX6 cX6_having 7 (some .int) 3 := ⟨⟨GT_m3 176 rfl rfl, GT_m3 174 (by decide +kernel) rfl, GT_m3 175 (by decide +kernel) rfl, GT_m1 5 (by decide +kernel) rfl⟩, by decide +kernel⟩
set_option maxRecDepth 100000 in
theorem mi_X6_init : (Cond.code yX6_init cX6_init 2 none ∈ GT ∧ Cond.instanceMethod yX6_init ∈ GT ∧ Cond.initialized RX6 ∈ GT) ∧ yX6_init.cls ≠ "java/lang/invoke/MethodHandle" ∧ yX6_init.cls ≠ "java/lang/invoke/VarHandle" ∧ (parseMethodDescriptor yX6_init.desc).map (fun d => d.parameters.length) = some 0 := ⟨⟨GT_m1 98 rfl rfl, GT_m1 97 (by decide +kernel) rfl, GT_m1 5 (by decide +kernel) rfl⟩, by decide +kernel⟩
set_option maxRecDepth 100000 in
theorem mv_X6_keyBits : xcV yX6_keyBits RX6 cX6_keyBits 2 (some .int) 1 := ⟨⟨GT_m3 112 rfl rfl, GT_m3 110 (by decide +kernel) rfl, GT_m3 111 (by decide +kernel) rfl, GT_m1 5 (by decide +kernel) rfl⟩, by decide +kernel⟩
set_option maxRecDepth 100000 in
theorem mv_X6_move : xcV yX6_move RX6 cX6_move 5 none 3 := ⟨⟨GT_m5 35 rfl rfl, GT_m5 33 (by decide +kernel) rfl, GT_m5 34 (by decide +kernel) rfl, GT_m1 5 (by decide +kernel) rfl⟩, by decide +kernel⟩
set_option maxRecDepth 100000 in
theorem mv_X6_newNulls : xcV yX6_newNulls RX6 cX6_newNulls 4 (some .int) 1 := ⟨⟨GT_m5 204 rfl rfl, GT_m5 202 (by decide +kernel) rfl, GT_m5 203 (by decide +kernel) rfl, GT_m1 5 (by decide +kernel) rfl⟩, by decide +kernel⟩
set_option maxRecDepth 100000 in
theorem ms_X6_place : xcS yX6_place cX6_place 2 (some .int) 2 := ⟨⟨GT_m3 131 rfl rfl, GT_m3 130 (by decide +kernel) rfl, GT_m1 5 (by decide +kernel) rfl⟩, by decide +kernel⟩
set_option maxRecDepth 100000 in
theorem mv_X6_remove : xcV yX6_remove RX6 cX6_remove 3 none 2 := ⟨⟨GT_m5 6 rfl rfl, GT_m5 4 (by decide +kernel) rfl, GT_m5 5 (by decide +kernel) rfl, GT_m1 5 (by decide +kernel) rfl⟩, by decide +kernel⟩
set_option maxRecDepth 100000 in
theorem mv_X6_size : xcV yX6_size RX6 cX6_size 2 (some .int) 1 := ⟨⟨GT_m5 51 rfl rfl, GT_m5 49 (by decide +kernel) rfl, GT_m5 50 (by decide +kernel) rfl, GT_m1 5 (by decide +kernel) rfl⟩, by decide +kernel⟩
set_option maxRecDepth 100000 in
theorem mv_X6_sumOf : xcV yX6_sumOf RX6 cX6_sumOf 10 (some .int) 4 := ⟨⟨GT_m3 184 rfl rfl, GT_m3 182 (by decide +kernel) rfl, GT_m3 183 (by decide +kernel) rfl, GT_m1 5 (by decide +kernel) rfl⟩, by decide +kernel⟩
set_option maxRecDepth 100000 in
theorem mv_X6_total : xcV yX6_total RX6 cX6_total 3 (some .int) 0 := ⟨⟨GT_m5 47 rfl rfl, GT_m5 45 (by decide +kernel) rfl, GT_m5 46 (by decide +kernel) rfl, GT_m1 5 (by decide +kernel) rfl⟩, by decide +kernel⟩
set_option maxRecDepth 100000 in
theorem mv_X7_fails : xcV yX7_fails RX7 cX7_fails 4 (some .boolean) 3 := ⟨⟨GT_m3 190 rfl rfl, GT_m3 188 (by decide +kernel) rfl, GT_m3 189 (by decide +kernel) rfl, GT_m1 21 (by decide +kernel) rfl⟩, by decide +kernel⟩
set_option maxRecDepth 100000 in
theorem mv_X7_follows : xcV yX7_follows RX7 cX7_follows 2 (some .boolean) 1 := ⟨⟨GT_m5 15 rfl rfl, GT_m5 13 (by decide +kernel) rfl, GT_m5 14 (by decide +kernel) rfl, GT_m1 21 (by decide +kernel) rfl⟩, by decide +kernel⟩
set_option maxRecDepth 100000 in
theorem mi_X7_init : (Cond.code yX7_init cX7_init 2 none ∈ GT ∧ Cond.instanceMethod yX7_init ∈ GT ∧ Cond.initialized RX7 ∈ GT) ∧ yX7_init.cls ≠ "java/lang/invoke/MethodHandle" ∧ yX7_init.cls ≠ "java/lang/invoke/VarHandle" ∧ (parseMethodDescriptor yX7_init.desc).map (fun d => d.parameters.length) = some 1 := ⟨⟨GT_m3 10 rfl rfl, GT_m3 9 (by decide +kernel) rfl, GT_m1 21 (by decide +kernel) rfl⟩, by decide +kernel⟩
set_option maxRecDepth 100000 in
theorem mv_X7_isAboutKeys : xcV yX7_isAboutKeys RX7 cX7_isAboutKeys 1 (some .boolean) 0 := ⟨⟨GT_m3 160 rfl rfl, GT_m3 158 (by decide +kernel) rfl, GT_m3 159 (by decide +kernel) rfl, GT_m1 21 (by decide +kernel) rfl⟩, by decide +kernel⟩
set_option maxRecDepth 100000 in
theorem mv_X7_isAmong : xcV yX7_isAmong RX7 cX7_isAmong 2 (some .boolean) 1 := ⟨⟨GT_m4 132 rfl rfl, GT_m4 130 (by decide +kernel) rfl, GT_m4 131 (by decide +kernel) rfl, GT_m1 21 (by decide +kernel) rfl⟩, by decide +kernel⟩
set_option maxRecDepth 100000 in
theorem mv_X7_isOnRing : xcV yX7_isOnRing RX7 cX7_isOnRing 5 (some .boolean) 2 := ⟨⟨GT_m3 199 rfl rfl, GT_m3 198 (by decide +kernel) rfl, GT_mem 13 (by decide +kernel) rfl, GT_m1 21 (by decide +kernel) rfl⟩, by decide +kernel⟩
set_option maxRecDepth 100000 in
theorem mv_X7_isOutside : xcV yX7_isOutside RX7 cX7_isOutside 2 (some .boolean) 1 := ⟨⟨GT_m3 194 rfl rfl, GT_m3 193 (by decide +kernel) rfl, GT_mem 12 (by decide +kernel) rfl, GT_m1 21 (by decide +kernel) rfl⟩, by decide +kernel⟩
set_option maxRecDepth 100000 in
theorem mv_X7_isSubject : xcV yX7_isSubject RX7 cX7_isSubject 2 (some .boolean) 1 := ⟨⟨GT_m3 156 rfl rfl, GT_m3 154 (by decide +kernel) rfl, GT_m3 155 (by decide +kernel) rfl, GT_m1 21 (by decide +kernel) rfl⟩, by decide +kernel⟩
set_option maxRecDepth 100000 in
theorem mv_X7_looksAtKeys : xcV yX7_looksAtKeys RX7 cX7_looksAtKeys 1 (some .boolean) 0 := ⟨⟨GT_m3 168 rfl rfl, GT_m3 166 (by decide +kernel) rfl, GT_m3 167 (by decide +kernel) rfl, GT_m1 21 (by decide +kernel) rfl⟩, by decide +kernel⟩
set_option maxRecDepth 100000 in
theorem mv_X7_state : xcV yX7_state RX7 cX7_state 3 (some .int) 2 := ⟨⟨GT_m3 172 rfl rfl, GT_m3 170 (by decide +kernel) rfl, GT_m3 171 (by decide +kernel) rfl, GT_m1 21 (by decide +kernel) rfl⟩, by decide +kernel⟩
set_option maxRecDepth 100000 in
theorem mv_X8_addFour : xcV yX8_addFour RX8 cX8_addFour 3 (some .boolean) 1 := ⟨⟨GT_m2 74 rfl rfl, GT_m2 72 (by decide +kernel) rfl, GT_m2 73 (by decide +kernel) rfl, GT_m1 2 (by decide +kernel) rfl⟩, by decide +kernel⟩
set_option maxRecDepth 100000 in
theorem mi_X8_init : (Cond.code yX8_init cX8_init 1 none ∈ GT ∧ Cond.instanceMethod yX8_init ∈ GT ∧ Cond.initialized RX8 ∈ GT) ∧ yX8_init.cls ≠ "java/lang/invoke/MethodHandle" ∧ yX8_init.cls ≠ "java/lang/invoke/VarHandle" ∧ (parseMethodDescriptor yX8_init.desc).map (fun d => d.parameters.length) = some 0 := ⟨⟨GT_m1 41 rfl rfl, GT_m1 40 (by decide +kernel) rfl, GT_m1 2 (by decide +kernel) rfl⟩, by decide +kernel⟩
set_option maxRecDepth 100000 in
theorem mv_X8_length : xcV yX8_length RX8 cX8_length 1 (some .int) 0 := ⟨⟨GT_m2 78 rfl rfl, GT_m2 76 (by decide +kernel) rfl, GT_m2 77 (by decide +kernel) rfl, GT_m1 2 (by decide +kernel) rfl⟩, by decide +kernel⟩
set_option maxRecDepth 100000 in
theorem mv_X8_shorten : xcV yX8_shorten RX8 cX8_shorten 2 (some .boolean) 1 := ⟨⟨GT_m2 86 rfl rfl, GT_m2 84 (by decide +kernel) rfl, GT_m2 85 (by decide +kernel) rfl, GT_m1 2 (by decide +kernel) rfl⟩, by decide +kernel⟩
set_option maxRecDepth 100000 in
theorem mv_X8_signAt : xcV yX8_signAt RX8 cX8_signAt 2 (some .char) 1 := ⟨⟨GT_m2 167 rfl rfl, GT_m2 165 (by decide +kernel) rfl, GT_m2 166 (by decide +kernel) rfl, GT_m1 2 (by decide +kernel) rfl⟩, by decide +kernel⟩
set_option maxRecDepth 100000 in
theorem mv_X9_clear : xcV yX9_clear RX9 cX9_clear 1 none 0 := ⟨⟨GT_m2 94 rfl rfl, GT_m2 92 (by decide +kernel) rfl, GT_m2 93 (by decide +kernel) rfl, GT_m1 10 (by decide +kernel) rfl⟩, by decide +kernel⟩
set_option maxRecDepth 100000 in
theorem mi_X9_init : (Cond.code yX9_init cX9_init 1 none ∈ GT ∧ Cond.instanceMethod yX9_init ∈ GT ∧ Cond.initialized RX9 ∈ GT) ∧ yX9_init.cls ≠ "java/lang/invoke/MethodHandle" ∧ yX9_init.cls ≠ "java/lang/invoke/VarHandle" ∧ (parseMethodDescriptor yX9_init.desc).map (fun d => d.parameters.length) = some 0 := ⟨⟨GT_m1 202 rfl rfl, GT_m1 201 (by decide +kernel) rfl, GT_m1 10 (by decide +kernel) rfl⟩, by decide +kernel⟩
set_option maxRecDepth 100000 in
theorem mv_X9_isTold : xcV yX9_isTold RX9 cX9_isTold 1 (some .boolean) 0 := ⟨⟨GT_m5 162 rfl rfl, GT_m5 160 (by decide +kernel) rfl, GT_m5 161 (by decide +kernel) rfl, GT_m1 10 (by decide +kernel) rfl⟩, by decide +kernel⟩
set_option maxRecDepth 100000 in
theorem mv_X9_number : xcV yX9_number RX9 cX9_number 1 (some .int) 0 := ⟨⟨GT_m5 166 rfl rfl, GT_m5 164 (by decide +kernel) rfl, GT_m5 165 (by decide +kernel) rfl, GT_m1 10 (by decide +kernel) rfl⟩, by decide +kernel⟩
set_option maxRecDepth 100000 in
theorem mv_X9_signAt : xcV yX9_signAt RX9 cX9_signAt 2 (some .int) 1 := ⟨⟨GT_m5 178 rfl rfl, GT_m5 176 (by decide +kernel) rfl, GT_m5 177 (by decide +kernel) rfl, GT_m1 10 (by decide +kernel) rfl⟩, by decide +kernel⟩
set_option maxRecDepth 100000 in
theorem mv_X9_signs : xcV yX9_signs RX9 cX9_signs 1 (some .int) 0 := ⟨⟨GT_m5 151 rfl rfl, GT_m5 149 (by decide +kernel) rfl, GT_m5 150 (by decide +kernel) rfl, GT_m1 10 (by decide +kernel) rfl⟩, by decide +kernel⟩
set_option maxRecDepth 100000 in
theorem mv_X9_subject : xcV yX9_subject RX9 cX9_subject 1 (some .int) 0 := ⟨⟨GT_m5 170 rfl rfl, GT_m5 168 (by decide +kernel) rfl, GT_m5 169 (by decide +kernel) rfl, GT_m1 10 (by decide +kernel) rfl⟩, by decide +kernel⟩
set_option maxRecDepth 100000 in
theorem mv_X9_tell : xcV yX9_tell RX9 cX9_tell 4 none 3 := ⟨⟨GT_m3 224 rfl rfl, GT_m3 222 (by decide +kernel) rfl, GT_m3 223 (by decide +kernel) rfl, GT_m1 10 (by decide +kernel) rfl⟩, by decide +kernel⟩
theorem ly_X0_0 : u_lay RX0 TX0 0 ∈ GT := GT_m1 87 (by decide +kernel) rfl
theorem ly_X0_1 : u_lay RX0 TX0 1 ∈ GT := GT_m1 89 (by decide +kernel) rfl
theorem ly_X0_2 : u_lay RX0 TX0 2 ∈ GT := GT_m1 91 (by decide +kernel) rfl
theorem inX0 : ∀ w ∈ u_ws RX0 TX0 3, w ∈ GT := (show ∀ w ∈ [u_lay RX0 TX0 0, u_lay RX0 TX0 1, u_lay RX0 TX0 2], w ∈ GT from List.forall_mem_cons.mpr ⟨ly_X0_0, List.forall_mem_cons.mpr ⟨ly_X0_1, List.forall_mem_cons.mpr ⟨ly_X0_2, fun _ h => absurd h List.not_mem_nil⟩⟩⟩)
theorem ly_X1_0 : u_lay RX1 TX1 0 ∈ GT := GT_m1 148 (by decide +kernel) rfl
theorem ly_X1_1 : u_lay RX1 TX1 1 ∈ GT := GT_m1 150 (by decide +kernel) rfl
theorem ly_X1_2 : u_lay RX1 TX1 2 ∈ GT := GT_m1 152 (by decide +kernel) rfl
theorem ly_X1_3 : u_lay RX1 TX1 3 ∈ GT := GT_m1 154 (by decide +kernel) rfl
theorem inX1 : ∀ w ∈ u_ws RX1 TX1 4, w ∈ GT := (show ∀ w ∈ [u_lay RX1 TX1 0, u_lay RX1 TX1 1, u_lay RX1 TX1 2, u_lay RX1 TX1 3], w ∈ GT from List.forall_mem_cons.mpr ⟨ly_X1_0, List.forall_mem_cons.mpr ⟨ly_X1_1, List.forall_mem_cons.mpr ⟨ly_X1_2, List.forall_mem_cons.mpr ⟨ly_X1_3, fun _ h => absurd h List.not_mem_nil⟩⟩⟩⟩)
theorem ly_X2_0 : u_lay RX2 TX2 0 ∈ GT := GT_m1 168 (by decide +kernel) rfl
theorem ly_X2_1 : u_lay RX2 TX2 1 ∈ GT := GT_m1 170 (by decide +kernel) rfl
theorem ly_X2_2 : u_lay RX2 TX2 2 ∈ GT := GT_m1 172 (by decide +kernel) rfl
theorem ly_X2_3 : u_lay RX2 TX2 3 ∈ GT := GT_m1 174 (by decide +kernel) rfl
theorem ly_X2_4 : u_lay RX2 TX2 4 ∈ GT := GT_m1 176 (by decide +kernel) rfl
theorem inX2 : ∀ w ∈ u_ws RX2 TX2 5, w ∈ GT := (show ∀ w ∈ [u_lay RX2 TX2 0, u_lay RX2 TX2 1, u_lay RX2 TX2 2, u_lay RX2 TX2 3, u_lay RX2 TX2 4], w ∈ GT from List.forall_mem_cons.mpr ⟨ly_X2_0, List.forall_mem_cons.mpr ⟨ly_X2_1, List.forall_mem_cons.mpr ⟨ly_X2_2, List.forall_mem_cons.mpr ⟨ly_X2_3, List.forall_mem_cons.mpr ⟨ly_X2_4, fun _ h => absurd h List.not_mem_nil⟩⟩⟩⟩⟩)
theorem ly_X3_0 : u_lay RX3 TX3 0 ∈ GT := GT_m1 189 (by decide +kernel) rfl
theorem ly_X3_1 : u_lay RX3 TX3 1 ∈ GT := GT_m1 191 (by decide +kernel) rfl
theorem ly_X3_2 : u_lay RX3 TX3 2 ∈ GT := GT_m1 193 (by decide +kernel) rfl
theorem ly_X3_3 : u_lay RX3 TX3 3 ∈ GT := GT_m1 195 (by decide +kernel) rfl
theorem inX3 : ∀ w ∈ u_ws RX3 TX3 4, w ∈ GT := (show ∀ w ∈ [u_lay RX3 TX3 0, u_lay RX3 TX3 1, u_lay RX3 TX3 2, u_lay RX3 TX3 3], w ∈ GT from List.forall_mem_cons.mpr ⟨ly_X3_0, List.forall_mem_cons.mpr ⟨ly_X3_1, List.forall_mem_cons.mpr ⟨ly_X3_2, List.forall_mem_cons.mpr ⟨ly_X3_3, fun _ h => absurd h List.not_mem_nil⟩⟩⟩⟩)
theorem ly_X4_0 : u_lay RX4 TX4 0 ∈ GT := GT_m1 122 (by decide +kernel) rfl
theorem ly_X4_1 : u_lay RX4 TX4 1 ∈ GT := GT_m1 124 (by decide +kernel) rfl
theorem ly_X4_2 : u_lay RX4 TX4 2 ∈ GT := GT_m1 126 (by decide +kernel) rfl
theorem ly_X4_3 : u_lay RX4 TX4 3 ∈ GT := GT_m1 128 (by decide +kernel) rfl
theorem ly_X4_4 : u_lay RX4 TX4 4 ∈ GT := GT_m1 130 (by decide +kernel) rfl
theorem ly_X4_5 : u_lay RX4 TX4 5 ∈ GT := GT_m1 132 (by decide +kernel) rfl
theorem ly_X4_6 : u_lay RX4 TX4 6 ∈ GT := GT_m1 134 (by decide +kernel) rfl
theorem inX4 : ∀ w ∈ u_ws RX4 TX4 7, w ∈ GT := (show ∀ w ∈ [u_lay RX4 TX4 0, u_lay RX4 TX4 1, u_lay RX4 TX4 2, u_lay RX4 TX4 3, u_lay RX4 TX4 4, u_lay RX4 TX4 5, u_lay RX4 TX4 6], w ∈ GT from List.forall_mem_cons.mpr ⟨ly_X4_0, List.forall_mem_cons.mpr ⟨ly_X4_1, List.forall_mem_cons.mpr ⟨ly_X4_2, List.forall_mem_cons.mpr ⟨ly_X4_3, List.forall_mem_cons.mpr ⟨ly_X4_4, List.forall_mem_cons.mpr ⟨ly_X4_5, List.forall_mem_cons.mpr ⟨ly_X4_6, fun _ h => absurd h List.not_mem_nil⟩⟩⟩⟩⟩⟩⟩)
theorem ly_X5_0 : u_lay RX5 TX5 0 ∈ GT := GT_m1 63 (by decide +kernel) rfl
theorem ly_X5_1 : u_lay RX5 TX5 1 ∈ GT := GT_m1 65 (by decide +kernel) rfl
theorem ly_X5_2 : u_lay RX5 TX5 2 ∈ GT := GT_m1 67 (by decide +kernel) rfl
theorem ly_X5_3 : u_lay RX5 TX5 3 ∈ GT := GT_m1 69 (by decide +kernel) rfl
theorem ly_X5_4 : u_lay RX5 TX5 4 ∈ GT := GT_m1 71 (by decide +kernel) rfl
theorem ly_X5_5 : u_lay RX5 TX5 5 ∈ GT := GT_m1 73 (by decide +kernel) rfl
theorem inX5 : ∀ w ∈ u_ws RX5 TX5 6, w ∈ GT := (show ∀ w ∈ [u_lay RX5 TX5 0, u_lay RX5 TX5 1, u_lay RX5 TX5 2, u_lay RX5 TX5 3, u_lay RX5 TX5 4, u_lay RX5 TX5 5], w ∈ GT from List.forall_mem_cons.mpr ⟨ly_X5_0, List.forall_mem_cons.mpr ⟨ly_X5_1, List.forall_mem_cons.mpr ⟨ly_X5_2, List.forall_mem_cons.mpr ⟨ly_X5_3, List.forall_mem_cons.mpr ⟨ly_X5_4, List.forall_mem_cons.mpr ⟨ly_X5_5, fun _ h => absurd h List.not_mem_nil⟩⟩⟩⟩⟩⟩)
theorem ly_X6_0 : u_lay RX6 TX6 0 ∈ GT := GT_m1 102 (by decide +kernel) rfl
theorem ly_X6_1 : u_lay RX6 TX6 1 ∈ GT := GT_m1 104 (by decide +kernel) rfl
theorem inX6 : ∀ w ∈ u_ws RX6 TX6 2, w ∈ GT := (show ∀ w ∈ [u_lay RX6 TX6 0, u_lay RX6 TX6 1], w ∈ GT from List.forall_mem_cons.mpr ⟨ly_X6_0, List.forall_mem_cons.mpr ⟨ly_X6_1, fun _ h => absurd h List.not_mem_nil⟩⟩)
theorem ly_X7_0 : u_lay RX7 TX7 0 ∈ GT := GT_m3 56 (by decide +kernel) rfl
theorem ly_X7_1 : u_lay RX7 TX7 1 ∈ GT := GT_m3 58 (by decide +kernel) rfl
theorem ly_X7_2 : u_lay RX7 TX7 2 ∈ GT := GT_m3 60 (by decide +kernel) rfl
theorem ly_X7_3 : u_lay RX7 TX7 3 ∈ GT := GT_m3 62 (by decide +kernel) rfl
theorem ly_X7_4 : u_lay RX7 TX7 4 ∈ GT := GT_m3 64 (by decide +kernel) rfl
theorem ly_X7_5 : u_lay RX7 TX7 5 ∈ GT := GT_m3 66 (by decide +kernel) rfl
theorem ly_X7_6 : u_lay RX7 TX7 6 ∈ GT := GT_m3 68 (by decide +kernel) rfl
theorem ly_X7_7 : u_lay RX7 TX7 7 ∈ GT := GT_m3 70 (by decide +kernel) rfl
theorem ly_X7_8 : u_lay RX7 TX7 8 ∈ GT := GT_m3 72 (by decide +kernel) rfl
theorem ly_X7_9 : u_lay RX7 TX7 9 ∈ GT := GT_m3 74 (by decide +kernel) rfl
theorem inX7 : ∀ w ∈ u_ws RX7 TX7 10, w ∈ GT := (show ∀ w ∈ [u_lay RX7 TX7 0, u_lay RX7 TX7 1, u_lay RX7 TX7 2, u_lay RX7 TX7 3, u_lay RX7 TX7 4, u_lay RX7 TX7 5, u_lay RX7 TX7 6, u_lay RX7 TX7 7, u_lay RX7 TX7 8, u_lay RX7 TX7 9], w ∈ GT from List.forall_mem_cons.mpr ⟨ly_X7_0, List.forall_mem_cons.mpr ⟨ly_X7_1, List.forall_mem_cons.mpr ⟨ly_X7_2, List.forall_mem_cons.mpr ⟨ly_X7_3, List.forall_mem_cons.mpr ⟨ly_X7_4, List.forall_mem_cons.mpr ⟨ly_X7_5, List.forall_mem_cons.mpr ⟨ly_X7_6, List.forall_mem_cons.mpr ⟨ly_X7_7, List.forall_mem_cons.mpr ⟨ly_X7_8, List.forall_mem_cons.mpr ⟨ly_X7_9, fun _ h => absurd h List.not_mem_nil⟩⟩⟩⟩⟩⟩⟩⟩⟩⟩)
theorem ly_X8_0 : u_lay RX8 TX8 0 ∈ GT := GT_m1 45 (by decide +kernel) rfl
theorem ly_X8_1 : u_lay RX8 TX8 1 ∈ GT := GT_m1 47 (by decide +kernel) rfl
theorem inX8 : ∀ w ∈ u_ws RX8 TX8 2, w ∈ GT := (show ∀ w ∈ [u_lay RX8 TX8 0, u_lay RX8 TX8 1], w ∈ GT from List.forall_mem_cons.mpr ⟨ly_X8_0, List.forall_mem_cons.mpr ⟨ly_X8_1, fun _ h => absurd h List.not_mem_nil⟩⟩)
theorem ly_X9_0 : u_lay RX9 TX9 0 ∈ GT := GT_m2 0 (by decide +kernel) rfl
theorem ly_X9_1 : u_lay RX9 TX9 1 ∈ GT := GT_m2 2 (by decide +kernel) rfl
theorem ly_X9_2 : u_lay RX9 TX9 2 ∈ GT := GT_m2 4 (by decide +kernel) rfl
theorem ly_X9_3 : u_lay RX9 TX9 3 ∈ GT := GT_m2 6 (by decide +kernel) rfl
theorem inX9 : ∀ w ∈ u_ws RX9 TX9 4, w ∈ GT := (show ∀ w ∈ [u_lay RX9 TX9 0, u_lay RX9 TX9 1, u_lay RX9 TX9 2, u_lay RX9 TX9 3], w ∈ GT from List.forall_mem_cons.mpr ⟨ly_X9_0, List.forall_mem_cons.mpr ⟨ly_X9_1, List.forall_mem_cons.mpr ⟨ly_X9_2, List.forall_mem_cons.mpr ⟨ly_X9_3, fun _ h => absurd h List.not_mem_nil⟩⟩⟩⟩)
theorem ly_X10_0 : u_lay RX10 TX10 0 ∈ GT := GT_m2 28 (by decide +kernel) rfl
theorem ly_X10_1 : u_lay RX10 TX10 1 ∈ GT := GT_m2 30 (by decide +kernel) rfl
theorem ly_X10_2 : u_lay RX10 TX10 2 ∈ GT := GT_m2 32 (by decide +kernel) rfl
theorem ly_X10_3 : u_lay RX10 TX10 3 ∈ GT := GT_m2 34 (by decide +kernel) rfl
theorem ly_X10_4 : u_lay RX10 TX10 4 ∈ GT := GT_m2 36 (by decide +kernel) rfl
theorem ly_X10_5 : u_lay RX10 TX10 5 ∈ GT := GT_m2 38 (by decide +kernel) rfl
theorem ly_X10_6 : u_lay RX10 TX10 6 ∈ GT := GT_m2 40 (by decide +kernel) rfl
theorem ly_X10_7 : u_lay RX10 TX10 7 ∈ GT := GT_m2 42 (by decide +kernel) rfl
theorem ly_X10_8 : u_lay RX10 TX10 8 ∈ GT := GT_m2 44 (by decide +kernel) rfl
theorem ly_X10_9 : u_lay RX10 TX10 9 ∈ GT := GT_m2 46 (by decide +kernel) rfl
theorem ly_X10_10 : u_lay RX10 TX10 10 ∈ GT := GT_m2 48 (by decide +kernel) rfl
theorem ly_X10_11 : u_lay RX10 TX10 11 ∈ GT := GT_m2 50 (by decide +kernel) rfl
theorem ly_X10_12 : u_lay RX10 TX10 12 ∈ GT := GT_m2 52 (by decide +kernel) rfl
theorem ly_X10_13 : u_lay RX10 TX10 13 ∈ GT := GT_m2 54 (by decide +kernel) rfl
theorem ly_X10_14 : u_lay RX10 TX10 14 ∈ GT := GT_m2 56 (by decide +kernel) rfl
theorem ly_X10_15 : u_lay RX10 TX10 15 ∈ GT := GT_m2 58 (by decide +kernel) rfl
theorem ly_X10_16 : u_lay RX10 TX10 16 ∈ GT := GT_m2 60 (by decide +kernel) rfl
theorem ly_X10_17 : u_lay RX10 TX10 17 ∈ GT := GT_m2 62 (by decide +kernel) rfl
theorem ly_X10_18 : u_lay RX10 TX10 18 ∈ GT := GT_m2 64 (by decide +kernel) rfl
theorem inX10 : ∀ w ∈ u_ws RX10 TX10 19, w ∈ GT := (show ∀ w ∈ [u_lay RX10 TX10 0, u_lay RX10 TX10 1, u_lay RX10 TX10 2, u_lay RX10 TX10 3, u_lay RX10 TX10 4, u_lay RX10 TX10 5, u_lay RX10 TX10 6, u_lay RX10 TX10 7, u_lay RX10 TX10 8, u_lay RX10 TX10 9, u_lay RX10 TX10 10, u_lay RX10 TX10 11, u_lay RX10 TX10 12, u_lay RX10 TX10 13, u_lay RX10 TX10 14, u_lay RX10 TX10 15, u_lay RX10 TX10 16, u_lay RX10 TX10 17, u_lay RX10 TX10 18], w ∈ GT from List.forall_mem_cons.mpr ⟨ly_X10_0, List.forall_mem_cons.mpr ⟨ly_X10_1, List.forall_mem_cons.mpr ⟨ly_X10_2, List.forall_mem_cons.mpr ⟨ly_X10_3, List.forall_mem_cons.mpr ⟨ly_X10_4, List.forall_mem_cons.mpr ⟨ly_X10_5, List.forall_mem_cons.mpr ⟨ly_X10_6, List.forall_mem_cons.mpr ⟨ly_X10_7, List.forall_mem_cons.mpr ⟨ly_X10_8, List.forall_mem_cons.mpr ⟨ly_X10_9, List.forall_mem_cons.mpr ⟨ly_X10_10, List.forall_mem_cons.mpr ⟨ly_X10_11, List.forall_mem_cons.mpr ⟨ly_X10_12, List.forall_mem_cons.mpr ⟨ly_X10_13, List.forall_mem_cons.mpr ⟨ly_X10_14, List.forall_mem_cons.mpr ⟨ly_X10_15, List.forall_mem_cons.mpr ⟨ly_X10_16, List.forall_mem_cons.mpr ⟨ly_X10_17, List.forall_mem_cons.mpr ⟨ly_X10_18, fun _ h => absurd h List.not_mem_nil⟩⟩⟩⟩⟩⟩⟩⟩⟩⟩⟩⟩⟩⟩⟩⟩⟩⟩⟩)
theorem ly_X11_0 : u_lay RX11 TX11 0 ∈ GT := GT_m6 163 (by decide +kernel) rfl
theorem ly_X11_1 : u_lay RX11 TX11 1 ∈ GT := GT_m6 165 (by decide +kernel) rfl
theorem ly_X11_2 : u_lay RX11 TX11 2 ∈ GT := GT_m6 167 (by decide +kernel) rfl
theorem ly_X11_3 : u_lay RX11 TX11 3 ∈ GT := GT_m6 169 (by decide +kernel) rfl
theorem ly_X11_4 : u_lay RX11 TX11 4 ∈ GT := GT_m6 171 (by decide +kernel) rfl
theorem ly_X11_5 : u_lay RX11 TX11 5 ∈ GT := GT_m6 173 (by decide +kernel) rfl
theorem ly_X11_6 : u_lay RX11 TX11 6 ∈ GT := GT_m6 175 (by decide +kernel) rfl
theorem ly_X11_7 : u_lay RX11 TX11 7 ∈ GT := GT_m6 177 (by decide +kernel) rfl
theorem ly_X11_8 : u_lay RX11 TX11 8 ∈ GT := GT_m6 179 (by decide +kernel) rfl
theorem ly_X11_9 : u_lay RX11 TX11 9 ∈ GT := GT_m6 181 (by decide +kernel) rfl
theorem ly_X11_10 : u_lay RX11 TX11 10 ∈ GT := GT_m6 183 (by decide +kernel) rfl
theorem ly_X11_11 : u_lay RX11 TX11 11 ∈ GT := GT_m6 185 (by decide +kernel) rfl
theorem ly_X11_12 : u_lay RX11 TX11 12 ∈ GT := GT_m6 187 (by decide +kernel) rfl
theorem ly_X11_13 : u_lay RX11 TX11 13 ∈ GT := GT_m6 189 (by decide +kernel) rfl
theorem ly_X11_14 : u_lay RX11 TX11 14 ∈ GT := GT_m6 191 (by decide +kernel) rfl
theorem ly_X11_15 : u_lay RX11 TX11 15 ∈ GT := GT_m6 193 (by decide +kernel) rfl
theorem ly_X11_16 : u_lay RX11 TX11 16 ∈ GT := GT_m6 195 (by decide +kernel) rfl
theorem ly_X11_17 : u_lay RX11 TX11 17 ∈ GT := GT_m6 197 (by decide +kernel) rfl
theorem ly_X11_18 : u_lay RX11 TX11 18 ∈ GT := GT_m6 199 (by decide +kernel) rfl
theorem ly_X11_19 : u_lay RX11 TX11 19 ∈ GT := GT_m6 201 (by decide +kernel) rfl
theorem ly_X11_20 : u_lay RX11 TX11 20 ∈ GT := GT_m6 203 (by decide +kernel) rfl
theorem ly_X11_21 : u_lay RX11 TX11 21 ∈ GT := GT_m6 205 (by decide +kernel) rfl
theorem ly_X11_22 : u_lay RX11 TX11 22 ∈ GT := GT_m6 207 (by decide +kernel) rfl
theorem ly_X11_23 : u_lay RX11 TX11 23 ∈ GT := GT_m6 209 (by decide +kernel) rfl
theorem ly_X11_24 : u_lay RX11 TX11 24 ∈ GT := GT_m6 211 (by decide +kernel) rfl
theorem ly_X11_25 : u_lay RX11 TX11 25 ∈ GT := GT_m6 213 (by decide +kernel) rfl
theorem ly_X11_26 : u_lay RX11 TX11 26 ∈ GT := GT_m6 215 (by decide +kernel) rfl
theorem ly_X11_27 : u_lay RX11 TX11 27 ∈ GT := GT_m6 217 (by decide +kernel) rfl
theorem ly_X11_28 : u_lay RX11 TX11 28 ∈ GT := GT_m6 219 (by decide +kernel) rfl
theorem ly_X11_29 : u_lay RX11 TX11 29 ∈ GT := GT_m6 221 (by decide +kernel) rfl
theorem ly_X11_30 : u_lay RX11 TX11 30 ∈ GT := GT_m6 223 (by decide +kernel) rfl
theorem ly_X11_31 : u_lay RX11 TX11 31 ∈ GT := GT_m6 225 (by decide +kernel) rfl
theorem ly_X11_32 : u_lay RX11 TX11 32 ∈ GT := GT_m6 227 (by decide +kernel) rfl
theorem ly_X11_33 : u_lay RX11 TX11 33 ∈ GT := GT_m6 229 (by decide +kernel) rfl
theorem ly_X11_34 : u_lay RX11 TX11 34 ∈ GT := GT_m6 231 (by decide +kernel) rfl
theorem ly_X11_35 : u_lay RX11 TX11 35 ∈ GT := GT_m6 233 (by decide +kernel) rfl
theorem ly_X11_36 : u_lay RX11 TX11 36 ∈ GT := GT_m6 235 (by decide +kernel) rfl
theorem ly_X11_37 : u_lay RX11 TX11 37 ∈ GT := GT_m6 237 (by decide +kernel) rfl
theorem ly_X11_38 : u_lay RX11 TX11 38 ∈ GT := GT_m6 239 (by decide +kernel) rfl
theorem ly_X11_39 : u_lay RX11 TX11 39 ∈ GT := GT_m7 1 (by decide +kernel) rfl
theorem ly_X11_40 : u_lay RX11 TX11 40 ∈ GT := GT_m7 3 (by decide +kernel) rfl
theorem ly_X11_41 : u_lay RX11 TX11 41 ∈ GT := GT_m7 5 (by decide +kernel) rfl
theorem ly_X11_42 : u_lay RX11 TX11 42 ∈ GT := GT_m7 7 (by decide +kernel) rfl
theorem ly_X11_43 : u_lay RX11 TX11 43 ∈ GT := GT_m7 9 (by decide +kernel) rfl
theorem ly_X11_44 : u_lay RX11 TX11 44 ∈ GT := GT_m7 11 (by decide +kernel) rfl
theorem ly_X11_45 : u_lay RX11 TX11 45 ∈ GT := GT_m7 13 (by decide +kernel) rfl
theorem ly_X11_46 : u_lay RX11 TX11 46 ∈ GT := GT_m7 15 (by decide +kernel) rfl
theorem ly_X11_47 : u_lay RX11 TX11 47 ∈ GT := GT_m7 17 (by decide +kernel) rfl
theorem ly_X11_48 : u_lay RX11 TX11 48 ∈ GT := GT_m7 19 (by decide +kernel) rfl
theorem ly_X11_49 : u_lay RX11 TX11 49 ∈ GT := GT_m7 21 (by decide +kernel) rfl
theorem ly_X11_50 : u_lay RX11 TX11 50 ∈ GT := GT_m7 23 (by decide +kernel) rfl
theorem ly_X11_51 : u_lay RX11 TX11 51 ∈ GT := GT_m7 25 (by decide +kernel) rfl
theorem inX11 : ∀ w ∈ u_ws RX11 TX11 52, w ∈ GT := (show ∀ w ∈ [u_lay RX11 TX11 0, u_lay RX11 TX11 1, u_lay RX11 TX11 2, u_lay RX11 TX11 3, u_lay RX11 TX11 4, u_lay RX11 TX11 5, u_lay RX11 TX11 6, u_lay RX11 TX11 7, u_lay RX11 TX11 8, u_lay RX11 TX11 9, u_lay RX11 TX11 10, u_lay RX11 TX11 11, u_lay RX11 TX11 12, u_lay RX11 TX11 13, u_lay RX11 TX11 14, u_lay RX11 TX11 15, u_lay RX11 TX11 16, u_lay RX11 TX11 17, u_lay RX11 TX11 18, u_lay RX11 TX11 19, u_lay RX11 TX11 20, u_lay RX11 TX11 21, u_lay RX11 TX11 22, u_lay RX11 TX11 23, u_lay RX11 TX11 24, u_lay RX11 TX11 25, u_lay RX11 TX11 26, u_lay RX11 TX11 27, u_lay RX11 TX11 28, u_lay RX11 TX11 29, u_lay RX11 TX11 30, u_lay RX11 TX11 31, u_lay RX11 TX11 32, u_lay RX11 TX11 33, u_lay RX11 TX11 34, u_lay RX11 TX11 35, u_lay RX11 TX11 36, u_lay RX11 TX11 37, u_lay RX11 TX11 38, u_lay RX11 TX11 39, u_lay RX11 TX11 40, u_lay RX11 TX11 41, u_lay RX11 TX11 42, u_lay RX11 TX11 43, u_lay RX11 TX11 44, u_lay RX11 TX11 45, u_lay RX11 TX11 46, u_lay RX11 TX11 47, u_lay RX11 TX11 48, u_lay RX11 TX11 49, u_lay RX11 TX11 50, u_lay RX11 TX11 51], w ∈ GT from List.forall_mem_cons.mpr ⟨ly_X11_0, List.forall_mem_cons.mpr ⟨ly_X11_1, List.forall_mem_cons.mpr ⟨ly_X11_2, List.forall_mem_cons.mpr ⟨ly_X11_3, List.forall_mem_cons.mpr ⟨ly_X11_4, List.forall_mem_cons.mpr ⟨ly_X11_5, List.forall_mem_cons.mpr ⟨ly_X11_6, List.forall_mem_cons.mpr ⟨ly_X11_7, List.forall_mem_cons.mpr ⟨ly_X11_8, List.forall_mem_cons.mpr ⟨ly_X11_9, List.forall_mem_cons.mpr ⟨ly_X11_10, List.forall_mem_cons.mpr ⟨ly_X11_11, List.forall_mem_cons.mpr ⟨ly_X11_12, List.forall_mem_cons.mpr ⟨ly_X11_13, List.forall_mem_cons.mpr ⟨ly_X11_14, List.forall_mem_cons.mpr ⟨ly_X11_15, List.forall_mem_cons.mpr ⟨ly_X11_16, List.forall_mem_cons.mpr ⟨ly_X11_17, List.forall_mem_cons.mpr ⟨ly_X11_18, List.forall_mem_cons.mpr ⟨ly_X11_19, List.forall_mem_cons.mpr ⟨ly_X11_20, List.forall_mem_cons.mpr ⟨ly_X11_21, List.forall_mem_cons.mpr ⟨ly_X11_22, List.forall_mem_cons.mpr ⟨ly_X11_23, List.forall_mem_cons.mpr ⟨ly_X11_24, List.forall_mem_cons.mpr ⟨ly_X11_25, List.forall_mem_cons.mpr ⟨ly_X11_26, List.forall_mem_cons.mpr ⟨ly_X11_27, List.forall_mem_cons.mpr ⟨ly_X11_28, List.forall_mem_cons.mpr ⟨ly_X11_29, List.forall_mem_cons.mpr ⟨ly_X11_30, List.forall_mem_cons.mpr ⟨ly_X11_31, List.forall_mem_cons.mpr ⟨ly_X11_32, List.forall_mem_cons.mpr ⟨ly_X11_33, List.forall_mem_cons.mpr ⟨ly_X11_34, List.forall_mem_cons.mpr ⟨ly_X11_35, List.forall_mem_cons.mpr ⟨ly_X11_36, List.forall_mem_cons.mpr ⟨ly_X11_37, List.forall_mem_cons.mpr ⟨ly_X11_38, List.forall_mem_cons.mpr ⟨ly_X11_39, List.forall_mem_cons.mpr ⟨ly_X11_40, List.forall_mem_cons.mpr ⟨ly_X11_41, List.forall_mem_cons.mpr ⟨ly_X11_42, List.forall_mem_cons.mpr ⟨ly_X11_43, List.forall_mem_cons.mpr ⟨ly_X11_44, List.forall_mem_cons.mpr ⟨ly_X11_45, List.forall_mem_cons.mpr ⟨ly_X11_46, List.forall_mem_cons.mpr ⟨ly_X11_47, List.forall_mem_cons.mpr ⟨ly_X11_48, List.forall_mem_cons.mpr ⟨ly_X11_49, List.forall_mem_cons.mpr ⟨ly_X11_50, List.forall_mem_cons.mpr ⟨ly_X11_51, fun _ h => absurd h List.not_mem_nil⟩⟩⟩⟩⟩⟩⟩⟩⟩⟩⟩⟩⟩⟩⟩⟩⟩⟩⟩⟩⟩⟩⟩⟩⟩⟩⟩⟩⟩⟩⟩⟩⟩⟩⟩⟩⟩⟩⟩⟩⟩⟩⟩⟩⟩⟩⟩⟩⟩⟩⟩⟩)
theorem ly_J4_0 : u_lay RJ4 TJ4 0 ∈ GT := GT_m1 226 (by decide +kernel) rfl
theorem ly_J4_1 : u_lay RJ4 TJ4 1 ∈ GT := GT_m1 228 (by decide +kernel) rfl
theorem ly_J4_2 : u_lay RJ4 TJ4 2 ∈ GT := GT_m1 230 (by decide +kernel) rfl
theorem ly_J4_3 : u_lay RJ4 TJ4 3 ∈ GT := GT_m1 232 (by decide +kernel) rfl
theorem inJ4 : ∀ w ∈ u_ws RJ4 TJ4 4, w ∈ GT := (show ∀ w ∈ [u_lay RJ4 TJ4 0, u_lay RJ4 TJ4 1, u_lay RJ4 TJ4 2, u_lay RJ4 TJ4 3], w ∈ GT from List.forall_mem_cons.mpr ⟨ly_J4_0, List.forall_mem_cons.mpr ⟨ly_J4_1, List.forall_mem_cons.mpr ⟨ly_J4_2, List.forall_mem_cons.mpr ⟨ly_J4_3, fun _ h => absurd h List.not_mem_nil⟩⟩⟩⟩)
theorem ka_int : Cond.arrayClass .int ∈ GT := GT_m1 107 (by decide +kernel) rfl
theorem ka_char : Cond.arrayClass .char ∈ GT := GT_m1 50 (by decide +kernel) rfl
theorem ka_byte : Cond.arrayClass .byte ∈ GT := GT_m1 235 (by decide +kernel) rfl
theorem ka_boolean : Cond.arrayClass .boolean ∈ GT := GT_m1 137 (by decide +kernel) rfl
theorem ka_long : Cond.arrayClass .long ∈ GT := GT_m8 165 (by decide +kernel) rfl
theorem kac : (Cond.native arraycopyName ∈ GT ∧ Cond.static arraycopyName ∈ GT) ∧ Cond.initialized "java/lang/System" ∈ GT := ⟨⟨GT_m2 136 (by decide +kernel) rfl, GT_m2 135 (by decide +kernel) rfl⟩, GT_m1 19 (by decide +kernel) rfl⟩
