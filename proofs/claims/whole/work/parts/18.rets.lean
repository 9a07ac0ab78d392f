/-! what a method gives back, and that it has no handlers -/
theorem rX0_init : pm_r mX0_init = none := Eq.trans rfl rfl
theorem hX0_init : pm_h mX0_init = [] := Eq.trans rfl rfl
theorem rX0_table : pm_r mX0_table = (some (.array .int)) := Eq.trans rfl rfl
theorem hX0_table : pm_h mX0_table = [] := Eq.trans rfl rfl
theorem rX0_edition : pm_r mX0_edition = (some .int) := Eq.trans rfl rfl
theorem hX0_edition : pm_h mX0_edition = [] := Eq.trans rfl rfl
theorem rX0_refresh : pm_r mX0_refresh = none := Eq.trans rfl rfl
theorem hX0_refresh : pm_h mX0_refresh = [] := Eq.trans rfl rfl
theorem rX0_goBy : pm_r mX0_goBy = none := Eq.trans rfl rfl
theorem hX0_goBy : pm_h mX0_goBy = [] := Eq.trans rfl rfl
theorem rX0_change : pm_r mX0_change = (some .int) := Eq.trans rfl rfl
theorem hX0_change : pm_h mX0_change = [] := Eq.trans rfl rfl
theorem rX0_least : pm_r mX0_least = (some .int) := Eq.trans rfl rfl
theorem hX0_least : pm_h mX0_least = [] := Eq.trans rfl rfl
theorem rX1_init : pm_r mX1_init = none := Eq.trans rfl rfl
theorem hX1_init : pm_h mX1_init = [] := Eq.trans rfl rfl
theorem rX1_size : pm_r mX1_size = (some .int) := Eq.trans rfl rfl
theorem hX1_size : pm_h mX1_size = [] := Eq.trans rfl rfl
theorem rX1_commands : pm_r mX1_commands = (some (.object "SpokenDesk$Rows")) := Eq.trans rfl rfl
theorem hX1_commands : pm_h mX1_commands = [] := Eq.trans rfl rfl
theorem rX1_points : pm_r mX1_points = (some .int) := Eq.trans rfl rfl
theorem hX1_points : pm_h mX1_points = [] := Eq.trans rfl rfl
theorem rX1_picked : pm_r mX1_picked = (some .int) := Eq.trans rfl rfl
theorem hX1_picked : pm_h mX1_picked = [] := Eq.trans rfl rfl
theorem rX1_begin : pm_r mX1_begin = none := Eq.trans rfl rfl
theorem hX1_begin : pm_h mX1_begin = [] := Eq.trans rfl rfl
theorem rX1_addWord : pm_r mX1_addWord = (some .boolean) := Eq.trans rfl rfl
theorem hX1_addWord : pm_h mX1_addWord = [] := Eq.trans rfl rfl
theorem rX1_latestPart : pm_r mX1_latestPart = (some .int) := Eq.trans rfl rfl
theorem hX1_latestPart : pm_h mX1_latestPart = [] := Eq.trans rfl rfl
theorem rX1_hasPoint : pm_r mX1_hasPoint = (some .boolean) := Eq.trans rfl rfl
theorem hX1_hasPoint : pm_h mX1_hasPoint = [] := Eq.trans rfl rfl
theorem rX1_addPoint : pm_r mX1_addPoint = (some .int) := Eq.trans rfl rfl
theorem hX1_addPoint : pm_h mX1_addPoint = [] := Eq.trans rfl rfl
theorem rX1_addPart : pm_r mX1_addPart = none := Eq.trans rfl rfl
theorem hX1_addPart : pm_h mX1_addPart = [] := Eq.trans rfl rfl
theorem rX1_isOptional : pm_r mX1_isOptional = (some .boolean) := Eq.trans rfl rfl
theorem hX1_isOptional : pm_h mX1_isOptional = [] := Eq.trans rfl rfl
theorem rX1_outer : pm_r mX1_outer = (some .int) := Eq.trans rfl rfl
theorem hX1_outer : pm_h mX1_outer = [] := Eq.trans rfl rfl
theorem rX1_takeCommands : pm_r mX1_takeCommands = (some .int) := Eq.trans rfl rfl
theorem hX1_takeCommands : pm_h mX1_takeCommands = [] := Eq.trans rfl rfl
theorem rX1_faultBehindAll : pm_r mX1_faultBehindAll = (some .int) := Eq.trans rfl rfl
theorem hX1_faultBehindAll : pm_h mX1_faultBehindAll = [] := Eq.trans rfl rfl
theorem rX1_settleFrom : pm_r mX1_settleFrom = none := Eq.trans rfl rfl
theorem hX1_settleFrom : pm_h mX1_settleFrom = [] := Eq.trans rfl rfl
theorem rX1_comesBy : pm_r mX1_comesBy = (some .boolean) := Eq.trans rfl rfl
theorem hX1_comesBy : pm_h mX1_comesBy = [] := Eq.trans rfl rfl
theorem rX1_soundsNow : pm_r mX1_soundsNow = (some .int) := Eq.trans rfl rfl
theorem hX1_soundsNow : pm_h mX1_soundsNow = [] := Eq.trans rfl rfl
theorem rX1_step : pm_r mX1_step = (some .boolean) := Eq.trans rfl rfl
theorem hX1_step : pm_h mX1_step = [] := Eq.trans rfl rfl
theorem rX1_keepCommands : pm_r mX1_keepCommands = none := Eq.trans rfl rfl
theorem hX1_keepCommands : pm_h mX1_keepCommands = [] := Eq.trans rfl rfl
theorem rX1_joinWords : pm_r mX1_joinWords = none := Eq.trans rfl rfl
theorem hX1_joinWords : pm_h mX1_joinWords = [] := Eq.trans rfl rfl
theorem rX2_init : pm_r mX2_init = none := Eq.trans rfl rfl
theorem hX2_init : pm_h mX2_init = [] := Eq.trans rfl rfl
theorem rX2_listen : pm_r mX2_listen = none := Eq.trans rfl rfl
theorem hX2_listen : pm_h mX2_listen = [] := Eq.trans rfl rfl
theorem rX2_forget : pm_r mX2_forget = none := Eq.trans rfl rfl
theorem hX2_forget : pm_h mX2_forget = [] := Eq.trans rfl rfl
theorem rX2_weigh : pm_r mX2_weigh = none := Eq.trans rfl rfl
theorem hX2_weigh : pm_h mX2_weigh = [] := Eq.trans rfl rfl
theorem rX2_askAgain : pm_r mX2_askAgain = none := Eq.trans rfl rfl
theorem hX2_askAgain : pm_h mX2_askAgain = [] := Eq.trans rfl rfl
theorem rX2_told : pm_r mX2_told = (some .int) := Eq.trans rfl rfl
theorem hX2_told : pm_h mX2_told = [] := Eq.trans rfl rfl
theorem rX2_asked : pm_r mX2_asked = (some .int) := Eq.trans rfl rfl
theorem hX2_asked : pm_h mX2_asked = [] := Eq.trans rfl rfl
theorem rX3_init : pm_r mX3_init = none := Eq.trans rfl rfl
theorem hX3_init : pm_h mX3_init = [] := Eq.trans rfl rfl
theorem rX3_size : pm_r mX3_size = (some .int) := Eq.trans rfl rfl
theorem hX3_size : pm_h mX3_size = [] := Eq.trans rfl rfl
theorem rX3_mostLetters : pm_r mX3_mostLetters = (some .int) := Eq.trans rfl rfl
theorem hX3_mostLetters : pm_h mX3_mostLetters = [] := Eq.trans rfl rfl
theorem rX3_mostSounds : pm_r mX3_mostSounds = (some .int) := Eq.trans rfl rfl
theorem hX3_mostSounds : pm_h mX3_mostSounds = [] := Eq.trans rfl rfl
theorem rX3_tell : pm_r mX3_tell = (some .int) := Eq.trans rfl rfl
theorem hX3_tell : pm_h mX3_tell = [] := Eq.trans rfl rfl
theorem rX3_find : pm_r mX3_find = (some .int) := Eq.trans rfl rfl
theorem hX3_find : pm_h mX3_find = [] := Eq.trans rfl rfl
theorem rX3_rows : pm_r mX3_rows = (some (.object "SpokenDesk$Rows")) := Eq.trans rfl rfl
theorem hX3_rows : pm_h mX3_rows = [] := Eq.trans rfl rfl
theorem rX3_lettersOf : pm_r mX3_lettersOf = (some .int) := Eq.trans rfl rfl
theorem hX3_lettersOf : pm_h mX3_lettersOf = [] := Eq.trans rfl rfl
theorem rX4_init : pm_r mX4_init = none := Eq.trans rfl rfl
theorem hX4_init : pm_h mX4_init = [] := Eq.trans rfl rfl
theorem rX4_edition : pm_r mX4_edition = (some .int) := Eq.trans rfl rfl
theorem hX4_edition : pm_h mX4_edition = [] := Eq.trans rfl rfl
theorem rX4_lay : pm_r mX4_lay = none := Eq.trans rfl rfl
theorem hX4_lay : pm_h mX4_lay = [] := Eq.trans rfl rfl
theorem rX4_reach : pm_r mX4_reach = (some .int) := Eq.trans rfl rfl
theorem hX4_reach : pm_h mX4_reach = [] := Eq.trans rfl rfl
theorem rX4_fillLine : pm_r mX4_fillLine = none := Eq.trans rfl rfl
theorem hX4_fillLine : pm_h mX4_fillLine = [] := Eq.trans rfl rfl
theorem rX5_init : pm_r mX5_init = none := Eq.trans rfl rfl
theorem hX5_init : pm_h mX5_init = [] := Eq.trans rfl rfl
theorem rX5_find : pm_r mX5_find = none := Eq.trans rfl rfl
theorem hX5_find : pm_h mX5_find = [] := Eq.trans rfl rfl
theorem rX5_compare : pm_r mX5_compare = none := Eq.trans rfl rfl
theorem hX5_compare : pm_h mX5_compare = [] := Eq.trans rfl rfl
theorem rX5_least : pm_r mX5_least = (some .int) := Eq.trans rfl rfl
theorem hX5_least : pm_h mX5_least = [] := Eq.trans rfl rfl
theorem rX5_forget : pm_r mX5_forget = none := Eq.trans rfl rfl
theorem hX5_forget : pm_h mX5_forget = [] := Eq.trans rfl rfl
theorem rX5_lower : pm_r mX5_lower = (some .int) := Eq.trans rfl rfl
theorem hX5_lower : pm_h mX5_lower = [] := Eq.trans rfl rfl
theorem rX5_upper : pm_r mX5_upper = (some .int) := Eq.trans rfl rfl
theorem hX5_upper : pm_h mX5_upper = [] := Eq.trans rfl rfl
theorem rX6_init : pm_r mX6_init = none := Eq.trans rfl rfl
theorem hX6_init : pm_h mX6_init = [] := Eq.trans rfl rfl
theorem rX6_parse : pm_r mX6_parse = (some .int) := Eq.trans rfl rfl
theorem hX6_parse : pm_h mX6_parse = [] := Eq.trans rfl rfl
theorem rX6_behindLetters : pm_r mX6_behindLetters = (some .int) := Eq.trans rfl rfl
theorem hX6_behindLetters : pm_h mX6_behindLetters = [] := Eq.trans rfl rfl
theorem rX6_takeSpelling : pm_r mX6_takeSpelling = (some .int) := Eq.trans rfl rfl
theorem hX6_takeSpelling : pm_h mX6_takeSpelling = [] := Eq.trans rfl rfl
theorem rX6_takeSign : pm_r mX6_takeSign = (some .int) := Eq.trans rfl rfl
theorem hX6_takeSign : pm_h mX6_takeSign = [] := Eq.trans rfl rfl
theorem rX6_takeOpening : pm_r mX6_takeOpening = (some .int) := Eq.trans rfl rfl
theorem hX6_takeOpening : pm_h mX6_takeOpening = [] := Eq.trans rfl rfl
theorem rX6_takeBar : pm_r mX6_takeBar = (some .int) := Eq.trans rfl rfl
theorem hX6_takeBar : pm_h mX6_takeBar = [] := Eq.trans rfl rfl
theorem rX6_takeClosing : pm_r mX6_takeClosing = (some .int) := Eq.trans rfl rfl
theorem hX6_takeClosing : pm_h mX6_takeClosing = [] := Eq.trans rfl rfl
theorem rX6_reached : pm_r mX6_reached = (some .int) := Eq.trans rfl rfl
theorem hX6_reached : pm_h mX6_reached = [] := Eq.trans rfl rfl
theorem rX7_init : pm_r mX7_init = none := Eq.trans rfl rfl
theorem hX7_init : pm_h mX7_init = [] := Eq.trans rfl rfl
theorem rX7_tryText : pm_r mX7_tryText = (some .int) := Eq.trans rfl rfl
theorem hX7_tryText : pm_h mX7_tryText = [] := Eq.trans rfl rfl
theorem rX7_tryRules : pm_r mX7_tryRules = (some .int) := Eq.trans rfl rfl
theorem hX7_tryRules : pm_h mX7_tryRules = [] := Eq.trans rfl rfl
theorem rX7_longest : pm_r mX7_longest = (some .int) := Eq.trans rfl rfl
theorem hX7_longest : pm_h mX7_longest = [] := Eq.trans rfl rfl
theorem rX7_result : pm_r mX7_result = (some (.object "SpokenDesk$Rows")) := Eq.trans rfl rfl
theorem hX7_result : pm_h mX7_result = [] := Eq.trans rfl rfl
theorem rX8_init : pm_r mX8_init = none := Eq.trans rfl rfl
theorem hX8_init : pm_h mX8_init = [] := Eq.trans rfl rfl
theorem rX8_length : pm_r mX8_length = (some .int) := Eq.trans rfl rfl
theorem hX8_length : pm_h mX8_length = [] := Eq.trans rfl rfl
theorem rX8_clear : pm_r mX8_clear = none := Eq.trans rfl rfl
theorem hX8_clear : pm_h mX8_clear = [] := Eq.trans rfl rfl
theorem rX8_at : pm_r mX8_at = (some .int) := Eq.trans rfl rfl
theorem hX8_at : pm_h mX8_at = [] := Eq.trans rfl rfl
theorem rX8_add : pm_r mX8_add = (some .boolean) := Eq.trans rfl rfl
theorem hX8_add : pm_h mX8_add = [] := Eq.trans rfl rfl
theorem rX8_width : pm_r mX8_width = (some .int) := Eq.trans rfl rfl
theorem hX8_width : pm_h mX8_width = [] := Eq.trans rfl rfl
theorem rX8_copy : pm_r mX8_copy = none := Eq.trans rfl rfl
theorem hX8_copy : pm_h mX8_copy = [] := Eq.trans rfl rfl
theorem rX8_join : pm_r mX8_join = none := Eq.trans rfl rfl
theorem hX8_join : pm_h mX8_join = [] := Eq.trans rfl rfl
theorem rX9_init : pm_r mX9_init = none := Eq.trans rfl rfl
theorem hX9_init : pm_h mX9_init = [] := Eq.trans rfl rfl
theorem rX9_choose : pm_r mX9_choose = none := Eq.trans rfl rfl
theorem hX9_choose : pm_h mX9_choose = [] := Eq.trans rfl rfl
theorem rX9_isReady : pm_r mX9_isReady = (some .boolean) := Eq.trans rfl rfl
theorem hX9_isReady : pm_h mX9_isReady = [] := Eq.trans rfl rfl
theorem rX9_measureAll : pm_r mX9_measureAll = none := Eq.trans rfl rfl
theorem hX9_measureAll : pm_h mX9_measureAll = [] := Eq.trans rfl rfl
theorem rX9_measureWord : pm_r mX9_measureWord = none := Eq.trans rfl rfl
theorem hX9_measureWord : pm_h mX9_measureWord = [] := Eq.trans rfl rfl
theorem rX9_tryFrom : pm_r mX9_tryFrom = none := Eq.trans rfl rfl
theorem hX9_tryFrom : pm_h mX9_tryFrom = [] := Eq.trans rfl rfl
theorem rX9_leastWith : pm_r mX9_leastWith = (some .int) := Eq.trans rfl rfl
theorem hX9_leastWith : pm_h mX9_leastWith = [] := Eq.trans rfl rfl
theorem rX9_worth : pm_r mX9_worth = (some .int) := Eq.trans rfl rfl
theorem hX9_worth : pm_h mX9_worth = [] := Eq.trans rfl rfl
theorem rX9_size : pm_r mX9_size = (some .int) := Eq.trans rfl rfl
theorem hX9_size : pm_h mX9_size = [] := Eq.trans rfl rfl
theorem rX9_open : pm_r mX9_open = (some .int) := Eq.trans rfl rfl
theorem hX9_open : pm_h mX9_open = [] := Eq.trans rfl rfl
theorem rX9_wordsOf : pm_r mX9_wordsOf = (some .int) := Eq.trans rfl rfl
theorem hX9_wordsOf : pm_h mX9_wordsOf = [] := Eq.trans rfl rfl
theorem rX9_take : pm_r mX9_take = (some .int) := Eq.trans rfl rfl
theorem hX9_take : pm_h mX9_take = [] := Eq.trans rfl rfl
theorem rX9_choiceOf : pm_r mX9_choiceOf = (some .int) := Eq.trans rfl rfl
theorem hX9_choiceOf : pm_h mX9_choiceOf = [] := Eq.trans rfl rfl
theorem rX10_init : pm_r mX10_init = none := Eq.trans rfl rfl
theorem hX10_init : pm_h mX10_init = [] := Eq.trans rfl rfl
theorem rX10_hasRoom : pm_r mX10_hasRoom = (some .boolean) := Eq.trans rfl rfl
theorem hX10_hasRoom : pm_h mX10_hasRoom = [] := Eq.trans rfl rfl
theorem rX10_put : pm_r mX10_put = none := Eq.trans rfl rfl
theorem hX10_put : pm_h mX10_put = [] := Eq.trans rfl rfl
theorem rX10_size : pm_r mX10_size = (some .int) := Eq.trans rfl rfl
theorem hX10_size : pm_h mX10_size = [] := Eq.trans rfl rfl
theorem rX10_isSpelling : pm_r mX10_isSpelling = (some .boolean) := Eq.trans rfl rfl
theorem hX10_isSpelling : pm_h mX10_isSpelling = [] := Eq.trans rfl rfl
theorem rX10_text : pm_r mX10_text = (some (.array .int)) := Eq.trans rfl rfl
theorem hX10_text : pm_h mX10_text = [] := Eq.trans rfl rfl
theorem rX10_clear : pm_r mX10_clear = none := Eq.trans rfl rfl
theorem hX10_clear : pm_h mX10_clear = [] := Eq.trans rfl rfl
theorem rX11_init : pm_r mX11_init = none := Eq.trans rfl rfl
theorem hX11_init : pm_h mX11_init = [] := Eq.trans rfl rfl
theorem rX11_drop : pm_r mX11_drop = (some .int) := Eq.trans rfl rfl
theorem hX11_drop : pm_h mX11_drop = [] := Eq.trans rfl rfl
theorem rX11_hand : pm_r mX11_hand = (some .int) := Eq.trans rfl rfl
theorem hX11_hand : pm_h mX11_hand = [] := Eq.trans rfl rfl
theorem rX11_feed : pm_r mX11_feed = (some .int) := Eq.trans rfl rfl
theorem hX11_feed : pm_h mX11_feed = [] := Eq.trans rfl rfl
theorem rX11_place : pm_r mX11_place = (some .int) := Eq.trans rfl rfl
theorem hX11_place : pm_h mX11_place = [] := Eq.trans rfl rfl
theorem rX11_apart : pm_r mX11_apart = (some .int) := Eq.trans rfl rfl
theorem hX11_apart : pm_h mX11_apart = [] := Eq.trans rfl rfl
theorem rX11_hear : pm_r mX11_hear = (some .int) := Eq.trans rfl rfl
theorem hX11_hear : pm_h mX11_hear = [] := Eq.trans rfl rfl
theorem rX11_again : pm_r mX11_again = (some .int) := Eq.trans rfl rfl
theorem hX11_again : pm_h mX11_again = [] := Eq.trans rfl rfl
theorem rX11_best : pm_r mX11_best = (some .int) := Eq.trans rfl rfl
theorem hX11_best : pm_h mX11_best = [] := Eq.trans rfl rfl
theorem rX11_count : pm_r mX11_count = (some .int) := Eq.trans rfl rfl
theorem hX11_count : pm_h mX11_count = [] := Eq.trans rfl rfl
theorem rX11_cost : pm_r mX11_cost = (some .int) := Eq.trans rfl rfl
theorem hX11_cost : pm_h mX11_cost = [] := Eq.trans rfl rfl
theorem rX11_needSoundOrNothing : pm_r mX11_needSoundOrNothing = none := Eq.trans rfl rfl
theorem hX11_needSoundOrNothing : pm_h mX11_needSoundOrNothing = [] := Eq.trans rfl rfl
theorem rX11_near : pm_r mX11_near = (some .int) := Eq.trans rfl rfl
theorem hX11_near : pm_h mX11_near = [] := Eq.trans rfl rfl
theorem rX11_push : pm_r mX11_push = (some .int) := Eq.trans rfl rfl
theorem hX11_push : pm_h mX11_push = [] := Eq.trans rfl rfl
theorem rX11_rule : pm_r mX11_rule = (some .int) := Eq.trans rfl rfl
theorem hX11_rule : pm_h mX11_rule = [] := Eq.trans rfl rfl
theorem rX11_needBytes : pm_r mX11_needBytes = none := Eq.trans rfl rfl
theorem hX11_needBytes : pm_h mX11_needBytes = [] := Eq.trans rfl rfl
theorem rX11_tell : pm_r mX11_tell = (some .int) := Eq.trans rfl rfl
theorem hX11_tell : pm_h mX11_tell = [] := Eq.trans rfl rfl
theorem rX11_isLetter : pm_r mX11_isLetter = (some .boolean) := Eq.trans rfl rfl
theorem hX11_isLetter : pm_h mX11_isLetter = [] := Eq.trans rfl rfl
theorem rX11_codeOf : pm_r mX11_codeOf = (some .long) := Eq.trans rfl rfl
theorem hX11_codeOf : pm_h mX11_codeOf = [] := Eq.trans rfl rfl
theorem rX11_longer : pm_r mX11_longer = (some .long) := Eq.trans rfl rfl
theorem hX11_longer : pm_h mX11_longer = [] := Eq.trans rfl rfl
theorem rX11_book : pm_r mX11_book = (some .int) := Eq.trans rfl rfl
theorem hX11_book : pm_h mX11_book = [] := Eq.trans rfl rfl
theorem rX11_read : pm_r mX11_read = (some .int) := Eq.trans rfl rfl
theorem hX11_read : pm_h mX11_read = [] := Eq.trans rfl rfl
theorem rX11_readTape : pm_r mX11_readTape = (some .int) := Eq.trans rfl rfl
theorem hX11_readTape : pm_h mX11_readTape = [] := Eq.trans rfl rfl
theorem rX11_grammar : pm_r mX11_grammar = (some .int) := Eq.trans rfl rfl
theorem hX11_grammar : pm_h mX11_grammar = [] := Eq.trans rfl rfl
theorem rX11_sound : pm_r mX11_sound = (some .int) := Eq.trans rfl rfl
theorem hX11_sound : pm_h mX11_sound = [] := Eq.trans rfl rfl
theorem rX11_needCommand : pm_r mX11_needCommand = none := Eq.trans rfl rfl
theorem hX11_needCommand : pm_h mX11_needCommand = [] := Eq.trans rfl rfl
theorem rX11_pick : pm_r mX11_pick = (some .int) := Eq.trans rfl rfl
theorem hX11_pick : pm_h mX11_pick = [] := Eq.trans rfl rfl
theorem rX11_distance : pm_r mX11_distance = (some .int) := Eq.trans rfl rfl
theorem hX11_distance : pm_h mX11_distance = [] := Eq.trans rfl rfl
theorem rX11_pair : pm_r mX11_pair = (some .int) := Eq.trans rfl rfl
theorem hX11_pair : pm_h mX11_pair = [] := Eq.trans rfl rfl
theorem rX11_heard : pm_r mX11_heard = (some .int) := Eq.trans rfl rfl
theorem hX11_heard : pm_h mX11_heard = [] := Eq.trans rfl rfl
theorem rX11_slot : pm_r mX11_slot = (some .int) := Eq.trans rfl rfl
theorem hX11_slot : pm_h mX11_slot = [] := Eq.trans rfl rfl
theorem rX11_word : pm_r mX11_word = (some .int) := Eq.trans rfl rfl
theorem hX11_word : pm_h mX11_word = [] := Eq.trans rfl rfl
theorem rX11_needSlot : pm_r mX11_needSlot = none := Eq.trans rfl rfl
theorem hX11_needSlot : pm_h mX11_needSlot = [] := Eq.trans rfl rfl
theorem rX11_chosen : pm_r mX11_chosen = (some .int) := Eq.trans rfl rfl
theorem hX11_chosen : pm_h mX11_chosen = [] := Eq.trans rfl rfl
theorem rX12_init : pm_r mX12_init = none := Eq.trans rfl rfl
theorem hX12_init : pm_h mX12_init = [] := Eq.trans rfl rfl
theorem rX12_thrown : pm_r mX12_thrown = (some .int) := Eq.trans rfl rfl
theorem hX12_thrown : pm_h mX12_thrown = [] := Eq.trans rfl rfl
theorem rX12_cost : pm_r mX12_cost = (some .int) := Eq.trans rfl rfl
theorem hX12_cost : pm_h mX12_cost = [] := Eq.trans rfl rfl
theorem rX12_isAny : pm_r mX12_isAny = (some .boolean) := Eq.trans rfl rfl
theorem hX12_isAny : pm_h mX12_isAny = [] := Eq.trans rfl rfl
theorem rX12_bad : pm_r mX12_bad = (some .boolean) := Eq.trans rfl rfl
theorem hX12_bad : pm_h mX12_bad = [] := Eq.trans rfl rfl
theorem rX12_near : pm_r mX12_near = (some .int) := Eq.trans rfl rfl
theorem hX12_near : pm_h mX12_near = [] := Eq.trans rfl rfl
theorem rX12_nearAll : pm_r mX12_nearAll = none := Eq.trans rfl rfl
theorem hX12_nearAll : pm_h mX12_nearAll = [] := Eq.trans rfl rfl
theorem rX12_push : pm_r mX12_push = (some .int) := Eq.trans rfl rfl
theorem hX12_push : pm_h mX12_push = [] := Eq.trans rfl rfl
theorem rX12_drop : pm_r mX12_drop = (some .int) := Eq.trans rfl rfl
theorem hX12_drop : pm_h mX12_drop = [] := Eq.trans rfl rfl
theorem rX12_hand : pm_r mX12_hand = (some .int) := Eq.trans rfl rfl
theorem hX12_hand : pm_h mX12_hand = [] := Eq.trans rfl rfl
theorem rX12_feed : pm_r mX12_feed = (some .int) := Eq.trans rfl rfl
theorem hX12_feed : pm_h mX12_feed = [] := Eq.trans rfl rfl
theorem rX12_rule : pm_r mX12_rule = (some .int) := Eq.trans rfl rfl
theorem hX12_rule : pm_h mX12_rule = [] := Eq.trans rfl rfl
theorem rX12_takes : pm_r mX12_takes = (some .boolean) := Eq.trans rfl rfl
theorem hX12_takes : pm_h mX12_takes = [] := Eq.trans rfl rfl
theorem rX12_isSpelling : pm_r mX12_isSpelling = (some .boolean) := Eq.trans rfl rfl
theorem hX12_isSpelling : pm_h mX12_isSpelling = [] := Eq.trans rfl rfl
theorem rX12_byteAt : pm_r mX12_byteAt = (some .int) := Eq.trans rfl rfl
theorem hX12_byteAt : pm_h mX12_byteAt = [] := Eq.trans rfl rfl
theorem rX12_isLetter : pm_r mX12_isLetter = (some .boolean) := Eq.trans rfl rfl
theorem hX12_isLetter : pm_h mX12_isLetter = [] := Eq.trans rfl rfl
theorem rX12_find : pm_r mX12_find = (some .int) := Eq.trans rfl rfl
theorem hX12_find : pm_h mX12_find = [] := Eq.trans rfl rfl
theorem rX12_book : pm_r mX12_book = (some .int) := Eq.trans rfl rfl
theorem hX12_book : pm_h mX12_book = [] := Eq.trans rfl rfl
theorem rX12_read : pm_r mX12_read = (some .int) := Eq.trans rfl rfl
theorem hX12_read : pm_h mX12_read = [] := Eq.trans rfl rfl
theorem rX12_reads : pm_r mX12_reads = (some .int) := Eq.trans rfl rfl
theorem hX12_reads : pm_h mX12_reads = [] := Eq.trans rfl rfl
theorem rX12_grammar : pm_r mX12_grammar = (some .int) := Eq.trans rfl rfl
theorem hX12_grammar : pm_h mX12_grammar = [] := Eq.trans rfl rfl
theorem rX12_row : pm_r mX12_row = none := Eq.trans rfl rfl
theorem hX12_row : pm_h mX12_row = [] := Eq.trans rfl rfl
theorem rX12_blanks : pm_r mX12_blanks = none := Eq.trans rfl rfl
theorem hX12_blanks : pm_h mX12_blanks = [] := Eq.trans rfl rfl
theorem rX12_spelling : pm_r mX12_spelling = none := Eq.trans rfl rfl
theorem hX12_spelling : pm_h mX12_spelling = [] := Eq.trans rfl rfl
theorem rX12_wrong : pm_r mX12_wrong = none := Eq.trans rfl rfl
theorem hX12_wrong : pm_h mX12_wrong = [] := Eq.trans rfl rfl
theorem rX12_choice : pm_r mX12_choice = none := Eq.trans rfl rfl
theorem hX12_choice : pm_h mX12_choice = [] := Eq.trans rfl rfl
theorem rX12_lists : pm_r mX12_lists = (some .int) := Eq.trans rfl rfl
theorem hX12_lists : pm_h mX12_lists = [] := Eq.trans rfl rfl
theorem rX12_isCome : pm_r mX12_isCome = (some .boolean) := Eq.trans rfl rfl
theorem hX12_isCome : pm_h mX12_isCome = [] := Eq.trans rfl rfl
theorem rX12_most : pm_r mX12_most = (some .int) := Eq.trans rfl rfl
theorem hX12_most : pm_h mX12_most = [] := Eq.trans rfl rfl
theorem rX12_says : pm_r mX12_says = (some .int) := Eq.trans rfl rfl
theorem hX12_says : pm_h mX12_says = [] := Eq.trans rfl rfl
theorem rX12_place : pm_r mX12_place = (some .int) := Eq.trans rfl rfl
theorem hX12_place : pm_h mX12_place = [] := Eq.trans rfl rfl
theorem rX12_sound : pm_r mX12_sound = (some .int) := Eq.trans rfl rfl
theorem hX12_sound : pm_h mX12_sound = [] := Eq.trans rfl rfl
theorem rX12_isCommand : pm_r mX12_isCommand = (some .boolean) := Eq.trans rfl rfl
theorem hX12_isCommand : pm_h mX12_isCommand = [] := Eq.trans rfl rfl
theorem rX12_pick : pm_r mX12_pick = (some .int) := Eq.trans rfl rfl
theorem hX12_pick : pm_h mX12_pick = [] := Eq.trans rfl rfl
theorem rX12_distance : pm_r mX12_distance = (some .int) := Eq.trans rfl rfl
theorem hX12_distance : pm_h mX12_distance = [] := Eq.trans rfl rfl
theorem rX12_between : pm_r mX12_between = (some .int) := Eq.trans rfl rfl
theorem hX12_between : pm_h mX12_between = [] := Eq.trans rfl rfl
theorem rX12_distanceOf : pm_r mX12_distanceOf = (some .int) := Eq.trans rfl rfl
theorem hX12_distanceOf : pm_h mX12_distanceOf = [] := Eq.trans rfl rfl
theorem rX12_apart : pm_r mX12_apart = (some .int) := Eq.trans rfl rfl
theorem hX12_apart : pm_h mX12_apart = [] := Eq.trans rfl rfl
theorem rX12_pairs : pm_r mX12_pairs = none := Eq.trans rfl rfl
theorem hX12_pairs : pm_h mX12_pairs = [] := Eq.trans rfl rfl
theorem rX12_pair : pm_r mX12_pair = (some .int) := Eq.trans rfl rfl
theorem hX12_pair : pm_h mX12_pair = [] := Eq.trans rfl rfl
theorem rX12_hear : pm_r mX12_hear = (some .int) := Eq.trans rfl rfl
theorem hX12_hear : pm_h mX12_hear = [] := Eq.trans rfl rfl
theorem rX12_heard : pm_r mX12_heard = (some .int) := Eq.trans rfl rfl
theorem hX12_heard : pm_h mX12_heard = [] := Eq.trans rfl rfl
theorem rX12_asked : pm_r mX12_asked = (some .int) := Eq.trans rfl rfl
theorem hX12_asked : pm_h mX12_asked = [] := Eq.trans rfl rfl
theorem rX12_again : pm_r mX12_again = (some .int) := Eq.trans rfl rfl
theorem hX12_again : pm_h mX12_again = [] := Eq.trans rfl rfl
theorem rX12_slot : pm_r mX12_slot = (some .int) := Eq.trans rfl rfl
theorem hX12_slot : pm_h mX12_slot = [] := Eq.trans rfl rfl
theorem rX12_word : pm_r mX12_word = (some .int) := Eq.trans rfl rfl
theorem hX12_word : pm_h mX12_word = [] := Eq.trans rfl rfl
theorem rX12_isSlot : pm_r mX12_isSlot = (some .boolean) := Eq.trans rfl rfl
theorem hX12_isSlot : pm_h mX12_isSlot = [] := Eq.trans rfl rfl
theorem rX12_best : pm_r mX12_best = (some .int) := Eq.trans rfl rfl
theorem hX12_best : pm_h mX12_best = [] := Eq.trans rfl rfl
theorem rX12_chooses : pm_r mX12_chooses = (some .int) := Eq.trans rfl rfl
theorem hX12_chooses : pm_h mX12_chooses = [] := Eq.trans rfl rfl
theorem rX12_chosen : pm_r mX12_chosen = (some .int) := Eq.trans rfl rfl
theorem hX12_chosen : pm_h mX12_chosen = [] := Eq.trans rfl rfl
theorem rX12_count : pm_r mX12_count = (some .int) := Eq.trans rfl rfl
theorem hX12_count : pm_h mX12_count = [] := Eq.trans rfl rfl
theorem rL_cost : pm_r mL_cost = (some .int) := Eq.trans rfl rfl
theorem rL_near : pm_r mL_near = (some .int) := Eq.trans rfl rfl
theorem rL_push : pm_r mL_push = (some .int) := Eq.trans rfl rfl
theorem rL_rule : pm_r mL_rule = (some .int) := Eq.trans rfl rfl
theorem rL_book : pm_r mL_book = (some .int) := Eq.trans rfl rfl
theorem rL_read : pm_r mL_read = (some .int) := Eq.trans rfl rfl
theorem rL_grammar : pm_r mL_grammar = (some .int) := Eq.trans rfl rfl
theorem rL_sound : pm_r mL_sound = (some .int) := Eq.trans rfl rfl
theorem rL_pick : pm_r mL_pick = (some .int) := Eq.trans rfl rfl
theorem rL_distance : pm_r mL_distance = (some .int) := Eq.trans rfl rfl
theorem rL_pair : pm_r mL_pair = (some .int) := Eq.trans rfl rfl
theorem rL_heard : pm_r mL_heard = (some .int) := Eq.trans rfl rfl
theorem rL_slot : pm_r mL_slot = (some .int) := Eq.trans rfl rfl
theorem rL_word : pm_r mL_word = (some .int) := Eq.trans rfl rfl
theorem rL_chosen : pm_r mL_chosen = (some .int) := Eq.trans rfl rfl
theorem rJ7_fill_53178 : pm_r mJ7_fill_53178 = none := Eq.trans rfl rfl
theorem hJ7_fill_53178 : pm_h mJ7_fill_53178 = [] := Eq.trans rfl rfl
