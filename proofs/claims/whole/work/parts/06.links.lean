/-! links: by program (gen_names.py) -/
theorem ini_X : Cond.initialized "PolicyText" ∈ aTs := mt1 1 (by decide +kernel) rfl
theorem ini_B : Cond.initialized "PolicyText$Bytes" ∈ aTs := mt1 2 (by decide +kernel) rfl
theorem ini_C : Cond.initialized "PolicyText$Call" ∈ aTs := mt1 7 (by decide +kernel) rfl
theorem ini_P : Cond.initialized "PolicyText$Policy" ∈ aTs := mt1 4 (by decide +kernel) rfl
theorem ini_W : Cond.initialized "PolicyText$Printer" ∈ aTs := mt1 13 (by decide +kernel) rfl
theorem ini_R : Cond.initialized "PolicyText$Reader" ∈ aTs := mt1 5 (by decide +kernel) rfl
theorem ini_T : Cond.initialized "PolicyText$Tokens" ∈ aTs := mt1 6 (by decide +kernel) rfl
theorem ini_M : Cond.initialized "PolicyTextModel" ∈ aTs := mt1 8 (by decide +kernel) rfl
theorem ini_I : Cond.initialized "java/lang/Integer" ∈ aTs := mt1 15 (by decide +kernel) rfl
theorem ini_A : Cond.initialized "java/lang/Math" ∈ aTs := mt1 3 (by decide +kernel) rfl
theorem ini_S : Cond.initialized "java/lang/String" ∈ aTs := mt1 9 (by decide +kernel) rfl
theorem ini_SL : Cond.initialized "java/lang/StringLatin1" ∈ aTs := mt1 10 (by decide +kernel) rfl
theorem ini_SU : Cond.initialized "java/lang/StringUTF16" ∈ aTs := mt1 12 (by decide +kernel) rfl
theorem ini_Q : Cond.initialized "jdk/internal/util/Preconditions" ∈ aTs := mt1 11 (by decide +kernel) rfl
set_option maxRecDepth 100000 in
theorem cm_X_init : Cond.code m_X_init.1 m_X_init.2.1 m_X_init.2.2.1 m_X_init.2.2.2 ∈ aTs := mt1 20 rfl rfl
theorem im_X_init : Cond.instanceMethod m_X_init.1 ∈ aTs := mt1 19 (by decide +kernel) rfl
set_option maxRecDepth 100000 in
theorem cm_O_init : Cond.code m_O_init.1 m_O_init.2.1 m_O_init.2.2.1 m_O_init.2.2.2 ∈ aTs := mt1 23 rfl rfl
theorem im_O_init : Cond.instanceMethod m_O_init.1 ∈ aTs := mt1 22 (by decide +kernel) rfl
set_option maxRecDepth 100000 in
theorem cm_B_init : Cond.code m_B_init.1 m_B_init.2.1 m_B_init.2.2.1 m_B_init.2.2.2 ∈ aTs := mt1 28 rfl rfl
theorem im_B_init : Cond.instanceMethod m_B_init.1 ∈ aTs := mt1 27 (by decide +kernel) rfl
set_option maxRecDepth 100000 in
theorem cm_A_max : Cond.code m_A_max.1 m_A_max.2.1 m_A_max.2.2.1 m_A_max.2.2.2 ∈ aTs := mt1 32 rfl rfl
theorem is_A_max : Cond.static m_A_max.1 ∈ aTs := mt1 31 (by decide +kernel) rfl
set_option maxRecDepth 100000 in
theorem cm_P_init : Cond.code m_P_init.1 m_P_init.2.1 m_P_init.2.2.1 m_P_init.2.2.2 ∈ aTs := mt1 48 rfl rfl
theorem im_P_init : Cond.instanceMethod m_P_init.1 ∈ aTs := mt1 47 (by decide +kernel) rfl
set_option maxRecDepth 100000 in
theorem cm_R_init : Cond.code m_R_init.1 m_R_init.2.1 m_R_init.2.2.1 m_R_init.2.2.2 ∈ aTs := mt1 95 rfl rfl
theorem im_R_init : Cond.instanceMethod m_R_init.1 ∈ aTs := mt1 94 (by decide +kernel) rfl
set_option maxRecDepth 100000 in
theorem cm_T_init : Cond.code m_T_init.1 m_T_init.2.1 m_T_init.2.2.1 m_T_init.2.2.2 ∈ aTs := mt1 101 rfl rfl
theorem im_T_init : Cond.instanceMethod m_T_init.1 ∈ aTs := mt1 100 (by decide +kernel) rfl
set_option maxRecDepth 100000 in
theorem cm_T_restart : Cond.code m_T_restart.1 m_T_restart.2.1 m_T_restart.2.2.1 m_T_restart.2.2.2 ∈ aTs := mt1 106 rfl rfl
theorem im_T_restart : Cond.instanceMethod m_T_restart.1 ∈ aTs := mt1 104 (by decide +kernel) rfl
theorem se_T_restart : Cond.selects m_T_restart.1.cls m_T_restart.1 m_T_restart.1 ∈ aTs := mt1 105 (by decide +kernel) rfl
set_option maxRecDepth 100000 in
theorem cm_C_init : Cond.code m_C_init.1 m_C_init.2.1 m_C_init.2.2.1 m_C_init.2.2.2 ∈ aTs := mt1 176 rfl rfl
theorem im_C_init : Cond.instanceMethod m_C_init.1 ∈ aTs := mt1 175 (by decide +kernel) rfl
set_option maxRecDepth 100000 in
theorem cm_P_addHead : Cond.code m_P_addHead.1 m_P_addHead.2.1 m_P_addHead.2.2.1 m_P_addHead.2.2.2 ∈ aTs := mt1 194 rfl rfl
theorem im_P_addHead : Cond.instanceMethod m_P_addHead.1 ∈ aTs := mt1 192 (by decide +kernel) rfl
theorem se_P_addHead : Cond.selects m_P_addHead.1.cls m_P_addHead.1 m_P_addHead.1 ∈ aTs := mt1 193 (by decide +kernel) rfl
set_option maxRecDepth 100000 in
theorem cm_P_canAddHead : Cond.code m_P_canAddHead.1 m_P_canAddHead.2.1 m_P_canAddHead.2.2.1 m_P_canAddHead.2.2.2 ∈ aTs := mt1 198 rfl rfl
theorem im_P_canAddHead : Cond.instanceMethod m_P_canAddHead.1 ∈ aTs := mt1 196 (by decide +kernel) rfl
theorem se_P_canAddHead : Cond.selects m_P_canAddHead.1.cls m_P_canAddHead.1 m_P_canAddHead.1 ∈ aTs := mt1 197 (by decide +kernel) rfl
set_option maxRecDepth 100000 in
theorem cm_X_give : Cond.code m_X_give.1 m_X_give.2.1 m_X_give.2.2.1 m_X_give.2.2.2 ∈ aTs := mt1 224 rfl rfl
theorem im_X_give : Cond.instanceMethod m_X_give.1 ∈ aTs := mt1 222 (by decide +kernel) rfl
theorem se_X_give : Cond.selects m_X_give.1.cls m_X_give.1 m_X_give.1 ∈ aTs := mt1 223 (by decide +kernel) rfl
set_option maxRecDepth 100000 in
theorem cm_B_free : Cond.code m_B_free.1 m_B_free.2.1 m_B_free.2.2.1 m_B_free.2.2.2 ∈ aTs := mt1 228 rfl rfl
theorem im_B_free : Cond.instanceMethod m_B_free.1 ∈ aTs := mt1 226 (by decide +kernel) rfl
theorem se_B_free : Cond.selects m_B_free.1.cls m_B_free.1 m_B_free.1 ∈ aTs := mt1 227 (by decide +kernel) rfl
set_option maxRecDepth 100000 in
theorem cm_B_add : Cond.code m_B_add.1 m_B_add.2.1 m_B_add.2.2.1 m_B_add.2.2.2 ∈ aTs := mt1 232 rfl rfl
theorem im_B_add : Cond.instanceMethod m_B_add.1 ∈ aTs := mt1 230 (by decide +kernel) rfl
theorem se_B_add : Cond.selects m_B_add.1.cls m_B_add.1 m_B_add.1 ∈ aTs := mt1 231 (by decide +kernel) rfl
set_option maxRecDepth 100000 in
theorem cm_B_put : Cond.code m_B_put.1 m_B_put.2.1 m_B_put.2.2.1 m_B_put.2.2.2 ∈ aTs := mt1 236 rfl rfl
theorem im_B_put : Cond.instanceMethod m_B_put.1 ∈ aTs := mt1 234 (by decide +kernel) rfl
theorem se_B_put : Cond.selects m_B_put.1.cls m_B_put.1 m_B_put.1 ∈ aTs := mt1 235 (by decide +kernel) rfl
set_option maxRecDepth 100000 in
theorem cm_X_cut : Cond.code m_X_cut.1 m_X_cut.2.1 m_X_cut.2.2.1 m_X_cut.2.2.2 ∈ aTs := mt2 2 rfl rfl
theorem im_X_cut : Cond.instanceMethod m_X_cut.1 ∈ aTs := mt2 0 (by decide +kernel) rfl
theorem se_X_cut : Cond.selects m_X_cut.1.cls m_X_cut.1 m_X_cut.1 ∈ aTs := mt2 1 (by decide +kernel) rfl
set_option maxRecDepth 100000 in
theorem cm_B_shorten : Cond.code m_B_shorten.1 m_B_shorten.2.1 m_B_shorten.2.2.1 m_B_shorten.2.2.2 ∈ aTs := mt2 6 rfl rfl
theorem im_B_shorten : Cond.instanceMethod m_B_shorten.1 ∈ aTs := mt2 4 (by decide +kernel) rfl
theorem se_B_shorten : Cond.selects m_B_shorten.1.cls m_B_shorten.1 m_B_shorten.1 ∈ aTs := mt2 5 (by decide +kernel) rfl
set_option maxRecDepth 100000 in
theorem cm_X_poke : Cond.code m_X_poke.1 m_X_poke.2.1 m_X_poke.2.2.1 m_X_poke.2.2.2 ∈ aTs := mt2 10 rfl rfl
theorem im_X_poke : Cond.instanceMethod m_X_poke.1 ∈ aTs := mt2 8 (by decide +kernel) rfl
theorem se_X_poke : Cond.selects m_X_poke.1.cls m_X_poke.1 m_X_poke.1 ∈ aTs := mt2 9 (by decide +kernel) rfl
set_option maxRecDepth 100000 in
theorem cm_X_read : Cond.code m_X_read.1 m_X_read.2.1 m_X_read.2.2.1 m_X_read.2.2.2 ∈ aTs := mt2 15 rfl rfl
theorem im_X_read : Cond.instanceMethod m_X_read.1 ∈ aTs := mt2 13 (by decide +kernel) rfl
theorem se_X_read : Cond.selects m_X_read.1.cls m_X_read.1 m_X_read.1 ∈ aTs := mt2 14 (by decide +kernel) rfl
set_option maxRecDepth 100000 in
theorem cm_R_readInto : Cond.code m_R_readInto.1 m_R_readInto.2.1 m_R_readInto.2.2.1 m_R_readInto.2.2.2 ∈ aTs := mt2 19 rfl rfl
theorem im_R_readInto : Cond.instanceMethod m_R_readInto.1 ∈ aTs := mt2 17 (by decide +kernel) rfl
theorem se_R_readInto : Cond.selects m_R_readInto.1.cls m_R_readInto.1 m_R_readInto.1 ∈ aTs := mt2 18 (by decide +kernel) rfl
set_option maxRecDepth 100000 in
theorem cm_R_begin : Cond.code m_R_begin.1 m_R_begin.2.1 m_R_begin.2.2.1 m_R_begin.2.2.2 ∈ aTs := mt2 23 rfl rfl
theorem im_R_begin : Cond.instanceMethod m_R_begin.1 ∈ aTs := mt2 22 (by decide +kernel) rfl
theorem se_R_begin : Cond.selects m_R_begin.1.cls m_R_begin.1 m_R_begin.1 ∈ aTs := mtp 0 (by decide +kernel) rfl
set_option maxRecDepth 100000 in
theorem cm_P_clear : Cond.code m_P_clear.1 m_P_clear.2.1 m_P_clear.2.2.1 m_P_clear.2.2.2 ∈ aTs := mt2 27 rfl rfl
theorem im_P_clear : Cond.instanceMethod m_P_clear.1 ∈ aTs := mt2 25 (by decide +kernel) rfl
theorem se_P_clear : Cond.selects m_P_clear.1.cls m_P_clear.1 m_P_clear.1 ∈ aTs := mt2 26 (by decide +kernel) rfl
set_option maxRecDepth 100000 in
theorem cm_T_advance : Cond.code m_T_advance.1 m_T_advance.2.1 m_T_advance.2.2.1 m_T_advance.2.2.2 ∈ aTs := mt2 32 rfl rfl
theorem im_T_advance : Cond.instanceMethod m_T_advance.1 ∈ aTs := mt2 30 (by decide +kernel) rfl
theorem se_T_advance : Cond.selects m_T_advance.1.cls m_T_advance.1 m_T_advance.1 ∈ aTs := mt2 31 (by decide +kernel) rfl
set_option maxRecDepth 100000 in
theorem cm_B_size : Cond.code m_B_size.1 m_B_size.2.1 m_B_size.2.2.1 m_B_size.2.2.2 ∈ aTs := mt2 36 rfl rfl
theorem im_B_size : Cond.instanceMethod m_B_size.1 ∈ aTs := mt2 34 (by decide +kernel) rfl
theorem se_B_size : Cond.selects m_B_size.1.cls m_B_size.1 m_B_size.1 ∈ aTs := mt2 35 (by decide +kernel) rfl
set_option maxRecDepth 100000 in
theorem cm_B_at : Cond.code m_B_at.1 m_B_at.2.1 m_B_at.2.2.1 m_B_at.2.2.2 ∈ aTs := mt2 40 rfl rfl
theorem im_B_at : Cond.instanceMethod m_B_at.1 ∈ aTs := mt2 38 (by decide +kernel) rfl
theorem se_B_at : Cond.selects m_B_at.1.cls m_B_at.1 m_B_at.1 ∈ aTs := mt2 39 (by decide +kernel) rfl
set_option maxRecDepth 100000 in
theorem cm_T_isBlank : Cond.code m_T_isBlank.1 m_T_isBlank.2.1 m_T_isBlank.2.2.1 m_T_isBlank.2.2.2 ∈ aTs := mt2 43 rfl rfl
theorem is_T_isBlank : Cond.static m_T_isBlank.1 ∈ aTs := mt2 42 (by decide +kernel) rfl
set_option maxRecDepth 100000 in
theorem cm_T_inWord : Cond.code m_T_inWord.1 m_T_inWord.2.1 m_T_inWord.2.2.1 m_T_inWord.2.2.2 ∈ aTs := mt2 46 rfl rfl
theorem is_T_inWord : Cond.static m_T_inWord.1 ∈ aTs := mt2 45 (by decide +kernel) rfl
set_option maxRecDepth 100000 in
theorem cm_T_isLetter : Cond.code m_T_isLetter.1 m_T_isLetter.2.1 m_T_isLetter.2.2.1 m_T_isLetter.2.2.2 ∈ aTs := mt2 49 rfl rfl
theorem is_T_isLetter : Cond.static m_T_isLetter.1 ∈ aTs := mt2 48 (by decide +kernel) rfl
set_option maxRecDepth 100000 in
theorem cm_T_isDigit : Cond.code m_T_isDigit.1 m_T_isDigit.2.1 m_T_isDigit.2.2.1 m_T_isDigit.2.2.2 ∈ aTs := mt2 52 rfl rfl
theorem is_T_isDigit : Cond.static m_T_isDigit.1 ∈ aTs := mt2 51 (by decide +kernel) rfl
set_option maxRecDepth 100000 in
theorem cm_T_takeWord : Cond.code m_T_takeWord.1 m_T_takeWord.2.1 m_T_takeWord.2.2.1 m_T_takeWord.2.2.2 ∈ aTs := mt2 56 rfl rfl
theorem im_T_takeWord : Cond.instanceMethod m_T_takeWord.1 ∈ aTs := mt2 55 (by decide +kernel) rfl
theorem se_T_takeWord : Cond.selects m_T_takeWord.1.cls m_T_takeWord.1 m_T_takeWord.1 ∈ aTs := mtp 1 (by decide +kernel) rfl
set_option maxRecDepth 100000 in
theorem cm_T_takeName : Cond.code m_T_takeName.1 m_T_takeName.2.1 m_T_takeName.2.2.1 m_T_takeName.2.2.2 ∈ aTs := mt2 60 rfl rfl
theorem im_T_takeName : Cond.instanceMethod m_T_takeName.1 ∈ aTs := mt2 59 (by decide +kernel) rfl
theorem se_T_takeName : Cond.selects m_T_takeName.1.cls m_T_takeName.1 m_T_takeName.1 ∈ aTs := mtp 2 (by decide +kernel) rfl
set_option maxRecDepth 100000 in
theorem cm_T_nameAt : Cond.code m_T_nameAt.1 m_T_nameAt.2.1 m_T_nameAt.2.2.1 m_T_nameAt.2.2.2 ∈ aTs := mt2 64 rfl rfl
theorem im_T_nameAt : Cond.instanceMethod m_T_nameAt.1 ∈ aTs := mt2 62 (by decide +kernel) rfl
theorem se_T_nameAt : Cond.selects m_T_nameAt.1.cls m_T_nameAt.1 m_T_nameAt.1 ∈ aTs := mt2 63 (by decide +kernel) rfl
set_option maxRecDepth 100000 in
theorem cm_T_takeNumber : Cond.code m_T_takeNumber.1 m_T_takeNumber.2.1 m_T_takeNumber.2.2.1 m_T_takeNumber.2.2.2 ∈ aTs := mt2 68 rfl rfl
theorem im_T_takeNumber : Cond.instanceMethod m_T_takeNumber.1 ∈ aTs := mt2 67 (by decide +kernel) rfl
theorem se_T_takeNumber : Cond.selects m_T_takeNumber.1.cls m_T_takeNumber.1 m_T_takeNumber.1 ∈ aTs := mtp 3 (by decide +kernel) rfl
set_option maxRecDepth 100000 in
theorem cm_R_take : Cond.code m_R_take.1 m_R_take.2.1 m_R_take.2.2.1 m_R_take.2.2.2 ∈ aTs := mt2 75 rfl rfl
theorem im_R_take : Cond.instanceMethod m_R_take.1 ∈ aTs := mt2 74 (by decide +kernel) rfl
theorem se_R_take : Cond.selects m_R_take.1.cls m_R_take.1 m_R_take.1 ∈ aTs := mtp 4 (by decide +kernel) rfl
set_option maxRecDepth 100000 in
theorem cm_R_takeTop : Cond.code m_R_takeTop.1 m_R_takeTop.2.1 m_R_takeTop.2.2.1 m_R_takeTop.2.2.2 ∈ aTs := mt2 79 rfl rfl
theorem im_R_takeTop : Cond.instanceMethod m_R_takeTop.1 ∈ aTs := mt2 78 (by decide +kernel) rfl
theorem se_R_takeTop : Cond.selects m_R_takeTop.1.cls m_R_takeTop.1 m_R_takeTop.1 ∈ aTs := mtp 5 (by decide +kernel) rfl
set_option maxRecDepth 100000 in
theorem cm_T_isA : Cond.code m_T_isA.1 m_T_isA.2.1 m_T_isA.2.2.1 m_T_isA.2.2.2 ∈ aTs := mt2 83 rfl rfl
theorem im_T_isA : Cond.instanceMethod m_T_isA.1 ∈ aTs := mt2 81 (by decide +kernel) rfl
theorem se_T_isA : Cond.selects m_T_isA.1.cls m_T_isA.1 m_T_isA.1 ∈ aTs := mt2 82 (by decide +kernel) rfl
set_option maxRecDepth 100000 in
theorem cm_P_heads : Cond.code m_P_heads.1 m_P_heads.2.1 m_P_heads.2.2.1 m_P_heads.2.2.2 ∈ aTs := mt2 87 rfl rfl
theorem im_P_heads : Cond.instanceMethod m_P_heads.1 ∈ aTs := mt2 85 (by decide +kernel) rfl
theorem se_P_heads : Cond.selects m_P_heads.1.cls m_P_heads.1 m_P_heads.1 ∈ aTs := mt2 86 (by decide +kernel) rfl
set_option maxRecDepth 100000 in
theorem cm_T_place : Cond.code m_T_place.1 m_T_place.2.1 m_T_place.2.2.1 m_T_place.2.2.2 ∈ aTs := mt2 91 rfl rfl
theorem im_T_place : Cond.instanceMethod m_T_place.1 ∈ aTs := mt2 89 (by decide +kernel) rfl
theorem se_T_place : Cond.selects m_T_place.1.cls m_T_place.1 m_T_place.1 ∈ aTs := mt2 90 (by decide +kernel) rfl
set_option maxRecDepth 100000 in
theorem cm_R_fail : Cond.code m_R_fail.1 m_R_fail.2.1 m_R_fail.2.2.1 m_R_fail.2.2.2 ∈ aTs := mt2 95 rfl rfl
theorem im_R_fail : Cond.instanceMethod m_R_fail.1 ∈ aTs := mt2 94 (by decide +kernel) rfl
theorem se_R_fail : Cond.selects m_R_fail.1.cls m_R_fail.1 m_R_fail.1 ∈ aTs := mtp 6 (by decide +kernel) rfl
set_option maxRecDepth 100000 in
theorem cm_R_takeHeadWord : Cond.code m_R_takeHeadWord.1 m_R_takeHeadWord.2.1 m_R_takeHeadWord.2.2.1 m_R_takeHeadWord.2.2.2 ∈ aTs := mt2 100 rfl rfl
theorem im_R_takeHeadWord : Cond.instanceMethod m_R_takeHeadWord.1 ∈ aTs := mt2 99 (by decide +kernel) rfl
theorem se_R_takeHeadWord : Cond.selects m_R_takeHeadWord.1.cls m_R_takeHeadWord.1 m_R_takeHeadWord.1 ∈ aTs := mtp 7 (by decide +kernel) rfl
set_option maxRecDepth 100000 in
theorem cm_T_isWord : Cond.code m_T_isWord.1 m_T_isWord.2.1 m_T_isWord.2.2.1 m_T_isWord.2.2.2 ∈ aTs := mt2 105 rfl rfl
theorem im_T_isWord : Cond.instanceMethod m_T_isWord.1 ∈ aTs := mt2 103 (by decide +kernel) rfl
theorem se_T_isWord : Cond.selects m_T_isWord.1.cls m_T_isWord.1 m_T_isWord.1 ∈ aTs := mt2 104 (by decide +kernel) rfl
set_option maxRecDepth 100000 in
theorem cm_S_length : Cond.code m_S_length.1 m_S_length.2.1 m_S_length.2.2.1 m_S_length.2.2.2 ∈ aTs := mt2 109 rfl rfl
theorem im_S_length : Cond.instanceMethod m_S_length.1 ∈ aTs := mt2 107 (by decide +kernel) rfl
theorem se_S_length : Cond.selects m_S_length.1.cls m_S_length.1 m_S_length.1 ∈ aTs := mt2 108 (by decide +kernel) rfl
set_option maxRecDepth 100000 in
theorem cm_S_coder : Cond.code m_S_coder.1 m_S_coder.2.1 m_S_coder.2.2.1 m_S_coder.2.2.2 ∈ aTs := mt2 113 rfl rfl
theorem im_S_coder : Cond.instanceMethod m_S_coder.1 ∈ aTs := mt2 111 (by decide +kernel) rfl
theorem se_S_coder : Cond.selects m_S_coder.1.cls m_S_coder.1 m_S_coder.1 ∈ aTs := mt2 112 (by decide +kernel) rfl
set_option maxRecDepth 100000 in
theorem cm_S_charAt : Cond.code m_S_charAt.1 m_S_charAt.2.1 m_S_charAt.2.2.1 m_S_charAt.2.2.2 ∈ aTs := mt2 119 rfl rfl
theorem im_S_charAt : Cond.instanceMethod m_S_charAt.1 ∈ aTs := mt2 117 (by decide +kernel) rfl
theorem se_S_charAt : Cond.selects m_S_charAt.1.cls m_S_charAt.1 m_S_charAt.1 ∈ aTs := mt2 118 (by decide +kernel) rfl
set_option maxRecDepth 100000 in
theorem cm_S_isLatin1 : Cond.code m_S_isLatin1.1 m_S_isLatin1.2.1 m_S_isLatin1.2.2.1 m_S_isLatin1.2.2.2 ∈ aTs := mt2 123 rfl rfl
theorem im_S_isLatin1 : Cond.instanceMethod m_S_isLatin1.1 ∈ aTs := mt2 121 (by decide +kernel) rfl
theorem se_S_isLatin1 : Cond.selects m_S_isLatin1.1.cls m_S_isLatin1.1 m_S_isLatin1.1 ∈ aTs := mt2 122 (by decide +kernel) rfl
set_option maxRecDepth 100000 in
theorem cm_SL_charAt : Cond.code m_SL_charAt.1 m_SL_charAt.2.1 m_SL_charAt.2.2.1 m_SL_charAt.2.2.2 ∈ aTs := mt2 126 rfl rfl
theorem is_SL_charAt : Cond.static m_SL_charAt.1 ∈ aTs := mt2 125 (by decide +kernel) rfl
set_option maxRecDepth 100000 in
theorem cm_S_checkIndex : Cond.code m_S_checkIndex.1 m_S_checkIndex.2.1 m_S_checkIndex.2.2.1 m_S_checkIndex.2.2.2 ∈ aTs := mt2 129 rfl rfl
theorem is_S_checkIndex : Cond.static m_S_checkIndex.1 ∈ aTs := mt2 128 (by decide +kernel) rfl
set_option maxRecDepth 100000 in
theorem cm_Q_checkIndex : Cond.code m_Q_checkIndex.1 m_Q_checkIndex.2.1 m_Q_checkIndex.2.2.1 m_Q_checkIndex.2.2.2 ∈ aTs := mt2 134 rfl rfl
theorem is_Q_checkIndex : Cond.static m_Q_checkIndex.1 ∈ aTs := mt2 133 (by decide +kernel) rfl
set_option maxRecDepth 100000 in
theorem cm_SU_charAt : Cond.code m_SU_charAt.1 m_SU_charAt.2.1 m_SU_charAt.2.2.1 m_SU_charAt.2.2.2 ∈ aTs := mt2 137 rfl rfl
theorem is_SU_charAt : Cond.static m_SU_charAt.1 ∈ aTs := mt2 136 (by decide +kernel) rfl
set_option maxRecDepth 100000 in
theorem cm_SU_checkIndex : Cond.code m_SU_checkIndex.1 m_SU_checkIndex.2.1 m_SU_checkIndex.2.2.1 m_SU_checkIndex.2.2.2 ∈ aTs := mt2 140 rfl rfl
theorem is_SU_checkIndex : Cond.static m_SU_checkIndex.1 ∈ aTs := mt2 139 (by decide +kernel) rfl
set_option maxRecDepth 100000 in
theorem cm_SU_length : Cond.code m_SU_length.1 m_SU_length.2.1 m_SU_length.2.2.1 m_SU_length.2.2.2 ∈ aTs := mt2 143 rfl rfl
theorem is_SU_length : Cond.static m_SU_length.1 ∈ aTs := mt2 142 (by decide +kernel) rfl
set_option maxRecDepth 100000 in
theorem cm_SU_getChar : Cond.code m_SU_getChar.1 m_SU_getChar.2.1 m_SU_getChar.2.2.1 m_SU_getChar.2.2.2 ∈ aTs := mt2 147 rfl rfl
theorem is_SU_getChar : Cond.static m_SU_getChar.1 ∈ aTs := mt2 146 (by decide +kernel) rfl
set_option maxRecDepth 100000 in
theorem cm_R_takeHeadName : Cond.code m_R_takeHeadName.1 m_R_takeHeadName.2.1 m_R_takeHeadName.2.2.1 m_R_takeHeadName.2.2.2 ∈ aTs := mt2 158 rfl rfl
theorem im_R_takeHeadName : Cond.instanceMethod m_R_takeHeadName.1 ∈ aTs := mt2 157 (by decide +kernel) rfl
theorem se_R_takeHeadName : Cond.selects m_R_takeHeadName.1.cls m_R_takeHeadName.1 m_R_takeHeadName.1 ∈ aTs := mtp 8 (by decide +kernel) rfl
set_option maxRecDepth 100000 in
theorem cm_T_isFreeName : Cond.code m_T_isFreeName.1 m_T_isFreeName.2.1 m_T_isFreeName.2.2.1 m_T_isFreeName.2.2.2 ∈ aTs := mt2 162 rfl rfl
theorem im_T_isFreeName : Cond.instanceMethod m_T_isFreeName.1 ∈ aTs := mt2 160 (by decide +kernel) rfl
theorem se_T_isFreeName : Cond.selects m_T_isFreeName.1.cls m_T_isFreeName.1 m_T_isFreeName.1 ∈ aTs := mt2 161 (by decide +kernel) rfl
set_option maxRecDepth 100000 in
theorem cm_T_name : Cond.code m_T_name.1 m_T_name.2.1 m_T_name.2.2.1 m_T_name.2.2.2 ∈ aTs := mt2 179 rfl rfl
theorem im_T_name : Cond.instanceMethod m_T_name.1 ∈ aTs := mt2 177 (by decide +kernel) rfl
theorem se_T_name : Cond.selects m_T_name.1.cls m_T_name.1 m_T_name.1 ∈ aTs := mt2 178 (by decide +kernel) rfl
set_option maxRecDepth 100000 in
theorem cm_P_find : Cond.code m_P_find.1 m_P_find.2.1 m_P_find.2.2.1 m_P_find.2.2.2 ∈ aTs := mt2 183 rfl rfl
theorem im_P_find : Cond.instanceMethod m_P_find.1 ∈ aTs := mt2 181 (by decide +kernel) rfl
theorem se_P_find : Cond.selects m_P_find.1.cls m_P_find.1 m_P_find.1 ∈ aTs := mt2 182 (by decide +kernel) rfl
set_option maxRecDepth 100000 in
theorem cm_R_takeCounterTop : Cond.code m_R_takeCounterTop.1 m_R_takeCounterTop.2.1 m_R_takeCounterTop.2.2.1 m_R_takeCounterTop.2.2.2 ∈ aTs := mt2 189 rfl rfl
theorem im_R_takeCounterTop : Cond.instanceMethod m_R_takeCounterTop.1 ∈ aTs := mt2 188 (by decide +kernel) rfl
theorem se_R_takeCounterTop : Cond.selects m_R_takeCounterTop.1.cls m_R_takeCounterTop.1 m_R_takeCounterTop.1 ∈ aTs := mtp 9 (by decide +kernel) rfl
set_option maxRecDepth 100000 in
theorem cm_T_isNumber : Cond.code m_T_isNumber.1 m_T_isNumber.2.1 m_T_isNumber.2.2.1 m_T_isNumber.2.2.2 ∈ aTs := mt2 193 rfl rfl
theorem im_T_isNumber : Cond.instanceMethod m_T_isNumber.1 ∈ aTs := mt2 191 (by decide +kernel) rfl
theorem se_T_isNumber : Cond.selects m_T_isNumber.1.cls m_T_isNumber.1 m_T_isNumber.1 ∈ aTs := mt2 192 (by decide +kernel) rfl
set_option maxRecDepth 100000 in
theorem cm_T_number : Cond.code m_T_number.1 m_T_number.2.1 m_T_number.2.2.1 m_T_number.2.2.2 ∈ aTs := mt2 197 rfl rfl
theorem im_T_number : Cond.instanceMethod m_T_number.1 ∈ aTs := mt2 195 (by decide +kernel) rfl
theorem se_T_number : Cond.selects m_T_number.1.cls m_T_number.1 m_T_number.1 ∈ aTs := mt2 196 (by decide +kernel) rfl
set_option maxRecDepth 100000 in
theorem cm_P_setTopOfLast : Cond.code m_P_setTopOfLast.1 m_P_setTopOfLast.2.1 m_P_setTopOfLast.2.2.1 m_P_setTopOfLast.2.2.2 ∈ aTs := mt2 201 rfl rfl
theorem im_P_setTopOfLast : Cond.instanceMethod m_P_setTopOfLast.1 ∈ aTs := mt2 199 (by decide +kernel) rfl
theorem se_P_setTopOfLast : Cond.selects m_P_setTopOfLast.1.cls m_P_setTopOfLast.1 m_P_setTopOfLast.1 ∈ aTs := mt2 200 (by decide +kernel) rfl
set_option maxRecDepth 100000 in
theorem cm_P_headRow : Cond.code m_P_headRow.1 m_P_headRow.2.1 m_P_headRow.2.2.1 m_P_headRow.2.2.2 ∈ aTs := mt2 205 rfl rfl
theorem im_P_headRow : Cond.instanceMethod m_P_headRow.1 ∈ aTs := mt2 203 (by decide +kernel) rfl
theorem se_P_headRow : Cond.selects m_P_headRow.1.cls m_P_headRow.1 m_P_headRow.1 ∈ aTs := mt2 204 (by decide +kernel) rfl
set_option maxRecDepth 100000 in
theorem cm_R_takeClauseOrClose : Cond.code m_R_takeClauseOrClose.1 m_R_takeClauseOrClose.2.1 m_R_takeClauseOrClose.2.2.1 m_R_takeClauseOrClose.2.2.2 ∈ aTs := mt2 209 rfl rfl
theorem im_R_takeClauseOrClose : Cond.instanceMethod m_R_takeClauseOrClose.1 ∈ aTs := mt2 208 (by decide +kernel) rfl
theorem se_R_takeClauseOrClose : Cond.selects m_R_takeClauseOrClose.1.cls m_R_takeClauseOrClose.1 m_R_takeClauseOrClose.1 ∈ aTs := mtp 10 (by decide +kernel) rfl
set_option maxRecDepth 100000 in
theorem cm_P_canAddClause : Cond.code m_P_canAddClause.1 m_P_canAddClause.2.1 m_P_canAddClause.2.2.1 m_P_canAddClause.2.2.2 ∈ aTs := mt2 213 rfl rfl
theorem im_P_canAddClause : Cond.instanceMethod m_P_canAddClause.1 ∈ aTs := mt2 211 (by decide +kernel) rfl
theorem se_P_canAddClause : Cond.selects m_P_canAddClause.1.cls m_P_canAddClause.1 m_P_canAddClause.1 ∈ aTs := mt2 212 (by decide +kernel) rfl
set_option maxRecDepth 100000 in
theorem cm_R_takeClauseWord : Cond.code m_R_takeClauseWord.1 m_R_takeClauseWord.2.1 m_R_takeClauseWord.2.2.1 m_R_takeClauseWord.2.2.2 ∈ aTs := mt2 217 rfl rfl
theorem im_R_takeClauseWord : Cond.instanceMethod m_R_takeClauseWord.1 ∈ aTs := mt2 216 (by decide +kernel) rfl
theorem se_R_takeClauseWord : Cond.selects m_R_takeClauseWord.1.cls m_R_takeClauseWord.1 m_R_takeClauseWord.1 ∈ aTs := mtp 11 (by decide +kernel) rfl
set_option maxRecDepth 100000 in
theorem cm_R_takeCall : Cond.code m_R_takeCall.1 m_R_takeCall.2.1 m_R_takeCall.2.2.1 m_R_takeCall.2.2.2 ∈ aTs := mt2 224 rfl rfl
theorem im_R_takeCall : Cond.instanceMethod m_R_takeCall.1 ∈ aTs := mt2 223 (by decide +kernel) rfl
theorem se_R_takeCall : Cond.selects m_R_takeCall.1.cls m_R_takeCall.1 m_R_takeCall.1 ∈ aTs := mtp 12 (by decide +kernel) rfl
set_option maxRecDepth 100000 in
theorem cm_P_addClause : Cond.code m_P_addClause.1 m_P_addClause.2.1 m_P_addClause.2.2.1 m_P_addClause.2.2.2 ∈ aTs := mt2 229 rfl rfl
theorem im_P_addClause : Cond.instanceMethod m_P_addClause.1 ∈ aTs := mt2 227 (by decide +kernel) rfl
theorem se_P_addClause : Cond.selects m_P_addClause.1.cls m_P_addClause.1 m_P_addClause.1 ∈ aTs := mt2 228 (by decide +kernel) rfl
set_option maxRecDepth 100000 in
theorem cm_P_clauseRow : Cond.code m_P_clauseRow.1 m_P_clauseRow.2.1 m_P_clauseRow.2.2.1 m_P_clauseRow.2.2.2 ∈ aTs := mt2 234 rfl rfl
theorem im_P_clauseRow : Cond.instanceMethod m_P_clauseRow.1 ∈ aTs := mt2 232 (by decide +kernel) rfl
theorem se_P_clauseRow : Cond.selects m_P_clauseRow.1.cls m_P_clauseRow.1 m_P_clauseRow.1 ∈ aTs := mt2 233 (by decide +kernel) rfl
set_option maxRecDepth 100000 in
theorem cm_R_takeTestOrGoal : Cond.code m_R_takeTestOrGoal.1 m_R_takeTestOrGoal.2.1 m_R_takeTestOrGoal.2.2.1 m_R_takeTestOrGoal.2.2.2 ∈ aTs := mt2 238 rfl rfl
theorem im_R_takeTestOrGoal : Cond.instanceMethod m_R_takeTestOrGoal.1 ∈ aTs := mt2 237 (by decide +kernel) rfl
theorem se_R_takeTestOrGoal : Cond.selects m_R_takeTestOrGoal.1.cls m_R_takeTestOrGoal.1 m_R_takeTestOrGoal.1 ∈ aTs := mtp 13 (by decide +kernel) rfl
set_option maxRecDepth 100000 in
theorem cm_P_canAddTest : Cond.code m_P_canAddTest.1 m_P_canAddTest.2.1 m_P_canAddTest.2.2.1 m_P_canAddTest.2.2.2 ∈ aTs := mt3 2 rfl rfl
theorem im_P_canAddTest : Cond.instanceMethod m_P_canAddTest.1 ∈ aTs := mt3 0 (by decide +kernel) rfl
theorem se_P_canAddTest : Cond.selects m_P_canAddTest.1.cls m_P_canAddTest.1 m_P_canAddTest.1 ∈ aTs := mt3 1 (by decide +kernel) rfl
set_option maxRecDepth 100000 in
theorem cm_R_keepPlace : Cond.code m_R_keepPlace.1 m_R_keepPlace.2.1 m_R_keepPlace.2.2.1 m_R_keepPlace.2.2.2 ∈ aTs := mt3 5 rfl rfl
theorem is_R_keepPlace : Cond.static m_R_keepPlace.1 ∈ aTs := mt3 4 (by decide +kernel) rfl
set_option maxRecDepth 100000 in
theorem cm_R_takeTestWord : Cond.code m_R_takeTestWord.1 m_R_takeTestWord.2.1 m_R_takeTestWord.2.2.1 m_R_takeTestWord.2.2.2 ∈ aTs := mt3 9 rfl rfl
theorem im_R_takeTestWord : Cond.instanceMethod m_R_takeTestWord.1 ∈ aTs := mt3 8 (by decide +kernel) rfl
theorem se_R_takeTestWord : Cond.selects m_R_takeTestWord.1.cls m_R_takeTestWord.1 m_R_takeTestWord.1 ∈ aTs := mtp 14 (by decide +kernel) rfl
set_option maxRecDepth 100000 in
theorem cm_R_takeArgument : Cond.code m_R_takeArgument.1 m_R_takeArgument.2.1 m_R_takeArgument.2.2.1 m_R_takeArgument.2.2.2 ∈ aTs := mt3 16 rfl rfl
theorem im_R_takeArgument : Cond.instanceMethod m_R_takeArgument.1 ∈ aTs := mt3 15 (by decide +kernel) rfl
theorem se_R_takeArgument : Cond.selects m_R_takeArgument.1.cls m_R_takeArgument.1 m_R_takeArgument.1 ∈ aTs := mtp 15 (by decide +kernel) rfl
set_option maxRecDepth 100000 in
theorem cm_R_takeCounted : Cond.code m_R_takeCounted.1 m_R_takeCounted.2.1 m_R_takeCounted.2.2.1 m_R_takeCounted.2.2.2 ∈ aTs := mt3 20 rfl rfl
theorem im_R_takeCounted : Cond.instanceMethod m_R_takeCounted.1 ∈ aTs := mt3 19 (by decide +kernel) rfl
theorem se_R_takeCounted : Cond.selects m_R_takeCounted.1.cls m_R_takeCounted.1 m_R_takeCounted.1 ∈ aTs := mtp 16 (by decide +kernel) rfl
set_option maxRecDepth 100000 in
theorem cm_R_takeOp : Cond.code m_R_takeOp.1 m_R_takeOp.2.1 m_R_takeOp.2.2.1 m_R_takeOp.2.2.2 ∈ aTs := mt3 24 rfl rfl
theorem im_R_takeOp : Cond.instanceMethod m_R_takeOp.1 ∈ aTs := mt3 23 (by decide +kernel) rfl
theorem se_R_takeOp : Cond.selects m_R_takeOp.1.cls m_R_takeOp.1 m_R_takeOp.1 ∈ aTs := mtp 17 (by decide +kernel) rfl
set_option maxRecDepth 100000 in
theorem cm_T_opNumber : Cond.code m_T_opNumber.1 m_T_opNumber.2.1 m_T_opNumber.2.2.1 m_T_opNumber.2.2.2 ∈ aTs := mt3 28 rfl rfl
theorem im_T_opNumber : Cond.instanceMethod m_T_opNumber.1 ∈ aTs := mt3 26 (by decide +kernel) rfl
theorem se_T_opNumber : Cond.selects m_T_opNumber.1.cls m_T_opNumber.1 m_T_opNumber.1 ∈ aTs := mt3 27 (by decide +kernel) rfl
set_option maxRecDepth 100000 in
theorem cm_R_takeBound : Cond.code m_R_takeBound.1 m_R_takeBound.2.1 m_R_takeBound.2.2.1 m_R_takeBound.2.2.2 ∈ aTs := mt3 32 rfl rfl
theorem im_R_takeBound : Cond.instanceMethod m_R_takeBound.1 ∈ aTs := mt3 31 (by decide +kernel) rfl
theorem se_R_takeBound : Cond.selects m_R_takeBound.1.cls m_R_takeBound.1 m_R_takeBound.1 ∈ aTs := mtp 18 (by decide +kernel) rfl
set_option maxRecDepth 100000 in
theorem cm_P_shapeOf : Cond.code m_P_shapeOf.1 m_P_shapeOf.2.1 m_P_shapeOf.2.2.1 m_P_shapeOf.2.2.2 ∈ aTs := mt3 35 rfl rfl
theorem is_P_shapeOf : Cond.static m_P_shapeOf.1 ∈ aTs := mt3 34 (by decide +kernel) rfl
set_option maxRecDepth 100000 in
theorem cm_P_addTest : Cond.code m_P_addTest.1 m_P_addTest.2.1 m_P_addTest.2.2.1 m_P_addTest.2.2.2 ∈ aTs := mt3 39 rfl rfl
theorem im_P_addTest : Cond.instanceMethod m_P_addTest.1 ∈ aTs := mt3 37 (by decide +kernel) rfl
theorem se_P_addTest : Cond.selects m_P_addTest.1.cls m_P_addTest.1 m_P_addTest.1 ∈ aTs := mt3 38 (by decide +kernel) rfl
set_option maxRecDepth 100000 in
theorem cm_R_takeTestClose : Cond.code m_R_takeTestClose.1 m_R_takeTestClose.2.1 m_R_takeTestClose.2.2.1 m_R_takeTestClose.2.2.2 ∈ aTs := mt3 44 rfl rfl
theorem im_R_takeTestClose : Cond.instanceMethod m_R_takeTestClose.1 ∈ aTs := mt3 43 (by decide +kernel) rfl
theorem se_R_takeTestClose : Cond.selects m_R_takeTestClose.1.cls m_R_takeTestClose.1 m_R_takeTestClose.1 ∈ aTs := mtp 19 (by decide +kernel) rfl
set_option maxRecDepth 100000 in
theorem cm_R_faultOfToken : Cond.code m_R_faultOfToken.1 m_R_faultOfToken.2.1 m_R_faultOfToken.2.2.1 m_R_faultOfToken.2.2.2 ∈ aTs := mt3 48 rfl rfl
theorem im_R_faultOfToken : Cond.instanceMethod m_R_faultOfToken.1 ∈ aTs := mt3 47 (by decide +kernel) rfl
theorem se_R_faultOfToken : Cond.selects m_R_faultOfToken.1.cls m_R_faultOfToken.1 m_R_faultOfToken.1 ∈ aTs := mtp 20 (by decide +kernel) rfl
set_option maxRecDepth 100000 in
theorem cm_R_linkHeads : Cond.code m_R_linkHeads.1 m_R_linkHeads.2.1 m_R_linkHeads.2.2.1 m_R_linkHeads.2.2.2 ∈ aTs := mt3 52 rfl rfl
theorem im_R_linkHeads : Cond.instanceMethod m_R_linkHeads.1 ∈ aTs := mt3 51 (by decide +kernel) rfl
theorem se_R_linkHeads : Cond.selects m_R_linkHeads.1.cls m_R_linkHeads.1 m_R_linkHeads.1 ∈ aTs := mtp 21 (by decide +kernel) rfl
set_option maxRecDepth 100000 in
theorem cm_P_nodePart : Cond.code m_P_nodePart.1 m_P_nodePart.2.1 m_P_nodePart.2.2.1 m_P_nodePart.2.2.2 ∈ aTs := mt3 56 rfl rfl
theorem im_P_nodePart : Cond.instanceMethod m_P_nodePart.1 ∈ aTs := mt3 54 (by decide +kernel) rfl
theorem se_P_nodePart : Cond.selects m_P_nodePart.1.cls m_P_nodePart.1 m_P_nodePart.1 ∈ aTs := mt3 55 (by decide +kernel) rfl
set_option maxRecDepth 100000 in
theorem cm_P_lettersOf : Cond.code m_P_lettersOf.1 m_P_lettersOf.2.1 m_P_lettersOf.2.2.1 m_P_lettersOf.2.2.2 ∈ aTs := mt3 59 rfl rfl
theorem is_P_lettersOf : Cond.static m_P_lettersOf.1 ∈ aTs := mt3 58 (by decide +kernel) rfl
set_option maxRecDepth 100000 in
theorem cm_P_counterPart : Cond.code m_P_counterPart.1 m_P_counterPart.2.1 m_P_counterPart.2.2.1 m_P_counterPart.2.2.2 ∈ aTs := mt3 64 rfl rfl
theorem im_P_counterPart : Cond.instanceMethod m_P_counterPart.1 ∈ aTs := mt3 62 (by decide +kernel) rfl
theorem se_P_counterPart : Cond.selects m_P_counterPart.1.cls m_P_counterPart.1 m_P_counterPart.1 ∈ aTs := mt3 63 (by decide +kernel) rfl
set_option maxRecDepth 100000 in
theorem cm_R_linkClause : Cond.code m_R_linkClause.1 m_R_linkClause.2.1 m_R_linkClause.2.2.1 m_R_linkClause.2.2.2 ∈ aTs := mt3 68 rfl rfl
theorem im_R_linkClause : Cond.instanceMethod m_R_linkClause.1 ∈ aTs := mt3 67 (by decide +kernel) rfl
theorem se_R_linkClause : Cond.selects m_R_linkClause.1.cls m_R_linkClause.1 m_R_linkClause.1 ∈ aTs := mtp 22 (by decide +kernel) rfl
set_option maxRecDepth 100000 in
theorem cm_P_clausePart : Cond.code m_P_clausePart.1 m_P_clausePart.2.1 m_P_clausePart.2.2.1 m_P_clausePart.2.2.2 ∈ aTs := mt3 72 rfl rfl
theorem im_P_clausePart : Cond.instanceMethod m_P_clausePart.1 ∈ aTs := mt3 70 (by decide +kernel) rfl
theorem se_P_clausePart : Cond.selects m_P_clausePart.1.cls m_P_clausePart.1 m_P_clausePart.1 ∈ aTs := mt3 71 (by decide +kernel) rfl
set_option maxRecDepth 100000 in
theorem cm_C_argumentsOf : Cond.code m_C_argumentsOf.1 m_C_argumentsOf.2.1 m_C_argumentsOf.2.2.1 m_C_argumentsOf.2.2.2 ∈ aTs := mt3 75 rfl rfl
theorem is_C_argumentsOf : Cond.static m_C_argumentsOf.1 ∈ aTs := mt3 74 (by decide +kernel) rfl
set_option maxRecDepth 100000 in
theorem cm_P_testRow : Cond.code m_P_testRow.1 m_P_testRow.2.1 m_P_testRow.2.2.1 m_P_testRow.2.2.2 ∈ aTs := mt3 79 rfl rfl
theorem im_P_testRow : Cond.instanceMethod m_P_testRow.1 ∈ aTs := mt3 77 (by decide +kernel) rfl
theorem se_P_testRow : Cond.selects m_P_testRow.1.cls m_P_testRow.1 m_P_testRow.1 ∈ aTs := mt3 78 (by decide +kernel) rfl
set_option maxRecDepth 100000 in
theorem cm_P_testPart : Cond.code m_P_testPart.1 m_P_testPart.2.1 m_P_testPart.2.2.1 m_P_testPart.2.2.2 ∈ aTs := mt3 83 rfl rfl
theorem im_P_testPart : Cond.instanceMethod m_P_testPart.1 ∈ aTs := mt3 81 (by decide +kernel) rfl
theorem se_P_testPart : Cond.selects m_P_testPart.1.cls m_P_testPart.1 m_P_testPart.1 ∈ aTs := mt3 82 (by decide +kernel) rfl
set_option maxRecDepth 100000 in
theorem cm_P_partOf : Cond.code m_P_partOf.1 m_P_partOf.2.1 m_P_partOf.2.2.1 m_P_partOf.2.2.2 ∈ aTs := mt3 86 rfl rfl
theorem is_P_partOf : Cond.static m_P_partOf.1 ∈ aTs := mt3 85 (by decide +kernel) rfl
set_option maxRecDepth 100000 in
theorem cm_R_placeIn : Cond.code m_R_placeIn.1 m_R_placeIn.2.1 m_R_placeIn.2.2.1 m_R_placeIn.2.2.2 ∈ aTs := mt3 89 rfl rfl
theorem is_R_placeIn : Cond.static m_R_placeIn.1 ∈ aTs := mt3 88 (by decide +kernel) rfl
set_option maxRecDepth 100000 in
theorem cm_R_linked : Cond.code m_R_linked.1 m_R_linked.2.1 m_R_linked.2.2.1 m_R_linked.2.2.2 ∈ aTs := mt3 93 rfl rfl
theorem im_R_linked : Cond.instanceMethod m_R_linked.1 ∈ aTs := mt3 92 (by decide +kernel) rfl
theorem se_R_linked : Cond.selects m_R_linked.1.cls m_R_linked.1 m_R_linked.1 ∈ aTs := mtp 23 (by decide +kernel) rfl
set_option maxRecDepth 100000 in
theorem cm_P_setWhich : Cond.code m_P_setWhich.1 m_P_setWhich.2.1 m_P_setWhich.2.2.1 m_P_setWhich.2.2.2 ∈ aTs := mt3 98 rfl rfl
theorem im_P_setWhich : Cond.instanceMethod m_P_setWhich.1 ∈ aTs := mt3 96 (by decide +kernel) rfl
theorem se_P_setWhich : Cond.selects m_P_setWhich.1.cls m_P_setWhich.1 m_P_setWhich.1 ∈ aTs := mt3 97 (by decide +kernel) rfl
set_option maxRecDepth 100000 in
theorem cm_P_setGoal : Cond.code m_P_setGoal.1 m_P_setGoal.2.1 m_P_setGoal.2.2.1 m_P_setGoal.2.2.2 ∈ aTs := mt3 103 rfl rfl
theorem im_P_setGoal : Cond.instanceMethod m_P_setGoal.1 ∈ aTs := mt3 101 (by decide +kernel) rfl
theorem se_P_setGoal : Cond.selects m_P_setGoal.1.cls m_P_setGoal.1 m_P_setGoal.1 ∈ aTs := mt3 102 (by decide +kernel) rfl
set_option maxRecDepth 100000 in
theorem cm_X_print : Cond.code m_X_print.1 m_X_print.2.1 m_X_print.2.2.1 m_X_print.2.2.2 ∈ aTs := mt3 108 rfl rfl
theorem im_X_print : Cond.instanceMethod m_X_print.1 ∈ aTs := mt3 106 (by decide +kernel) rfl
theorem se_X_print : Cond.selects m_X_print.1.cls m_X_print.1 m_X_print.1 ∈ aTs := mt3 107 (by decide +kernel) rfl
set_option maxRecDepth 100000 in
theorem cm_W_init : Cond.code m_W_init.1 m_W_init.2.1 m_W_init.2.2.1 m_W_init.2.2.2 ∈ aTs := mt3 113 rfl rfl
theorem im_W_init : Cond.instanceMethod m_W_init.1 ∈ aTs := mt3 112 (by decide +kernel) rfl
set_option maxRecDepth 100000 in
theorem cm_W_writeCounter : Cond.code m_W_writeCounter.1 m_W_writeCounter.2.1 m_W_writeCounter.2.2.1 m_W_writeCounter.2.2.2 ∈ aTs := mt3 129 rfl rfl
theorem im_W_writeCounter : Cond.instanceMethod m_W_writeCounter.1 ∈ aTs := mt3 127 (by decide +kernel) rfl
theorem se_W_writeCounter : Cond.selects m_W_writeCounter.1.cls m_W_writeCounter.1 m_W_writeCounter.1 ∈ aTs := mt3 128 (by decide +kernel) rfl
set_option maxRecDepth 100000 in
theorem cm_W_writeText : Cond.code m_W_writeText.1 m_W_writeText.2.1 m_W_writeText.2.2.1 m_W_writeText.2.2.2 ∈ aTs := mt3 134 rfl rfl
theorem im_W_writeText : Cond.instanceMethod m_W_writeText.1 ∈ aTs := mt3 133 (by decide +kernel) rfl
theorem se_W_writeText : Cond.selects m_W_writeText.1.cls m_W_writeText.1 m_W_writeText.1 ∈ aTs := mtp 24 (by decide +kernel) rfl
set_option maxRecDepth 100000 in
theorem cm_P_nameOf : Cond.code m_P_nameOf.1 m_P_nameOf.2.1 m_P_nameOf.2.2.1 m_P_nameOf.2.2.2 ∈ aTs := mt3 141 rfl rfl
theorem im_P_nameOf : Cond.instanceMethod m_P_nameOf.1 ∈ aTs := mt3 139 (by decide +kernel) rfl
theorem se_P_nameOf : Cond.selects m_P_nameOf.1.cls m_P_nameOf.1 m_P_nameOf.1 ∈ aTs := mt3 140 (by decide +kernel) rfl
set_option maxRecDepth 100000 in
theorem cm_W_writeName : Cond.code m_W_writeName.1 m_W_writeName.2.1 m_W_writeName.2.2.1 m_W_writeName.2.2.2 ∈ aTs := mt3 145 rfl rfl
theorem im_W_writeName : Cond.instanceMethod m_W_writeName.1 ∈ aTs := mt3 144 (by decide +kernel) rfl
theorem se_W_writeName : Cond.selects m_W_writeName.1.cls m_W_writeName.1 m_W_writeName.1 ∈ aTs := mtp 25 (by decide +kernel) rfl
set_option maxRecDepth 100000 in
theorem cm_W_writeNumber : Cond.code m_W_writeNumber.1 m_W_writeNumber.2.1 m_W_writeNumber.2.2.1 m_W_writeNumber.2.2.2 ∈ aTs := mt3 151 rfl rfl
theorem im_W_writeNumber : Cond.instanceMethod m_W_writeNumber.1 ∈ aTs := mt3 150 (by decide +kernel) rfl
theorem se_W_writeNumber : Cond.selects m_W_writeNumber.1.cls m_W_writeNumber.1 m_W_writeNumber.1 ∈ aTs := mtp 26 (by decide +kernel) rfl
set_option maxRecDepth 100000 in
theorem cm_W_writeCallAndTests : Cond.code m_W_writeCallAndTests.1 m_W_writeCallAndTests.2.1 m_W_writeCallAndTests.2.2.1 m_W_writeCallAndTests.2.2.2 ∈ aTs := mt3 160 rfl rfl
theorem im_W_writeCallAndTests : Cond.instanceMethod m_W_writeCallAndTests.1 ∈ aTs := mt3 159 (by decide +kernel) rfl
theorem se_W_writeCallAndTests : Cond.selects m_W_writeCallAndTests.1.cls m_W_writeCallAndTests.1 m_W_writeCallAndTests.1 ∈ aTs := mtp 27 (by decide +kernel) rfl
set_option maxRecDepth 100000 in
theorem cm_W_writeTest : Cond.code m_W_writeTest.1 m_W_writeTest.2.1 m_W_writeTest.2.2.1 m_W_writeTest.2.2.2 ∈ aTs := mt3 168 rfl rfl
theorem im_W_writeTest : Cond.instanceMethod m_W_writeTest.1 ∈ aTs := mt3 167 (by decide +kernel) rfl
theorem se_W_writeTest : Cond.selects m_W_writeTest.1.cls m_W_writeTest.1 m_W_writeTest.1 ∈ aTs := mtp 28 (by decide +kernel) rfl
set_option maxRecDepth 100000 in
theorem cm_P_boundOf : Cond.code m_P_boundOf.1 m_P_boundOf.2.1 m_P_boundOf.2.2.1 m_P_boundOf.2.2.2 ∈ aTs := mt3 177 rfl rfl
theorem im_P_boundOf : Cond.instanceMethod m_P_boundOf.1 ∈ aTs := mt3 175 (by decide +kernel) rfl
theorem se_P_boundOf : Cond.selects m_P_boundOf.1.cls m_P_boundOf.1 m_P_boundOf.1 ∈ aTs := mt3 176 (by decide +kernel) rfl
set_option maxRecDepth 100000 in
theorem cm_W_writeNode : Cond.code m_W_writeNode.1 m_W_writeNode.2.1 m_W_writeNode.2.2.1 m_W_writeNode.2.2.2 ∈ aTs := mt3 184 rfl rfl
theorem im_W_writeNode : Cond.instanceMethod m_W_writeNode.1 ∈ aTs := mt3 182 (by decide +kernel) rfl
theorem se_W_writeNode : Cond.selects m_W_writeNode.1.cls m_W_writeNode.1 m_W_writeNode.1 ∈ aTs := mt3 183 (by decide +kernel) rfl
set_option maxRecDepth 100000 in
theorem cm_W_hasFitted : Cond.code m_W_hasFitted.1 m_W_hasFitted.2.1 m_W_hasFitted.2.2.1 m_W_hasFitted.2.2.2 ∈ aTs := mt3 191 rfl rfl
theorem im_W_hasFitted : Cond.instanceMethod m_W_hasFitted.1 ∈ aTs := mt3 189 (by decide +kernel) rfl
theorem se_W_hasFitted : Cond.selects m_W_hasFitted.1.cls m_W_hasFitted.1 m_W_hasFitted.1 ∈ aTs := mt3 190 (by decide +kernel) rfl
set_option maxRecDepth 100000 in
theorem cm_X_turnOver : Cond.code m_X_turnOver.1 m_X_turnOver.2.1 m_X_turnOver.2.2.1 m_X_turnOver.2.2.2 ∈ aTs := mt3 196 rfl rfl
theorem im_X_turnOver : Cond.instanceMethod m_X_turnOver.1 ∈ aTs := mt3 194 (by decide +kernel) rfl
theorem se_X_turnOver : Cond.selects m_X_turnOver.1.cls m_X_turnOver.1 m_X_turnOver.1 ∈ aTs := mt3 195 (by decide +kernel) rfl
set_option maxRecDepth 100000 in
theorem cm_B_become : Cond.code m_B_become.1 m_B_become.2.1 m_B_become.2.2.1 m_B_become.2.2.2 ∈ aTs := mt3 200 rfl rfl
theorem im_B_become : Cond.instanceMethod m_B_become.1 ∈ aTs := mt3 198 (by decide +kernel) rfl
theorem se_B_become : Cond.selects m_B_become.1.cls m_B_become.1 m_B_become.1 ∈ aTs := mt3 199 (by decide +kernel) rfl
set_option maxRecDepth 100000 in
theorem cm_X_stand : Cond.code m_X_stand.1 m_X_stand.2.1 m_X_stand.2.2.1 m_X_stand.2.2.2 ∈ aTs := mt3 207 rfl rfl
theorem im_X_stand : Cond.instanceMethod m_X_stand.1 ∈ aTs := mt3 205 (by decide +kernel) rfl
theorem se_X_stand : Cond.selects m_X_stand.1.cls m_X_stand.1 m_X_stand.1 ∈ aTs := mt3 206 (by decide +kernel) rfl
set_option maxRecDepth 100000 in
theorem cm_P_setStand : Cond.code m_P_setStand.1 m_P_setStand.2.1 m_P_setStand.2.2.1 m_P_setStand.2.2.2 ∈ aTs := mt3 211 rfl rfl
theorem im_P_setStand : Cond.instanceMethod m_P_setStand.1 ∈ aTs := mt3 209 (by decide +kernel) rfl
theorem se_P_setStand : Cond.selects m_P_setStand.1.cls m_P_setStand.1 m_P_setStand.1 ∈ aTs := mt3 210 (by decide +kernel) rfl
set_option maxRecDepth 100000 in
theorem cm_X_counter : Cond.code m_X_counter.1 m_X_counter.2.1 m_X_counter.2.2.1 m_X_counter.2.2.2 ∈ aTs := mt3 215 rfl rfl
theorem im_X_counter : Cond.instanceMethod m_X_counter.1 ∈ aTs := mt3 213 (by decide +kernel) rfl
theorem se_X_counter : Cond.selects m_X_counter.1.cls m_X_counter.1 m_X_counter.1 ∈ aTs := mt3 214 (by decide +kernel) rfl
set_option maxRecDepth 100000 in
theorem cm_X_node : Cond.code m_X_node.1 m_X_node.2.1 m_X_node.2.2.1 m_X_node.2.2.2 ∈ aTs := mt3 220 rfl rfl
theorem im_X_node : Cond.instanceMethod m_X_node.1 ∈ aTs := mt3 218 (by decide +kernel) rfl
theorem se_X_node : Cond.selects m_X_node.1.cls m_X_node.1 m_X_node.1 ∈ aTs := mt3 219 (by decide +kernel) rfl
set_option maxRecDepth 100000 in
theorem cm_X_clause : Cond.code m_X_clause.1 m_X_clause.2.1 m_X_clause.2.2.1 m_X_clause.2.2.2 ∈ aTs := mt3 225 rfl rfl
theorem im_X_clause : Cond.instanceMethod m_X_clause.1 ∈ aTs := mt3 223 (by decide +kernel) rfl
theorem se_X_clause : Cond.selects m_X_clause.1.cls m_X_clause.1 m_X_clause.1 ∈ aTs := mt3 224 (by decide +kernel) rfl
set_option maxRecDepth 100000 in
theorem cm_X_test : Cond.code m_X_test.1 m_X_test.2.1 m_X_test.2.2.1 m_X_test.2.2.2 ∈ aTs := mt3 230 rfl rfl
theorem im_X_test : Cond.instanceMethod m_X_test.1 ∈ aTs := mt3 228 (by decide +kernel) rfl
theorem se_X_test : Cond.selects m_X_test.1.cls m_X_test.1 m_X_test.1 ∈ aTs := mt3 229 (by decide +kernel) rfl
set_option maxRecDepth 100000 in
theorem cm_X_than : Cond.code m_X_than.1 m_X_than.2.1 m_X_than.2.2.1 m_X_than.2.2.2 ∈ aTs := mt3 236 rfl rfl
theorem im_X_than : Cond.instanceMethod m_X_than.1 ∈ aTs := mt3 234 (by decide +kernel) rfl
theorem se_X_than : Cond.selects m_X_than.1.cls m_X_than.1 m_X_than.1 ∈ aTs := mt3 235 (by decide +kernel) rfl
set_option maxRecDepth 100000 in
theorem cm_X_call : Cond.code m_X_call.1 m_X_call.2.1 m_X_call.2.2.1 m_X_call.2.2.2 ∈ aTs := mt4 1 rfl rfl
theorem im_X_call : Cond.instanceMethod m_X_call.1 ∈ aTs := mt3 239 (by decide +kernel) rfl
theorem se_X_call : Cond.selects m_X_call.1.cls m_X_call.1 m_X_call.1 ∈ aTs := mt4 0 (by decide +kernel) rfl
set_option maxRecDepth 100000 in
theorem cm_C_become : Cond.code m_C_become.1 m_C_become.2.1 m_C_become.2.2.1 m_C_become.2.2.2 ∈ aTs := mt4 5 rfl rfl
theorem im_C_become : Cond.instanceMethod m_C_become.1 ∈ aTs := mt4 3 (by decide +kernel) rfl
theorem se_C_become : Cond.selects m_C_become.1.cls m_C_become.1 m_C_become.1 ∈ aTs := mt4 4 (by decide +kernel) rfl
set_option maxRecDepth 100000 in
theorem cm_X_holds : Cond.code m_X_holds.1 m_X_holds.2.1 m_X_holds.2.2.1 m_X_holds.2.2.2 ∈ aTs := mt4 9 rfl rfl
theorem im_X_holds : Cond.instanceMethod m_X_holds.1 ∈ aTs := mt4 7 (by decide +kernel) rfl
theorem se_X_holds : Cond.selects m_X_holds.1.cls m_X_holds.1 m_X_holds.1 ∈ aTs := mt4 8 (by decide +kernel) rfl
set_option maxRecDepth 100000 in
theorem cm_P_applies : Cond.code m_P_applies.1 m_P_applies.2.1 m_P_applies.2.2.1 m_P_applies.2.2.2 ∈ aTs := mt4 13 rfl rfl
theorem im_P_applies : Cond.instanceMethod m_P_applies.1 ∈ aTs := mt4 11 (by decide +kernel) rfl
theorem se_P_applies : Cond.selects m_P_applies.1.cls m_P_applies.1 m_P_applies.1 ∈ aTs := mt4 12 (by decide +kernel) rfl
set_option maxRecDepth 100000 in
theorem cm_C_isOf : Cond.code m_C_isOf.1 m_C_isOf.2.1 m_C_isOf.2.2.1 m_C_isOf.2.2.2 ∈ aTs := mt4 17 rfl rfl
theorem im_C_isOf : Cond.instanceMethod m_C_isOf.1 ∈ aTs := mt4 15 (by decide +kernel) rfl
theorem se_C_isOf : Cond.selects m_C_isOf.1.cls m_C_isOf.1 m_C_isOf.1 ∈ aTs := mt4 16 (by decide +kernel) rfl
set_option maxRecDepth 100000 in
theorem cm_P_isTrue : Cond.code m_P_isTrue.1 m_P_isTrue.2.1 m_P_isTrue.2.2.1 m_P_isTrue.2.2.2 ∈ aTs := mt4 21 rfl rfl
theorem im_P_isTrue : Cond.instanceMethod m_P_isTrue.1 ∈ aTs := mt4 20 (by decide +kernel) rfl
theorem se_P_isTrue : Cond.selects m_P_isTrue.1.cls m_P_isTrue.1 m_P_isTrue.1 ∈ aTs := mtp 29 (by decide +kernel) rfl
set_option maxRecDepth 100000 in
theorem cm_P_compares : Cond.code m_P_compares.1 m_P_compares.2.1 m_P_compares.2.2.1 m_P_compares.2.2.2 ∈ aTs := mt4 27 rfl rfl
theorem is_P_compares : Cond.static m_P_compares.1 ∈ aTs := mt4 26 (by decide +kernel) rfl
set_option maxRecDepth 100000 in
theorem cm_C_has : Cond.code m_C_has.1 m_C_has.2.1 m_C_has.2.2.1 m_C_has.2.2.2 ∈ aTs := mt4 31 rfl rfl
theorem im_C_has : Cond.instanceMethod m_C_has.1 ∈ aTs := mt4 29 (by decide +kernel) rfl
theorem se_C_has : Cond.selects m_C_has.1.cls m_C_has.1 m_C_has.1 ∈ aTs := mt4 30 (by decide +kernel) rfl
set_option maxRecDepth 100000 in
theorem cm_C_argument : Cond.code m_C_argument.1 m_C_argument.2.1 m_C_argument.2.2.1 m_C_argument.2.2.2 ∈ aTs := mt4 36 rfl rfl
theorem im_C_argument : Cond.instanceMethod m_C_argument.1 ∈ aTs := mt4 34 (by decide +kernel) rfl
theorem se_C_argument : Cond.selects m_C_argument.1.cls m_C_argument.1 m_C_argument.1 ∈ aTs := mt4 35 (by decide +kernel) rfl
set_option maxRecDepth 100000 in
theorem cm_X_make : Cond.code m_X_make.1 m_X_make.2.1 m_X_make.2.2.1 m_X_make.2.2.2 ∈ aTs := mt4 40 rfl rfl
theorem im_X_make : Cond.instanceMethod m_X_make.1 ∈ aTs := mt4 38 (by decide +kernel) rfl
theorem se_X_make : Cond.selects m_X_make.1.cls m_X_make.1 m_X_make.1 ∈ aTs := mt4 39 (by decide +kernel) rfl
set_option maxRecDepth 100000 in
theorem cm_P_reachedFrom : Cond.code m_P_reachedFrom.1 m_P_reachedFrom.2.1 m_P_reachedFrom.2.2.1 m_P_reachedFrom.2.2.2 ∈ aTs := mt4 44 rfl rfl
theorem im_P_reachedFrom : Cond.instanceMethod m_P_reachedFrom.1 ∈ aTs := mt4 42 (by decide +kernel) rfl
theorem se_P_reachedFrom : Cond.selects m_P_reachedFrom.1.cls m_P_reachedFrom.1 m_P_reachedFrom.1 ∈ aTs := mt4 43 (by decide +kernel) rfl
set_option maxRecDepth 100000 in
theorem cm_I_bitCount : Cond.code m_I_bitCount.1 m_I_bitCount.2.1 m_I_bitCount.2.2.1 m_I_bitCount.2.2.2 ∈ aTs := mt4 49 rfl rfl
theorem is_I_bitCount : Cond.static m_I_bitCount.1 ∈ aTs := mt4 48 (by decide +kernel) rfl
set_option maxRecDepth 100000 in
theorem cm_P_moveCounters : Cond.code m_P_moveCounters.1 m_P_moveCounters.2.1 m_P_moveCounters.2.2.1 m_P_moveCounters.2.2.2 ∈ aTs := mt4 56 rfl rfl
theorem im_P_moveCounters : Cond.instanceMethod m_P_moveCounters.1 ∈ aTs := mt4 54 (by decide +kernel) rfl
theorem se_P_moveCounters : Cond.selects m_P_moveCounters.1.cls m_P_moveCounters.1 m_P_moveCounters.1 ∈ aTs := mt4 55 (by decide +kernel) rfl
set_option maxRecDepth 100000 in
theorem cm_P_standAfter : Cond.code m_P_standAfter.1 m_P_standAfter.2.1 m_P_standAfter.2.2.1 m_P_standAfter.2.2.2 ∈ aTs := mt4 60 rfl rfl
theorem im_P_standAfter : Cond.instanceMethod m_P_standAfter.1 ∈ aTs := mt4 59 (by decide +kernel) rfl
theorem se_P_standAfter : Cond.selects m_P_standAfter.1.cls m_P_standAfter.1 m_P_standAfter.1 ∈ aTs := mtp 30 (by decide +kernel) rfl
set_option maxRecDepth 100000 in
theorem cm_A_min : Cond.code m_A_min.1 m_A_min.2.1 m_A_min.2.2.1 m_A_min.2.2.2 ∈ aTs := mt4 63 rfl rfl
theorem is_A_min : Cond.static m_A_min.1 ∈ aTs := mt4 62 (by decide +kernel) rfl
set_option maxRecDepth 100000 in
theorem cm_X_byteAt : Cond.code m_X_byteAt.1 m_X_byteAt.2.1 m_X_byteAt.2.2.1 m_X_byteAt.2.2.2 ∈ aTs := mt4 67 rfl rfl
theorem im_X_byteAt : Cond.instanceMethod m_X_byteAt.1 ∈ aTs := mt4 65 (by decide +kernel) rfl
theorem se_X_byteAt : Cond.selects m_X_byteAt.1.cls m_X_byteAt.1 m_X_byteAt.1 ∈ aTs := mt4 66 (by decide +kernel) rfl
set_option maxRecDepth 100000 in
theorem cm_X_look : Cond.code m_X_look.1 m_X_look.2.1 m_X_look.2.2.1 m_X_look.2.2.2 ∈ aTs := mt4 72 rfl rfl
theorem im_X_look : Cond.instanceMethod m_X_look.1 ∈ aTs := mt4 70 (by decide +kernel) rfl
theorem se_X_look : Cond.selects m_X_look.1.cls m_X_look.1 m_X_look.1 ∈ aTs := mt4 71 (by decide +kernel) rfl
set_option maxRecDepth 100000 in
theorem cm_R_latestFault : Cond.code m_R_latestFault.1 m_R_latestFault.2.1 m_R_latestFault.2.2.1 m_R_latestFault.2.2.2 ∈ aTs := mt4 76 rfl rfl
theorem im_R_latestFault : Cond.instanceMethod m_R_latestFault.1 ∈ aTs := mt4 74 (by decide +kernel) rfl
theorem se_R_latestFault : Cond.selects m_R_latestFault.1.cls m_R_latestFault.1 m_R_latestFault.1 ∈ aTs := mt4 75 (by decide +kernel) rfl
set_option maxRecDepth 100000 in
theorem cm_R_latestPlace : Cond.code m_R_latestPlace.1 m_R_latestPlace.2.1 m_R_latestPlace.2.2.1 m_R_latestPlace.2.2.2 ∈ aTs := mt4 80 rfl rfl
theorem im_R_latestPlace : Cond.instanceMethod m_R_latestPlace.1 ∈ aTs := mt4 78 (by decide +kernel) rfl
theorem se_R_latestPlace : Cond.selects m_R_latestPlace.1.cls m_R_latestPlace.1 m_R_latestPlace.1 ∈ aTs := mt4 79 (by decide +kernel) rfl
set_option maxRecDepth 100000 in
theorem cm_P_testsInAll : Cond.code m_P_testsInAll.1 m_P_testsInAll.2.1 m_P_testsInAll.2.2.1 m_P_testsInAll.2.2.2 ∈ aTs := mt4 84 rfl rfl
theorem im_P_testsInAll : Cond.instanceMethod m_P_testsInAll.1 ∈ aTs := mt4 82 (by decide +kernel) rfl
theorem se_P_testsInAll : Cond.selects m_P_testsInAll.1.cls m_P_testsInAll.1 m_P_testsInAll.1 ∈ aTs := mt4 83 (by decide +kernel) rfl
set_option maxRecDepth 100000 in
theorem cm_M_init : Cond.code m_M_init.1 m_M_init.2.1 m_M_init.2.2.1 m_M_init.2.2.2 ∈ aTs := mt4 89 rfl rfl
theorem im_M_init : Cond.instanceMethod m_M_init.1 ∈ aTs := mt4 88 (by decide +kernel) rfl
set_option maxRecDepth 100000 in
theorem cm_M_readPolicy : Cond.code m_M_readPolicy.1 m_M_readPolicy.2.1 m_M_readPolicy.2.2.1 m_M_readPolicy.2.2.2 ∈ aTs := mt4 94 rfl rfl
theorem im_M_readPolicy : Cond.instanceMethod m_M_readPolicy.1 ∈ aTs := mt4 93 (by decide +kernel) rfl
theorem se_M_readPolicy : Cond.selects m_M_readPolicy.1.cls m_M_readPolicy.1 m_M_readPolicy.1 ∈ aTs := mtp 31 (by decide +kernel) rfl
set_option maxRecDepth 100000 in
theorem cm_M_next : Cond.code m_M_next.1 m_M_next.2.1 m_M_next.2.2.1 m_M_next.2.2.2 ∈ aTs := mt4 98 rfl rfl
theorem im_M_next : Cond.instanceMethod m_M_next.1 ∈ aTs := mt4 97 (by decide +kernel) rfl
theorem se_M_next : Cond.selects m_M_next.1.cls m_M_next.1 m_M_next.1 ∈ aTs := mtp 32 (by decide +kernel) rfl
set_option maxRecDepth 100000 in
theorem cm_M_letterAt : Cond.code m_M_letterAt.1 m_M_letterAt.2.1 m_M_letterAt.2.2.1 m_M_letterAt.2.2.2 ∈ aTs := mt4 102 rfl rfl
theorem im_M_letterAt : Cond.instanceMethod m_M_letterAt.1 ∈ aTs := mt4 101 (by decide +kernel) rfl
theorem se_M_letterAt : Cond.selects m_M_letterAt.1.cls m_M_letterAt.1 m_M_letterAt.1 ∈ aTs := mtp 33 (by decide +kernel) rfl
set_option maxRecDepth 100000 in
theorem cm_M_isOfWord : Cond.code m_M_isOfWord.1 m_M_isOfWord.2.1 m_M_isOfWord.2.2.1 m_M_isOfWord.2.2.2 ∈ aTs := mt4 105 rfl rfl
theorem is_M_isOfWord : Cond.static m_M_isOfWord.1 ∈ aTs := mt4 104 (by decide +kernel) rfl
set_option maxRecDepth 100000 in
theorem cm_M_isDigit : Cond.code m_M_isDigit.1 m_M_isDigit.2.1 m_M_isDigit.2.2.1 m_M_isDigit.2.2.2 ∈ aTs := mt4 108 rfl rfl
theorem is_M_isDigit : Cond.static m_M_isDigit.1 ∈ aTs := mt4 107 (by decide +kernel) rfl
set_option maxRecDepth 100000 in
theorem cm_M_isSmall : Cond.code m_M_isSmall.1 m_M_isSmall.2.1 m_M_isSmall.2.2.1 m_M_isSmall.2.2.2 ∈ aTs := mt4 111 rfl rfl
theorem is_M_isSmall : Cond.static m_M_isSmall.1 ∈ aTs := mt4 110 (by decide +kernel) rfl
set_option maxRecDepth 100000 in
theorem cm_M_wrong : Cond.code m_M_wrong.1 m_M_wrong.2.1 m_M_wrong.2.2.1 m_M_wrong.2.2.2 ∈ aTs := mt4 115 rfl rfl
theorem im_M_wrong : Cond.instanceMethod m_M_wrong.1 ∈ aTs := mt4 114 (by decide +kernel) rfl
theorem se_M_wrong : Cond.selects m_M_wrong.1.cls m_M_wrong.1 m_M_wrong.1 ∈ aTs := mtp 34 (by decide +kernel) rfl
set_option maxRecDepth 100000 in
theorem cm_M_takeName : Cond.code m_M_takeName.1 m_M_takeName.2.1 m_M_takeName.2.2.1 m_M_takeName.2.2.2 ∈ aTs := mt4 119 rfl rfl
theorem im_M_takeName : Cond.instanceMethod m_M_takeName.1 ∈ aTs := mt4 118 (by decide +kernel) rfl
theorem se_M_takeName : Cond.selects m_M_takeName.1.cls m_M_takeName.1 m_M_takeName.1 ∈ aTs := mtp 35 (by decide +kernel) rfl
set_option maxRecDepth 100000 in
theorem cm_M_takeNumber : Cond.code m_M_takeNumber.1 m_M_takeNumber.2.1 m_M_takeNumber.2.2.1 m_M_takeNumber.2.2.2 ∈ aTs := mt4 125 rfl rfl
theorem im_M_takeNumber : Cond.instanceMethod m_M_takeNumber.1 ∈ aTs := mt4 124 (by decide +kernel) rfl
theorem se_M_takeNumber : Cond.selects m_M_takeNumber.1.cls m_M_takeNumber.1 m_M_takeNumber.1 ∈ aTs := mtp 36 (by decide +kernel) rfl
set_option maxRecDepth 100000 in
theorem cm_M_isWord : Cond.code m_M_isWord.1 m_M_isWord.2.1 m_M_isWord.2.2.1 m_M_isWord.2.2.2 ∈ aTs := mt4 135 rfl rfl
theorem im_M_isWord : Cond.instanceMethod m_M_isWord.1 ∈ aTs := mt4 134 (by decide +kernel) rfl
theorem se_M_isWord : Cond.selects m_M_isWord.1.cls m_M_isWord.1 m_M_isWord.1 ∈ aTs := mtp 37 (by decide +kernel) rfl
set_option maxRecDepth 100000 in
theorem cm_M_named : Cond.code m_M_named.1 m_M_named.2.1 m_M_named.2.2.1 m_M_named.2.2.2 ∈ aTs := mt4 138 rfl rfl
theorem is_M_named : Cond.static m_M_named.1 ∈ aTs := mt4 137 (by decide +kernel) rfl
set_option maxRecDepth 100000 in
theorem cm_M_readCounter : Cond.code m_M_readCounter.1 m_M_readCounter.2.1 m_M_readCounter.2.2.1 m_M_readCounter.2.2.2 ∈ aTs := mt4 144 rfl rfl
theorem im_M_readCounter : Cond.instanceMethod m_M_readCounter.1 ∈ aTs := mt4 143 (by decide +kernel) rfl
theorem se_M_readCounter : Cond.selects m_M_readCounter.1.cls m_M_readCounter.1 m_M_readCounter.1 ∈ aTs := mtp 38 (by decide +kernel) rfl
set_option maxRecDepth 100000 in
theorem cm_M_isReserved : Cond.code m_M_isReserved.1 m_M_isReserved.2.1 m_M_isReserved.2.2.1 m_M_isReserved.2.2.2 ∈ aTs := mt4 148 rfl rfl
theorem im_M_isReserved : Cond.instanceMethod m_M_isReserved.1 ∈ aTs := mt4 147 (by decide +kernel) rfl
theorem se_M_isReserved : Cond.selects m_M_isReserved.1.cls m_M_isReserved.1 m_M_isReserved.1 ∈ aTs := mtp 39 (by decide +kernel) rfl
set_option maxRecDepth 100000 in
theorem cm_M_isOld : Cond.code m_M_isOld.1 m_M_isOld.2.1 m_M_isOld.2.2.1 m_M_isOld.2.2.2 ∈ aTs := mt4 163 rfl rfl
theorem im_M_isOld : Cond.instanceMethod m_M_isOld.1 ∈ aTs := mt4 162 (by decide +kernel) rfl
theorem se_M_isOld : Cond.selects m_M_isOld.1.cls m_M_isOld.1 m_M_isOld.1 ∈ aTs := mtp 40 (by decide +kernel) rfl
set_option maxRecDepth 100000 in
theorem cm_M_must : Cond.code m_M_must.1 m_M_must.2.1 m_M_must.2.2.1 m_M_must.2.2.2 ∈ aTs := mt4 167 rfl rfl
theorem im_M_must : Cond.instanceMethod m_M_must.1 ∈ aTs := mt4 166 (by decide +kernel) rfl
theorem se_M_must : Cond.selects m_M_must.1.cls m_M_must.1 m_M_must.1 ∈ aTs := mtp 41 (by decide +kernel) rfl
set_option maxRecDepth 100000 in
theorem cm_M_readCall : Cond.code m_M_readCall.1 m_M_readCall.2.1 m_M_readCall.2.2.1 m_M_readCall.2.2.2 ∈ aTs := mt4 172 rfl rfl
theorem im_M_readCall : Cond.instanceMethod m_M_readCall.1 ∈ aTs := mt4 171 (by decide +kernel) rfl
theorem se_M_readCall : Cond.selects m_M_readCall.1.cls m_M_readCall.1 m_M_readCall.1 ∈ aTs := mtp 42 (by decide +kernel) rfl
set_option maxRecDepth 100000 in
theorem cm_M_readGuards : Cond.code m_M_readGuards.1 m_M_readGuards.2.1 m_M_readGuards.2.2.1 m_M_readGuards.2.2.2 ∈ aTs := mt4 176 rfl rfl
theorem im_M_readGuards : Cond.instanceMethod m_M_readGuards.1 ∈ aTs := mt4 175 (by decide +kernel) rfl
theorem se_M_readGuards : Cond.selects m_M_readGuards.1.cls m_M_readGuards.1 m_M_readGuards.1 ∈ aTs := mtp 43 (by decide +kernel) rfl
set_option maxRecDepth 100000 in
theorem cm_M_readGuard : Cond.code m_M_readGuard.1 m_M_readGuard.2.1 m_M_readGuard.2.2.1 m_M_readGuard.2.2.2 ∈ aTs := mt4 180 rfl rfl
theorem im_M_readGuard : Cond.instanceMethod m_M_readGuard.1 ∈ aTs := mt4 179 (by decide +kernel) rfl
theorem se_M_readGuard : Cond.selects m_M_readGuard.1.cls m_M_readGuard.1 m_M_readGuard.1 ∈ aTs := mtp 44 (by decide +kernel) rfl
set_option maxRecDepth 100000 in
theorem cm_M_expect : Cond.code m_M_expect.1 m_M_expect.2.1 m_M_expect.2.2.1 m_M_expect.2.2.2 ∈ aTs := mt4 184 rfl rfl
theorem im_M_expect : Cond.instanceMethod m_M_expect.1 ∈ aTs := mt4 183 (by decide +kernel) rfl
theorem se_M_expect : Cond.selects m_M_expect.1.cls m_M_expect.1 m_M_expect.1 ∈ aTs := mtp 45 (by decide +kernel) rfl
set_option maxRecDepth 100000 in
theorem cm_M_note : Cond.code m_M_note.1 m_M_note.2.1 m_M_note.2.2.1 m_M_note.2.2.2 ∈ aTs := mt4 189 rfl rfl
theorem im_M_note : Cond.instanceMethod m_M_note.1 ∈ aTs := mt4 188 (by decide +kernel) rfl
theorem se_M_note : Cond.selects m_M_note.1.cls m_M_note.1 m_M_note.1 ∈ aTs := mtp 46 (by decide +kernel) rfl
set_option maxRecDepth 100000 in
theorem cm_M_readNode : Cond.code m_M_readNode.1 m_M_readNode.2.1 m_M_readNode.2.2.1 m_M_readNode.2.2.2 ∈ aTs := mt4 193 rfl rfl
theorem im_M_readNode : Cond.instanceMethod m_M_readNode.1 ∈ aTs := mt4 192 (by decide +kernel) rfl
theorem se_M_readNode : Cond.selects m_M_readNode.1.cls m_M_readNode.1 m_M_readNode.1 ∈ aTs := mtp 47 (by decide +kernel) rfl
set_option maxRecDepth 100000 in
theorem cm_M_expectWord : Cond.code m_M_expectWord.1 m_M_expectWord.2.1 m_M_expectWord.2.2.1 m_M_expectWord.2.2.2 ∈ aTs := mt4 197 rfl rfl
theorem im_M_expectWord : Cond.instanceMethod m_M_expectWord.1 ∈ aTs := mt4 196 (by decide +kernel) rfl
theorem se_M_expectWord : Cond.selects m_M_expectWord.1.cls m_M_expectWord.1 m_M_expectWord.1 ∈ aTs := mtp 48 (by decide +kernel) rfl
set_option maxRecDepth 100000 in
theorem cm_M_resolve : Cond.code m_M_resolve.1 m_M_resolve.2.1 m_M_resolve.2.2.1 m_M_resolve.2.2.2 ∈ aTs := mt4 201 rfl rfl
theorem im_M_resolve : Cond.instanceMethod m_M_resolve.1 ∈ aTs := mt4 200 (by decide +kernel) rfl
theorem se_M_resolve : Cond.selects m_M_resolve.1.cls m_M_resolve.1 m_M_resolve.1 ∈ aTs := mtp 49 (by decide +kernel) rfl
set_option maxRecDepth 100000 in
theorem cm_M_give : Cond.code m_M_give.1 m_M_give.2.1 m_M_give.2.2.1 m_M_give.2.2.2 ∈ aTs := mt5 126 rfl rfl
theorem im_M_give : Cond.instanceMethod m_M_give.1 ∈ aTs := mt5 124 (by decide +kernel) rfl
theorem se_M_give : Cond.selects m_M_give.1.cls m_M_give.1 m_M_give.1 ∈ aTs := mt5 125 (by decide +kernel) rfl
set_option maxRecDepth 100000 in
theorem cm_M_cut : Cond.code m_M_cut.1 m_M_cut.2.1 m_M_cut.2.2.1 m_M_cut.2.2.2 ∈ aTs := mt5 131 rfl rfl
theorem im_M_cut : Cond.instanceMethod m_M_cut.1 ∈ aTs := mt5 129 (by decide +kernel) rfl
theorem se_M_cut : Cond.selects m_M_cut.1.cls m_M_cut.1 m_M_cut.1 ∈ aTs := mt5 130 (by decide +kernel) rfl
set_option maxRecDepth 100000 in
theorem cm_M_poke : Cond.code m_M_poke.1 m_M_poke.2.1 m_M_poke.2.2.1 m_M_poke.2.2.2 ∈ aTs := mt5 135 rfl rfl
theorem im_M_poke : Cond.instanceMethod m_M_poke.1 ∈ aTs := mt5 133 (by decide +kernel) rfl
theorem se_M_poke : Cond.selects m_M_poke.1.cls m_M_poke.1 m_M_poke.1 ∈ aTs := mt5 134 (by decide +kernel) rfl
set_option maxRecDepth 100000 in
theorem cm_M_turnOver : Cond.code m_M_turnOver.1 m_M_turnOver.2.1 m_M_turnOver.2.2.1 m_M_turnOver.2.2.2 ∈ aTs := mt5 139 rfl rfl
theorem im_M_turnOver : Cond.instanceMethod m_M_turnOver.1 ∈ aTs := mt5 137 (by decide +kernel) rfl
theorem se_M_turnOver : Cond.selects m_M_turnOver.1.cls m_M_turnOver.1 m_M_turnOver.1 ∈ aTs := mt5 138 (by decide +kernel) rfl
set_option maxRecDepth 100000 in
theorem cm_M_byteAt : Cond.code m_M_byteAt.1 m_M_byteAt.2.1 m_M_byteAt.2.2.1 m_M_byteAt.2.2.2 ∈ aTs := mt5 143 rfl rfl
theorem im_M_byteAt : Cond.instanceMethod m_M_byteAt.1 ∈ aTs := mt5 141 (by decide +kernel) rfl
theorem se_M_byteAt : Cond.selects m_M_byteAt.1.cls m_M_byteAt.1 m_M_byteAt.1 ∈ aTs := mt5 142 (by decide +kernel) rfl
set_option maxRecDepth 100000 in
theorem cm_M_read : Cond.code m_M_read.1 m_M_read.2.1 m_M_read.2.2.1 m_M_read.2.2.2 ∈ aTs := mt5 147 rfl rfl
theorem im_M_read : Cond.instanceMethod m_M_read.1 ∈ aTs := mt5 145 (by decide +kernel) rfl
theorem se_M_read : Cond.selects m_M_read.1.cls m_M_read.1 m_M_read.1 ∈ aTs := mt5 146 (by decide +kernel) rfl
set_option maxRecDepth 100000 in
theorem cm_M_print : Cond.code m_M_print.1 m_M_print.2.1 m_M_print.2.2.1 m_M_print.2.2.2 ∈ aTs := mt5 151 rfl rfl
theorem im_M_print : Cond.instanceMethod m_M_print.1 ∈ aTs := mt5 149 (by decide +kernel) rfl
theorem se_M_print : Cond.selects m_M_print.1.cls m_M_print.1 m_M_print.1 ∈ aTs := mt5 150 (by decide +kernel) rfl
set_option maxRecDepth 100000 in
theorem cm_M_open : Cond.code m_M_open.1 m_M_open.2.1 m_M_open.2.2.1 m_M_open.2.2.2 ∈ aTs := mt5 155 rfl rfl
theorem im_M_open : Cond.instanceMethod m_M_open.1 ∈ aTs := mt5 154 (by decide +kernel) rfl
theorem se_M_open : Cond.selects m_M_open.1.cls m_M_open.1 m_M_open.1 ∈ aTs := mtp 50 (by decide +kernel) rfl
set_option maxRecDepth 100000 in
theorem cm_M_blank : Cond.code m_M_blank.1 m_M_blank.2.1 m_M_blank.2.2.1 m_M_blank.2.2.2 ∈ aTs := mt5 159 rfl rfl
theorem im_M_blank : Cond.instanceMethod m_M_blank.1 ∈ aTs := mt5 158 (by decide +kernel) rfl
theorem se_M_blank : Cond.selects m_M_blank.1.cls m_M_blank.1 m_M_blank.1 ∈ aTs := mtp 51 (by decide +kernel) rfl
set_option maxRecDepth 100000 in
theorem cm_M_lay : Cond.code m_M_lay.1 m_M_lay.2.1 m_M_lay.2.2.1 m_M_lay.2.2.2 ∈ aTs := mt5 163 rfl rfl
theorem im_M_lay : Cond.instanceMethod m_M_lay.1 ∈ aTs := mt5 162 (by decide +kernel) rfl
theorem se_M_lay : Cond.selects m_M_lay.1.cls m_M_lay.1 m_M_lay.1 ∈ aTs := mtp 52 (by decide +kernel) rfl
set_option maxRecDepth 100000 in
theorem cm_M_word : Cond.code m_M_word.1 m_M_word.2.1 m_M_word.2.2.1 m_M_word.2.2.2 ∈ aTs := mt5 167 rfl rfl
theorem im_M_word : Cond.instanceMethod m_M_word.1 ∈ aTs := mt5 166 (by decide +kernel) rfl
theorem se_M_word : Cond.selects m_M_word.1.cls m_M_word.1 m_M_word.1 ∈ aTs := mtp 53 (by decide +kernel) rfl
set_option maxRecDepth 100000 in
theorem cm_M_nameOut : Cond.code m_M_nameOut.1 m_M_nameOut.2.1 m_M_nameOut.2.2.1 m_M_nameOut.2.2.2 ∈ aTs := mt5 171 rfl rfl
theorem im_M_nameOut : Cond.instanceMethod m_M_nameOut.1 ∈ aTs := mt5 170 (by decide +kernel) rfl
theorem se_M_nameOut : Cond.selects m_M_nameOut.1.cls m_M_nameOut.1 m_M_nameOut.1 ∈ aTs := mtp 54 (by decide +kernel) rfl
set_option maxRecDepth 100000 in
theorem cm_M_numberOut : Cond.code m_M_numberOut.1 m_M_numberOut.2.1 m_M_numberOut.2.2.1 m_M_numberOut.2.2.2 ∈ aTs := mt5 175 rfl rfl
theorem im_M_numberOut : Cond.instanceMethod m_M_numberOut.1 ∈ aTs := mt5 174 (by decide +kernel) rfl
theorem se_M_numberOut : Cond.selects m_M_numberOut.1.cls m_M_numberOut.1 m_M_numberOut.1 ∈ aTs := mtp 55 (by decide +kernel) rfl
set_option maxRecDepth 100000 in
theorem cm_M_clauseOut : Cond.code m_M_clauseOut.1 m_M_clauseOut.2.1 m_M_clauseOut.2.2.1 m_M_clauseOut.2.2.2 ∈ aTs := mt5 180 rfl rfl
theorem im_M_clauseOut : Cond.instanceMethod m_M_clauseOut.1 ∈ aTs := mt5 179 (by decide +kernel) rfl
theorem se_M_clauseOut : Cond.selects m_M_clauseOut.1.cls m_M_clauseOut.1 m_M_clauseOut.1 ∈ aTs := mtp 56 (by decide +kernel) rfl
set_option maxRecDepth 100000 in
theorem cm_M_close : Cond.code m_M_close.1 m_M_close.2.1 m_M_close.2.2.1 m_M_close.2.2.2 ∈ aTs := mt5 184 rfl rfl
theorem im_M_close : Cond.instanceMethod m_M_close.1 ∈ aTs := mt5 183 (by decide +kernel) rfl
theorem se_M_close : Cond.selects m_M_close.1.cls m_M_close.1 m_M_close.1 ∈ aTs := mtp 57 (by decide +kernel) rfl
set_option maxRecDepth 100000 in
theorem cm_M_lineOut : Cond.code m_M_lineOut.1 m_M_lineOut.2.1 m_M_lineOut.2.2.1 m_M_lineOut.2.2.2 ∈ aTs := mt5 188 rfl rfl
theorem im_M_lineOut : Cond.instanceMethod m_M_lineOut.1 ∈ aTs := mt5 187 (by decide +kernel) rfl
theorem se_M_lineOut : Cond.selects m_M_lineOut.1.cls m_M_lineOut.1 m_M_lineOut.1 ∈ aTs := mtp 58 (by decide +kernel) rfl
set_option maxRecDepth 100000 in
theorem cm_M_stand : Cond.code m_M_stand.1 m_M_stand.2.1 m_M_stand.2.2.1 m_M_stand.2.2.2 ∈ aTs := mt5 192 rfl rfl
theorem im_M_stand : Cond.instanceMethod m_M_stand.1 ∈ aTs := mt5 190 (by decide +kernel) rfl
theorem se_M_stand : Cond.selects m_M_stand.1.cls m_M_stand.1 m_M_stand.1 ∈ aTs := mt5 191 (by decide +kernel) rfl
set_option maxRecDepth 100000 in
theorem cm_M_counter : Cond.code m_M_counter.1 m_M_counter.2.1 m_M_counter.2.2.1 m_M_counter.2.2.2 ∈ aTs := mt5 196 rfl rfl
theorem im_M_counter : Cond.instanceMethod m_M_counter.1 ∈ aTs := mt5 194 (by decide +kernel) rfl
theorem se_M_counter : Cond.selects m_M_counter.1.cls m_M_counter.1 m_M_counter.1 ∈ aTs := mt5 195 (by decide +kernel) rfl
set_option maxRecDepth 100000 in
theorem cm_M_howMany : Cond.code m_M_howMany.1 m_M_howMany.2.1 m_M_howMany.2.2.1 m_M_howMany.2.2.2 ∈ aTs := mt5 200 rfl rfl
theorem im_M_howMany : Cond.instanceMethod m_M_howMany.1 ∈ aTs := mt5 199 (by decide +kernel) rfl
theorem se_M_howMany : Cond.selects m_M_howMany.1.cls m_M_howMany.1 m_M_howMany.1 ∈ aTs := mtp 59 (by decide +kernel) rfl
set_option maxRecDepth 100000 in
theorem cm_M_clauseAt : Cond.code m_M_clauseAt.1 m_M_clauseAt.2.1 m_M_clauseAt.2.2.1 m_M_clauseAt.2.2.2 ∈ aTs := mt5 204 rfl rfl
theorem im_M_clauseAt : Cond.instanceMethod m_M_clauseAt.1 ∈ aTs := mt5 203 (by decide +kernel) rfl
theorem se_M_clauseAt : Cond.selects m_M_clauseAt.1.cls m_M_clauseAt.1 m_M_clauseAt.1 ∈ aTs := mtp 60 (by decide +kernel) rfl
set_option maxRecDepth 100000 in
theorem cm_M_node : Cond.code m_M_node.1 m_M_node.2.1 m_M_node.2.2.1 m_M_node.2.2.2 ∈ aTs := mt5 208 rfl rfl
theorem im_M_node : Cond.instanceMethod m_M_node.1 ∈ aTs := mt5 206 (by decide +kernel) rfl
theorem se_M_node : Cond.selects m_M_node.1.cls m_M_node.1 m_M_node.1 ∈ aTs := mt5 207 (by decide +kernel) rfl
set_option maxRecDepth 100000 in
theorem cm_M_clause : Cond.code m_M_clause.1 m_M_clause.2.1 m_M_clause.2.2.1 m_M_clause.2.2.2 ∈ aTs := mt5 212 rfl rfl
theorem im_M_clause : Cond.instanceMethod m_M_clause.1 ∈ aTs := mt5 210 (by decide +kernel) rfl
theorem se_M_clause : Cond.selects m_M_clause.1.cls m_M_clause.1 m_M_clause.1 ∈ aTs := mt5 211 (by decide +kernel) rfl
set_option maxRecDepth 100000 in
theorem cm_M_test : Cond.code m_M_test.1 m_M_test.2.1 m_M_test.2.2.1 m_M_test.2.2.2 ∈ aTs := mt5 216 rfl rfl
theorem im_M_test : Cond.instanceMethod m_M_test.1 ∈ aTs := mt5 214 (by decide +kernel) rfl
theorem se_M_test : Cond.selects m_M_test.1.cls m_M_test.1 m_M_test.1 ∈ aTs := mt5 215 (by decide +kernel) rfl
set_option maxRecDepth 100000 in
theorem cm_M_testAt : Cond.code m_M_testAt.1 m_M_testAt.2.1 m_M_testAt.2.2.1 m_M_testAt.2.2.2 ∈ aTs := mt5 220 rfl rfl
theorem im_M_testAt : Cond.instanceMethod m_M_testAt.1 ∈ aTs := mt5 219 (by decide +kernel) rfl
theorem se_M_testAt : Cond.selects m_M_testAt.1.cls m_M_testAt.1 m_M_testAt.1 ∈ aTs := mtp 61 (by decide +kernel) rfl
set_option maxRecDepth 100000 in
theorem cm_M_than : Cond.code m_M_than.1 m_M_than.2.1 m_M_than.2.2.1 m_M_than.2.2.2 ∈ aTs := mt5 224 rfl rfl
theorem im_M_than : Cond.instanceMethod m_M_than.1 ∈ aTs := mt5 222 (by decide +kernel) rfl
theorem se_M_than : Cond.selects m_M_than.1.cls m_M_than.1 m_M_than.1 ∈ aTs := mt5 223 (by decide +kernel) rfl
set_option maxRecDepth 100000 in
theorem cm_M_call : Cond.code m_M_call.1 m_M_call.2.1 m_M_call.2.2.1 m_M_call.2.2.2 ∈ aTs := mt5 228 rfl rfl
theorem im_M_call : Cond.instanceMethod m_M_call.1 ∈ aTs := mt5 226 (by decide +kernel) rfl
theorem se_M_call : Cond.selects m_M_call.1.cls m_M_call.1 m_M_call.1 ∈ aTs := mt5 227 (by decide +kernel) rfl
set_option maxRecDepth 100000 in
theorem cm_M_holds : Cond.code m_M_holds.1 m_M_holds.2.1 m_M_holds.2.2.1 m_M_holds.2.2.2 ∈ aTs := mt5 232 rfl rfl
theorem im_M_holds : Cond.instanceMethod m_M_holds.1 ∈ aTs := mt5 230 (by decide +kernel) rfl
theorem se_M_holds : Cond.selects m_M_holds.1.cls m_M_holds.1 m_M_holds.1 ∈ aTs := mt5 231 (by decide +kernel) rfl
set_option maxRecDepth 100000 in
theorem cm_M_ask : Cond.code m_M_ask.1 m_M_ask.2.1 m_M_ask.2.2.1 m_M_ask.2.2.2 ∈ aTs := mt5 236 rfl rfl
theorem im_M_ask : Cond.instanceMethod m_M_ask.1 ∈ aTs := mt5 235 (by decide +kernel) rfl
theorem se_M_ask : Cond.selects m_M_ask.1.cls m_M_ask.1 m_M_ask.1 ∈ aTs := mtp 62 (by decide +kernel) rfl
set_option maxRecDepth 100000 in
theorem cm_M_isSo : Cond.code m_M_isSo.1 m_M_isSo.2.1 m_M_isSo.2.2.1 m_M_isSo.2.2.2 ∈ aTs := mt6 0 rfl rfl
theorem im_M_isSo : Cond.instanceMethod m_M_isSo.1 ∈ aTs := mt5 239 (by decide +kernel) rfl
theorem se_M_isSo : Cond.selects m_M_isSo.1.cls m_M_isSo.1 m_M_isSo.1 ∈ aTs := mtp 63 (by decide +kernel) rfl
set_option maxRecDepth 100000 in
theorem cm_M_hold : Cond.code m_M_hold.1 m_M_hold.2.1 m_M_hold.2.2.1 m_M_hold.2.2.2 ∈ aTs := mt6 4 rfl rfl
theorem im_M_hold : Cond.instanceMethod m_M_hold.1 ∈ aTs := mt6 3 (by decide +kernel) rfl
theorem se_M_hold : Cond.selects m_M_hold.1.cls m_M_hold.1 m_M_hold.1 ∈ aTs := mtp 64 (by decide +kernel) rfl
set_option maxRecDepth 100000 in
theorem cm_M_isTrue : Cond.code m_M_isTrue.1 m_M_isTrue.2.1 m_M_isTrue.2.2.1 m_M_isTrue.2.2.2 ∈ aTs := mt6 8 rfl rfl
theorem im_M_isTrue : Cond.instanceMethod m_M_isTrue.1 ∈ aTs := mt6 7 (by decide +kernel) rfl
theorem se_M_isTrue : Cond.selects m_M_isTrue.1.cls m_M_isTrue.1 m_M_isTrue.1 ∈ aTs := mtp 65 (by decide +kernel) rfl
set_option maxRecDepth 100000 in
theorem cm_M_make : Cond.code m_M_make.1 m_M_make.2.1 m_M_make.2.2.1 m_M_make.2.2.2 ∈ aTs := mt6 12 rfl rfl
theorem im_M_make : Cond.instanceMethod m_M_make.1 ∈ aTs := mt6 10 (by decide +kernel) rfl
theorem se_M_make : Cond.selects m_M_make.1.cls m_M_make.1 m_M_make.1 ∈ aTs := mt6 11 (by decide +kernel) rfl
set_option maxRecDepth 100000 in
theorem cm_M_count : Cond.code m_M_count.1 m_M_count.2.1 m_M_count.2.2.1 m_M_count.2.2.2 ∈ aTs := mt6 16 rfl rfl
theorem im_M_count : Cond.instanceMethod m_M_count.1 ∈ aTs := mt6 15 (by decide +kernel) rfl
theorem se_M_count : Cond.selects m_M_count.1.cls m_M_count.1 m_M_count.1 ∈ aTs := mtp 66 (by decide +kernel) rfl
set_option maxRecDepth 100000 in
theorem cm_M_look : Cond.code m_M_look.1 m_M_look.2.1 m_M_look.2.2.1 m_M_look.2.2.2 ∈ aTs := mt6 20 rfl rfl
theorem im_M_look : Cond.instanceMethod m_M_look.1 ∈ aTs := mt6 18 (by decide +kernel) rfl
theorem se_M_look : Cond.selects m_M_look.1.cls m_M_look.1 m_M_look.1 ∈ aTs := mt6 19 (by decide +kernel) rfl
theorem in_B : ∀ w ∈ u_ws "PolicyText$Bytes" T_B 3, w ∈ aTs := by decide +kernel
theorem nm_B : ∀ a, a < 3 → ∀ b, b < 3 → a ≠ b → (T_B a).2.1 ≠ (T_B b).2.1 := by decide +kernel
theorem tk_B : ∀ k, k < 3 → parseFieldDescriptor (T_B k).2.2.1 = some (ty_B k) := by decide +kernel
theorem in_C : ∀ w ∈ u_ws "PolicyText$Call" T_C 4, w ∈ aTs := by decide +kernel
theorem nm_C : ∀ a, a < 4 → ∀ b, b < 4 → a ≠ b → (T_C a).2.1 ≠ (T_C b).2.1 := by decide +kernel
theorem tk_C : ∀ k, k < 4 → parseFieldDescriptor (T_C k).2.2.1 = some (ty_C k) := by decide +kernel
theorem in_P : ∀ w ∈ u_ws "PolicyText$Policy" T_P 13, w ∈ aTs := by decide +kernel
theorem nm_P : ∀ a, a < 13 → ∀ b, b < 13 → a ≠ b → (T_P a).2.1 ≠ (T_P b).2.1 := by decide +kernel
theorem tk_P : ∀ k, k < 13 → parseFieldDescriptor (T_P k).2.2.1 = some (ty_P k) := by decide +kernel
theorem in_W : ∀ w ∈ u_ws "PolicyText$Printer" T_W 3, w ∈ aTs := by decide +kernel
theorem nm_W : ∀ a, a < 3 → ∀ b, b < 3 → a ≠ b → (T_W a).2.1 ≠ (T_W b).2.1 := by decide +kernel
theorem tk_W : ∀ k, k < 3 → parseFieldDescriptor (T_W k).2.2.1 = some (ty_W k) := by decide +kernel
theorem in_R : ∀ w ∈ u_ws "PolicyText$Reader" T_R 15, w ∈ aTs := by decide +kernel
theorem nm_R : ∀ a, a < 15 → ∀ b, b < 15 → a ≠ b → (T_R a).2.1 ≠ (T_R b).2.1 := by decide +kernel
theorem tk_R : ∀ k, k < 15 → parseFieldDescriptor (T_R k).2.2.1 = some (ty_R k) := by decide +kernel
theorem in_T : ∀ w ∈ u_ws "PolicyText$Tokens" T_T 6, w ∈ aTs := by decide +kernel
theorem nm_T : ∀ a, a < 6 → ∀ b, b < 6 → a ≠ b → (T_T a).2.1 ≠ (T_T b).2.1 := by decide +kernel
theorem tk_T : ∀ k, k < 6 → parseFieldDescriptor (T_T k).2.2.1 = some (ty_T k) := by decide +kernel
theorem in_X : ∀ w ∈ u_ws "PolicyText" T_X 7, w ∈ aTs := by decide +kernel
theorem nm_X : ∀ a, a < 7 → ∀ b, b < 7 → a ≠ b → (T_X a).2.1 ≠ (T_X b).2.1 := by decide +kernel
theorem tk_X : ∀ k, k < 7 → parseFieldDescriptor (T_X k).2.2.1 = some (ty_X k) := by decide +kernel
theorem in_M : ∀ w ∈ u_ws "PolicyTextModel" T_M 53, w ∈ aTs := by decide +kernel
theorem nm_M : ∀ a, a < 53 → ∀ b, b < 53 → a ≠ b → (T_M a).2.1 ≠ (T_M b).2.1 := by decide +kernel
theorem tk_M : ∀ k, k < 53 → parseFieldDescriptor (T_M k).2.2.1 = some (ty_M k) := by decide +kernel
theorem n_L_7 : a_nw "PolicyTextLaw" 7 6 7 [.null, .null, .null, .null, .null, .null, .null] := ⟨_, _, ty_X, rfl, in_X, tk_X, mt1 16 (by decide +kernel) rfl, mt1 17 (by decide +kernel) rfl, ini_X, by decide +kernel⟩
theorem l_L_9 : a_lk "PolicyTextLaw" 9 m_X_init 0 := ⟨mt1 18 (by decide +kernel) rfl, ini_X, cm_X_init, by decide +kernel, by decide +kernel⟩
theorem o_X : Cond.methodLink "PolicyText" 1 Lib.objectInit ∈ aTs ∧ Cond.instanceMethod Lib.objectInit ∈ aTs ∧ Cond.code Lib.objectInit ⟨#[0xb1]⟩ 1 none ∈ aTs := ⟨mt1 21 (by decide +kernel) rfl, im_O_init, cm_O_init⟩
theorem n_X_7 : a_nw "PolicyText" 7 0 3 [.null, .int 0, .int 0] := ⟨_, _, ty_B, rfl, in_B, tk_B, mt1 24 (by decide +kernel) rfl, mt1 25 (by decide +kernel) rfl, ini_B, by decide +kernel⟩
theorem l_X_11 : a_lk "PolicyText" 11 m_B_init 1 := ⟨mt1 26 (by decide +kernel) rfl, ini_B, cm_B_init, by decide +kernel, by decide +kernel⟩
theorem o_B : Cond.methodLink "PolicyText$Bytes" 3 Lib.objectInit ∈ aTs ∧ Cond.instanceMethod Lib.objectInit ∈ aTs ∧ Cond.code Lib.objectInit ⟨#[0xb1]⟩ 1 none ∈ aTs := ⟨mt1 29 (by decide +kernel) rfl, im_O_init, cm_O_init⟩
theorem l_B_9 : a_lk "PolicyText$Bytes" 9 m_A_max 2 := ⟨mt1 30 (by decide +kernel) rfl, ini_A, cm_A_max, by decide +kernel, by decide +kernel⟩
theorem f_B_21 : a_fl "PolicyText$Bytes" 21 0 0 := ⟨_, _, _, rfl, by decide, in_B, mt1 33 (by decide +kernel) rfl⟩
theorem p_B_21 : a_fp "PolicyText$Bytes" 21 0 0 (.array .long) true := ⟨_, _, _, ty_B, rfl, by decide, in_B, mt1 33 (by decide +kernel) rfl, tk_B, nm_B, rfl, by decide +kernel, fun _ => rfl⟩
theorem f_B_15 : a_fl "PolicyText$Bytes" 15 0 1 := ⟨_, _, _, rfl, by decide, in_B, mt1 34 (by decide +kernel) rfl⟩
theorem p_B_15 : a_fp "PolicyText$Bytes" 15 0 1 .int true := ⟨_, _, _, ty_B, rfl, by decide, in_B, mt1 34 (by decide +kernel) rfl, tk_B, nm_B, rfl, by decide +kernel, fun _ => rfl⟩
theorem f_B_25 : a_fl "PolicyText$Bytes" 25 0 2 := ⟨_, _, _, rfl, by decide, in_B, mt1 35 (by decide +kernel) rfl⟩
theorem p_B_25 : a_fp "PolicyText$Bytes" 25 0 2 .int false := ⟨_, _, _, ty_B, rfl, by decide, in_B, mt1 35 (by decide +kernel) rfl, tk_B, nm_B, rfl, by decide +kernel, fun h => by cases h⟩
theorem ar_long : Cond.arrayClass .long ∈ aTs := mt1 43 (by decide +kernel) rfl
theorem n_X_24 : a_nw "PolicyText" 24 2 13 [.int 0, .int 0, .int 0, .null, .null, .null, .null, .null, .null, .null, .null, .null, .null] := ⟨_, _, ty_P, rfl, in_P, tk_P, mt1 44 (by decide +kernel) rfl, mt1 45 (by decide +kernel) rfl, ini_P, by decide +kernel⟩
theorem l_X_26 : a_lk "PolicyText" 26 m_P_init 0 := ⟨mt1 46 (by decide +kernel) rfl, ini_P, cm_P_init, by decide +kernel, by decide +kernel⟩
theorem o_P : Cond.methodLink "PolicyText$Policy" 5 Lib.objectInit ∈ aTs ∧ Cond.instanceMethod Lib.objectInit ∈ aTs ∧ Cond.code Lib.objectInit ⟨#[0xb1]⟩ 1 none ∈ aTs := ⟨mt1 49 (by decide +kernel) rfl, im_O_init, cm_O_init⟩
theorem f_P_47 : a_fl "PolicyText$Policy" 47 2 0 := ⟨_, _, _, rfl, by decide, in_P, mt1 50 (by decide +kernel) rfl⟩
theorem p_P_47 : a_fp "PolicyText$Policy" 47 2 0 .int false := ⟨_, _, _, ty_P, rfl, by decide, in_P, mt1 50 (by decide +kernel) rfl, tk_P, nm_P, rfl, by decide +kernel, fun h => by cases h⟩
theorem f_P_43 : a_fl "PolicyText$Policy" 43 2 1 := ⟨_, _, _, rfl, by decide, in_P, mt1 51 (by decide +kernel) rfl⟩
theorem p_P_43 : a_fp "PolicyText$Policy" 43 2 1 .int false := ⟨_, _, _, ty_P, rfl, by decide, in_P, mt1 51 (by decide +kernel) rfl, tk_P, nm_P, rfl, by decide +kernel, fun h => by cases h⟩
theorem f_P_50 : a_fl "PolicyText$Policy" 50 2 2 := ⟨_, _, _, rfl, by decide, in_P, mt1 52 (by decide +kernel) rfl⟩
theorem p_P_50 : a_fp "PolicyText$Policy" 50 2 2 .int false := ⟨_, _, _, ty_P, rfl, by decide, in_P, mt1 52 (by decide +kernel) rfl, tk_P, nm_P, rfl, by decide +kernel, fun h => by cases h⟩
theorem f_P_11 : a_fl "PolicyText$Policy" 11 2 3 := ⟨_, _, _, rfl, by decide, in_P, mt1 53 (by decide +kernel) rfl⟩
theorem p_P_11 : a_fp "PolicyText$Policy" 11 2 3 (.array .long) true := ⟨_, _, _, ty_P, rfl, by decide, in_P, mt1 53 (by decide +kernel) rfl, tk_P, nm_P, rfl, by decide +kernel, fun _ => rfl⟩
theorem f_P_15 : a_fl "PolicyText$Policy" 15 2 4 := ⟨_, _, _, rfl, by decide, in_P, mt1 54 (by decide +kernel) rfl⟩
theorem p_P_15 : a_fp "PolicyText$Policy" 15 2 4 (.array .int) true := ⟨_, _, _, ty_P, rfl, by decide, in_P, mt1 54 (by decide +kernel) rfl, tk_P, nm_P, rfl, by decide +kernel, fun _ => rfl⟩
theorem f_P_19 : a_fl "PolicyText$Policy" 19 2 5 := ⟨_, _, _, rfl, by decide, in_P, mt1 55 (by decide +kernel) rfl⟩
theorem p_P_19 : a_fp "PolicyText$Policy" 19 2 5 (.array .int) true := ⟨_, _, _, ty_P, rfl, by decide, in_P, mt1 55 (by decide +kernel) rfl, tk_P, nm_P, rfl, by decide +kernel, fun _ => rfl⟩
theorem f_P_22 : a_fl "PolicyText$Policy" 22 2 6 := ⟨_, _, _, rfl, by decide, in_P, mt1 56 (by decide +kernel) rfl⟩
theorem p_P_22 : a_fp "PolicyText$Policy" 22 2 6 (.array .int) true := ⟨_, _, _, ty_P, rfl, by decide, in_P, mt1 56 (by decide +kernel) rfl, tk_P, nm_P, rfl, by decide +kernel, fun _ => rfl⟩
theorem f_P_25 : a_fl "PolicyText$Policy" 25 2 7 := ⟨_, _, _, rfl, by decide, in_P, mt1 57 (by decide +kernel) rfl⟩
theorem p_P_25 : a_fp "PolicyText$Policy" 25 2 7 (.array .int) true := ⟨_, _, _, ty_P, rfl, by decide, in_P, mt1 57 (by decide +kernel) rfl, tk_P, nm_P, rfl, by decide +kernel, fun _ => rfl⟩
theorem f_P_28 : a_fl "PolicyText$Policy" 28 2 8 := ⟨_, _, _, rfl, by decide, in_P, mt1 58 (by decide +kernel) rfl⟩
theorem p_P_28 : a_fp "PolicyText$Policy" 28 2 8 (.array .int) true := ⟨_, _, _, ty_P, rfl, by decide, in_P, mt1 58 (by decide +kernel) rfl, tk_P, nm_P, rfl, by decide +kernel, fun _ => rfl⟩
theorem f_P_31 : a_fl "PolicyText$Policy" 31 2 9 := ⟨_, _, _, rfl, by decide, in_P, mt1 59 (by decide +kernel) rfl⟩
theorem p_P_31 : a_fp "PolicyText$Policy" 31 2 9 (.array .int) true := ⟨_, _, _, ty_P, rfl, by decide, in_P, mt1 59 (by decide +kernel) rfl, tk_P, nm_P, rfl, by decide +kernel, fun _ => rfl⟩
theorem f_P_34 : a_fl "PolicyText$Policy" 34 2 10 := ⟨_, _, _, rfl, by decide, in_P, mt1 60 (by decide +kernel) rfl⟩
theorem p_P_34 : a_fp "PolicyText$Policy" 34 2 10 (.array .int) true := ⟨_, _, _, ty_P, rfl, by decide, in_P, mt1 60 (by decide +kernel) rfl, tk_P, nm_P, rfl, by decide +kernel, fun _ => rfl⟩
theorem f_P_37 : a_fl "PolicyText$Policy" 37 2 11 := ⟨_, _, _, rfl, by decide, in_P, mt1 61 (by decide +kernel) rfl⟩
theorem p_P_37 : a_fp "PolicyText$Policy" 37 2 11 (.array .int) true := ⟨_, _, _, ty_P, rfl, by decide, in_P, mt1 61 (by decide +kernel) rfl, tk_P, nm_P, rfl, by decide +kernel, fun _ => rfl⟩
theorem f_P_40 : a_fl "PolicyText$Policy" 40 2 12 := ⟨_, _, _, rfl, by decide, in_P, mt1 62 (by decide +kernel) rfl⟩
theorem p_P_40 : a_fp "PolicyText$Policy" 40 2 12 (.array .int) true := ⟨_, _, _, ty_P, rfl, by decide, in_P, mt1 62 (by decide +kernel) rfl, tk_P, nm_P, rfl, by decide +kernel, fun _ => rfl⟩
theorem ar_int : Cond.arrayClass .int ∈ aTs := mt1 90 (by decide +kernel) rfl
theorem n_X_34 : a_nw "PolicyText" 34 4 15 [.null, .null, .null, .null, .int 0, .int 0, .int 0, .int 0, .int 0, .int 0, .int 0, .int 0, .int 0, .int 0, .int 0] := ⟨_, _, ty_R, rfl, in_R, tk_R, mt1 91 (by decide +kernel) rfl, mt1 92 (by decide +kernel) rfl, ini_R, by decide +kernel⟩
theorem l_X_36 : a_lk "PolicyText" 36 m_R_init 2 := ⟨mt1 93 (by decide +kernel) rfl, ini_R, cm_R_init, by decide +kernel, by decide +kernel⟩
theorem o_R : Cond.methodLink "PolicyText$Reader" 3 Lib.objectInit ∈ aTs ∧ Cond.instanceMethod Lib.objectInit ∈ aTs ∧ Cond.code Lib.objectInit ⟨#[0xb1]⟩ 1 none ∈ aTs := ⟨mt1 96 (by decide +kernel) rfl, im_O_init, cm_O_init⟩
theorem n_R_9 : a_nw "PolicyText$Reader" 9 5 6 [.null, .int 0, .int 0, .int 0, .long 0, .int 0] := ⟨_, _, ty_T, rfl, in_T, tk_T, mt1 97 (by decide +kernel) rfl, mt1 98 (by decide +kernel) rfl, ini_T, by decide +kernel⟩
theorem l_R_11 : a_lk "PolicyText$Reader" 11 m_T_init 1 := ⟨mt1 99 (by decide +kernel) rfl, ini_T, cm_T_init, by decide +kernel, by decide +kernel⟩
theorem o_T : Cond.methodLink "PolicyText$Tokens" 3 Lib.objectInit ∈ aTs ∧ Cond.instanceMethod Lib.objectInit ∈ aTs ∧ Cond.code Lib.objectInit ⟨#[0xb1]⟩ 1 none ∈ aTs := ⟨mt1 102 (by decide +kernel) rfl, im_O_init, cm_O_init⟩
theorem l_T_15 : a_lk "PolicyText$Tokens" 15 m_T_restart 0 := ⟨mt1 103 (by decide +kernel) rfl, ini_T, cm_T_restart, by decide +kernel, by decide +kernel⟩
theorem f_T_9 : a_fl "PolicyText$Tokens" 9 5 0 := ⟨_, _, _, rfl, by decide, in_T, mt1 107 (by decide +kernel) rfl⟩
theorem p_T_9 : a_fp "PolicyText$Tokens" 9 5 0 (.object "PolicyText$Bytes") true := ⟨_, _, _, ty_T, rfl, by decide, in_T, mt1 107 (by decide +kernel) rfl, tk_T, nm_T, rfl, by decide +kernel, fun _ => rfl⟩
theorem f_T_18 : a_fl "PolicyText$Tokens" 18 5 1 := ⟨_, _, _, rfl, by decide, in_T, mt1 108 (by decide +kernel) rfl⟩
theorem p_T_18 : a_fp "PolicyText$Tokens" 18 5 1 .int false := ⟨_, _, _, ty_T, rfl, by decide, in_T, mt1 108 (by decide +kernel) rfl, tk_T, nm_T, rfl, by decide +kernel, fun h => by cases h⟩
theorem f_T_22 : a_fl "PolicyText$Tokens" 22 5 2 := ⟨_, _, _, rfl, by decide, in_T, mt1 109 (by decide +kernel) rfl⟩
theorem p_T_22 : a_fp "PolicyText$Tokens" 22 5 2 .int false := ⟨_, _, _, ty_T, rfl, by decide, in_T, mt1 109 (by decide +kernel) rfl, tk_T, nm_T, rfl, by decide +kernel, fun h => by cases h⟩
theorem f_T_25 : a_fl "PolicyText$Tokens" 25 5 3 := ⟨_, _, _, rfl, by decide, in_T, mt1 110 (by decide +kernel) rfl⟩
theorem p_T_25 : a_fp "PolicyText$Tokens" 25 5 3 .int false := ⟨_, _, _, ty_T, rfl, by decide, in_T, mt1 110 (by decide +kernel) rfl, tk_T, nm_T, rfl, by decide +kernel, fun h => by cases h⟩
theorem f_T_28 : a_fl "PolicyText$Tokens" 28 5 4 := ⟨_, _, _, rfl, by decide, in_T, mt1 111 (by decide +kernel) rfl⟩
theorem p_T_28 : a_fp "PolicyText$Tokens" 28 5 4 .long false := ⟨_, _, _, ty_T, rfl, by decide, in_T, mt1 111 (by decide +kernel) rfl, tk_T, nm_T, rfl, by decide +kernel, fun h => by cases h⟩
theorem f_T_32 : a_fl "PolicyText$Tokens" 32 5 5 := ⟨_, _, _, rfl, by decide, in_T, mt1 112 (by decide +kernel) rfl⟩
theorem p_T_32 : a_fp "PolicyText$Tokens" 32 5 5 .int false := ⟨_, _, _, ty_T, rfl, by decide, in_T, mt1 112 (by decide +kernel) rfl, tk_T, nm_T, rfl, by decide +kernel, fun h => by cases h⟩
theorem f_R_14 : a_fl "PolicyText$Reader" 14 4 0 := ⟨_, _, _, rfl, by decide, in_R, mt1 126 (by decide +kernel) rfl⟩
theorem p_R_14 : a_fp "PolicyText$Reader" 14 4 0 (.object "PolicyText$Tokens") true := ⟨_, _, _, ty_R, rfl, by decide, in_R, mt1 126 (by decide +kernel) rfl, tk_R, nm_R, rfl, by decide +kernel, fun _ => rfl⟩
theorem f_R_22 : a_fl "PolicyText$Reader" 22 4 1 := ⟨_, _, _, rfl, by decide, in_R, mt1 127 (by decide +kernel) rfl⟩
theorem p_R_22 : a_fp "PolicyText$Reader" 22 4 1 (.array .int) true := ⟨_, _, _, ty_R, rfl, by decide, in_R, mt1 127 (by decide +kernel) rfl, tk_R, nm_R, rfl, by decide +kernel, fun _ => rfl⟩
theorem f_R_26 : a_fl "PolicyText$Reader" 26 4 2 := ⟨_, _, _, rfl, by decide, in_R, mt1 128 (by decide +kernel) rfl⟩
theorem p_R_26 : a_fp "PolicyText$Reader" 26 4 2 (.array .int) true := ⟨_, _, _, ty_R, rfl, by decide, in_R, mt1 128 (by decide +kernel) rfl, tk_R, nm_R, rfl, by decide +kernel, fun _ => rfl⟩
theorem f_R_29 : a_fl "PolicyText$Reader" 29 4 3 := ⟨_, _, _, rfl, by decide, in_R, mt1 129 (by decide +kernel) rfl⟩
theorem p_R_29 : a_fp "PolicyText$Reader" 29 4 3 (.object "PolicyText$Policy") false := ⟨_, _, _, ty_R, rfl, by decide, in_R, mt1 129 (by decide +kernel) rfl, tk_R, nm_R, rfl, by decide +kernel, fun h => by cases h⟩
theorem f_R_33 : a_fl "PolicyText$Reader" 33 4 4 := ⟨_, _, _, rfl, by decide, in_R, mt1 130 (by decide +kernel) rfl⟩
theorem p_R_33 : a_fp "PolicyText$Reader" 33 4 4 .int false := ⟨_, _, _, ty_R, rfl, by decide, in_R, mt1 130 (by decide +kernel) rfl, tk_R, nm_R, rfl, by decide +kernel, fun h => by cases h⟩
theorem f_R_37 : a_fl "PolicyText$Reader" 37 4 5 := ⟨_, _, _, rfl, by decide, in_R, mt1 131 (by decide +kernel) rfl⟩
theorem p_R_37 : a_fp "PolicyText$Reader" 37 4 5 .int false := ⟨_, _, _, ty_R, rfl, by decide, in_R, mt1 131 (by decide +kernel) rfl, tk_R, nm_R, rfl, by decide +kernel, fun h => by cases h⟩
theorem f_R_149 : a_fl "PolicyText$Reader" 149 4 6 := ⟨_, _, _, rfl, by decide, in_R, mt1 132 (by decide +kernel) rfl⟩
theorem p_R_149 : a_fp "PolicyText$Reader" 149 4 6 .boolean false := ⟨_, _, _, ty_R, rfl, by decide, in_R, mt1 132 (by decide +kernel) rfl, tk_R, nm_R, rfl, by decide +kernel, fun h => by cases h⟩
theorem f_R_40 : a_fl "PolicyText$Reader" 40 4 7 := ⟨_, _, _, rfl, by decide, in_R, mt1 133 (by decide +kernel) rfl⟩
theorem p_R_40 : a_fp "PolicyText$Reader" 40 4 7 .int false := ⟨_, _, _, ty_R, rfl, by decide, in_R, mt1 133 (by decide +kernel) rfl, tk_R, nm_R, rfl, by decide +kernel, fun h => by cases h⟩
theorem f_R_171 : a_fl "PolicyText$Reader" 171 4 8 := ⟨_, _, _, rfl, by decide, in_R, mt1 134 (by decide +kernel) rfl⟩
theorem p_R_171 : a_fp "PolicyText$Reader" 171 4 8 .int false := ⟨_, _, _, ty_R, rfl, by decide, in_R, mt1 134 (by decide +kernel) rfl, tk_R, nm_R, rfl, by decide +kernel, fun h => by cases h⟩
theorem f_R_189 : a_fl "PolicyText$Reader" 189 4 9 := ⟨_, _, _, rfl, by decide, in_R, mt1 135 (by decide +kernel) rfl⟩
theorem p_R_189 : a_fp "PolicyText$Reader" 189 4 9 .int false := ⟨_, _, _, ty_R, rfl, by decide, in_R, mt1 135 (by decide +kernel) rfl, tk_R, nm_R, rfl, by decide +kernel, fun h => by cases h⟩
theorem f_R_225 : a_fl "PolicyText$Reader" 225 4 10 := ⟨_, _, _, rfl, by decide, in_R, mt1 136 (by decide +kernel) rfl⟩
theorem p_R_225 : a_fp "PolicyText$Reader" 225 4 10 .int false := ⟨_, _, _, ty_R, rfl, by decide, in_R, mt1 136 (by decide +kernel) rfl, tk_R, nm_R, rfl, by decide +kernel, fun h => by cases h⟩
theorem f_R_202 : a_fl "PolicyText$Reader" 202 4 11 := ⟨_, _, _, rfl, by decide, in_R, mt1 137 (by decide +kernel) rfl⟩
theorem p_R_202 : a_fp "PolicyText$Reader" 202 4 11 .boolean false := ⟨_, _, _, ty_R, rfl, by decide, in_R, mt1 137 (by decide +kernel) rfl, tk_R, nm_R, rfl, by decide +kernel, fun h => by cases h⟩
theorem f_R_205 : a_fl "PolicyText$Reader" 205 4 12 := ⟨_, _, _, rfl, by decide, in_R, mt1 138 (by decide +kernel) rfl⟩
theorem p_R_205 : a_fp "PolicyText$Reader" 205 4 12 .int false := ⟨_, _, _, ty_R, rfl, by decide, in_R, mt1 138 (by decide +kernel) rfl, tk_R, nm_R, rfl, by decide +kernel, fun h => by cases h⟩
theorem f_R_208 : a_fl "PolicyText$Reader" 208 4 13 := ⟨_, _, _, rfl, by decide, in_R, mt1 139 (by decide +kernel) rfl⟩
theorem p_R_208 : a_fp "PolicyText$Reader" 208 4 13 .int false := ⟨_, _, _, ty_R, rfl, by decide, in_R, mt1 139 (by decide +kernel) rfl, tk_R, nm_R, rfl, by decide +kernel, fun h => by cases h⟩
theorem f_R_214 : a_fl "PolicyText$Reader" 214 4 14 := ⟨_, _, _, rfl, by decide, in_R, mt1 140 (by decide +kernel) rfl⟩
theorem p_R_214 : a_fp "PolicyText$Reader" 214 4 14 .int false := ⟨_, _, _, ty_R, rfl, by decide, in_R, mt1 140 (by decide +kernel) rfl, tk_R, nm_R, rfl, by decide +kernel, fun h => by cases h⟩
theorem n_X_43 : a_nw "PolicyText" 43 1 4 [.int 0, .int 0, .int 0, .int 0] := ⟨_, _, ty_C, rfl, in_C, tk_C, mt1 172 (by decide +kernel) rfl, mt1 173 (by decide +kernel) rfl, ini_C, by decide +kernel⟩
theorem o_C : Cond.methodLink "PolicyText$Call" 3 Lib.objectInit ∈ aTs ∧ Cond.instanceMethod Lib.objectInit ∈ aTs ∧ Cond.code Lib.objectInit ⟨#[0xb1]⟩ 1 none ∈ aTs := ⟨mt1 177 (by decide +kernel) rfl, im_O_init, cm_O_init⟩
theorem f_C_9 : a_fl "PolicyText$Call" 9 1 0 := ⟨_, _, _, rfl, by decide, in_C, mt1 178 (by decide +kernel) rfl⟩
theorem p_C_9 : a_fp "PolicyText$Call" 9 1 0 .int false := ⟨_, _, _, ty_C, rfl, by decide, in_C, mt1 178 (by decide +kernel) rfl, tk_C, nm_C, rfl, by decide +kernel, fun h => by cases h⟩
theorem f_C_15 : a_fl "PolicyText$Call" 15 1 1 := ⟨_, _, _, rfl, by decide, in_C, mt1 179 (by decide +kernel) rfl⟩
theorem p_C_15 : a_fp "PolicyText$Call" 15 1 1 .int false := ⟨_, _, _, ty_C, rfl, by decide, in_C, mt1 179 (by decide +kernel) rfl, tk_C, nm_C, rfl, by decide +kernel, fun h => by cases h⟩
theorem f_C_18 : a_fl "PolicyText$Call" 18 1 2 := ⟨_, _, _, rfl, by decide, in_C, mt1 180 (by decide +kernel) rfl⟩
theorem p_C_18 : a_fp "PolicyText$Call" 18 1 2 .int false := ⟨_, _, _, ty_C, rfl, by decide, in_C, mt1 180 (by decide +kernel) rfl, tk_C, nm_C, rfl, by decide +kernel, fun h => by cases h⟩
theorem f_C_21 : a_fl "PolicyText$Call" 21 1 3 := ⟨_, _, _, rfl, by decide, in_C, mt1 181 (by decide +kernel) rfl⟩
theorem p_C_21 : a_fp "PolicyText$Call" 21 1 3 .int false := ⟨_, _, _, ty_C, rfl, by decide, in_C, mt1 181 (by decide +kernel) rfl, tk_C, nm_C, rfl, by decide +kernel, fun h => by cases h⟩
theorem l_X_50 : a_lk "PolicyText" 50 m_P_addHead 2 := ⟨mt1 191 (by decide +kernel) rfl, ini_P, cm_P_addHead, by decide +kernel, by decide +kernel⟩
theorem l_P_73 : a_lk "PolicyText$Policy" 73 m_P_canAddHead 1 := ⟨mt1 195 (by decide +kernel) rfl, ini_P, cm_P_canAddHead, by decide +kernel, by decide +kernel⟩
theorem f_X_14 : a_fl "PolicyText" 14 6 0 := ⟨_, _, _, rfl, by decide, in_X, mt1 199 (by decide +kernel) rfl⟩
theorem p_X_14 : a_fp "PolicyText" 14 6 0 (.object "PolicyText$Bytes") true := ⟨_, _, _, ty_X, rfl, by decide, in_X, mt1 199 (by decide +kernel) rfl, tk_X, nm_X, rfl, by decide +kernel, fun _ => rfl⟩
theorem f_X_39 : a_fl "PolicyText" 39 6 1 := ⟨_, _, _, rfl, by decide, in_X, mt1 200 (by decide +kernel) rfl⟩
theorem p_X_39 : a_fp "PolicyText" 39 6 1 (.object "PolicyText$Reader") true := ⟨_, _, _, ty_X, rfl, by decide, in_X, mt1 200 (by decide +kernel) rfl, tk_X, nm_X, rfl, by decide +kernel, fun _ => rfl⟩
theorem f_X_46 : a_fl "PolicyText" 46 6 2 := ⟨_, _, _, rfl, by decide, in_X, mt1 201 (by decide +kernel) rfl⟩
theorem p_X_46 : a_fp "PolicyText" 46 6 2 (.object "PolicyText$Call") true := ⟨_, _, _, ty_X, rfl, by decide, in_X, mt1 201 (by decide +kernel) rfl, tk_X, nm_X, rfl, by decide +kernel, fun _ => rfl⟩
theorem f_X_18 : a_fl "PolicyText" 18 6 3 := ⟨_, _, _, rfl, by decide, in_X, mt1 202 (by decide +kernel) rfl⟩
theorem p_X_18 : a_fp "PolicyText" 18 6 3 (.object "PolicyText$Bytes") false := ⟨_, _, _, ty_X, rfl, by decide, in_X, mt1 202 (by decide +kernel) rfl, tk_X, nm_X, rfl, by decide +kernel, fun h => by cases h⟩
theorem f_X_21 : a_fl "PolicyText" 21 6 4 := ⟨_, _, _, rfl, by decide, in_X, mt1 203 (by decide +kernel) rfl⟩
theorem p_X_21 : a_fp "PolicyText" 21 6 4 (.object "PolicyText$Bytes") false := ⟨_, _, _, ty_X, rfl, by decide, in_X, mt1 203 (by decide +kernel) rfl, tk_X, nm_X, rfl, by decide +kernel, fun h => by cases h⟩
theorem f_X_27 : a_fl "PolicyText" 27 6 5 := ⟨_, _, _, rfl, by decide, in_X, mt1 204 (by decide +kernel) rfl⟩
theorem p_X_27 : a_fp "PolicyText" 27 6 5 (.object "PolicyText$Policy") false := ⟨_, _, _, ty_X, rfl, by decide, in_X, mt1 204 (by decide +kernel) rfl, tk_X, nm_X, rfl, by decide +kernel, fun h => by cases h⟩
theorem f_X_31 : a_fl "PolicyText" 31 6 6 := ⟨_, _, _, rfl, by decide, in_X, mt1 205 (by decide +kernel) rfl⟩
theorem p_X_31 : a_fp "PolicyText" 31 6 6 (.object "PolicyText$Policy") false := ⟨_, _, _, ty_X, rfl, by decide, in_X, mt1 205 (by decide +kernel) rfl, tk_X, nm_X, rfl, by decide +kernel, fun h => by cases h⟩
theorem l_L_15 : a_lk "PolicyTextLaw" 15 m_X_give 2 := ⟨mt1 221 (by decide +kernel) rfl, ini_X, cm_X_give, by decide +kernel, by decide +kernel⟩
theorem l_X_54 : a_lk "PolicyText" 54 m_B_free 0 := ⟨mt1 225 (by decide +kernel) rfl, ini_B, cm_B_free, by decide +kernel, by decide +kernel⟩
theorem l_X_58 : a_lk "PolicyText" 58 m_B_add 1 := ⟨mt1 229 (by decide +kernel) rfl, ini_B, cm_B_add, by decide +kernel, by decide +kernel⟩
theorem l_B_32 : a_lk "PolicyText$Bytes" 32 m_B_put 2 := ⟨mt1 233 (by decide +kernel) rfl, ini_B, cm_B_put, by decide +kernel, by decide +kernel⟩
theorem k_B_28 : Jvm.Cond.constantLong "PolicyText$Bytes" 28 (255) ∈ aTs := mt1 237 (by decide +kernel) rfl
theorem k_B_30 : Jvm.Cond.constantLong "PolicyText$Bytes" 30 (-1) ∈ aTs := mt1 238 (by decide +kernel) rfl
theorem l_L_20 : a_lk "PolicyTextLaw" 20 m_X_cut 1 := ⟨mt1 239 (by decide +kernel) rfl, ini_X, cm_X_cut, by decide +kernel, by decide +kernel⟩
theorem l_X_62 : a_lk "PolicyText" 62 m_B_shorten 1 := ⟨mt2 3 (by decide +kernel) rfl, ini_B, cm_B_shorten, by decide +kernel, by decide +kernel⟩
theorem l_L_25 : a_lk "PolicyTextLaw" 25 m_X_poke 2 := ⟨mt2 7 (by decide +kernel) rfl, ini_X, cm_X_poke, by decide +kernel, by decide +kernel⟩
theorem l_X_65 : a_lk "PolicyText" 65 m_B_put 2 := ⟨mt2 11 (by decide +kernel) rfl, ini_B, cm_B_put, by decide +kernel, by decide +kernel⟩
theorem l_L_30 : a_lk "PolicyTextLaw" 30 m_X_read 0 := ⟨mt2 12 (by decide +kernel) rfl, ini_X, cm_X_read, by decide +kernel, by decide +kernel⟩
theorem l_X_69 : a_lk "PolicyText" 69 m_R_readInto 1 := ⟨mt2 16 (by decide +kernel) rfl, ini_R, cm_R_readInto, by decide +kernel, by decide +kernel⟩
theorem l_R_43 : a_lk "PolicyText$Reader" 43 m_R_begin 1 := ⟨mt2 20 (by decide +kernel) rfl, ini_R, cm_R_begin, by decide +kernel, by decide +kernel⟩
theorem l_R_68 : a_lk "PolicyText$Reader" 68 m_P_clear 0 := ⟨mt2 24 (by decide +kernel) rfl, ini_P, cm_P_clear, by decide +kernel, by decide +kernel⟩
theorem l_R_71 : a_lk "PolicyText$Reader" 71 m_T_restart 0 := ⟨mt2 28 (by decide +kernel) rfl, ini_T, cm_T_restart, by decide +kernel, by decide +kernel⟩
theorem l_R_47 : a_lk "PolicyText$Reader" 47 m_T_advance 0 := ⟨mt2 29 (by decide +kernel) rfl, ini_T, cm_T_advance, by decide +kernel, by decide +kernel⟩
theorem l_T_78 : a_lk "PolicyText$Tokens" 78 m_B_size 0 := ⟨mt2 33 (by decide +kernel) rfl, ini_B, cm_B_size, by decide +kernel, by decide +kernel⟩
theorem l_T_41 : a_lk "PolicyText$Tokens" 41 m_B_at 1 := ⟨mt2 37 (by decide +kernel) rfl, ini_B, cm_B_at, by decide +kernel, by decide +kernel⟩
theorem l_T_81 : a_lk "PolicyText$Tokens" 81 m_T_isBlank 1 := ⟨mt2 41 (by decide +kernel) rfl, ini_T, cm_T_isBlank, by decide +kernel, by decide +kernel⟩
theorem l_T_85 : a_lk "PolicyText$Tokens" 85 m_T_inWord 1 := ⟨mt2 44 (by decide +kernel) rfl, ini_T, cm_T_inWord, by decide +kernel, by decide +kernel⟩
theorem l_T_98 : a_lk "PolicyText$Tokens" 98 m_T_isLetter 1 := ⟨mt2 47 (by decide +kernel) rfl, ini_T, cm_T_isLetter, by decide +kernel, by decide +kernel⟩
theorem l_T_109 : a_lk "PolicyText$Tokens" 109 m_T_isDigit 1 := ⟨mt2 50 (by decide +kernel) rfl, ini_T, cm_T_isDigit, by decide +kernel, by decide +kernel⟩
theorem l_T_88 : a_lk "PolicyText$Tokens" 88 m_T_takeWord 0 := ⟨mt2 53 (by decide +kernel) rfl, ini_T, cm_T_takeWord, by decide +kernel, by decide +kernel⟩
theorem l_T_91 : a_lk "PolicyText$Tokens" 91 m_T_takeName 0 := ⟨mt2 57 (by decide +kernel) rfl, ini_T, cm_T_takeName, by decide +kernel, by decide +kernel⟩
theorem l_T_101 : a_lk "PolicyText$Tokens" 101 m_T_nameAt 1 := ⟨mt2 61 (by decide +kernel) rfl, ini_T, cm_T_nameAt, by decide +kernel, by decide +kernel⟩
theorem l_T_95 : a_lk "PolicyText$Tokens" 95 m_T_takeNumber 0 := ⟨mt2 65 (by decide +kernel) rfl, ini_T, cm_T_takeNumber, by decide +kernel, by decide +kernel⟩
theorem k_T_105 : Jvm.Cond.constantLong "PolicyText$Tokens" 105 (2147483648) ∈ aTs := mt2 69 (by decide +kernel) rfl
theorem k_T_107 : Jvm.Cond.constantLong "PolicyText$Tokens" 107 (2147483647) ∈ aTs := mt2 70 (by decide +kernel) rfl
theorem k_T_112 : Jvm.Cond.constantLong "PolicyText$Tokens" 112 (10) ∈ aTs := mt2 71 (by decide +kernel) rfl
theorem l_R_50 : a_lk "PolicyText$Reader" 50 m_R_take 1 := ⟨mt2 72 (by decide +kernel) rfl, ini_R, cm_R_take, by decide +kernel, by decide +kernel⟩
theorem l_R_78 : a_lk "PolicyText$Reader" 78 m_R_takeTop 0 := ⟨mt2 76 (by decide +kernel) rfl, ini_R, cm_R_takeTop, by decide +kernel, by decide +kernel⟩
theorem l_R_74 : a_lk "PolicyText$Reader" 74 m_T_isA 1 := ⟨mt2 80 (by decide +kernel) rfl, ini_T, cm_T_isA, by decide +kernel, by decide +kernel⟩
theorem l_R_121 : a_lk "PolicyText$Reader" 121 m_P_heads 1 := ⟨mt2 84 (by decide +kernel) rfl, ini_P, cm_P_heads, by decide +kernel, by decide +kernel⟩
theorem l_R_58 : a_lk "PolicyText$Reader" 58 m_T_place 0 := ⟨mt2 88 (by decide +kernel) rfl, ini_T, cm_T_place, by decide +kernel, by decide +kernel⟩
theorem l_R_60 : a_lk "PolicyText$Reader" 60 m_R_fail 2 := ⟨mt2 92 (by decide +kernel) rfl, ini_R, cm_R_fail, by decide +kernel, by decide +kernel⟩
theorem l_R_125 : a_lk "PolicyText$Reader" 125 m_P_canAddHead 1 := ⟨mt2 96 (by decide +kernel) rfl, ini_P, cm_P_canAddHead, by decide +kernel, by decide +kernel⟩
theorem l_R_81 : a_lk "PolicyText$Reader" 81 m_R_takeHeadWord 0 := ⟨mt2 97 (by decide +kernel) rfl, ini_R, cm_R_takeHeadWord, by decide +kernel, by decide +kernel⟩
theorem l_R_131 : a_lk "PolicyText$Reader" 131 m_T_isWord 1 := ⟨mt2 102 (by decide +kernel) rfl, ini_T, cm_T_isWord, by decide +kernel, by decide +kernel⟩
theorem l_T_35 : a_lk "PolicyText$Tokens" 35 m_S_length 0 := ⟨mt2 106 (by decide +kernel) rfl, ini_S, cm_S_length, by decide +kernel, by decide +kernel⟩
theorem l_S_335 : a_lk "java/lang/String" 335 m_S_coder 0 := ⟨mt2 110 (by decide +kernel) rfl, ini_S, cm_S_coder, by decide +kernel, by decide +kernel⟩
theorem l_T_46 : a_lk "PolicyText$Tokens" 46 m_S_charAt 1 := ⟨mt2 116 (by decide +kernel) rfl, ini_S, cm_S_charAt, by decide +kernel, by decide +kernel⟩
theorem l_S_492 : a_lk "java/lang/String" 492 m_S_isLatin1 0 := ⟨mt2 120 (by decide +kernel) rfl, ini_S, cm_S_isLatin1, by decide +kernel, by decide +kernel⟩
theorem l_S_495 : a_lk "java/lang/String" 495 m_SL_charAt 2 := ⟨mt2 124 (by decide +kernel) rfl, ini_SL, cm_SL_charAt, by decide +kernel, by decide +kernel⟩
theorem l_SL_9 : a_lk "java/lang/StringLatin1" 9 m_S_checkIndex 2 := ⟨mt2 127 (by decide +kernel) rfl, ini_S, cm_S_checkIndex, by decide +kernel, by decide +kernel⟩
theorem l_S_1059 : a_lk "java/lang/String" 1059 m_Q_checkIndex 3 := ⟨mt2 132 (by decide +kernel) rfl, ini_Q, cm_Q_checkIndex, by decide +kernel, by decide +kernel⟩
theorem l_S_498 : a_lk "java/lang/String" 498 m_SU_charAt 2 := ⟨mt2 135 (by decide +kernel) rfl, ini_SU, cm_SU_charAt, by decide +kernel, by decide +kernel⟩
theorem l_SU_67 : a_lk "java/lang/StringUTF16" 67 m_SU_checkIndex 2 := ⟨mt2 138 (by decide +kernel) rfl, ini_SU, cm_SU_checkIndex, by decide +kernel, by decide +kernel⟩
theorem l_SU_48 : a_lk "java/lang/StringUTF16" 48 m_SU_length 1 := ⟨mt2 141 (by decide +kernel) rfl, ini_SU, cm_SU_length, by decide +kernel, by decide +kernel⟩
theorem l_SU_414 : a_lk "java/lang/StringUTF16" 414 m_S_checkIndex 2 := ⟨mt2 144 (by decide +kernel) rfl, ini_S, cm_S_checkIndex, by decide +kernel, by decide +kernel⟩
theorem l_SU_71 : a_lk "java/lang/StringUTF16" 71 m_SU_getChar 2 := ⟨mt2 145 (by decide +kernel) rfl, ini_SU, cm_SU_getChar, by decide +kernel, by decide +kernel⟩
theorem l_R_84 : a_lk "PolicyText$Reader" 84 m_R_takeHeadName 2 := ⟨mt2 155 (by decide +kernel) rfl, ini_R, cm_R_takeHeadName, by decide +kernel, by decide +kernel⟩
theorem l_R_137 : a_lk "PolicyText$Reader" 137 m_T_isFreeName 0 := ⟨mt2 159 (by decide +kernel) rfl, ini_T, cm_T_isFreeName, by decide +kernel, by decide +kernel⟩
theorem l_T_52 : a_lk "PolicyText$Tokens" 52 m_T_isWord 1 := ⟨mt2 164 (by decide +kernel) rfl, ini_T, cm_T_isWord, by decide +kernel, by decide +kernel⟩
theorem l_R_141 : a_lk "PolicyText$Reader" 141 m_T_name 0 := ⟨mt2 176 (by decide +kernel) rfl, ini_T, cm_T_name, by decide +kernel, by decide +kernel⟩
theorem l_R_145 : a_lk "PolicyText$Reader" 145 m_P_find 2 := ⟨mt2 180 (by decide +kernel) rfl, ini_P, cm_P_find, by decide +kernel, by decide +kernel⟩
theorem l_P_69 : a_lk "PolicyText$Policy" 69 m_P_heads 1 := ⟨mt2 184 (by decide +kernel) rfl, ini_P, cm_P_heads, by decide +kernel, by decide +kernel⟩
theorem l_R_153 : a_lk "PolicyText$Reader" 153 m_P_addHead 2 := ⟨mt2 185 (by decide +kernel) rfl, ini_P, cm_P_addHead, by decide +kernel, by decide +kernel⟩
theorem l_R_88 : a_lk "PolicyText$Reader" 88 m_R_takeCounterTop 0 := ⟨mt2 186 (by decide +kernel) rfl, ini_R, cm_R_takeCounterTop, by decide +kernel, by decide +kernel⟩
theorem l_R_157 : a_lk "PolicyText$Reader" 157 m_T_isNumber 2 := ⟨mt2 190 (by decide +kernel) rfl, ini_T, cm_T_isNumber, by decide +kernel, by decide +kernel⟩
theorem l_R_161 : a_lk "PolicyText$Reader" 161 m_T_number 0 := ⟨mt2 194 (by decide +kernel) rfl, ini_T, cm_T_number, by decide +kernel, by decide +kernel⟩
theorem l_R_164 : a_lk "PolicyText$Reader" 164 m_P_setTopOfLast 1 := ⟨mt2 198 (by decide +kernel) rfl, ini_P, cm_P_setTopOfLast, by decide +kernel, by decide +kernel⟩
theorem l_P_53 : a_lk "PolicyText$Policy" 53 m_P_headRow 2 := ⟨mt2 202 (by decide +kernel) rfl, ini_P, cm_P_headRow, by decide +kernel, by decide +kernel⟩
theorem l_R_91 : a_lk "PolicyText$Reader" 91 m_R_takeClauseOrClose 0 := ⟨mt2 206 (by decide +kernel) rfl, ini_R, cm_R_takeClauseOrClose, by decide +kernel, by decide +kernel⟩
theorem l_R_168 : a_lk "PolicyText$Reader" 168 m_P_canAddClause 1 := ⟨mt2 210 (by decide +kernel) rfl, ini_P, cm_P_canAddClause, by decide +kernel, by decide +kernel⟩
theorem l_R_94 : a_lk "PolicyText$Reader" 94 m_R_takeClauseWord 0 := ⟨mt2 214 (by decide +kernel) rfl, ini_R, cm_R_takeClauseWord, by decide +kernel, by decide +kernel⟩
theorem l_R_97 : a_lk "PolicyText$Reader" 97 m_R_takeCall 0 := ⟨mt2 221 (by decide +kernel) rfl, ini_R, cm_R_takeCall, by decide +kernel, by decide +kernel⟩
theorem l_R_182 : a_lk "PolicyText$Reader" 182 m_P_addClause 3 := ⟨mt2 226 (by decide +kernel) rfl, ini_P, cm_P_addClause, by decide +kernel, by decide +kernel⟩
theorem l_P_77 : a_lk "PolicyText$Policy" 77 m_P_canAddClause 1 := ⟨mt2 230 (by decide +kernel) rfl, ini_P, cm_P_canAddClause, by decide +kernel, by decide +kernel⟩
theorem l_P_57 : a_lk "PolicyText$Policy" 57 m_P_clauseRow 3 := ⟨mt2 231 (by decide +kernel) rfl, ini_P, cm_P_clauseRow, by decide +kernel, by decide +kernel⟩
theorem l_R_100 : a_lk "PolicyText$Reader" 100 m_R_takeTestOrGoal 0 := ⟨mt2 235 (by decide +kernel) rfl, ini_R, cm_R_takeTestOrGoal, by decide +kernel, by decide +kernel⟩
theorem l_R_186 : a_lk "PolicyText$Reader" 186 m_P_canAddTest 1 := ⟨mt2 239 (by decide +kernel) rfl, ini_P, cm_P_canAddTest, by decide +kernel, by decide +kernel⟩
theorem l_R_192 : a_lk "PolicyText$Reader" 192 m_R_keepPlace 3 := ⟨mt3 3 (by decide +kernel) rfl, ini_R, cm_R_keepPlace, by decide +kernel, by decide +kernel⟩
theorem l_R_103 : a_lk "PolicyText$Reader" 103 m_R_takeTestWord 0 := ⟨mt3 6 (by decide +kernel) rfl, ini_R, cm_R_takeTestWord, by decide +kernel, by decide +kernel⟩
theorem l_R_106 : a_lk "PolicyText$Reader" 106 m_R_takeArgument 0 := ⟨mt3 13 (by decide +kernel) rfl, ini_R, cm_R_takeArgument, by decide +kernel, by decide +kernel⟩
theorem l_R_109 : a_lk "PolicyText$Reader" 109 m_R_takeCounted 0 := ⟨mt3 17 (by decide +kernel) rfl, ini_R, cm_R_takeCounted, by decide +kernel, by decide +kernel⟩
theorem l_R_112 : a_lk "PolicyText$Reader" 112 m_R_takeOp 0 := ⟨mt3 21 (by decide +kernel) rfl, ini_R, cm_R_takeOp, by decide +kernel, by decide +kernel⟩
theorem l_R_211 : a_lk "PolicyText$Reader" 211 m_T_opNumber 0 := ⟨mt3 25 (by decide +kernel) rfl, ini_T, cm_T_opNumber, by decide +kernel, by decide +kernel⟩
theorem l_R_115 : a_lk "PolicyText$Reader" 115 m_R_takeBound 0 := ⟨mt3 29 (by decide +kernel) rfl, ini_R, cm_R_takeBound, by decide +kernel, by decide +kernel⟩
theorem l_R_217 : a_lk "PolicyText$Reader" 217 m_P_shapeOf 4 := ⟨mt3 33 (by decide +kernel) rfl, ini_P, cm_P_shapeOf, by decide +kernel, by decide +kernel⟩
theorem l_R_221 : a_lk "PolicyText$Reader" 221 m_P_addTest 3 := ⟨mt3 36 (by decide +kernel) rfl, ini_P, cm_P_addTest, by decide +kernel, by decide +kernel⟩
theorem l_P_80 : a_lk "PolicyText$Policy" 80 m_P_canAddTest 1 := ⟨mt3 40 (by decide +kernel) rfl, ini_P, cm_P_canAddTest, by decide +kernel, by decide +kernel⟩
theorem l_R_118 : a_lk "PolicyText$Reader" 118 m_R_takeTestClose 0 := ⟨mt3 41 (by decide +kernel) rfl, ini_R, cm_R_takeTestClose, by decide +kernel, by decide +kernel⟩
theorem l_R_54 : a_lk "PolicyText$Reader" 54 m_R_faultOfToken 0 := ⟨mt3 45 (by decide +kernel) rfl, ini_R, cm_R_faultOfToken, by decide +kernel, by decide +kernel⟩
theorem l_R_64 : a_lk "PolicyText$Reader" 64 m_R_linkHeads 1 := ⟨mt3 49 (by decide +kernel) rfl, ini_R, cm_R_linkHeads, by decide +kernel, by decide +kernel⟩
theorem l_R_228 : a_lk "PolicyText$Reader" 228 m_P_nodePart 2 := ⟨mt3 53 (by decide +kernel) rfl, ini_P, cm_P_nodePart, by decide +kernel, by decide +kernel⟩
theorem l_P_61 : a_lk "PolicyText$Policy" 61 m_P_lettersOf 1 := ⟨mt3 57 (by decide +kernel) rfl, ini_P, cm_P_lettersOf, by decide +kernel, by decide +kernel⟩
theorem k_P_135 : Jvm.Cond.constantLong "PolicyText$Policy" 135 (31) ∈ aTs := mt3 60 (by decide +kernel) rfl
theorem l_R_232 : a_lk "PolicyText$Reader" 232 m_P_counterPart 2 := ⟨mt3 61 (by decide +kernel) rfl, ini_P, cm_P_counterPart, by decide +kernel, by decide +kernel⟩
theorem l_R_235 : a_lk "PolicyText$Reader" 235 m_R_linkClause 3 := ⟨mt3 65 (by decide +kernel) rfl, ini_R, cm_R_linkClause, by decide +kernel, by decide +kernel⟩
theorem l_R_239 : a_lk "PolicyText$Reader" 239 m_P_clausePart 4 := ⟨mt3 69 (by decide +kernel) rfl, ini_P, cm_P_clausePart, by decide +kernel, by decide +kernel⟩
theorem l_R_243 : a_lk "PolicyText$Reader" 243 m_C_argumentsOf 1 := ⟨mt3 73 (by decide +kernel) rfl, ini_C, cm_C_argumentsOf, by decide +kernel, by decide +kernel⟩
theorem l_R_248 : a_lk "PolicyText$Reader" 248 m_P_testRow 4 := ⟨mt3 76 (by decide +kernel) rfl, ini_P, cm_P_testRow, by decide +kernel, by decide +kernel⟩
theorem l_R_251 : a_lk "PolicyText$Reader" 251 m_P_testPart 2 := ⟨mt3 80 (by decide +kernel) rfl, ini_P, cm_P_testPart, by decide +kernel, by decide +kernel⟩
theorem l_P_65 : a_lk "PolicyText$Policy" 65 m_P_partOf 2 := ⟨mt3 84 (by decide +kernel) rfl, ini_P, cm_P_partOf, by decide +kernel, by decide +kernel⟩
theorem l_R_254 : a_lk "PolicyText$Reader" 254 m_R_placeIn 2 := ⟨mt3 87 (by decide +kernel) rfl, ini_R, cm_R_placeIn, by decide +kernel, by decide +kernel⟩
theorem l_R_258 : a_lk "PolicyText$Reader" 258 m_R_linked 2 := ⟨mt3 90 (by decide +kernel) rfl, ini_R, cm_R_linked, by decide +kernel, by decide +kernel⟩
theorem l_R_270 : a_lk "PolicyText$Reader" 270 m_T_nameAt 1 := ⟨mt3 94 (by decide +kernel) rfl, ini_T, cm_T_nameAt, by decide +kernel, by decide +kernel⟩
theorem l_R_261 : a_lk "PolicyText$Reader" 261 m_P_setWhich 2 := ⟨mt3 95 (by decide +kernel) rfl, ini_P, cm_P_setWhich, by decide +kernel, by decide +kernel⟩
theorem l_R_264 : a_lk "PolicyText$Reader" 264 m_P_clauseRow 3 := ⟨mt3 99 (by decide +kernel) rfl, ini_P, cm_P_clauseRow, by decide +kernel, by decide +kernel⟩
theorem l_R_267 : a_lk "PolicyText$Reader" 267 m_P_setGoal 2 := ⟨mt3 100 (by decide +kernel) rfl, ini_P, cm_P_setGoal, by decide +kernel, by decide +kernel⟩
theorem ar_byte : Cond.arrayClass .byte ∈ aTs := mt3 104 (by decide +kernel) rfl
theorem l_L_35 : a_lk "PolicyTextLaw" 35 m_X_print 0 := ⟨mt3 105 (by decide +kernel) rfl, ini_X, cm_X_print, by decide +kernel, by decide +kernel⟩
theorem n_X_73 : a_nw "PolicyText" 73 3 3 [.null, .null, .int 0] := ⟨_, _, ty_W, rfl, in_W, tk_W, mt3 109 (by decide +kernel) rfl, mt3 110 (by decide +kernel) rfl, ini_W, by decide +kernel⟩
theorem l_X_75 : a_lk "PolicyText" 75 m_W_init 2 := ⟨mt3 111 (by decide +kernel) rfl, ini_W, cm_W_init, by decide +kernel, by decide +kernel⟩
theorem o_W : Cond.methodLink "PolicyText$Printer" 3 Lib.objectInit ∈ aTs ∧ Cond.instanceMethod Lib.objectInit ∈ aTs ∧ Cond.code Lib.objectInit ⟨#[0xb1]⟩ 1 none ∈ aTs := ⟨mt3 114 (by decide +kernel) rfl, im_O_init, cm_O_init⟩
theorem f_W_9 : a_fl "PolicyText$Printer" 9 3 0 := ⟨_, _, _, rfl, by decide, in_W, mt3 115 (by decide +kernel) rfl⟩
theorem p_W_9 : a_fp "PolicyText$Printer" 9 3 0 (.object "PolicyText$Policy") true := ⟨_, _, _, ty_W, rfl, by decide, in_W, mt3 115 (by decide +kernel) rfl, tk_W, nm_W, rfl, by decide +kernel, fun _ => rfl⟩
theorem f_W_15 : a_fl "PolicyText$Printer" 15 3 1 := ⟨_, _, _, rfl, by decide, in_W, mt3 116 (by decide +kernel) rfl⟩
theorem p_W_15 : a_fp "PolicyText$Printer" 15 3 1 (.object "PolicyText$Bytes") true := ⟨_, _, _, ty_W, rfl, by decide, in_W, mt3 116 (by decide +kernel) rfl, tk_W, nm_W, rfl, by decide +kernel, fun _ => rfl⟩
theorem f_W_19 : a_fl "PolicyText$Printer" 19 3 2 := ⟨_, _, _, rfl, by decide, in_W, mt3 117 (by decide +kernel) rfl⟩
theorem p_W_19 : a_fp "PolicyText$Printer" 19 3 2 .boolean false := ⟨_, _, _, ty_W, rfl, by decide, in_W, mt3 117 (by decide +kernel) rfl, tk_W, nm_W, rfl, by decide +kernel, fun h => by cases h⟩
theorem l_X_78 : a_lk "PolicyText" 78 m_P_heads 1 := ⟨mt3 125 (by decide +kernel) rfl, ini_P, cm_P_heads, by decide +kernel, by decide +kernel⟩
theorem l_X_82 : a_lk "PolicyText" 82 m_W_writeCounter 1 := ⟨mt3 126 (by decide +kernel) rfl, ini_W, cm_W_writeCounter, by decide +kernel, by decide +kernel⟩
theorem l_W_25 : a_lk "PolicyText$Printer" 25 m_W_writeText 1 := ⟨mt3 131 (by decide +kernel) rfl, ini_W, cm_W_writeText, by decide +kernel, by decide +kernel⟩
theorem l_W_111 : a_lk "PolicyText$Printer" 111 m_S_length 0 := ⟨mt3 135 (by decide +kernel) rfl, ini_S, cm_S_length, by decide +kernel, by decide +kernel⟩
theorem l_W_117 : a_lk "PolicyText$Printer" 117 m_S_charAt 1 := ⟨mt3 136 (by decide +kernel) rfl, ini_S, cm_S_charAt, by decide +kernel, by decide +kernel⟩
theorem l_W_101 : a_lk "PolicyText$Printer" 101 m_B_add 1 := ⟨mt3 137 (by decide +kernel) rfl, ini_B, cm_B_add, by decide +kernel, by decide +kernel⟩
theorem l_W_29 : a_lk "PolicyText$Printer" 29 m_P_nameOf 2 := ⟨mt3 138 (by decide +kernel) rfl, ini_P, cm_P_nameOf, by decide +kernel, by decide +kernel⟩
theorem l_W_35 : a_lk "PolicyText$Printer" 35 m_W_writeName 1 := ⟨mt3 142 (by decide +kernel) rfl, ini_W, cm_W_writeName, by decide +kernel, by decide +kernel⟩
theorem l_W_41 : a_lk "PolicyText$Printer" 41 m_P_counterPart 2 := ⟨mt3 147 (by decide +kernel) rfl, ini_P, cm_P_counterPart, by decide +kernel, by decide +kernel⟩
theorem l_W_45 : a_lk "PolicyText$Printer" 45 m_W_writeNumber 1 := ⟨mt3 148 (by decide +kernel) rfl, ini_W, cm_W_writeNumber, by decide +kernel, by decide +kernel⟩
theorem k_W_107 : Jvm.Cond.constantLong "PolicyText$Printer" 107 (100000000) ∈ aTs := mt3 152 (by decide +kernel) rfl
theorem k_W_109 : Jvm.Cond.constantLong "PolicyText$Printer" 109 (10) ∈ aTs := mt3 153 (by decide +kernel) rfl
theorem l_W_49 : a_lk "PolicyText$Printer" 49 m_P_clausePart 4 := ⟨mt3 154 (by decide +kernel) rfl, ini_P, cm_P_clausePart, by decide +kernel, by decide +kernel⟩
theorem l_W_57 : a_lk "PolicyText$Printer" 57 m_W_writeCallAndTests 3 := ⟨mt3 157 (by decide +kernel) rfl, ini_W, cm_W_writeCallAndTests, by decide +kernel, by decide +kernel⟩
theorem l_W_74 : a_lk "PolicyText$Printer" 74 m_P_testRow 4 := ⟨mt3 162 (by decide +kernel) rfl, ini_P, cm_P_testRow, by decide +kernel, by decide +kernel⟩
theorem l_W_77 : a_lk "PolicyText$Printer" 77 m_P_testPart 2 := ⟨mt3 163 (by decide +kernel) rfl, ini_P, cm_P_testPart, by decide +kernel, by decide +kernel⟩
theorem l_W_82 : a_lk "PolicyText$Printer" 82 m_W_writeTest 1 := ⟨mt3 165 (by decide +kernel) rfl, ini_W, cm_W_writeTest, by decide +kernel, by decide +kernel⟩
theorem l_W_97 : a_lk "PolicyText$Printer" 97 m_P_boundOf 1 := ⟨mt3 174 (by decide +kernel) rfl, ini_P, cm_P_boundOf, by decide +kernel, by decide +kernel⟩
theorem l_X_85 : a_lk "PolicyText" 85 m_W_writeNode 1 := ⟨mt3 181 (by decide +kernel) rfl, ini_W, cm_W_writeNode, by decide +kernel, by decide +kernel⟩
theorem l_W_67 : a_lk "PolicyText$Printer" 67 m_P_nodePart 2 := ⟨mt3 186 (by decide +kernel) rfl, ini_P, cm_P_nodePart, by decide +kernel, by decide +kernel⟩
theorem l_X_88 : a_lk "PolicyText" 88 m_W_hasFitted 0 := ⟨mt3 188 (by decide +kernel) rfl, ini_W, cm_W_hasFitted, by decide +kernel, by decide +kernel⟩
theorem l_X_92 : a_lk "PolicyText" 92 m_B_size 0 := ⟨mt3 192 (by decide +kernel) rfl, ini_B, cm_B_size, by decide +kernel, by decide +kernel⟩
theorem l_L_39 : a_lk "PolicyTextLaw" 39 m_X_turnOver 0 := ⟨mt3 193 (by decide +kernel) rfl, ini_X, cm_X_turnOver, by decide +kernel, by decide +kernel⟩
theorem l_X_95 : a_lk "PolicyText" 95 m_B_become 1 := ⟨mt3 197 (by decide +kernel) rfl, ini_B, cm_B_become, by decide +kernel, by decide +kernel⟩
theorem l_L_44 : a_lk "PolicyTextLaw" 44 m_X_stand 2 := ⟨mt3 204 (by decide +kernel) rfl, ini_X, cm_X_stand, by decide +kernel, by decide +kernel⟩
theorem l_X_99 : a_lk "PolicyText" 99 m_P_setStand 2 := ⟨mt3 208 (by decide +kernel) rfl, ini_P, cm_P_setStand, by decide +kernel, by decide +kernel⟩
theorem l_L_48 : a_lk "PolicyTextLaw" 48 m_X_counter 2 := ⟨mt3 212 (by decide +kernel) rfl, ini_X, cm_X_counter, by decide +kernel, by decide +kernel⟩
theorem l_X_102 : a_lk "PolicyText" 102 m_P_counterPart 2 := ⟨mt3 216 (by decide +kernel) rfl, ini_P, cm_P_counterPart, by decide +kernel, by decide +kernel⟩
theorem l_L_53 : a_lk "PolicyTextLaw" 53 m_X_node 2 := ⟨mt3 217 (by decide +kernel) rfl, ini_X, cm_X_node, by decide +kernel, by decide +kernel⟩
theorem l_X_106 : a_lk "PolicyText" 106 m_P_nodePart 2 := ⟨mt3 221 (by decide +kernel) rfl, ini_P, cm_P_nodePart, by decide +kernel, by decide +kernel⟩
theorem l_L_57 : a_lk "PolicyTextLaw" 57 m_X_clause 4 := ⟨mt3 222 (by decide +kernel) rfl, ini_X, cm_X_clause, by decide +kernel, by decide +kernel⟩
theorem l_X_109 : a_lk "PolicyText" 109 m_P_clausePart 4 := ⟨mt3 226 (by decide +kernel) rfl, ini_P, cm_P_clausePart, by decide +kernel, by decide +kernel⟩
theorem l_L_62 : a_lk "PolicyTextLaw" 62 m_X_test 5 := ⟨mt3 227 (by decide +kernel) rfl, ini_X, cm_X_test, by decide +kernel, by decide +kernel⟩
theorem l_X_113 : a_lk "PolicyText" 113 m_P_testRow 4 := ⟨mt3 231 (by decide +kernel) rfl, ini_P, cm_P_testRow, by decide +kernel, by decide +kernel⟩
theorem l_X_116 : a_lk "PolicyText" 116 m_P_testPart 2 := ⟨mt3 232 (by decide +kernel) rfl, ini_P, cm_P_testPart, by decide +kernel, by decide +kernel⟩
theorem l_L_67 : a_lk "PolicyTextLaw" 67 m_X_than 4 := ⟨mt3 233 (by decide +kernel) rfl, ini_X, cm_X_than, by decide +kernel, by decide +kernel⟩
theorem l_X_119 : a_lk "PolicyText" 119 m_P_boundOf 1 := ⟨mt3 237 (by decide +kernel) rfl, ini_P, cm_P_boundOf, by decide +kernel, by decide +kernel⟩
theorem l_L_71 : a_lk "PolicyTextLaw" 71 m_X_call 4 := ⟨mt3 238 (by decide +kernel) rfl, ini_X, cm_X_call, by decide +kernel, by decide +kernel⟩
theorem l_X_123 : a_lk "PolicyText" 123 m_C_become 4 := ⟨mt4 2 (by decide +kernel) rfl, ini_C, cm_C_become, by decide +kernel, by decide +kernel⟩
theorem l_L_76 : a_lk "PolicyTextLaw" 76 m_X_holds 3 := ⟨mt4 6 (by decide +kernel) rfl, ini_X, cm_X_holds, by decide +kernel, by decide +kernel⟩
theorem l_X_126 : a_lk "PolicyText" 126 m_P_applies 4 := ⟨mt4 10 (by decide +kernel) rfl, ini_P, cm_P_applies, by decide +kernel, by decide +kernel⟩
theorem l_P_84 : a_lk "PolicyText$Policy" 84 m_C_isOf 1 := ⟨mt4 14 (by decide +kernel) rfl, ini_C, cm_C_isOf, by decide +kernel, by decide +kernel⟩
theorem l_P_89 : a_lk "PolicyText$Policy" 89 m_P_isTrue 2 := ⟨mt4 18 (by decide +kernel) rfl, ini_P, cm_P_isTrue, by decide +kernel, by decide +kernel⟩
theorem l_P_93 : a_lk "PolicyText$Policy" 93 m_P_testPart 2 := ⟨mt4 22 (by decide +kernel) rfl, ini_P, cm_P_testPart, by decide +kernel, by decide +kernel⟩
theorem l_P_96 : a_lk "PolicyText$Policy" 96 m_P_counterPart 2 := ⟨mt4 23 (by decide +kernel) rfl, ini_P, cm_P_counterPart, by decide +kernel, by decide +kernel⟩
theorem l_P_99 : a_lk "PolicyText$Policy" 99 m_P_boundOf 1 := ⟨mt4 24 (by decide +kernel) rfl, ini_P, cm_P_boundOf, by decide +kernel, by decide +kernel⟩
theorem l_P_103 : a_lk "PolicyText$Policy" 103 m_P_compares 3 := ⟨mt4 25 (by decide +kernel) rfl, ini_P, cm_P_compares, by decide +kernel, by decide +kernel⟩
theorem l_P_107 : a_lk "PolicyText$Policy" 107 m_C_has 1 := ⟨mt4 28 (by decide +kernel) rfl, ini_C, cm_C_has, by decide +kernel, by decide +kernel⟩
theorem l_C_24 : a_lk "PolicyText$Call" 24 m_C_argumentsOf 1 := ⟨mt4 32 (by decide +kernel) rfl, ini_C, cm_C_argumentsOf, by decide +kernel, by decide +kernel⟩
theorem l_P_110 : a_lk "PolicyText$Policy" 110 m_C_argument 1 := ⟨mt4 33 (by decide +kernel) rfl, ini_C, cm_C_argument, by decide +kernel, by decide +kernel⟩
theorem l_L_81 : a_lk "PolicyTextLaw" 81 m_X_make 1 := ⟨mt4 37 (by decide +kernel) rfl, ini_X, cm_X_make, by decide +kernel, by decide +kernel⟩
theorem l_X_130 : a_lk "PolicyText" 130 m_P_reachedFrom 2 := ⟨mt4 41 (by decide +kernel) rfl, ini_P, cm_P_reachedFrom, by decide +kernel, by decide +kernel⟩
theorem l_P_113 : a_lk "PolicyText$Policy" 113 m_P_applies 4 := ⟨mt4 45 (by decide +kernel) rfl, ini_P, cm_P_applies, by decide +kernel, by decide +kernel⟩
theorem l_P_117 : a_lk "PolicyText$Policy" 117 m_P_clausePart 4 := ⟨mt4 46 (by decide +kernel) rfl, ini_P, cm_P_clausePart, by decide +kernel, by decide +kernel⟩
theorem l_P_121 : a_lk "PolicyText$Policy" 121 m_I_bitCount 1 := ⟨mt4 47 (by decide +kernel) rfl, ini_I, cm_I_bitCount, by decide +kernel, by decide +kernel⟩
theorem k_I_265 : Jvm.Cond.constant "java/lang/Integer" 265 (1431655765) ∈ aTs := mt4 50 (by decide +kernel) rfl
theorem k_I_266 : Jvm.Cond.constant "java/lang/Integer" 266 (858993459) ∈ aTs := mt4 51 (by decide +kernel) rfl
theorem k_I_267 : Jvm.Cond.constant "java/lang/Integer" 267 (252645135) ∈ aTs := mt4 52 (by decide +kernel) rfl
theorem l_X_134 : a_lk "PolicyText" 134 m_P_moveCounters 1 := ⟨mt4 53 (by decide +kernel) rfl, ini_P, cm_P_moveCounters, by decide +kernel, by decide +kernel⟩
theorem l_P_126 : a_lk "PolicyText$Policy" 126 m_P_standAfter 2 := ⟨mt4 57 (by decide +kernel) rfl, ini_P, cm_P_standAfter, by decide +kernel, by decide +kernel⟩
theorem l_P_130 : a_lk "PolicyText$Policy" 130 m_A_min 2 := ⟨mt4 61 (by decide +kernel) rfl, ini_A, cm_A_min, by decide +kernel, by decide +kernel⟩
theorem l_L_86 : a_lk "PolicyTextLaw" 86 m_X_byteAt 2 := ⟨mt4 64 (by decide +kernel) rfl, ini_X, cm_X_byteAt, by decide +kernel, by decide +kernel⟩
theorem l_X_138 : a_lk "PolicyText" 138 m_B_at 1 := ⟨mt4 68 (by decide +kernel) rfl, ini_B, cm_B_at, by decide +kernel, by decide +kernel⟩
theorem l_L_91 : a_lk "PolicyTextLaw" 91 m_X_look 1 := ⟨mt4 69 (by decide +kernel) rfl, ini_X, cm_X_look, by decide +kernel, by decide +kernel⟩
theorem l_X_141 : a_lk "PolicyText" 141 m_R_latestFault 0 := ⟨mt4 73 (by decide +kernel) rfl, ini_R, cm_R_latestFault, by decide +kernel, by decide +kernel⟩
theorem l_X_144 : a_lk "PolicyText" 144 m_R_latestPlace 0 := ⟨mt4 77 (by decide +kernel) rfl, ini_R, cm_R_latestPlace, by decide +kernel, by decide +kernel⟩
theorem l_X_147 : a_lk "PolicyText" 147 m_P_testsInAll 0 := ⟨mt4 81 (by decide +kernel) rfl, ini_P, cm_P_testsInAll, by decide +kernel, by decide +kernel⟩
theorem n_L_10 : a_nw "PolicyTextLaw" 10 7 53 [.int 0, .null, .int 0, .null, .int 0, .null, .int 0, .int 0, .int 0, .int 0, .null, .null, .null, .null, .int 0, .null, .null, .null, .int 0, .int 0, .int 0, .int 0, .long 0, .long 0, .int 0, .int 0, .null, .null, .int 0, .null, .null, .null, .null, .null, .int 0, .null, .int 0, .null, .null, .null, .null, .null, .null, .int 0, .null, .null, .null, .null, .null, .null, .int 0, .null, .int 0] := ⟨_, _, ty_M, rfl, in_M, tk_M, mt4 85 (by decide +kernel) rfl, mt4 86 (by decide +kernel) rfl, ini_M, by decide +kernel⟩
theorem l_L_12 : a_lk "PolicyTextLaw" 12 m_M_init 0 := ⟨mt4 87 (by decide +kernel) rfl, ini_M, cm_M_init, by decide +kernel, by decide +kernel⟩
theorem o_M : Cond.methodLink "PolicyTextModel" 1 Lib.objectInit ∈ aTs ∧ Cond.instanceMethod Lib.objectInit ∈ aTs ∧ Cond.code Lib.objectInit ⟨#[0xb1]⟩ 1 none ∈ aTs := ⟨mt4 90 (by decide +kernel) rfl, im_O_init, cm_O_init⟩
theorem l_M_112 : a_lk "PolicyTextModel" 112 m_M_readPolicy 0 := ⟨mt4 91 (by decide +kernel) rfl, ini_M, cm_M_readPolicy, by decide +kernel, by decide +kernel⟩
theorem l_M_233 : a_lk "PolicyTextModel" 233 m_M_next 0 := ⟨mt4 95 (by decide +kernel) rfl, ini_M, cm_M_next, by decide +kernel, by decide +kernel⟩
theorem l_M_142 : a_lk "PolicyTextModel" 142 m_M_letterAt 1 := ⟨mt4 99 (by decide +kernel) rfl, ini_M, cm_M_letterAt, by decide +kernel, by decide +kernel⟩
theorem l_M_152 : a_lk "PolicyTextModel" 152 m_M_isOfWord 1 := ⟨mt4 103 (by decide +kernel) rfl, ini_M, cm_M_isOfWord, by decide +kernel, by decide +kernel⟩
theorem l_M_132 : a_lk "PolicyTextModel" 132 m_M_isDigit 1 := ⟨mt4 106 (by decide +kernel) rfl, ini_M, cm_M_isDigit, by decide +kernel, by decide +kernel⟩
theorem l_M_136 : a_lk "PolicyTextModel" 136 m_M_isSmall 1 := ⟨mt4 109 (by decide +kernel) rfl, ini_M, cm_M_isSmall, by decide +kernel, by decide +kernel⟩
theorem l_M_155 : a_lk "PolicyTextModel" 155 m_M_wrong 2 := ⟨mt4 112 (by decide +kernel) rfl, ini_M, cm_M_wrong, by decide +kernel, by decide +kernel⟩
theorem l_M_159 : a_lk "PolicyTextModel" 159 m_M_takeName 1 := ⟨mt4 116 (by decide +kernel) rfl, ini_M, cm_M_takeName, by decide +kernel, by decide +kernel⟩
theorem k_M_170 : Jvm.Cond.constantLong "PolicyTextModel" 170 (27) ∈ aTs := mt4 120 (by decide +kernel) rfl
theorem k_M_172 : Jvm.Cond.constantLong "PolicyTextModel" 172 (96) ∈ aTs := mt4 121 (by decide +kernel) rfl
theorem l_M_163 : a_lk "PolicyTextModel" 163 m_M_takeNumber 1 := ⟨mt4 122 (by decide +kernel) rfl, ini_M, cm_M_takeNumber, by decide +kernel, by decide +kernel⟩
theorem k_M_174 : Jvm.Cond.constantLong "PolicyTextModel" 174 (100000000000) ∈ aTs := mt4 126 (by decide +kernel) rfl
theorem k_M_176 : Jvm.Cond.constantLong "PolicyTextModel" 176 (10) ∈ aTs := mt4 127 (by decide +kernel) rfl
theorem k_M_178 : Jvm.Cond.constantLong "PolicyTextModel" 178 (48) ∈ aTs := mt4 128 (by decide +kernel) rfl
theorem k_M_183 : Jvm.Cond.constantLong "PolicyTextModel" 183 (-2147483648) ∈ aTs := mt4 129 (by decide +kernel) rfl
theorem k_M_185 : Jvm.Cond.constantLong "PolicyTextModel" 185 (2147483647) ∈ aTs := mt4 130 (by decide +kernel) rfl
theorem l_M_203 : a_lk "PolicyTextModel" 203 m_M_isWord 1 := ⟨mt4 132 (by decide +kernel) rfl, ini_M, cm_M_isWord, by decide +kernel, by decide +kernel⟩
theorem l_M_197 : a_lk "PolicyTextModel" 197 m_M_named 1 := ⟨mt4 136 (by decide +kernel) rfl, ini_M, cm_M_named, by decide +kernel, by decide +kernel⟩
theorem l_M_187 : a_lk "PolicyTextModel" 187 m_S_length 0 := ⟨mt4 139 (by decide +kernel) rfl, ini_S, cm_S_length, by decide +kernel, by decide +kernel⟩
theorem l_M_193 : a_lk "PolicyTextModel" 193 m_S_charAt 1 := ⟨mt4 140 (by decide +kernel) rfl, ini_S, cm_S_charAt, by decide +kernel, by decide +kernel⟩
theorem l_M_254 : a_lk "PolicyTextModel" 254 m_M_readCounter 0 := ⟨mt4 141 (by decide +kernel) rfl, ini_M, cm_M_readCounter, by decide +kernel, by decide +kernel⟩
theorem l_M_263 : a_lk "PolicyTextModel" 263 m_M_isReserved 0 := ⟨mt4 145 (by decide +kernel) rfl, ini_M, cm_M_isReserved, by decide +kernel, by decide +kernel⟩
theorem l_M_267 : a_lk "PolicyTextModel" 267 m_M_isOld 2 := ⟨mt4 160 (by decide +kernel) rfl, ini_M, cm_M_isOld, by decide +kernel, by decide +kernel⟩
theorem l_M_229 : a_lk "PolicyTextModel" 229 m_M_must 1 := ⟨mt4 164 (by decide +kernel) rfl, ini_M, cm_M_must, by decide +kernel, by decide +kernel⟩
theorem k_M_271 : Jvm.Cond.constantLong "PolicyTextModel" 271 (16) ∈ aTs := mt4 168 (by decide +kernel) rfl
theorem l_M_273 : a_lk "PolicyTextModel" 273 m_M_readCall 0 := ⟨mt4 169 (by decide +kernel) rfl, ini_M, cm_M_readCall, by decide +kernel, by decide +kernel⟩
theorem l_M_276 : a_lk "PolicyTextModel" 276 m_M_readGuards 1 := ⟨mt4 173 (by decide +kernel) rfl, ini_M, cm_M_readGuards, by decide +kernel, by decide +kernel⟩
theorem l_M_290 : a_lk "PolicyTextModel" 290 m_M_readGuard 1 := ⟨mt4 177 (by decide +kernel) rfl, ini_M, cm_M_readGuard, by decide +kernel, by decide +kernel⟩
theorem l_M_279 : a_lk "PolicyTextModel" 279 m_M_expect 1 := ⟨mt4 181 (by decide +kernel) rfl, ini_M, cm_M_expect, by decide +kernel, by decide +kernel⟩
theorem k_M_293 : Jvm.Cond.constantLong "PolicyTextModel" 293 (3) ∈ aTs := mt4 185 (by decide +kernel) rfl
theorem l_M_286 : a_lk "PolicyTextModel" 286 m_M_note 3 := ⟨mt4 186 (by decide +kernel) rfl, ini_M, cm_M_note, by decide +kernel, by decide +kernel⟩
theorem l_M_257 : a_lk "PolicyTextModel" 257 m_M_readNode 0 := ⟨mt4 190 (by decide +kernel) rfl, ini_M, cm_M_readNode, by decide +kernel, by decide +kernel⟩
theorem l_M_282 : a_lk "PolicyTextModel" 282 m_M_expectWord 1 := ⟨mt4 194 (by decide +kernel) rfl, ini_M, cm_M_expectWord, by decide +kernel, by decide +kernel⟩
theorem l_M_260 : a_lk "PolicyTextModel" 260 m_M_resolve 0 := ⟨mt4 198 (by decide +kernel) rfl, ini_M, cm_M_resolve, by decide +kernel, by decide +kernel⟩
theorem f_M_115 : a_fl "PolicyTextModel" 115 7 0 := ⟨_, _, _, rfl, by decide, in_M, mt4 202 (by decide +kernel) rfl⟩
theorem p_M_115 : a_fp "PolicyTextModel" 115 7 0 .int false := ⟨_, _, _, ty_M, rfl, by decide, in_M, mt4 202 (by decide +kernel) rfl, tk_M, nm_M, rfl, by decide +kernel, fun h => by cases h⟩
theorem f_M_7 : a_fl "PolicyTextModel" 7 7 1 := ⟨_, _, _, rfl, by decide, in_M, mt4 203 (by decide +kernel) rfl⟩
theorem p_M_7 : a_fp "PolicyTextModel" 7 7 1 (.array .int) true := ⟨_, _, _, ty_M, rfl, by decide, in_M, mt4 203 (by decide +kernel) rfl, tk_M, nm_M, rfl, by decide +kernel, fun _ => rfl⟩
theorem f_M_118 : a_fl "PolicyTextModel" 118 7 2 := ⟨_, _, _, rfl, by decide, in_M, mt4 204 (by decide +kernel) rfl⟩
theorem p_M_118 : a_fp "PolicyTextModel" 118 7 2 .int false := ⟨_, _, _, ty_M, rfl, by decide, in_M, mt4 204 (by decide +kernel) rfl, tk_M, nm_M, rfl, by decide +kernel, fun h => by cases h⟩
theorem f_M_13 : a_fl "PolicyTextModel" 13 7 3 := ⟨_, _, _, rfl, by decide, in_M, mt4 205 (by decide +kernel) rfl⟩
theorem p_M_13 : a_fp "PolicyTextModel" 13 7 3 (.array .int) true := ⟨_, _, _, ty_M, rfl, by decide, in_M, mt4 205 (by decide +kernel) rfl, tk_M, nm_M, rfl, by decide +kernel, fun _ => rfl⟩
theorem f_M_123 : a_fl "PolicyTextModel" 123 7 4 := ⟨_, _, _, rfl, by decide, in_M, mt4 206 (by decide +kernel) rfl⟩
theorem p_M_123 : a_fp "PolicyTextModel" 123 7 4 .int false := ⟨_, _, _, ty_M, rfl, by decide, in_M, mt4 206 (by decide +kernel) rfl, tk_M, nm_M, rfl, by decide +kernel, fun h => by cases h⟩
theorem f_M_16 : a_fl "PolicyTextModel" 16 7 5 := ⟨_, _, _, rfl, by decide, in_M, mt4 207 (by decide +kernel) rfl⟩
theorem p_M_16 : a_fp "PolicyTextModel" 16 7 5 (.array .int) true := ⟨_, _, _, ty_M, rfl, by decide, in_M, mt4 207 (by decide +kernel) rfl, tk_M, nm_M, rfl, by decide +kernel, fun _ => rfl⟩
theorem f_M_298 : a_fl "PolicyTextModel" 298 7 6 := ⟨_, _, _, rfl, by decide, in_M, mt4 208 (by decide +kernel) rfl⟩
theorem p_M_298 : a_fp "PolicyTextModel" 298 7 6 .int false := ⟨_, _, _, ty_M, rfl, by decide, in_M, mt4 208 (by decide +kernel) rfl, tk_M, nm_M, rfl, by decide +kernel, fun h => by cases h⟩
theorem f_M_301 : a_fl "PolicyTextModel" 301 7 7 := ⟨_, _, _, rfl, by decide, in_M, mt4 209 (by decide +kernel) rfl⟩
theorem p_M_301 : a_fp "PolicyTextModel" 301 7 7 .int false := ⟨_, _, _, ty_M, rfl, by decide, in_M, mt4 209 (by decide +kernel) rfl, tk_M, nm_M, rfl, by decide +kernel, fun h => by cases h⟩
theorem f_M_295 : a_fl "PolicyTextModel" 295 7 8 := ⟨_, _, _, rfl, by decide, in_M, mt4 210 (by decide +kernel) rfl⟩
theorem p_M_295 : a_fp "PolicyTextModel" 295 7 8 .int false := ⟨_, _, _, ty_M, rfl, by decide, in_M, mt4 210 (by decide +kernel) rfl, tk_M, nm_M, rfl, by decide +kernel, fun h => by cases h⟩
theorem f_M_19 : a_fl "PolicyTextModel" 19 7 9 := ⟨_, _, _, rfl, by decide, in_M, mt4 211 (by decide +kernel) rfl⟩
theorem p_M_19 : a_fp "PolicyTextModel" 19 7 9 .int false := ⟨_, _, _, ty_M, rfl, by decide, in_M, mt4 211 (by decide +kernel) rfl, tk_M, nm_M, rfl, by decide +kernel, fun h => by cases h⟩
theorem f_M_23 : a_fl "PolicyTextModel" 23 7 10 := ⟨_, _, _, rfl, by decide, in_M, mt4 212 (by decide +kernel) rfl⟩
theorem p_M_23 : a_fp "PolicyTextModel" 23 7 10 (.array .int) true := ⟨_, _, _, ty_M, rfl, by decide, in_M, mt4 212 (by decide +kernel) rfl, tk_M, nm_M, rfl, by decide +kernel, fun _ => rfl⟩
theorem f_M_26 : a_fl "PolicyTextModel" 26 7 11 := ⟨_, _, _, rfl, by decide, in_M, mt4 213 (by decide +kernel) rfl⟩
theorem p_M_26 : a_fp "PolicyTextModel" 26 7 11 (.array .int) true := ⟨_, _, _, ty_M, rfl, by decide, in_M, mt4 213 (by decide +kernel) rfl, tk_M, nm_M, rfl, by decide +kernel, fun _ => rfl⟩
theorem f_M_29 : a_fl "PolicyTextModel" 29 7 12 := ⟨_, _, _, rfl, by decide, in_M, mt4 214 (by decide +kernel) rfl⟩
theorem p_M_29 : a_fp "PolicyTextModel" 29 7 12 (.array .int) true := ⟨_, _, _, ty_M, rfl, by decide, in_M, mt4 214 (by decide +kernel) rfl, tk_M, nm_M, rfl, by decide +kernel, fun _ => rfl⟩
theorem f_M_32 : a_fl "PolicyTextModel" 32 7 13 := ⟨_, _, _, rfl, by decide, in_M, mt4 215 (by decide +kernel) rfl⟩
theorem p_M_32 : a_fp "PolicyTextModel" 32 7 13 (.array .int) true := ⟨_, _, _, ty_M, rfl, by decide, in_M, mt4 215 (by decide +kernel) rfl, tk_M, nm_M, rfl, by decide +kernel, fun _ => rfl⟩
theorem f_M_356 : a_fl "PolicyTextModel" 356 7 14 := ⟨_, _, _, rfl, by decide, in_M, mt4 216 (by decide +kernel) rfl⟩
theorem p_M_356 : a_fp "PolicyTextModel" 356 7 14 .int false := ⟨_, _, _, ty_M, rfl, by decide, in_M, mt4 216 (by decide +kernel) rfl, tk_M, nm_M, rfl, by decide +kernel, fun h => by cases h⟩
theorem f_M_35 : a_fl "PolicyTextModel" 35 7 15 := ⟨_, _, _, rfl, by decide, in_M, mt4 217 (by decide +kernel) rfl⟩
theorem p_M_35 : a_fp "PolicyTextModel" 35 7 15 (.array .int) true := ⟨_, _, _, ty_M, rfl, by decide, in_M, mt4 217 (by decide +kernel) rfl, tk_M, nm_M, rfl, by decide +kernel, fun _ => rfl⟩
theorem f_M_38 : a_fl "PolicyTextModel" 38 7 16 := ⟨_, _, _, rfl, by decide, in_M, mt4 218 (by decide +kernel) rfl⟩
theorem p_M_38 : a_fp "PolicyTextModel" 38 7 16 (.array .int) true := ⟨_, _, _, ty_M, rfl, by decide, in_M, mt4 218 (by decide +kernel) rfl, tk_M, nm_M, rfl, by decide +kernel, fun _ => rfl⟩
theorem f_M_41 : a_fl "PolicyTextModel" 41 7 17 := ⟨_, _, _, rfl, by decide, in_M, mt4 219 (by decide +kernel) rfl⟩
theorem p_M_41 : a_fp "PolicyTextModel" 41 7 17 (.array .int) true := ⟨_, _, _, ty_M, rfl, by decide, in_M, mt4 219 (by decide +kernel) rfl, tk_M, nm_M, rfl, by decide +kernel, fun _ => rfl⟩
theorem f_M_109 : a_fl "PolicyTextModel" 109 7 18 := ⟨_, _, _, rfl, by decide, in_M, mt4 220 (by decide +kernel) rfl⟩
theorem p_M_109 : a_fp "PolicyTextModel" 109 7 18 .int false := ⟨_, _, _, ty_M, rfl, by decide, in_M, mt4 220 (by decide +kernel) rfl, tk_M, nm_M, rfl, by decide +kernel, fun h => by cases h⟩
theorem f_M_139 : a_fl "PolicyTextModel" 139 7 19 := ⟨_, _, _, rfl, by decide, in_M, mt4 221 (by decide +kernel) rfl⟩
theorem p_M_139 : a_fp "PolicyTextModel" 139 7 19 .int false := ⟨_, _, _, ty_M, rfl, by decide, in_M, mt4 221 (by decide +kernel) rfl, tk_M, nm_M, rfl, by decide +kernel, fun h => by cases h⟩
theorem f_M_149 : a_fl "PolicyTextModel" 149 7 20 := ⟨_, _, _, rfl, by decide, in_M, mt4 222 (by decide +kernel) rfl⟩
theorem p_M_149 : a_fp "PolicyTextModel" 149 7 20 .int false := ⟨_, _, _, ty_M, rfl, by decide, in_M, mt4 222 (by decide +kernel) rfl, tk_M, nm_M, rfl, by decide +kernel, fun h => by cases h⟩
theorem f_M_146 : a_fl "PolicyTextModel" 146 7 21 := ⟨_, _, _, rfl, by decide, in_M, mt4 223 (by decide +kernel) rfl⟩
theorem p_M_146 : a_fp "PolicyTextModel" 146 7 21 .int false := ⟨_, _, _, ty_M, rfl, by decide, in_M, mt4 223 (by decide +kernel) rfl, tk_M, nm_M, rfl, by decide +kernel, fun h => by cases h⟩
theorem f_M_166 : a_fl "PolicyTextModel" 166 7 22 := ⟨_, _, _, rfl, by decide, in_M, mt4 224 (by decide +kernel) rfl⟩
theorem p_M_166 : a_fp "PolicyTextModel" 166 7 22 .long false := ⟨_, _, _, ty_M, rfl, by decide, in_M, mt4 224 (by decide +kernel) rfl, tk_M, nm_M, rfl, by decide +kernel, fun h => by cases h⟩
theorem f_M_180 : a_fl "PolicyTextModel" 180 7 23 := ⟨_, _, _, rfl, by decide, in_M, mt4 225 (by decide +kernel) rfl⟩
theorem p_M_180 : a_fp "PolicyTextModel" 180 7 23 .long false := ⟨_, _, _, ty_M, rfl, by decide, in_M, mt4 225 (by decide +kernel) rfl, tk_M, nm_M, rfl, by decide +kernel, fun h => by cases h⟩
theorem f_M_126 : a_fl "PolicyTextModel" 126 7 24 := ⟨_, _, _, rfl, by decide, in_M, mt4 226 (by decide +kernel) rfl⟩
theorem p_M_126 : a_fp "PolicyTextModel" 126 7 24 .int false := ⟨_, _, _, ty_M, rfl, by decide, in_M, mt4 226 (by decide +kernel) rfl, tk_M, nm_M, rfl, by decide +kernel, fun h => by cases h⟩
theorem f_M_129 : a_fl "PolicyTextModel" 129 7 25 := ⟨_, _, _, rfl, by decide, in_M, mt4 227 (by decide +kernel) rfl⟩
theorem p_M_129 : a_fp "PolicyTextModel" 129 7 25 .int false := ⟨_, _, _, ty_M, rfl, by decide, in_M, mt4 227 (by decide +kernel) rfl, tk_M, nm_M, rfl, by decide +kernel, fun h => by cases h⟩
theorem f_M_44 : a_fl "PolicyTextModel" 44 7 26 := ⟨_, _, _, rfl, by decide, in_M, mt4 228 (by decide +kernel) rfl⟩
theorem p_M_44 : a_fp "PolicyTextModel" 44 7 26 (.array .long) true := ⟨_, _, _, ty_M, rfl, by decide, in_M, mt4 228 (by decide +kernel) rfl, tk_M, nm_M, rfl, by decide +kernel, fun _ => rfl⟩
theorem f_M_48 : a_fl "PolicyTextModel" 48 7 27 := ⟨_, _, _, rfl, by decide, in_M, mt4 229 (by decide +kernel) rfl⟩
theorem p_M_48 : a_fp "PolicyTextModel" 48 7 27 (.array .int) true := ⟨_, _, _, ty_M, rfl, by decide, in_M, mt4 229 (by decide +kernel) rfl, tk_M, nm_M, rfl, by decide +kernel, fun _ => rfl⟩
theorem f_M_236 : a_fl "PolicyTextModel" 236 7 28 := ⟨_, _, _, rfl, by decide, in_M, mt4 230 (by decide +kernel) rfl⟩
theorem p_M_236 : a_fp "PolicyTextModel" 236 7 28 .int false := ⟨_, _, _, ty_M, rfl, by decide, in_M, mt4 230 (by decide +kernel) rfl, tk_M, nm_M, rfl, by decide +kernel, fun h => by cases h⟩
theorem f_M_51 : a_fl "PolicyTextModel" 51 7 29 := ⟨_, _, _, rfl, by decide, in_M, mt4 231 (by decide +kernel) rfl⟩
theorem p_M_51 : a_fp "PolicyTextModel" 51 7 29 (.array .int) true := ⟨_, _, _, ty_M, rfl, by decide, in_M, mt4 231 (by decide +kernel) rfl, tk_M, nm_M, rfl, by decide +kernel, fun _ => rfl⟩
theorem f_M_54 : a_fl "PolicyTextModel" 54 7 30 := ⟨_, _, _, rfl, by decide, in_M, mt4 232 (by decide +kernel) rfl⟩
theorem p_M_54 : a_fp "PolicyTextModel" 54 7 30 (.array .boolean) true := ⟨_, _, _, ty_M, rfl, by decide, in_M, mt4 232 (by decide +kernel) rfl, tk_M, nm_M, rfl, by decide +kernel, fun _ => rfl⟩
theorem f_M_58 : a_fl "PolicyTextModel" 58 7 31 := ⟨_, _, _, rfl, by decide, in_M, mt4 233 (by decide +kernel) rfl⟩
theorem p_M_58 : a_fp "PolicyTextModel" 58 7 31 (.array .int) true := ⟨_, _, _, ty_M, rfl, by decide, in_M, mt4 233 (by decide +kernel) rfl, tk_M, nm_M, rfl, by decide +kernel, fun _ => rfl⟩
theorem f_M_61 : a_fl "PolicyTextModel" 61 7 32 := ⟨_, _, _, rfl, by decide, in_M, mt4 234 (by decide +kernel) rfl⟩
theorem p_M_61 : a_fp "PolicyTextModel" 61 7 32 (.array .int) true := ⟨_, _, _, ty_M, rfl, by decide, in_M, mt4 234 (by decide +kernel) rfl, tk_M, nm_M, rfl, by decide +kernel, fun _ => rfl⟩
theorem f_M_64 : a_fl "PolicyTextModel" 64 7 33 := ⟨_, _, _, rfl, by decide, in_M, mt4 235 (by decide +kernel) rfl⟩
theorem p_M_64 : a_fp "PolicyTextModel" 64 7 33 (.array .int) true := ⟨_, _, _, ty_M, rfl, by decide, in_M, mt4 235 (by decide +kernel) rfl, tk_M, nm_M, rfl, by decide +kernel, fun _ => rfl⟩
theorem f_M_239 : a_fl "PolicyTextModel" 239 7 34 := ⟨_, _, _, rfl, by decide, in_M, mt4 236 (by decide +kernel) rfl⟩
theorem p_M_239 : a_fp "PolicyTextModel" 239 7 34 .int false := ⟨_, _, _, ty_M, rfl, by decide, in_M, mt4 236 (by decide +kernel) rfl, tk_M, nm_M, rfl, by decide +kernel, fun h => by cases h⟩
theorem f_M_67 : a_fl "PolicyTextModel" 67 7 35 := ⟨_, _, _, rfl, by decide, in_M, mt4 237 (by decide +kernel) rfl⟩
theorem p_M_67 : a_fp "PolicyTextModel" 67 7 35 (.array .long) true := ⟨_, _, _, ty_M, rfl, by decide, in_M, mt4 237 (by decide +kernel) rfl, tk_M, nm_M, rfl, by decide +kernel, fun _ => rfl⟩
theorem f_M_242 : a_fl "PolicyTextModel" 242 7 36 := ⟨_, _, _, rfl, by decide, in_M, mt4 238 (by decide +kernel) rfl⟩
theorem p_M_242 : a_fp "PolicyTextModel" 242 7 36 .int false := ⟨_, _, _, ty_M, rfl, by decide, in_M, mt4 238 (by decide +kernel) rfl, tk_M, nm_M, rfl, by decide +kernel, fun h => by cases h⟩
theorem f_M_70 : a_fl "PolicyTextModel" 70 7 37 := ⟨_, _, _, rfl, by decide, in_M, mt4 239 (by decide +kernel) rfl⟩
theorem p_M_70 : a_fp "PolicyTextModel" 70 7 37 (.array .int) true := ⟨_, _, _, ty_M, rfl, by decide, in_M, mt4 239 (by decide +kernel) rfl, tk_M, nm_M, rfl, by decide +kernel, fun _ => rfl⟩
theorem f_M_73 : a_fl "PolicyTextModel" 73 7 38 := ⟨_, _, _, rfl, by decide, in_M, mt5 0 (by decide +kernel) rfl⟩
theorem p_M_73 : a_fp "PolicyTextModel" 73 7 38 (.array .int) true := ⟨_, _, _, ty_M, rfl, by decide, in_M, mt5 0 (by decide +kernel) rfl, tk_M, nm_M, rfl, by decide +kernel, fun _ => rfl⟩
theorem f_M_76 : a_fl "PolicyTextModel" 76 7 39 := ⟨_, _, _, rfl, by decide, in_M, mt5 1 (by decide +kernel) rfl⟩
theorem p_M_76 : a_fp "PolicyTextModel" 76 7 39 (.array .int) true := ⟨_, _, _, ty_M, rfl, by decide, in_M, mt5 1 (by decide +kernel) rfl, tk_M, nm_M, rfl, by decide +kernel, fun _ => rfl⟩
theorem f_M_79 : a_fl "PolicyTextModel" 79 7 40 := ⟨_, _, _, rfl, by decide, in_M, mt5 2 (by decide +kernel) rfl⟩
theorem p_M_79 : a_fp "PolicyTextModel" 79 7 40 (.array .int) true := ⟨_, _, _, ty_M, rfl, by decide, in_M, mt5 2 (by decide +kernel) rfl, tk_M, nm_M, rfl, by decide +kernel, fun _ => rfl⟩
theorem f_M_82 : a_fl "PolicyTextModel" 82 7 41 := ⟨_, _, _, rfl, by decide, in_M, mt5 3 (by decide +kernel) rfl⟩
theorem p_M_82 : a_fp "PolicyTextModel" 82 7 41 (.array .long) true := ⟨_, _, _, ty_M, rfl, by decide, in_M, mt5 3 (by decide +kernel) rfl, tk_M, nm_M, rfl, by decide +kernel, fun _ => rfl⟩
theorem f_M_85 : a_fl "PolicyTextModel" 85 7 42 := ⟨_, _, _, rfl, by decide, in_M, mt5 4 (by decide +kernel) rfl⟩
theorem p_M_85 : a_fp "PolicyTextModel" 85 7 42 (.array .int) true := ⟨_, _, _, ty_M, rfl, by decide, in_M, mt5 4 (by decide +kernel) rfl, tk_M, nm_M, rfl, by decide +kernel, fun _ => rfl⟩
theorem f_M_245 : a_fl "PolicyTextModel" 245 7 43 := ⟨_, _, _, rfl, by decide, in_M, mt5 5 (by decide +kernel) rfl⟩
theorem p_M_245 : a_fp "PolicyTextModel" 245 7 43 .int false := ⟨_, _, _, ty_M, rfl, by decide, in_M, mt5 5 (by decide +kernel) rfl, tk_M, nm_M, rfl, by decide +kernel, fun h => by cases h⟩
theorem f_M_88 : a_fl "PolicyTextModel" 88 7 44 := ⟨_, _, _, rfl, by decide, in_M, mt5 6 (by decide +kernel) rfl⟩
theorem p_M_88 : a_fp "PolicyTextModel" 88 7 44 (.array .boolean) true := ⟨_, _, _, ty_M, rfl, by decide, in_M, mt5 6 (by decide +kernel) rfl, tk_M, nm_M, rfl, by decide +kernel, fun _ => rfl⟩
theorem f_M_91 : a_fl "PolicyTextModel" 91 7 45 := ⟨_, _, _, rfl, by decide, in_M, mt5 7 (by decide +kernel) rfl⟩
theorem p_M_91 : a_fp "PolicyTextModel" 91 7 45 (.array .int) true := ⟨_, _, _, ty_M, rfl, by decide, in_M, mt5 7 (by decide +kernel) rfl, tk_M, nm_M, rfl, by decide +kernel, fun _ => rfl⟩
theorem f_M_94 : a_fl "PolicyTextModel" 94 7 46 := ⟨_, _, _, rfl, by decide, in_M, mt5 8 (by decide +kernel) rfl⟩
theorem p_M_94 : a_fp "PolicyTextModel" 94 7 46 (.array .long) true := ⟨_, _, _, ty_M, rfl, by decide, in_M, mt5 8 (by decide +kernel) rfl, tk_M, nm_M, rfl, by decide +kernel, fun _ => rfl⟩
theorem f_M_97 : a_fl "PolicyTextModel" 97 7 47 := ⟨_, _, _, rfl, by decide, in_M, mt5 9 (by decide +kernel) rfl⟩
theorem p_M_97 : a_fp "PolicyTextModel" 97 7 47 (.array .int) true := ⟨_, _, _, ty_M, rfl, by decide, in_M, mt5 9 (by decide +kernel) rfl, tk_M, nm_M, rfl, by decide +kernel, fun _ => rfl⟩
theorem f_M_100 : a_fl "PolicyTextModel" 100 7 48 := ⟨_, _, _, rfl, by decide, in_M, mt5 10 (by decide +kernel) rfl⟩
theorem p_M_100 : a_fp "PolicyTextModel" 100 7 48 (.array .int) true := ⟨_, _, _, ty_M, rfl, by decide, in_M, mt5 10 (by decide +kernel) rfl, tk_M, nm_M, rfl, by decide +kernel, fun _ => rfl⟩
theorem f_M_103 : a_fl "PolicyTextModel" 103 7 49 := ⟨_, _, _, rfl, by decide, in_M, mt5 11 (by decide +kernel) rfl⟩
theorem p_M_103 : a_fp "PolicyTextModel" 103 7 49 (.array .boolean) true := ⟨_, _, _, ty_M, rfl, by decide, in_M, mt5 11 (by decide +kernel) rfl, tk_M, nm_M, rfl, by decide +kernel, fun _ => rfl⟩
theorem f_M_248 : a_fl "PolicyTextModel" 248 7 50 := ⟨_, _, _, rfl, by decide, in_M, mt5 12 (by decide +kernel) rfl⟩
theorem p_M_248 : a_fp "PolicyTextModel" 248 7 50 .int false := ⟨_, _, _, ty_M, rfl, by decide, in_M, mt5 12 (by decide +kernel) rfl, tk_M, nm_M, rfl, by decide +kernel, fun h => by cases h⟩
theorem f_M_106 : a_fl "PolicyTextModel" 106 7 51 := ⟨_, _, _, rfl, by decide, in_M, mt5 13 (by decide +kernel) rfl⟩
theorem p_M_106 : a_fp "PolicyTextModel" 106 7 51 (.array .int) true := ⟨_, _, _, ty_M, rfl, by decide, in_M, mt5 13 (by decide +kernel) rfl, tk_M, nm_M, rfl, by decide +kernel, fun _ => rfl⟩
theorem f_M_251 : a_fl "PolicyTextModel" 251 7 52 := ⟨_, _, _, rfl, by decide, in_M, mt5 14 (by decide +kernel) rfl⟩
theorem p_M_251 : a_fp "PolicyTextModel" 251 7 52 .int false := ⟨_, _, _, ty_M, rfl, by decide, in_M, mt5 14 (by decide +kernel) rfl, tk_M, nm_M, rfl, by decide +kernel, fun h => by cases h⟩
theorem ar_boolean : Cond.arrayClass .boolean ∈ aTs := mt5 122 (by decide +kernel) rfl
theorem l_L_19 : a_lk "PolicyTextLaw" 19 m_M_give 2 := ⟨mt5 123 (by decide +kernel) rfl, ini_M, cm_M_give, by decide +kernel, by decide +kernel⟩
theorem k_M_121 : Jvm.Cond.constantLong "PolicyTextModel" 121 (255) ∈ aTs := mt5 127 (by decide +kernel) rfl
theorem l_L_24 : a_lk "PolicyTextLaw" 24 m_M_cut 1 := ⟨mt5 128 (by decide +kernel) rfl, ini_M, cm_M_cut, by decide +kernel, by decide +kernel⟩
theorem l_L_29 : a_lk "PolicyTextLaw" 29 m_M_poke 2 := ⟨mt5 132 (by decide +kernel) rfl, ini_M, cm_M_poke, by decide +kernel, by decide +kernel⟩
theorem l_L_43 : a_lk "PolicyTextLaw" 43 m_M_turnOver 0 := ⟨mt5 136 (by decide +kernel) rfl, ini_M, cm_M_turnOver, by decide +kernel, by decide +kernel⟩
theorem l_L_90 : a_lk "PolicyTextLaw" 90 m_M_byteAt 2 := ⟨mt5 140 (by decide +kernel) rfl, ini_M, cm_M_byteAt, by decide +kernel, by decide +kernel⟩
theorem l_L_34 : a_lk "PolicyTextLaw" 34 m_M_read 0 := ⟨mt5 144 (by decide +kernel) rfl, ini_M, cm_M_read, by decide +kernel, by decide +kernel⟩
theorem l_L_38 : a_lk "PolicyTextLaw" 38 m_M_print 0 := ⟨mt5 148 (by decide +kernel) rfl, ini_M, cm_M_print, by decide +kernel, by decide +kernel⟩
theorem l_M_320 : a_lk "PolicyTextModel" 320 m_M_open 0 := ⟨mt5 152 (by decide +kernel) rfl, ini_M, cm_M_open, by decide +kernel, by decide +kernel⟩
theorem l_M_307 : a_lk "PolicyTextModel" 307 m_M_blank 1 := ⟨mt5 156 (by decide +kernel) rfl, ini_M, cm_M_blank, by decide +kernel, by decide +kernel⟩
theorem l_M_304 : a_lk "PolicyTextModel" 304 m_M_lay 1 := ⟨mt5 160 (by decide +kernel) rfl, ini_M, cm_M_lay, by decide +kernel, by decide +kernel⟩
theorem l_M_313 : a_lk "PolicyTextModel" 313 m_M_word 1 := ⟨mt5 164 (by decide +kernel) rfl, ini_M, cm_M_word, by decide +kernel, by decide +kernel⟩
theorem l_M_323 : a_lk "PolicyTextModel" 323 m_M_nameOut 2 := ⟨mt5 168 (by decide +kernel) rfl, ini_M, cm_M_nameOut, by decide +kernel, by decide +kernel⟩
theorem l_M_316 : a_lk "PolicyTextModel" 316 m_M_numberOut 1 := ⟨mt5 172 (by decide +kernel) rfl, ini_M, cm_M_numberOut, by decide +kernel, by decide +kernel⟩
theorem k_M_311 : Jvm.Cond.constantLong "PolicyTextModel" 311 (9) ∈ aTs := mt5 176 (by decide +kernel) rfl
theorem l_M_330 : a_lk "PolicyTextModel" 330 m_M_clauseOut 3 := ⟨mt5 177 (by decide +kernel) rfl, ini_M, cm_M_clauseOut, by decide +kernel, by decide +kernel⟩
theorem l_M_327 : a_lk "PolicyTextModel" 327 m_M_close 0 := ⟨mt5 181 (by decide +kernel) rfl, ini_M, cm_M_close, by decide +kernel, by decide +kernel⟩
theorem l_M_333 : a_lk "PolicyTextModel" 333 m_M_lineOut 0 := ⟨mt5 185 (by decide +kernel) rfl, ini_M, cm_M_lineOut, by decide +kernel, by decide +kernel⟩
theorem l_L_47 : a_lk "PolicyTextLaw" 47 m_M_stand 2 := ⟨mt5 189 (by decide +kernel) rfl, ini_M, cm_M_stand, by decide +kernel, by decide +kernel⟩
theorem l_L_52 : a_lk "PolicyTextLaw" 52 m_M_counter 2 := ⟨mt5 193 (by decide +kernel) rfl, ini_M, cm_M_counter, by decide +kernel, by decide +kernel⟩
theorem l_M_348 : a_lk "PolicyTextModel" 348 m_M_howMany 2 := ⟨mt5 197 (by decide +kernel) rfl, ini_M, cm_M_howMany, by decide +kernel, by decide +kernel⟩
theorem l_M_344 : a_lk "PolicyTextModel" 344 m_M_clauseAt 3 := ⟨mt5 201 (by decide +kernel) rfl, ini_M, cm_M_clauseAt, by decide +kernel, by decide +kernel⟩
theorem l_L_56 : a_lk "PolicyTextLaw" 56 m_M_node 2 := ⟨mt5 205 (by decide +kernel) rfl, ini_M, cm_M_node, by decide +kernel, by decide +kernel⟩
theorem l_L_61 : a_lk "PolicyTextLaw" 61 m_M_clause 4 := ⟨mt5 209 (by decide +kernel) rfl, ini_M, cm_M_clause, by decide +kernel, by decide +kernel⟩
theorem l_L_66 : a_lk "PolicyTextLaw" 66 m_M_test 5 := ⟨mt5 213 (by decide +kernel) rfl, ini_M, cm_M_test, by decide +kernel, by decide +kernel⟩
theorem l_M_352 : a_lk "PolicyTextModel" 352 m_M_testAt 4 := ⟨mt5 217 (by decide +kernel) rfl, ini_M, cm_M_testAt, by decide +kernel, by decide +kernel⟩
theorem l_L_70 : a_lk "PolicyTextLaw" 70 m_M_than 4 := ⟨mt5 221 (by decide +kernel) rfl, ini_M, cm_M_than, by decide +kernel, by decide +kernel⟩
theorem l_L_75 : a_lk "PolicyTextLaw" 75 m_M_call 4 := ⟨mt5 225 (by decide +kernel) rfl, ini_M, cm_M_call, by decide +kernel, by decide +kernel⟩
theorem l_L_80 : a_lk "PolicyTextLaw" 80 m_M_holds 3 := ⟨mt5 229 (by decide +kernel) rfl, ini_M, cm_M_holds, by decide +kernel, by decide +kernel⟩
theorem l_M_359 : a_lk "PolicyTextModel" 359 m_M_ask 0 := ⟨mt5 233 (by decide +kernel) rfl, ini_M, cm_M_ask, by decide +kernel, by decide +kernel⟩
theorem l_M_362 : a_lk "PolicyTextModel" 362 m_M_isSo 3 := ⟨mt5 237 (by decide +kernel) rfl, ini_M, cm_M_isSo, by decide +kernel, by decide +kernel⟩
theorem l_M_340 : a_lk "PolicyTextModel" 340 m_M_hold 3 := ⟨mt6 1 (by decide +kernel) rfl, ini_M, cm_M_hold, by decide +kernel, by decide +kernel⟩
theorem l_M_336 : a_lk "PolicyTextModel" 336 m_M_isTrue 2 := ⟨mt6 5 (by decide +kernel) rfl, ini_M, cm_M_isTrue, by decide +kernel, by decide +kernel⟩
theorem l_L_85 : a_lk "PolicyTextLaw" 85 m_M_make 1 := ⟨mt6 9 (by decide +kernel) rfl, ini_M, cm_M_make, by decide +kernel, by decide +kernel⟩
theorem l_M_366 : a_lk "PolicyTextModel" 366 m_M_count 2 := ⟨mt6 13 (by decide +kernel) rfl, ini_M, cm_M_count, by decide +kernel, by decide +kernel⟩
theorem l_L_94 : a_lk "PolicyTextLaw" 94 m_M_look 1 := ⟨mt6 17 (by decide +kernel) rfl, ini_M, cm_M_look, by decide +kernel, by decide +kernel⟩
theorem k_L_13 : Jvm.Cond.constantLong "PolicyTextLaw" 13 (4294967295) ∈ aTs := mt6 21 (by decide +kernel) rfl
