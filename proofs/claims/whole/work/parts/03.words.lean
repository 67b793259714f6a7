/-! Each link of a field or a method, in the list of words. -/
set_option maxRecDepth 20000 in
theorem wf_A_9 : Cond.fieldLink "JointHistory$Answer" 9 "JointHistory$Kind" "CONTENT" "LJointHistory$Kind;" ∈ jw_all := jw_tb (i := 30) rfl rfl
set_option maxRecDepth 20000 in
theorem wf_A_15 : Cond.fieldLink "JointHistory$Answer" 15 "JointHistory$Answer" "kind" "LJointHistory$Kind;" ∈ jw_all := jw_tb (i := 32) rfl rfl
set_option maxRecDepth 20000 in
theorem wf_J_68 : Cond.fieldLink "JointHistory" 68 "JointHistory$Answer" "kind" "LJointHistory$Kind;" ∈ jw_all := jw_tb (i := 33) rfl rfl
set_option maxRecDepth 20000 in
theorem wf_A_20 : Cond.fieldLink "JointHistory$Answer" 20 "JointHistory$Answer" "first" "I" ∈ jw_all := jw_tb (i := 34) rfl rfl
set_option maxRecDepth 20000 in
theorem wf_J_71 : Cond.fieldLink "JointHistory" 71 "JointHistory$Answer" "first" "I" ∈ jw_all := jw_tb (i := 35) rfl rfl
set_option maxRecDepth 20000 in
theorem wf_A_24 : Cond.fieldLink "JointHistory$Answer" 24 "JointHistory$Answer" "second" "I" ∈ jw_all := jw_tb (i := 36) rfl rfl
set_option maxRecDepth 20000 in
theorem wf_J_75 : Cond.fieldLink "JointHistory" 75 "JointHistory$Answer" "second" "I" ∈ jw_all := jw_tb (i := 37) rfl rfl
set_option maxRecDepth 20000 in
theorem wf_J_78 : Cond.fieldLink "JointHistory" 78 "JointHistory$Answer" "strict" "Z" ∈ jw_all := jw_tb (i := 38) rfl rfl
set_option maxRecDepth 20000 in
theorem wf_J_87 : Cond.fieldLink "JointHistory" 87 "JointHistory$Answer" "target" "I" ∈ jw_all := jw_tb (i := 39) rfl rfl
set_option maxRecDepth 20000 in
theorem wf_N_7 : Cond.fieldLink "JointHistory$Navigable" 7 "JointHistory$Navigable" "number" "I" ∈ jw_all := jw_tb (i := 57) rfl rfl
set_option maxRecDepth 20000 in
theorem wf_J_196 : Cond.fieldLink "JointHistory" 196 "JointHistory$Navigable" "number" "I" ∈ jw_all := jw_tb (i := 58) rfl rfl
set_option maxRecDepth 20000 in
theorem wf_J_43 : Cond.fieldLink "JointHistory" 43 "JointHistory$Navigable" "there" "Z" ∈ jw_all := jw_tb (i := 59) rfl rfl
set_option maxRecDepth 20000 in
theorem wf_J_233 : Cond.fieldLink "JointHistory" 233 "JointHistory$Navigable" "level" "I" ∈ jw_all := jw_tb (i := 60) rfl rfl
set_option maxRecDepth 20000 in
theorem wf_J_208 : Cond.fieldLink "JointHistory" 208 "JointHistory$Navigable" "above" "LJointHistory$Document;" ∈ jw_all := jw_tb (i := 61) rfl rfl
set_option maxRecDepth 20000 in
theorem wf_J_244 : Cond.fieldLink "JointHistory" 244 "JointHistory$Document" "there" "Z" ∈ jw_all := jw_tb (i := 76) rfl rfl
set_option maxRecDepth 20000 in
theorem wf_J_211 : Cond.fieldLink "JointHistory" 211 "JointHistory$Document" "owner" "LJointHistory$Navigable;" ∈ jw_all := jw_tb (i := 77) rfl rfl
set_option maxRecDepth 20000 in
theorem wf_J_168 : Cond.fieldLink "JointHistory" 168 "JointHistory$Document" "origin" "I" ∈ jw_all := jw_tb (i := 78) rfl rfl
set_option maxRecDepth 20000 in
theorem wf_J_219 : Cond.fieldLink "JointHistory" 219 "JointHistory$Document" "sandboxed" "Z" ∈ jw_all := jw_tb (i := 79) rfl rfl
set_option maxRecDepth 20000 in
theorem wf_J_171 : Cond.fieldLink "JointHistory" 171 "JointHistory$Document" "first" "LJointHistory$Navigable;" ∈ jw_all := jw_tb (i := 80) rfl rfl
set_option maxRecDepth 20000 in
theorem wf_J_177 : Cond.fieldLink "JointHistory" 177 "JointHistory$Document" "second" "LJointHistory$Navigable;" ∈ jw_all := jw_tb (i := 81) rfl rfl
set_option maxRecDepth 20000 in
theorem wf_J_179 : Cond.fieldLink "JointHistory" 179 "JointHistory$Entry" "there" "Z" ∈ jw_all := jw_tb (i := 100) rfl rfl
set_option maxRecDepth 20000 in
theorem wf_J_135 : Cond.fieldLink "JointHistory" 135 "JointHistory$Entry" "owner" "LJointHistory$Navigable;" ∈ jw_all := jw_tb (i := 101) rfl rfl
set_option maxRecDepth 20000 in
theorem wf_J_128 : Cond.fieldLink "JointHistory" 128 "JointHistory$Entry" "step" "I" ∈ jw_all := jw_tb (i := 102) rfl rfl
set_option maxRecDepth 20000 in
theorem wf_J_103 : Cond.fieldLink "JointHistory" 103 "JointHistory$Entry" "url" "I" ∈ jw_all := jw_tb (i := 103) rfl rfl
set_option maxRecDepth 20000 in
theorem wf_J_165 : Cond.fieldLink "JointHistory" 165 "JointHistory$Entry" "state" "I" ∈ jw_all := jw_tb (i := 104) rfl rfl
set_option maxRecDepth 20000 in
theorem wf_J_120 : Cond.fieldLink "JointHistory" 120 "JointHistory$Entry" "document" "LJointHistory$Document;" ∈ jw_all := jw_tb (i := 105) rfl rfl
set_option maxRecDepth 20000 in
theorem wf_J_62 : Cond.fieldLink "JointHistory" 62 "JointHistory$Kind" "CONTENT" "LJointHistory$Kind;" ∈ jw_all := jw_tb (i := 134) rfl rfl
set_option maxRecDepth 20000 in
theorem wf_J_84 : Cond.fieldLink "JointHistory" 84 "JointHistory$Kind" "DETOUR" "LJointHistory$Kind;" ∈ jw_all := jw_tb (i := 158) rfl rfl
set_option maxRecDepth 20000 in
theorem wf_J_11 : Cond.fieldLink "JointHistory" 11 "JointHistory" "answers" "[LJointHistory$Answer;" ∈ jw_all := jw_tb (i := 167) rfl rfl
set_option maxRecDepth 20000 in
theorem wf_J_17 : Cond.fieldLink "JointHistory" 17 "JointHistory" "navigables" "[LJointHistory$Navigable;" ∈ jw_all := jw_tb (i := 168) rfl rfl
set_option maxRecDepth 20000 in
theorem wf_J_23 : Cond.fieldLink "JointHistory" 23 "JointHistory" "documents" "[LJointHistory$Document;" ∈ jw_all := jw_tb (i := 169) rfl rfl
set_option maxRecDepth 20000 in
theorem wf_J_29 : Cond.fieldLink "JointHistory" 29 "JointHistory" "rows" "[LJointHistory$Entry;" ∈ jw_all := jw_tb (i := 170) rfl rfl
set_option maxRecDepth 20000 in
theorem wf_J_33 : Cond.fieldLink "JointHistory" 33 "JointHistory" "usedSteps" "[I" ∈ jw_all := jw_tb (i := 171) rfl rfl
set_option maxRecDepth 20000 in
theorem wf_J_96 : Cond.fieldLink "JointHistory" 96 "JointHistory" "presentStep" "I" ∈ jw_all := jw_tb (i := 172) rfl rfl
set_option maxRecDepth 20000 in
theorem wf_J_190 : Cond.fieldLink "JointHistory" 190 "JointHistory" "pops" "I" ∈ jw_all := jw_tb (i := 173) rfl rfl
set_option maxRecDepth 20000 in
theorem wf_J_117 : Cond.fieldLink "JointHistory" 117 "JointHistory" "hashes" "I" ∈ jw_all := jw_tb (i := 174) rfl rfl
set_option maxRecDepth 20000 in
theorem wf_J_193 : Cond.fieldLink "JointHistory" 193 "JointHistory" "opaques" "I" ∈ jw_all := jw_tb (i := 175) rfl rfl
set_option maxRecDepth 20000 in
theorem wf_J_90 : Cond.fieldLink "JointHistory" 90 "JointHistory$Kind" "FAULT" "LJointHistory$Kind;" ∈ jw_all := jw_tb (i := 219) rfl rfl
set_option maxRecDepth 20000 in
theorem wf_M_7 : Cond.fieldLink "JointHistoryModel" 7 "JointHistoryModel" "answer" "[I" ∈ jw_all := jw_tb (i := 390) rfl rfl
set_option maxRecDepth 20000 in
theorem wf_M_13 : Cond.fieldLink "JointHistoryModel" 13 "JointHistoryModel" "firstOf" "[I" ∈ jw_all := jw_tb (i := 391) rfl rfl
set_option maxRecDepth 20000 in
theorem wf_M_16 : Cond.fieldLink "JointHistoryModel" 16 "JointHistoryModel" "secondOf" "[I" ∈ jw_all := jw_tb (i := 392) rfl rfl
set_option maxRecDepth 20000 in
theorem wf_M_19 : Cond.fieldLink "JointHistoryModel" 19 "JointHistoryModel" "strictOf" "[Z" ∈ jw_all := jw_tb (i := 393) rfl rfl
set_option maxRecDepth 20000 in
theorem wf_M_23 : Cond.fieldLink "JointHistoryModel" 23 "JointHistoryModel" "owner" "[I" ∈ jw_all := jw_tb (i := 394) rfl rfl
set_option maxRecDepth 20000 in
theorem wf_M_26 : Cond.fieldLink "JointHistoryModel" 26 "JointHistoryModel" "stepOf" "[I" ∈ jw_all := jw_tb (i := 395) rfl rfl
set_option maxRecDepth 20000 in
theorem wf_M_29 : Cond.fieldLink "JointHistoryModel" 29 "JointHistoryModel" "urlOf" "[I" ∈ jw_all := jw_tb (i := 396) rfl rfl
set_option maxRecDepth 20000 in
theorem wf_M_32 : Cond.fieldLink "JointHistoryModel" 32 "JointHistoryModel" "stateOf" "[I" ∈ jw_all := jw_tb (i := 397) rfl rfl
set_option maxRecDepth 20000 in
theorem wf_M_35 : Cond.fieldLink "JointHistoryModel" 35 "JointHistoryModel" "paper" "[I" ∈ jw_all := jw_tb (i := 398) rfl rfl
set_option maxRecDepth 20000 in
theorem wf_M_38 : Cond.fieldLink "JointHistoryModel" 38 "JointHistoryModel" "entry" "[Z" ∈ jw_all := jw_tb (i := 399) rfl rfl
set_option maxRecDepth 20000 in
theorem wf_M_41 : Cond.fieldLink "JointHistoryModel" 41 "JointHistoryModel" "there" "[Z" ∈ jw_all := jw_tb (i := 400) rfl rfl
set_option maxRecDepth 20000 in
theorem wf_M_44 : Cond.fieldLink "JointHistoryModel" 44 "JointHistoryModel" "originOf" "[I" ∈ jw_all := jw_tb (i := 401) rfl rfl
set_option maxRecDepth 20000 in
theorem wf_M_47 : Cond.fieldLink "JointHistoryModel" 47 "JointHistoryModel" "sandboxed" "[Z" ∈ jw_all := jw_tb (i := 402) rfl rfl
set_option maxRecDepth 20000 in
theorem wf_M_50 : Cond.fieldLink "JointHistoryModel" 50 "JointHistoryModel" "left" "[I" ∈ jw_all := jw_tb (i := 403) rfl rfl
set_option maxRecDepth 20000 in
theorem wf_M_53 : Cond.fieldLink "JointHistoryModel" 53 "JointHistoryModel" "right" "[I" ∈ jw_all := jw_tb (i := 404) rfl rfl
set_option maxRecDepth 20000 in
theorem wf_M_56 : Cond.fieldLink "JointHistoryModel" 56 "JointHistoryModel" "exists" "[Z" ∈ jw_all := jw_tb (i := 405) rfl rfl
set_option maxRecDepth 20000 in
theorem wf_M_59 : Cond.fieldLink "JointHistoryModel" 59 "JointHistoryModel" "above" "[I" ∈ jw_all := jw_tb (i := 406) rfl rfl
set_option maxRecDepth 20000 in
theorem wf_M_62 : Cond.fieldLink "JointHistoryModel" 62 "JointHistoryModel" "shown" "[Z" ∈ jw_all := jw_tb (i := 407) rfl rfl
set_option maxRecDepth 20000 in
theorem wf_M_65 : Cond.fieldLink "JointHistoryModel" 65 "JointHistoryModel" "then" "[I" ∈ jw_all := jw_tb (i := 408) rfl rfl
set_option maxRecDepth 20000 in
theorem wf_M_68 : Cond.fieldLink "JointHistoryModel" 68 "JointHistoryModel" "keepPaper" "[Z" ∈ jw_all := jw_tb (i := 409) rfl rfl
set_option maxRecDepth 20000 in
theorem wf_M_71 : Cond.fieldLink "JointHistoryModel" 71 "JointHistoryModel" "keepNav" "[Z" ∈ jw_all := jw_tb (i := 410) rfl rfl
set_option maxRecDepth 20000 in
theorem wf_M_130 : Cond.fieldLink "JointHistoryModel" 130 "JointHistoryModel" "now" "I" ∈ jw_all := jw_tb (i := 411) rfl rfl
set_option maxRecDepth 20000 in
theorem wf_M_89 : Cond.fieldLink "JointHistoryModel" 89 "JointHistoryModel" "opaque" "I" ∈ jw_all := jw_tb (i := 412) rfl rfl
set_option maxRecDepth 20000 in
theorem wf_M_167 : Cond.fieldLink "JointHistoryModel" 167 "JointHistoryModel" "pops" "I" ∈ jw_all := jw_tb (i := 413) rfl rfl
set_option maxRecDepth 20000 in
theorem wf_M_156 : Cond.fieldLink "JointHistoryModel" 156 "JointHistoryModel" "hashes" "I" ∈ jw_all := jw_tb (i := 414) rfl rfl
set_option maxRecDepth 20000 in
theorem wf_M_93 : Cond.fieldLink "JointHistoryModel" 93 "JointHistoryModel" "landed" "I" ∈ jw_all := jw_tb (i := 415) rfl rfl
set_option maxRecDepth 20000 in
theorem wc_J_186 : Cond.constant "JointHistory" 186 (2147483647) ∈ jw_all := jw_tb (i := 237) rfl rfl
set_option maxRecDepth 20000 in
theorem wc_J_163 : Cond.constantLong "JointHistory" 163 (1099511627776) ∈ jw_all := jw_tb (i := 316) rfl rfl
set_option maxRecDepth 20000 in
theorem wc_M_170 : Cond.constantLong "JointHistoryModel" 170 (1099511627776) ∈ jw_all := jw_tb (i := 568) rfl rfl
