/-! Each call: the words of its link. -/
set_option maxRecDepth 20000 in
theorem wy_J_47 : jx_YV "JointHistory" 47 y_J_load b_J_load 8 (some (.object "JointHistory$Document")) 3 := ⟨⟨jw_tb (i := 122) rfl rfl, jw_tb (i := 119) rfl rfl, jw_tb (i := 1) rfl rfl, by decide +kernel, by decide +kernel, by decide +kernel⟩, jw_tb (i := 121) rfl rfl, jw_pv (i := 0) (q := (y_J_load, 9)) rfl⟩
set_option maxRecDepth 20000 in
theorem wy_J_222 : jx_YV "JointHistory" 222 y_J_freeDocument b_J_freeDocument 4 (some (.object "JointHistory$Document")) 1 := ⟨⟨jw_tb (i := 126) rfl rfl, jw_tb (i := 123) rfl rfl, jw_tb (i := 1) rfl rfl, by decide +kernel, by decide +kernel, by decide +kernel⟩, jw_tb (i := 125) rfl rfl, jw_pv (i := 1) (q := (y_J_freeDocument, 9)) rfl⟩
set_option maxRecDepth 20000 in
theorem wy_J_226 : jx_YV "JointHistory" 226 y_J_giveOpaqueOrigin b_J_giveOpaqueOrigin 2 (some .int) 0 := ⟨⟨jw_tb (i := 130) rfl rfl, jw_tb (i := 127) rfl rfl, jw_tb (i := 1) rfl rfl, by decide +kernel, by decide +kernel, by decide +kernel⟩, jw_tb (i := 129) rfl rfl, jw_pv (i := 2) (q := (y_J_giveOpaqueOrigin, 9)) rfl⟩
set_option maxRecDepth 20000 in
theorem wy_J_202 : jx_YS "JointHistory" 202 y_J_pageOf b_J_pageOf 1 (some .int) 1 := ⟨⟨jw_tb (i := 133) rfl rfl, jw_tb (i := 131) rfl rfl, jw_tb (i := 1) rfl rfl, by decide +kernel, by decide +kernel, by decide +kernel⟩, jw_tb (i := 132) rfl rfl⟩
set_option maxRecDepth 20000 in
theorem wy_J_205 : jx_YS "JointHistory" 205 y_J_hostOf b_J_hostOf 1 (some .int) 1 := ⟨⟨jw_tb (i := 137) rfl rfl, jw_tb (i := 135) rfl rfl, jw_tb (i := 1) rfl rfl, by decide +kernel, by decide +kernel, by decide +kernel⟩, jw_tb (i := 136) rfl rfl⟩
set_option maxRecDepth 20000 in
theorem wy_J_229 : jx_YV "JointHistory" 229 y_J_makeFrames b_J_makeFrames 6 none 3 := ⟨⟨jw_tb (i := 141) rfl rfl, jw_tb (i := 138) rfl rfl, jw_tb (i := 1) rfl rfl, by decide +kernel, by decide +kernel, by decide +kernel⟩, jw_tb (i := 140) rfl rfl, jw_pv (i := 3) (q := (y_J_makeFrames, 9)) rfl⟩
set_option maxRecDepth 20000 in
theorem wy_J_236 : jx_YV "JointHistory" 236 y_J_makeFrame b_J_makeFrame 6 (some (.object "JointHistory$Navigable")) 3 := ⟨⟨jw_tb (i := 145) rfl rfl, jw_tb (i := 142) rfl rfl, jw_tb (i := 1) rfl rfl, by decide +kernel, by decide +kernel, by decide +kernel⟩, jw_tb (i := 144) rfl rfl, jw_pv (i := 4) (q := (y_J_makeFrame, 9)) rfl⟩
set_option maxRecDepth 20000 in
theorem wy_J_240 : jx_YV "JointHistory" 240 y_J_freeNavigable b_J_freeNavigable 2 (some (.object "JointHistory$Navigable")) 0 := ⟨⟨jw_tb (i := 149) rfl rfl, jw_tb (i := 146) rfl rfl, jw_tb (i := 1) rfl rfl, by decide +kernel, by decide +kernel, by decide +kernel⟩, jw_tb (i := 148) rfl rfl, jw_pv (i := 5) (q := (y_J_freeNavigable, 9)) rfl⟩
set_option maxRecDepth 20000 in
theorem wy_J_131 : jx_YV "JointHistory" 131 y_J_followDetours b_J_followDetours 5 (some .int) 1 := ⟨⟨jw_tb (i := 153) rfl rfl, jw_tb (i := 150) rfl rfl, jw_tb (i := 1) rfl rfl, by decide +kernel, by decide +kernel, by decide +kernel⟩, jw_tb (i := 152) rfl rfl, jw_pv (i := 6) (q := (y_J_followDetours, 9)) rfl⟩
set_option maxRecDepth 20000 in
theorem wy_J_216 : jx_YV "JointHistory" 216 y_J_isDetour b_J_isDetour 2 (some .boolean) 1 := ⟨⟨jw_tb (i := 157) rfl rfl, jw_tb (i := 154) rfl rfl, jw_tb (i := 1) rfl rfl, by decide +kernel, by decide +kernel, by decide +kernel⟩, jw_tb (i := 156) rfl rfl, jw_pv (i := 7) (q := (y_J_isDetour, 9)) rfl⟩
set_option maxRecDepth 20000 in
theorem wy_J_199 : jx_YS "JointHistory" 199 y_J_fragmentOf b_J_fragmentOf 1 (some .int) 1 := ⟨⟨jw_tb (i := 162) rfl rfl, jw_tb (i := 160) rfl rfl, jw_tb (i := 1) rfl rfl, by decide +kernel, by decide +kernel, by decide +kernel⟩, jw_tb (i := 161) rfl rfl⟩
set_option maxRecDepth 20000 in
theorem wy_J_51 : jx_YV "JointHistory" 51 y_J_addEntry b_J_addEntry 8 none 5 := ⟨⟨jw_tb (i := 166) rfl rfl, jw_tb (i := 163) rfl rfl, jw_tb (i := 1) rfl rfl, by decide +kernel, by decide +kernel, by decide +kernel⟩, jw_tb (i := 165) rfl rfl, jw_pv (i := 8) (q := (y_J_addEntry, 9)) rfl⟩
set_option maxRecDepth 20000 in
theorem wy_L_13 : jx_YV "JointHistoryLaw" 13 y_J_content b_J_content 6 (some .boolean) 4 := ⟨⟨jw_tb (i := 198) rfl rfl, jw_tb (i := 195) rfl rfl, jw_tb (i := 1) rfl rfl, by decide +kernel, by decide +kernel, by decide +kernel⟩, jw_tb (i := 196) rfl rfl, jw_tb (i := 197) rfl rfl⟩
set_option maxRecDepth 20000 in
theorem wy_J_55 : jx_YS "JointHistory" 55 y_J_isPage b_J_isPage 1 (some .boolean) 1 := ⟨⟨jw_tb (i := 201) rfl rfl, jw_tb (i := 199) rfl rfl, jw_tb (i := 1) rfl rfl, by decide +kernel, by decide +kernel, by decide +kernel⟩, jw_tb (i := 200) rfl rfl⟩
set_option maxRecDepth 20000 in
theorem wy_J_59 : jx_YS "JointHistory" 59 y_J_isFrameChoice b_J_isFrameChoice 1 (some .boolean) 1 := ⟨⟨jw_tb (i := 204) rfl rfl, jw_tb (i := 202) rfl rfl, jw_tb (i := 1) rfl rfl, by decide +kernel, by decide +kernel, by decide +kernel⟩, jw_tb (i := 203) rfl rfl⟩
set_option maxRecDepth 20000 in
theorem wy_J_93 : jx_YS "JointHistory" 93 y_J_isUrlOrBlank b_J_isUrlOrBlank 1 (some .boolean) 1 := ⟨⟨jw_tb (i := 207) rfl rfl, jw_tb (i := 205) rfl rfl, jw_tb (i := 1) rfl rfl, by decide +kernel, by decide +kernel, by decide +kernel⟩, jw_tb (i := 206) rfl rfl⟩
set_option maxRecDepth 20000 in
theorem wy_J_81 : jx_YS "JointHistory" 81 y_J_isUrl b_J_isUrl 1 (some .boolean) 1 := ⟨⟨jw_tb (i := 210) rfl rfl, jw_tb (i := 208) rfl rfl, jw_tb (i := 1) rfl rfl, by decide +kernel, by decide +kernel, by decide +kernel⟩, jw_tb (i := 209) rfl rfl⟩
set_option maxRecDepth 20000 in
theorem wy_L_18 : jx_YV "JointHistoryLaw" 18 y_J_detour b_J_detour 3 (some .boolean) 2 := ⟨⟨jw_tb (i := 214) rfl rfl, jw_tb (i := 211) rfl rfl, jw_tb (i := 1) rfl rfl, by decide +kernel, by decide +kernel, by decide +kernel⟩, jw_tb (i := 212) rfl rfl, jw_tb (i := 213) rfl rfl⟩
set_option maxRecDepth 20000 in
theorem wy_L_23 : jx_YV "JointHistoryLaw" 23 y_J_fault b_J_fault 2 (some .boolean) 1 := ⟨⟨jw_tb (i := 218) rfl rfl, jw_tb (i := 215) rfl rfl, jw_tb (i := 1) rfl rfl, by decide +kernel, by decide +kernel, by decide +kernel⟩, jw_tb (i := 216) rfl rfl, jw_tb (i := 217) rfl rfl⟩
set_option maxRecDepth 20000 in
theorem wy_L_28 : jx_YV "JointHistoryLaw" 28 y_J_navigate b_J_navigate 8 (some .int) 3 := ⟨⟨jw_tb (i := 224) rfl rfl, jw_tb (i := 221) rfl rfl, jw_tb (i := 1) rfl rfl, by decide +kernel, by decide +kernel, by decide +kernel⟩, jw_tb (i := 222) rfl rfl, jw_tb (i := 223) rfl rfl⟩
set_option maxRecDepth 20000 in
theorem wy_J_99 : jx_YV "JointHistory" 99 y_J_shownEntry b_J_shownEntry 6 (some (.object "JointHistory$Entry")) 2 := ⟨⟨jw_tb (i := 228) rfl rfl, jw_tb (i := 225) rfl rfl, jw_tb (i := 1) rfl rfl, by decide +kernel, by decide +kernel, by decide +kernel⟩, jw_tb (i := 227) rfl rfl, jw_pv (i := 9) (q := (y_J_shownEntry, 9)) rfl⟩
set_option maxRecDepth 20000 in
theorem wy_J_212 : jx_YV "JointHistory" 212 y_J_entryAt b_J_entryAt 8 (some (.object "JointHistory$Entry")) 2 := ⟨⟨jw_tb (i := 232) rfl rfl, jw_tb (i := 229) rfl rfl, jw_tb (i := 1) rfl rfl, by decide +kernel, by decide +kernel, by decide +kernel⟩, jw_tb (i := 231) rfl rfl, jw_pv (i := 10) (q := (y_J_entryAt, 9)) rfl⟩
set_option maxRecDepth 20000 in
theorem wy_J_106 : jx_YV "JointHistory" 106 y_J_isFull b_J_isFull 2 (some .boolean) 1 := ⟨⟨jw_tb (i := 236) rfl rfl, jw_tb (i := 233) rfl rfl, jw_tb (i := 1) rfl rfl, by decide +kernel, by decide +kernel, by decide +kernel⟩, jw_tb (i := 235) rfl rfl, jw_pv (i := 11) (q := (y_J_isFull, 9)) rfl⟩
set_option maxRecDepth 20000 in
theorem wy_J_187 : jx_YV "JointHistory" 187 y_J_entriesUpTo b_J_entriesUpTo 7 (some .int) 1 := ⟨⟨jw_tb (i := 241) rfl rfl, jw_tb (i := 238) rfl rfl, jw_tb (i := 1) rfl rfl, by decide +kernel, by decide +kernel, by decide +kernel⟩, jw_tb (i := 240) rfl rfl, jw_pv (i := 12) (q := (y_J_entriesUpTo, 9)) rfl⟩
set_option maxRecDepth 20000 in
theorem wy_J_110 : jx_YV "JointHistory" 110 y_J_dropLaterEntries b_J_dropLaterEntries 5 none 0 := ⟨⟨jw_tb (i := 245) rfl rfl, jw_tb (i := 242) rfl rfl, jw_tb (i := 1) rfl rfl, by decide +kernel, by decide +kernel, by decide +kernel⟩, jw_tb (i := 244) rfl rfl, jw_pv (i := 13) (q := (y_J_dropLaterEntries, 9)) rfl⟩
set_option maxRecDepth 20000 in
theorem wy_J_157 : jx_YV "JointHistory" 157 y_J_dropWhatIsGone b_J_dropWhatIsGone 2 none 0 := ⟨⟨jw_tb (i := 249) rfl rfl, jw_tb (i := 246) rfl rfl, jw_tb (i := 1) rfl rfl, by decide +kernel, by decide +kernel, by decide +kernel⟩, jw_tb (i := 248) rfl rfl, jw_pv (i := 14) (q := (y_J_dropWhatIsGone, 9)) rfl⟩
set_option maxRecDepth 20000 in
theorem wy_J_245 : jx_YV "JointHistory" 245 y_J_keepOnlyHeldDocuments b_J_keepOnlyHeldDocuments 5 none 0 := ⟨⟨jw_tb (i := 253) rfl rfl, jw_tb (i := 250) rfl rfl, jw_tb (i := 1) rfl rfl, by decide +kernel, by decide +kernel, by decide +kernel⟩, jw_tb (i := 252) rfl rfl, jw_pv (i := 15) (q := (y_J_keepOnlyHeldDocuments, 9)) rfl⟩
set_option maxRecDepth 20000 in
theorem wy_J_248 : jx_YV "JointHistory" 248 y_J_dropFramesOfGoneDocuments b_J_dropFramesOfGoneDocuments 5 none 0 := ⟨⟨jw_tb (i := 257) rfl rfl, jw_tb (i := 254) rfl rfl, jw_tb (i := 1) rfl rfl, by decide +kernel, by decide +kernel, by decide +kernel⟩, jw_tb (i := 256) rfl rfl, jw_pv (i := 16) (q := (y_J_dropFramesOfGoneDocuments, 9)) rfl⟩
set_option maxRecDepth 20000 in
theorem wy_J_251 : jx_YV "JointHistory" 251 y_J_dropEntriesOfGoneNavigables b_J_dropEntriesOfGoneNavigables 5 none 0 := ⟨⟨jw_tb (i := 261) rfl rfl, jw_tb (i := 258) rfl rfl, jw_tb (i := 1) rfl rfl, by decide +kernel, by decide +kernel, by decide +kernel⟩, jw_tb (i := 260) rfl rfl, jw_pv (i := 17) (q := (y_J_dropEntriesOfGoneNavigables, 9)) rfl⟩
set_option maxRecDepth 20000 in
theorem wy_J_113 : jx_YS "JointHistory" 113 y_J_isFragmentMove b_J_isFragmentMove 2 (some .boolean) 2 := ⟨⟨jw_tb (i := 264) rfl rfl, jw_tb (i := 262) rfl rfl, jw_tb (i := 1) rfl rfl, by decide +kernel, by decide +kernel, by decide +kernel⟩, jw_tb (i := 263) rfl rfl⟩
set_option maxRecDepth 20000 in
theorem wy_J_124 : jx_YV "JointHistory" 124 y_J_putEntry b_J_putEntry 6 none 5 := ⟨⟨jw_tb (i := 268) rfl rfl, jw_tb (i := 265) rfl rfl, jw_tb (i := 1) rfl rfl, by decide +kernel, by decide +kernel, by decide +kernel⟩, jw_tb (i := 267) rfl rfl, jw_pv (i := 18) (q := (y_J_putEntry, 9)) rfl⟩
set_option maxRecDepth 20000 in
theorem wy_J_160 : jx_YV "JointHistory" 160 y_J_settlePresentStep b_J_settlePresentStep 6 none 0 := ⟨⟨jw_tb (i := 272) rfl rfl, jw_tb (i := 269) rfl rfl, jw_tb (i := 1) rfl rfl, by decide +kernel, by decide +kernel, by decide +kernel⟩, jw_tb (i := 271) rfl rfl, jw_pv (i := 19) (q := (y_J_settlePresentStep, 9)) rfl⟩
set_option maxRecDepth 20000 in
theorem wy_L_33 : jx_YV "JointHistoryLaw" 33 y_J_rewrite b_J_rewrite 6 (some .int) 4 := ⟨⟨jw_tb (i := 276) rfl rfl, jw_tb (i := 273) rfl rfl, jw_tb (i := 1) rfl rfl, by decide +kernel, by decide +kernel, by decide +kernel⟩, jw_tb (i := 274) rfl rfl, jw_tb (i := 275) rfl rfl⟩
set_option maxRecDepth 20000 in
theorem wy_J_139 : jx_YS "JointHistory" 139 y_J_mayRewrite b_J_mayRewrite 2 (some .boolean) 2 := ⟨⟨jw_tb (i := 279) rfl rfl, jw_tb (i := 277) rfl rfl, jw_tb (i := 1) rfl rfl, by decide +kernel, by decide +kernel, by decide +kernel⟩, jw_tb (i := 278) rfl rfl⟩
set_option maxRecDepth 20000 in
theorem wy_L_38 : jx_YV "JointHistoryLaw" 38 y_J_go b_J_go 7 (some .int) 1 := ⟨⟨jw_tb (i := 283) rfl rfl, jw_tb (i := 280) rfl rfl, jw_tb (i := 1) rfl rfl, by decide +kernel, by decide +kernel, by decide +kernel⟩, jw_tb (i := 281) rfl rfl, jw_tb (i := 282) rfl rfl⟩
set_option maxRecDepth 20000 in
theorem wy_J_142 : jx_YV "JointHistory" 142 y_J_collectUsedSteps b_J_collectUsedSteps 6 (some .int) 0 := ⟨⟨jw_tb (i := 287) rfl rfl, jw_tb (i := 284) rfl rfl, jw_tb (i := 1) rfl rfl, by decide +kernel, by decide +kernel, by decide +kernel⟩, jw_tb (i := 286) rfl rfl, jw_pv (i := 20) (q := (y_J_collectUsedSteps, 9)) rfl⟩
set_option maxRecDepth 20000 in
theorem wy_J_254 : jx_YV "JointHistory" 254 y_J_insertStep b_J_insertStep 5 (some .int) 2 := ⟨⟨jw_tb (i := 291) rfl rfl, jw_tb (i := 288) rfl rfl, jw_tb (i := 1) rfl rfl, by decide +kernel, by decide +kernel, by decide +kernel⟩, jw_tb (i := 290) rfl rfl, jw_pv (i := 21) (q := (y_J_insertStep, 9)) rfl⟩
set_option maxRecDepth 20000 in
theorem wy_J_146 : jx_YV "JointHistory" 146 y_J_placeOfPresent b_J_placeOfPresent 3 (some .int) 1 := ⟨⟨jw_tb (i := 295) rfl rfl, jw_tb (i := 292) rfl rfl, jw_tb (i := 1) rfl rfl, by decide +kernel, by decide +kernel, by decide +kernel⟩, jw_tb (i := 294) rfl rfl, jw_pv (i := 22) (q := (y_J_placeOfPresent, 9)) rfl⟩
set_option maxRecDepth 20000 in
theorem wy_J_149 : jx_YV "JointHistory" 149 y_J_countMove b_J_countMove 3 none 2 := ⟨⟨jw_tb (i := 299) rfl rfl, jw_tb (i := 296) rfl rfl, jw_tb (i := 1) rfl rfl, by decide +kernel, by decide +kernel, by decide +kernel⟩, jw_tb (i := 298) rfl rfl, jw_pv (i := 23) (q := (y_J_countMove, 9)) rfl⟩
set_option maxRecDepth 20000 in
theorem wy_L_43 : jx_YV "JointHistoryLaw" 43 y_J_detach b_J_detach 3 (some .int) 1 := ⟨⟨jw_tb (i := 303) rfl rfl, jw_tb (i := 300) rfl rfl, jw_tb (i := 1) rfl rfl, by decide +kernel, by decide +kernel, by decide +kernel⟩, jw_tb (i := 301) rfl rfl, jw_tb (i := 302) rfl rfl⟩
set_option maxRecDepth 20000 in
theorem wy_J_153 : jx_YV "JointHistory" 153 y_J_takeOut b_J_takeOut 3 none 1 := ⟨⟨jw_tb (i := 307) rfl rfl, jw_tb (i := 304) rfl rfl, jw_tb (i := 1) rfl rfl, by decide +kernel, by decide +kernel, by decide +kernel⟩, jw_tb (i := 306) rfl rfl, jw_pv (i := 24) (q := (y_J_takeOut, 9)) rfl⟩
set_option maxRecDepth 20000 in
theorem wy_L_47 : jx_YV "JointHistoryLaw" 47 y_J_url b_J_url 3 (some .int) 1 := ⟨⟨jw_tb (i := 311) rfl rfl, jw_tb (i := 308) rfl rfl, jw_tb (i := 1) rfl rfl, by decide +kernel, by decide +kernel, by decide +kernel⟩, jw_tb (i := 309) rfl rfl, jw_tb (i := 310) rfl rfl⟩
set_option maxRecDepth 20000 in
theorem wy_L_51 : jx_YV "JointHistoryLaw" 51 y_J_state b_J_state 3 (some .long) 1 := ⟨⟨jw_tb (i := 315) rfl rfl, jw_tb (i := 312) rfl rfl, jw_tb (i := 1) rfl rfl, by decide +kernel, by decide +kernel, by decide +kernel⟩, jw_tb (i := 313) rfl rfl, jw_tb (i := 314) rfl rfl⟩
set_option maxRecDepth 20000 in
theorem wy_L_56 : jx_YV "JointHistoryLaw" 56 y_J_step b_J_step 3 (some .int) 1 := ⟨⟨jw_tb (i := 320) rfl rfl, jw_tb (i := 317) rfl rfl, jw_tb (i := 1) rfl rfl, by decide +kernel, by decide +kernel, by decide +kernel⟩, jw_tb (i := 318) rfl rfl, jw_tb (i := 319) rfl rfl⟩
set_option maxRecDepth 20000 in
theorem wy_L_60 : jx_YV "JointHistoryLaw" 60 y_J_origin b_J_origin 3 (some .int) 1 := ⟨⟨jw_tb (i := 324) rfl rfl, jw_tb (i := 321) rfl rfl, jw_tb (i := 1) rfl rfl, by decide +kernel, by decide +kernel, by decide +kernel⟩, jw_tb (i := 322) rfl rfl, jw_tb (i := 323) rfl rfl⟩
set_option maxRecDepth 20000 in
theorem wy_L_64 : jx_YV "JointHistoryLaw" 64 y_J_frame b_J_frame 4 (some .int) 2 := ⟨⟨jw_tb (i := 328) rfl rfl, jw_tb (i := 325) rfl rfl, jw_tb (i := 1) rfl rfl, by decide +kernel, by decide +kernel, by decide +kernel⟩, jw_tb (i := 326) rfl rfl, jw_tb (i := 327) rfl rfl⟩
set_option maxRecDepth 20000 in
theorem wy_J_173 : jx_YS "JointHistory" 173 y_J_numberOf b_J_numberOf 1 (some .int) 1 := ⟨⟨jw_tb (i := 331) rfl rfl, jw_tb (i := 329) rfl rfl, jw_tb (i := 1) rfl rfl, by decide +kernel, by decide +kernel, by decide +kernel⟩, jw_tb (i := 330) rfl rfl⟩
set_option maxRecDepth 20000 in
theorem wy_L_69 : jx_YV "JointHistoryLaw" 69 y_J_entries b_J_entries 8 (some .int) 1 := ⟨⟨jw_tb (i := 335) rfl rfl, jw_tb (i := 332) rfl rfl, jw_tb (i := 1) rfl rfl, by decide +kernel, by decide +kernel, by decide +kernel⟩, jw_tb (i := 333) rfl rfl, jw_tb (i := 334) rfl rfl⟩
set_option maxRecDepth 20000 in
theorem wy_L_73 : jx_YV "JointHistoryLaw" 73 y_J_present b_J_present 1 (some .int) 0 := ⟨⟨jw_tb (i := 339) rfl rfl, jw_tb (i := 336) rfl rfl, jw_tb (i := 1) rfl rfl, by decide +kernel, by decide +kernel, by decide +kernel⟩, jw_tb (i := 337) rfl rfl, jw_tb (i := 338) rfl rfl⟩
set_option maxRecDepth 20000 in
theorem wy_L_78 : jx_YV "JointHistoryLaw" 78 y_J_length b_J_length 1 (some .int) 0 := ⟨⟨jw_tb (i := 343) rfl rfl, jw_tb (i := 340) rfl rfl, jw_tb (i := 1) rfl rfl, by decide +kernel, by decide +kernel, by decide +kernel⟩, jw_tb (i := 341) rfl rfl, jw_tb (i := 342) rfl rfl⟩
set_option maxRecDepth 20000 in
theorem wy_L_82 : jx_YV "JointHistoryLaw" 82 y_J_count b_J_count 2 (some .int) 1 := ⟨⟨jw_tb (i := 347) rfl rfl, jw_tb (i := 344) rfl rfl, jw_tb (i := 1) rfl rfl, by decide +kernel, by decide +kernel, by decide +kernel⟩, jw_tb (i := 345) rfl rfl, jw_tb (i := 346) rfl rfl⟩
set_option maxRecDepth 20000 in
theorem wy_J_180 : jx_YV "JointHistory" 180 y_J_shownNavigables b_J_shownNavigables 3 (some .int) 0 := ⟨⟨jw_tb (i := 351) rfl rfl, jw_tb (i := 348) rfl rfl, jw_tb (i := 1) rfl rfl, by decide +kernel, by decide +kernel, by decide +kernel⟩, jw_tb (i := 350) rfl rfl, jw_pv (i := 25) (q := (y_J_shownNavigables, 9)) rfl⟩
set_option maxRecDepth 20000 in
theorem wy_J_183 : jx_YV "JointHistory" 183 y_J_allNavigables b_J_allNavigables 6 (some .int) 0 := ⟨⟨jw_tb (i := 355) rfl rfl, jw_tb (i := 352) rfl rfl, jw_tb (i := 1) rfl rfl, by decide +kernel, by decide +kernel, by decide +kernel⟩, jw_tb (i := 354) rfl rfl, jw_pv (i := 26) (q := (y_J_allNavigables, 9)) rfl⟩
set_option maxRecDepth 20000 in
theorem wy_M_74 : jx_YV "JointHistoryModel" 74 y_M_make b_M_make 8 (some .int) 2 := ⟨⟨jw_tb (i := 365) rfl rfl, jw_tb (i := 362) rfl rfl, jw_tb (i := 8) rfl rfl, by decide +kernel, by decide +kernel, by decide +kernel⟩, jw_tb (i := 364) rfl rfl, jw_pv (i := 27) (q := (y_M_make, 26)) rfl⟩
set_option maxRecDepth 20000 in
theorem wy_M_96 : jx_YV "JointHistoryModel" 96 y_M_freshOrigin b_M_freshOrigin 1 (some .int) 0 := ⟨⟨jw_tb (i := 369) rfl rfl, jw_tb (i := 366) rfl rfl, jw_tb (i := 8) rfl rfl, by decide +kernel, by decide +kernel, by decide +kernel⟩, jw_tb (i := 368) rfl rfl, jw_pv (i := 28) (q := (y_M_freshOrigin, 26)) rfl⟩
set_option maxRecDepth 20000 in
theorem wy_M_78 : jx_YV "JointHistoryModel" 78 y_M_write b_M_write 6 (some .int) 4 := ⟨⟨jw_tb (i := 373) rfl rfl, jw_tb (i := 370) rfl rfl, jw_tb (i := 8) rfl rfl, by decide +kernel, by decide +kernel, by decide +kernel⟩, jw_tb (i := 372) rfl rfl, jw_pv (i := 29) (q := (y_M_write, 26)) rfl⟩
set_option maxRecDepth 20000 in
theorem wy_M_82 : jx_YV "JointHistoryModel" 82 y_M_mark b_M_mark 3 none 0 := ⟨⟨jw_tb (i := 377) rfl rfl, jw_tb (i := 374) rfl rfl, jw_tb (i := 8) rfl rfl, by decide +kernel, by decide +kernel, by decide +kernel⟩, jw_tb (i := 376) rfl rfl, jw_pv (i := 30) (q := (y_M_mark, 26)) rfl⟩
set_option maxRecDepth 20000 in
theorem wy_M_120 : jx_YV "JointHistoryModel" 120 y_M_keep b_M_keep 2 none 1 := ⟨⟨jw_tb (i := 381) rfl rfl, jw_tb (i := 378) rfl rfl, jw_tb (i := 8) rfl rfl, by decide +kernel, by decide +kernel, by decide +kernel⟩, jw_tb (i := 380) rfl rfl, jw_pv (i := 31) (q := (y_M_keep, 26)) rfl⟩
set_option maxRecDepth 20000 in
theorem wy_M_124 : jx_YV "JointHistoryModel" 124 y_M_presentOf b_M_presentOf 5 (some .int) 1 := ⟨⟨jw_tb (i := 385) rfl rfl, jw_tb (i := 382) rfl rfl, jw_tb (i := 8) rfl rfl, by decide +kernel, by decide +kernel, by decide +kernel⟩, jw_tb (i := 384) rfl rfl, jw_pv (i := 32) (q := (y_M_presentOf, 26)) rfl⟩
set_option maxRecDepth 20000 in
theorem wy_M_127 : jx_YV "JointHistoryModel" 127 y_M_show b_M_show 2 none 1 := ⟨⟨jw_tb (i := 389) rfl rfl, jw_tb (i := 386) rfl rfl, jw_tb (i := 8) rfl rfl, by decide +kernel, by decide +kernel, by decide +kernel⟩, jw_tb (i := 388) rfl rfl, jw_pv (i := 33) (q := (y_M_show, 26)) rfl⟩
set_option maxRecDepth 20000 in
theorem wy_L_17 : jx_YV "JointHistoryLaw" 17 y_M_content b_M_content 5 (some .boolean) 4 := ⟨⟨jw_tb (i := 473) rfl rfl, jw_tb (i := 470) rfl rfl, jw_tb (i := 8) rfl rfl, by decide +kernel, by decide +kernel, by decide +kernel⟩, jw_tb (i := 471) rfl rfl, jw_tb (i := 472) rfl rfl⟩
set_option maxRecDepth 20000 in
theorem wy_M_85 : jx_YS "JointHistoryModel" 85 y_M_between b_M_between 3 (some .boolean) 3 := ⟨⟨jw_tb (i := 476) rfl rfl, jw_tb (i := 474) rfl rfl, jw_tb (i := 8) rfl rfl, by decide +kernel, by decide +kernel, by decide +kernel⟩, jw_tb (i := 475) rfl rfl⟩
set_option maxRecDepth 20000 in
theorem wy_L_22 : jx_YV "JointHistoryLaw" 22 y_M_detour b_M_detour 3 (some .boolean) 2 := ⟨⟨jw_tb (i := 480) rfl rfl, jw_tb (i := 477) rfl rfl, jw_tb (i := 8) rfl rfl, by decide +kernel, by decide +kernel, by decide +kernel⟩, jw_tb (i := 478) rfl rfl, jw_tb (i := 479) rfl rfl⟩
set_option maxRecDepth 20000 in
theorem wy_L_27 : jx_YV "JointHistoryLaw" 27 y_M_fault b_M_fault 2 (some .boolean) 1 := ⟨⟨jw_tb (i := 484) rfl rfl, jw_tb (i := 481) rfl rfl, jw_tb (i := 8) rfl rfl, by decide +kernel, by decide +kernel, by decide +kernel⟩, jw_tb (i := 482) rfl rfl, jw_tb (i := 483) rfl rfl⟩
set_option maxRecDepth 20000 in
theorem wy_L_32 : jx_YV "JointHistoryLaw" 32 y_M_navigate b_M_navigate 8 (some .int) 3 := ⟨⟨jw_tb (i := 488) rfl rfl, jw_tb (i := 485) rfl rfl, jw_tb (i := 8) rfl rfl, by decide +kernel, by decide +kernel, by decide +kernel⟩, jw_tb (i := 486) rfl rfl, jw_tb (i := 487) rfl rfl⟩
set_option maxRecDepth 20000 in
theorem wy_M_146 : jx_YV "JointHistoryModel" 146 y_M_isShown b_M_isShown 2 (some .boolean) 1 := ⟨⟨jw_tb (i := 492) rfl rfl, jw_tb (i := 489) rfl rfl, jw_tb (i := 8) rfl rfl, by decide +kernel, by decide +kernel, by decide +kernel⟩, jw_tb (i := 491) rfl rfl, jw_pv (i := 34) (q := (y_M_isShown, 26)) rfl⟩
set_option maxRecDepth 20000 in
theorem wy_M_149 : jx_YV "JointHistoryModel" 149 y_M_full b_M_full 4 (some .boolean) 1 := ⟨⟨jw_tb (i := 496) rfl rfl, jw_tb (i := 493) rfl rfl, jw_tb (i := 8) rfl rfl, by decide +kernel, by decide +kernel, by decide +kernel⟩, jw_tb (i := 495) rfl rfl, jw_pv (i := 35) (q := (y_M_full, 26)) rfl⟩
set_option maxRecDepth 20000 in
theorem wy_M_153 : jx_YS "JointHistoryModel" 153 y_M_fragment b_M_fragment 1 (some .int) 1 := ⟨⟨jw_tb (i := 499) rfl rfl, jw_tb (i := 497) rfl rfl, jw_tb (i := 8) rfl rfl, by decide +kernel, by decide +kernel, by decide +kernel⟩, jw_tb (i := 498) rfl rfl⟩
set_option maxRecDepth 20000 in
theorem wy_M_159 : jx_YV "JointHistoryModel" 159 y_M_enter b_M_enter 9 none 5 := ⟨⟨jw_tb (i := 503) rfl rfl, jw_tb (i := 500) rfl rfl, jw_tb (i := 8) rfl rfl, by decide +kernel, by decide +kernel, by decide +kernel⟩, jw_tb (i := 502) rfl rfl, jw_pv (i := 36) (q := (y_M_enter, 26)) rfl⟩
set_option maxRecDepth 20000 in
theorem wy_M_137 : jx_YV "JointHistoryModel" 137 y_M_cutOff b_M_cutOff 2 none 0 := ⟨⟨jw_tb (i := 507) rfl rfl, jw_tb (i := 504) rfl rfl, jw_tb (i := 8) rfl rfl, by decide +kernel, by decide +kernel, by decide +kernel⟩, jw_tb (i := 506) rfl rfl, jw_pv (i := 37) (q := (y_M_cutOff, 26)) rfl⟩
set_option maxRecDepth 20000 in
theorem wy_M_140 : jx_YV "JointHistoryModel" 140 y_M_load b_M_load 5 (some .int) 3 := ⟨⟨jw_tb (i := 511) rfl rfl, jw_tb (i := 508) rfl rfl, jw_tb (i := 8) rfl rfl, by decide +kernel, by decide +kernel, by decide +kernel⟩, jw_tb (i := 510) rfl rfl, jw_pv (i := 38) (q := (y_M_load, 26)) rfl⟩
set_option maxRecDepth 20000 in
theorem wy_M_111 : jx_YV "JointHistoryModel" 111 y_M_deep b_M_deep 3 (some .int) 1 := ⟨⟨jw_tb (i := 515) rfl rfl, jw_tb (i := 512) rfl rfl, jw_tb (i := 8) rfl rfl, by decide +kernel, by decide +kernel, by decide +kernel⟩, jw_tb (i := 514) rfl rfl, jw_pv (i := 39) (q := (y_M_deep, 26)) rfl⟩
set_option maxRecDepth 20000 in
theorem wy_M_114 : jx_YV "JointHistoryModel" 114 y_M_loadWindow b_M_loadWindow 10 (some .int) 2 := ⟨⟨jw_tb (i := 519) rfl rfl, jw_tb (i := 516) rfl rfl, jw_tb (i := 8) rfl rfl, by decide +kernel, by decide +kernel, by decide +kernel⟩, jw_tb (i := 518) rfl rfl, jw_pv (i := 40) (q := (y_M_loadWindow, 26)) rfl⟩
set_option maxRecDepth 20000 in
theorem wy_M_100 : jx_YV "JointHistoryModel" 100 y_M_wanted b_M_wanted 6 (some .int) 3 := ⟨⟨jw_tb (i := 523) rfl rfl, jw_tb (i := 520) rfl rfl, jw_tb (i := 8) rfl rfl, by decide +kernel, by decide +kernel, by decide +kernel⟩, jw_tb (i := 522) rfl rfl, jw_pv (i := 41) (q := (y_M_wanted, 26)) rfl⟩
set_option maxRecDepth 20000 in
theorem wy_M_104 : jx_YV "JointHistoryModel" 104 y_M_frameFor b_M_frameFor 7 (some .int) 3 := ⟨⟨jw_tb (i := 527) rfl rfl, jw_tb (i := 524) rfl rfl, jw_tb (i := 8) rfl rfl, by decide +kernel, by decide +kernel, by decide +kernel⟩, jw_tb (i := 526) rfl rfl, jw_pv (i := 42) (q := (y_M_frameFor, 26)) rfl⟩
set_option maxRecDepth 20000 in
theorem wy_M_107 : jx_YV "JointHistoryModel" 107 y_M_paperOf b_M_paperOf 3 (some .int) 1 := ⟨⟨jw_tb (i := 531) rfl rfl, jw_tb (i := 528) rfl rfl, jw_tb (i := 8) rfl rfl, by decide +kernel, by decide +kernel, by decide +kernel⟩, jw_tb (i := 530) rfl rfl, jw_pv (i := 43) (q := (y_M_paperOf, 26)) rfl⟩
set_option maxRecDepth 20000 in
theorem wy_M_117 : jx_YV "JointHistoryModel" 117 y_M_loadMiddle b_M_loadMiddle 8 (some .int) 3 := ⟨⟨jw_tb (i := 535) rfl rfl, jw_tb (i := 532) rfl rfl, jw_tb (i := 8) rfl rfl, by decide +kernel, by decide +kernel, by decide +kernel⟩, jw_tb (i := 534) rfl rfl, jw_pv (i := 44) (q := (y_M_loadMiddle, 26)) rfl⟩
set_option maxRecDepth 20000 in
theorem wy_M_143 : jx_YV "JointHistoryModel" 143 y_M_settle b_M_settle 1 none 0 := ⟨⟨jw_tb (i := 539) rfl rfl, jw_tb (i := 536) rfl rfl, jw_tb (i := 8) rfl rfl, by decide +kernel, by decide +kernel, by decide +kernel⟩, jw_tb (i := 538) rfl rfl, jw_pv (i := 45) (q := (y_M_settle, 26)) rfl⟩
set_option maxRecDepth 20000 in
theorem wy_M_133 : jx_YV "JointHistoryModel" 133 y_M_used b_M_used 3 (some .boolean) 1 := ⟨⟨jw_tb (i := 543) rfl rfl, jw_tb (i := 540) rfl rfl, jw_tb (i := 8) rfl rfl, by decide +kernel, by decide +kernel, by decide +kernel⟩, jw_tb (i := 542) rfl rfl, jw_pv (i := 46) (q := (y_M_used, 26)) rfl⟩
set_option maxRecDepth 20000 in
theorem wy_L_37 : jx_YV "JointHistoryLaw" 37 y_M_rewrite b_M_rewrite 7 (some .int) 4 := ⟨⟨jw_tb (i := 547) rfl rfl, jw_tb (i := 544) rfl rfl, jw_tb (i := 8) rfl rfl, by decide +kernel, by decide +kernel, by decide +kernel⟩, jw_tb (i := 545) rfl rfl, jw_tb (i := 546) rfl rfl⟩
set_option maxRecDepth 20000 in
theorem wy_L_42 : jx_YV "JointHistoryLaw" 42 y_M_go b_M_go 7 (some .int) 1 := ⟨⟨jw_tb (i := 551) rfl rfl, jw_tb (i := 548) rfl rfl, jw_tb (i := 8) rfl rfl, by decide +kernel, by decide +kernel, by decide +kernel⟩, jw_tb (i := 549) rfl rfl, jw_tb (i := 550) rfl rfl⟩
set_option maxRecDepth 20000 in
theorem wy_M_163 : jx_YV "JointHistoryModel" 163 y_M_stepAt b_M_stepAt 6 (some .int) 1 := ⟨⟨jw_tb (i := 555) rfl rfl, jw_tb (i := 552) rfl rfl, jw_tb (i := 8) rfl rfl, by decide +kernel, by decide +kernel, by decide +kernel⟩, jw_tb (i := 554) rfl rfl, jw_pv (i := 47) (q := (y_M_stepAt, 26)) rfl⟩
set_option maxRecDepth 20000 in
theorem wy_L_46 : jx_YV "JointHistoryLaw" 46 y_M_detach b_M_detach 3 (some .int) 1 := ⟨⟨jw_tb (i := 559) rfl rfl, jw_tb (i := 556) rfl rfl, jw_tb (i := 8) rfl rfl, by decide +kernel, by decide +kernel, by decide +kernel⟩, jw_tb (i := 557) rfl rfl, jw_tb (i := 558) rfl rfl⟩
set_option maxRecDepth 20000 in
theorem wy_L_50 : jx_YV "JointHistoryLaw" 50 y_M_url b_M_url 2 (some .int) 1 := ⟨⟨jw_tb (i := 563) rfl rfl, jw_tb (i := 560) rfl rfl, jw_tb (i := 8) rfl rfl, by decide +kernel, by decide +kernel, by decide +kernel⟩, jw_tb (i := 561) rfl rfl, jw_tb (i := 562) rfl rfl⟩
set_option maxRecDepth 20000 in
theorem wy_L_55 : jx_YV "JointHistoryLaw" 55 y_M_state b_M_state 2 (some .long) 1 := ⟨⟨jw_tb (i := 567) rfl rfl, jw_tb (i := 564) rfl rfl, jw_tb (i := 8) rfl rfl, by decide +kernel, by decide +kernel, by decide +kernel⟩, jw_tb (i := 565) rfl rfl, jw_tb (i := 566) rfl rfl⟩
set_option maxRecDepth 20000 in
theorem wy_L_59 : jx_YV "JointHistoryLaw" 59 y_M_step b_M_step 2 (some .int) 1 := ⟨⟨jw_tb (i := 572) rfl rfl, jw_tb (i := 569) rfl rfl, jw_tb (i := 8) rfl rfl, by decide +kernel, by decide +kernel, by decide +kernel⟩, jw_tb (i := 570) rfl rfl, jw_tb (i := 571) rfl rfl⟩
set_option maxRecDepth 20000 in
theorem wy_L_63 : jx_YV "JointHistoryLaw" 63 y_M_origin b_M_origin 2 (some .int) 1 := ⟨⟨jw_tb (i := 576) rfl rfl, jw_tb (i := 573) rfl rfl, jw_tb (i := 8) rfl rfl, by decide +kernel, by decide +kernel, by decide +kernel⟩, jw_tb (i := 574) rfl rfl, jw_tb (i := 575) rfl rfl⟩
set_option maxRecDepth 20000 in
theorem wy_L_68 : jx_YV "JointHistoryLaw" 68 y_M_frame b_M_frame 5 (some .int) 2 := ⟨⟨jw_tb (i := 580) rfl rfl, jw_tb (i := 577) rfl rfl, jw_tb (i := 8) rfl rfl, by decide +kernel, by decide +kernel, by decide +kernel⟩, jw_tb (i := 578) rfl rfl, jw_tb (i := 579) rfl rfl⟩
set_option maxRecDepth 20000 in
theorem wy_L_72 : jx_YV "JointHistoryLaw" 72 y_M_entries b_M_entries 4 (some .int) 1 := ⟨⟨jw_tb (i := 584) rfl rfl, jw_tb (i := 581) rfl rfl, jw_tb (i := 8) rfl rfl, by decide +kernel, by decide +kernel, by decide +kernel⟩, jw_tb (i := 582) rfl rfl, jw_tb (i := 583) rfl rfl⟩
set_option maxRecDepth 20000 in
theorem wy_L_77 : jx_YV "JointHistoryLaw" 77 y_M_present b_M_present 1 (some .int) 0 := ⟨⟨jw_tb (i := 588) rfl rfl, jw_tb (i := 585) rfl rfl, jw_tb (i := 8) rfl rfl, by decide +kernel, by decide +kernel, by decide +kernel⟩, jw_tb (i := 586) rfl rfl, jw_tb (i := 587) rfl rfl⟩
set_option maxRecDepth 20000 in
theorem wy_L_81 : jx_YV "JointHistoryLaw" 81 y_M_length b_M_length 3 (some .int) 0 := ⟨⟨jw_tb (i := 592) rfl rfl, jw_tb (i := 589) rfl rfl, jw_tb (i := 8) rfl rfl, by decide +kernel, by decide +kernel, by decide +kernel⟩, jw_tb (i := 590) rfl rfl, jw_tb (i := 591) rfl rfl⟩
set_option maxRecDepth 20000 in
theorem wy_L_85 : jx_YV "JointHistoryLaw" 85 y_M_count b_M_count 6 (some .int) 1 := ⟨⟨jw_tb (i := 596) rfl rfl, jw_tb (i := 593) rfl rfl, jw_tb (i := 8) rfl rfl, by decide +kernel, by decide +kernel, by decide +kernel⟩, jw_tb (i := 594) rfl rfl, jw_tb (i := 595) rfl rfl⟩
