theorem mf_Hb_draft : MFV yX11_draft cX11_draft 5 (some .int) 3 := ⟨tb_mem 264 (by decide +kernel) (by decide +kernel), tb_mem 262 (by decide +kernel) (by decide +kernel), tb_mem 263 (by decide +kernel) (by decide +kernel), tb_mem 1 (by decide +kernel) (by decide +kernel), ⟨by decide, by decide⟩, by decide +kernel⟩
theorem ml_L_7 : Cond.methodLink RL 7 yX11_draft ∈ TBG := tb_mem 261 (by decide +kernel) (by decide +kernel)
theorem mf_Lw_draft : MFW yL_draft cL_draft 6 (some .int) [(0, 12, 15, 13), (0, 12, 19, 15)] 5 := ⟨tb_mem 258 (by decide +kernel) (by decide +kernel), tb_mem 257 (by decide +kernel) (by decide +kernel), tb_mem 0 (by decide +kernel) (by decide +kernel), ⟨by decide, by decide⟩, by decide +kernel⟩
theorem mf_Hb_put : MFV yX11_put cX11_put 6 (some .int) 3 := ⟨tb_mem 368 (by decide +kernel) (by decide +kernel), tb_mem 366 (by decide +kernel) (by decide +kernel), tb_mem 367 (by decide +kernel) (by decide +kernel), tb_mem 1 (by decide +kernel) (by decide +kernel), ⟨by decide, by decide⟩, by decide +kernel⟩
theorem ml_L_17 : Cond.methodLink RL 17 yX11_put ∈ TBG := tb_mem 365 (by decide +kernel) (by decide +kernel)
theorem mf_Lw_put : MFW yL_put cL_put 6 (some .int) [(0, 12, 15, 20), (0, 12, 19, 13), (0, 12, 23, 15)] 5 := ⟨tb_mem 363 (by decide +kernel) (by decide +kernel), tb_mem 362 (by decide +kernel) (by decide +kernel), tb_mem 0 (by decide +kernel) (by decide +kernel), ⟨by decide, by decide⟩, by decide +kernel⟩
theorem mf_Hb_delete : MFV yX11_delete cX11_delete 4 (some .int) 2 := ⟨tb_mem 961 (by decide +kernel) (by decide +kernel), tb_mem 959 (by decide +kernel) (by decide +kernel), tb_mem 960 (by decide +kernel) (by decide +kernel), tb_mem 1 (by decide +kernel) (by decide +kernel), ⟨by decide, by decide⟩, by decide +kernel⟩
theorem ml_L_22 : Cond.methodLink RL 22 yX11_delete ∈ TBG := tb_mem 958 (by decide +kernel) (by decide +kernel)
theorem mf_Lw_delete : MFW yL_delete cL_delete 5 (some .int) [(0, 10, 13, 20), (0, 10, 17, 13), (0, 10, 21, 15)] 4 := ⟨tb_mem 957 (by decide +kernel) (by decide +kernel), tb_mem 956 (by decide +kernel) (by decide +kernel), tb_mem 0 (by decide +kernel) (by decide +kernel), ⟨by decide, by decide⟩, by decide +kernel⟩
theorem mf_Hb_drop : MFV yX11_drop cX11_drop 6 (some .int) 3 := ⟨tb_mem 968 (by decide +kernel) (by decide +kernel), tb_mem 966 (by decide +kernel) (by decide +kernel), tb_mem 967 (by decide +kernel) (by decide +kernel), tb_mem 1 (by decide +kernel) (by decide +kernel), ⟨by decide, by decide⟩, by decide +kernel⟩
theorem ml_L_26 : Cond.methodLink RL 26 yX11_drop ∈ TBG := tb_mem 965 (by decide +kernel) (by decide +kernel)
theorem mf_Lw_drop : MFW yL_drop cL_drop 6 (some .int) [(0, 12, 15, 20), (0, 12, 19, 13), (0, 12, 23, 15)] 5 := ⟨tb_mem 964 (by decide +kernel) (by decide +kernel), tb_mem 963 (by decide +kernel) (by decide +kernel), tb_mem 0 (by decide +kernel) (by decide +kernel), ⟨by decide, by decide⟩, by decide +kernel⟩
theorem mf_Hb_lock : MFV yX11_lock cX11_lock 7 (some .int) 4 := ⟨tb_mem 1011 (by decide +kernel) (by decide +kernel), tb_mem 1009 (by decide +kernel) (by decide +kernel), tb_mem 1010 (by decide +kernel) (by decide +kernel), tb_mem 1 (by decide +kernel) (by decide +kernel), ⟨by decide, by decide⟩, by decide +kernel⟩
theorem ml_L_29 : Cond.methodLink RL 29 yX11_lock ∈ TBG := tb_mem 1008 (by decide +kernel) (by decide +kernel)
theorem mf_Lw_lock : MFW yL_lock cL_lock 7 (some .int) [(0, 14, 17, 20), (0, 14, 21, 13), (0, 14, 25, 15)] 6 := ⟨tb_mem 1007 (by decide +kernel) (by decide +kernel), tb_mem 1006 (by decide +kernel) (by decide +kernel), tb_mem 0 (by decide +kernel) (by decide +kernel), ⟨by decide, by decide⟩, by decide +kernel⟩
theorem mf_Hb_read : MFV yX11_read cX11_read 6 (some .int) 4 := ⟨tb_mem 1018 (by decide +kernel) (by decide +kernel), tb_mem 1016 (by decide +kernel) (by decide +kernel), tb_mem 1017 (by decide +kernel) (by decide +kernel), tb_mem 1 (by decide +kernel) (by decide +kernel), ⟨by decide, by decide⟩, by decide +kernel⟩
theorem ml_L_33 : Cond.methodLink RL 33 yX11_read ∈ TBG := tb_mem 1015 (by decide +kernel) (by decide +kernel)
theorem mf_Lw_read : MFW yL_read cL_read 7 (some .int) [(0, 14, 17, 20), (0, 14, 21, 13)] 6 := ⟨tb_mem 1014 (by decide +kernel) (by decide +kernel), tb_mem 1013 (by decide +kernel) (by decide +kernel), tb_mem 0 (by decide +kernel) (by decide +kernel), ⟨by decide, by decide⟩, by decide +kernel⟩
theorem mf_Hb_ask : MFV yX11_ask cX11_ask 5 (some .int) 3 := ⟨tb_mem 1078 (by decide +kernel) (by decide +kernel), tb_mem 1076 (by decide +kernel) (by decide +kernel), tb_mem 1077 (by decide +kernel) (by decide +kernel), tb_mem 1 (by decide +kernel) (by decide +kernel), ⟨by decide, by decide⟩, by decide +kernel⟩
theorem ml_L_36 : Cond.methodLink RL 36 yX11_ask ∈ TBG := tb_mem 1075 (by decide +kernel) (by decide +kernel)
theorem mf_Lw_ask : MFW yL_ask cL_ask 6 (some .int) [(0, 12, 15, 20), (0, 12, 19, 13), (0, 12, 23, 15)] 5 := ⟨tb_mem 1074 (by decide +kernel) (by decide +kernel), tb_mem 1073 (by decide +kernel) (by decide +kernel), tb_mem 0 (by decide +kernel) (by decide +kernel), ⟨by decide, by decide⟩, by decide +kernel⟩
theorem mf_Hb_upload : MFV yX11_upload cX11_upload 4 (some .int) 2 := ⟨tb_mem 1087 (by decide +kernel) (by decide +kernel), tb_mem 1085 (by decide +kernel) (by decide +kernel), tb_mem 1086 (by decide +kernel) (by decide +kernel), tb_mem 1 (by decide +kernel) (by decide +kernel), ⟨by decide, by decide⟩, by decide +kernel⟩
theorem ml_L_39 : Cond.methodLink RL 39 yX11_upload ∈ TBG := tb_mem 1084 (by decide +kernel) (by decide +kernel)
theorem mf_Lw_upload : MFW yL_upload cL_upload 5 (some .int) [(0, 10, 13, 20), (0, 10, 17, 13), (0, 10, 21, 15)] 4 := ⟨tb_mem 1083 (by decide +kernel) (by decide +kernel), tb_mem 1082 (by decide +kernel) (by decide +kernel), tb_mem 0 (by decide +kernel) (by decide +kernel), ⟨by decide, by decide⟩, by decide +kernel⟩
theorem mf_Hb_piece : MFV yX11_piece cX11_piece 4 (some .int) 2 := ⟨tb_mem 1119 (by decide +kernel) (by decide +kernel), tb_mem 1117 (by decide +kernel) (by decide +kernel), tb_mem 1118 (by decide +kernel) (by decide +kernel), tb_mem 1 (by decide +kernel) (by decide +kernel), ⟨by decide, by decide⟩, by decide +kernel⟩
theorem ml_L_42 : Cond.methodLink RL 42 yX11_piece ∈ TBG := tb_mem 1116 (by decide +kernel) (by decide +kernel)
theorem mf_Lw_piece : MFW yL_piece cL_piece 5 (some .int) [(0, 10, 13, 20), (0, 10, 17, 13), (0, 10, 21, 15)] 4 := ⟨tb_mem 1115 (by decide +kernel) (by decide +kernel), tb_mem 1114 (by decide +kernel) (by decide +kernel), tb_mem 0 (by decide +kernel) (by decide +kernel), ⟨by decide, by decide⟩, by decide +kernel⟩
theorem mf_Hb_finish : MFV yX11_finish cX11_finish 5 (some .int) 2 := ⟨tb_mem 1146 (by decide +kernel) (by decide +kernel), tb_mem 1144 (by decide +kernel) (by decide +kernel), tb_mem 1145 (by decide +kernel) (by decide +kernel), tb_mem 1 (by decide +kernel) (by decide +kernel), ⟨by decide, by decide⟩, by decide +kernel⟩
theorem ml_L_45 : Cond.methodLink RL 45 yX11_finish ∈ TBG := tb_mem 1143 (by decide +kernel) (by decide +kernel)
theorem mf_Lw_finish : MFW yL_finish cL_finish 5 (some .int) [(0, 10, 13, 20), (0, 10, 17, 15)] 4 := ⟨tb_mem 1142 (by decide +kernel) (by decide +kernel), tb_mem 1141 (by decide +kernel) (by decide +kernel), tb_mem 0 (by decide +kernel) (by decide +kernel), ⟨by decide, by decide⟩, by decide +kernel⟩
theorem mf_Hb_list : MFV yX11_list cX11_list 9 (some .int) 4 := ⟨tb_mem 1157 (by decide +kernel) (by decide +kernel), tb_mem 1155 (by decide +kernel) (by decide +kernel), tb_mem 1156 (by decide +kernel) (by decide +kernel), tb_mem 1 (by decide +kernel) (by decide +kernel), ⟨by decide, by decide⟩, by decide +kernel⟩
theorem ml_L_49 : Cond.methodLink RL 49 yX11_list ∈ TBG := tb_mem 1154 (by decide +kernel) (by decide +kernel)
theorem mf_Lw_list : MFW yL_list cL_list 7 (some .int) [(0, 14, 17, 20), (0, 14, 21, 13)] 6 := ⟨tb_mem 1153 (by decide +kernel) (by decide +kernel), tb_mem 1152 (by decide +kernel) (by decide +kernel), tb_mem 0 (by decide +kernel) (by decide +kernel), ⟨by decide, by decide⟩, by decide +kernel⟩
theorem mf_Hb_version : MFV yX11_version cX11_version 5 (some .int) 3 := ⟨tb_mem 1182 (by decide +kernel) (by decide +kernel), tb_mem 1180 (by decide +kernel) (by decide +kernel), tb_mem 1181 (by decide +kernel) (by decide +kernel), tb_mem 1 (by decide +kernel) (by decide +kernel), ⟨by decide, by decide⟩, by decide +kernel⟩
theorem ml_L_52 : Cond.methodLink RL 52 yX11_version ∈ TBG := tb_mem 1179 (by decide +kernel) (by decide +kernel)
theorem mf_Lw_version : MFW yL_version cL_version 6 (some .int) [(0, 12, 15, 20), (0, 12, 19, 13)] 5 := ⟨tb_mem 1178 (by decide +kernel) (by decide +kernel), tb_mem 1177 (by decide +kernel) (by decide +kernel), tb_mem 0 (by decide +kernel) (by decide +kernel), ⟨by decide, by decide⟩, by decide +kernel⟩
theorem mf_Hb_about : MFV yX11_about cX11_about 6 (some .int) 4 := ⟨tb_mem 1193 (by decide +kernel) (by decide +kernel), tb_mem 1191 (by decide +kernel) (by decide +kernel), tb_mem 1192 (by decide +kernel) (by decide +kernel), tb_mem 1 (by decide +kernel) (by decide +kernel), ⟨by decide, by decide⟩, by decide +kernel⟩
theorem ml_L_55 : Cond.methodLink RL 55 yX11_about ∈ TBG := tb_mem 1190 (by decide +kernel) (by decide +kernel)
theorem mf_Lw_about : MFW yL_about cL_about 7 (some .int) [(0, 14, 17, 20), (0, 14, 21, 13)] 6 := ⟨tb_mem 1189 (by decide +kernel) (by decide +kernel), tb_mem 1188 (by decide +kernel) (by decide +kernel), tb_mem 0 (by decide +kernel) (by decide +kernel), ⟨by decide, by decide⟩, by decide +kernel⟩
theorem mf_Hb_part : MFV yX11_part cX11_part 6 (some .int) 4 := ⟨tb_mem 1200 (by decide +kernel) (by decide +kernel), tb_mem 1198 (by decide +kernel) (by decide +kernel), tb_mem 1199 (by decide +kernel) (by decide +kernel), tb_mem 1 (by decide +kernel) (by decide +kernel), ⟨by decide, by decide⟩, by decide +kernel⟩
theorem ml_L_58 : Cond.methodLink RL 58 yX11_part ∈ TBG := tb_mem 1197 (by decide +kernel) (by decide +kernel)
theorem mf_Lw_part : MFW yL_part cL_part 7 (some .int) [(0, 14, 17, 20), (0, 14, 21, 13)] 6 := ⟨tb_mem 1196 (by decide +kernel) (by decide +kernel), tb_mem 1195 (by decide +kernel) (by decide +kernel), tb_mem 0 (by decide +kernel) (by decide +kernel), ⟨by decide, by decide⟩, by decide +kernel⟩
theorem mf_Hb_partIs : MFV yX11_partIs cX11_partIs 5 (some .int) 3 := ⟨tb_mem 1207 (by decide +kernel) (by decide +kernel), tb_mem 1205 (by decide +kernel) (by decide +kernel), tb_mem 1206 (by decide +kernel) (by decide +kernel), tb_mem 1 (by decide +kernel) (by decide +kernel), ⟨by decide, by decide⟩, by decide +kernel⟩
theorem ml_L_61 : Cond.methodLink RL 61 yX11_partIs ∈ TBG := tb_mem 1204 (by decide +kernel) (by decide +kernel)
theorem mf_Lw_partIs : MFW yL_partIs cL_partIs 6 (some .int) [(0, 12, 15, 20), (0, 12, 19, 13)] 5 := ⟨tb_mem 1203 (by decide +kernel) (by decide +kernel), tb_mem 1202 (by decide +kernel) (by decide +kernel), tb_mem 0 (by decide +kernel) (by decide +kernel), ⟨by decide, by decide⟩, by decide +kernel⟩
theorem mf_Hb_node : MFV yX11_node cX11_node 5 (some .int) 3 := ⟨tb_mem 1221 (by decide +kernel) (by decide +kernel), tb_mem 1219 (by decide +kernel) (by decide +kernel), tb_mem 1220 (by decide +kernel) (by decide +kernel), tb_mem 1 (by decide +kernel) (by decide +kernel), ⟨by decide, by decide⟩, by decide +kernel⟩
theorem ml_L_64 : Cond.methodLink RL 64 yX11_node ∈ TBG := tb_mem 1218 (by decide +kernel) (by decide +kernel)
theorem mf_Lw_node : MFW yL_node cL_node 6 (some .int) [(0, 12, 15, 20), (0, 12, 19, 15)] 5 := ⟨tb_mem 1217 (by decide +kernel) (by decide +kernel), tb_mem 1216 (by decide +kernel) (by decide +kernel), tb_mem 0 (by decide +kernel) (by decide +kernel), ⟨by decide, by decide⟩, by decide +kernel⟩
theorem mf_Hb_rot : MFV yX11_rot cX11_rot 5 (some .boolean) 3 := ⟨tb_mem 1241 (by decide +kernel) (by decide +kernel), tb_mem 1239 (by decide +kernel) (by decide +kernel), tb_mem 1240 (by decide +kernel) (by decide +kernel), tb_mem 1 (by decide +kernel) (by decide +kernel), ⟨by decide, by decide⟩, by decide +kernel⟩
theorem ml_L_68 : Cond.methodLink RL 68 yX11_rot ∈ TBG := tb_mem 1238 (by decide +kernel) (by decide +kernel)
theorem mf_Lw_rot : MFW yL_rot cL_rot 6 (some .int) [(0, 19, 22, 20), (0, 19, 26, 13)] 5 := ⟨tb_mem 1237 (by decide +kernel) (by decide +kernel), tb_mem 1236 (by decide +kernel) (by decide +kernel), tb_mem 0 (by decide +kernel) (by decide +kernel), ⟨by decide, by decide⟩, by decide +kernel⟩
theorem mf_Hb_mend : MFV yX11_mend cX11_mend 5 (some .int) 2 := ⟨tb_mem 1254 (by decide +kernel) (by decide +kernel), tb_mem 1252 (by decide +kernel) (by decide +kernel), tb_mem 1253 (by decide +kernel) (by decide +kernel), tb_mem 1 (by decide +kernel) (by decide +kernel), ⟨by decide, by decide⟩, by decide +kernel⟩
theorem ml_L_72 : Cond.methodLink RL 72 yX11_mend ∈ TBG := tb_mem 1251 (by decide +kernel) (by decide +kernel)
theorem mf_Lw_mend : MFW yL_mend cL_mend 5 (some .int) [(0, 10, 13, 20), (0, 10, 17, 13)] 4 := ⟨tb_mem 1250 (by decide +kernel) (by decide +kernel), tb_mem 1249 (by decide +kernel) (by decide +kernel), tb_mem 0 (by decide +kernel) (by decide +kernel), ⟨by decide, by decide⟩, by decide +kernel⟩
theorem mf_Hb_sweep : MFV yX11_sweep cX11_sweep 4 (some .int) 2 := ⟨tb_mem 1272 (by decide +kernel) (by decide +kernel), tb_mem 1270 (by decide +kernel) (by decide +kernel), tb_mem 1271 (by decide +kernel) (by decide +kernel), tb_mem 1 (by decide +kernel) (by decide +kernel), ⟨by decide, by decide⟩, by decide +kernel⟩
theorem ml_L_75 : Cond.methodLink RL 75 yX11_sweep ∈ TBG := tb_mem 1269 (by decide +kernel) (by decide +kernel)
theorem mf_Lw_sweep : MFW yL_sweep cL_sweep 5 (some .int) [(0, 10, 13, 20), (0, 10, 17, 13)] 4 := ⟨tb_mem 1268 (by decide +kernel) (by decide +kernel), tb_mem 1267 (by decide +kernel) (by decide +kernel), tb_mem 0 (by decide +kernel) (by decide +kernel), ⟨by decide, by decide⟩, by decide +kernel⟩
theorem mf_Hb_rule : MFV yX11_rule cX11_rule 4 (some .int) 3 := ⟨tb_mem 1283 (by decide +kernel) (by decide +kernel), tb_mem 1281 (by decide +kernel) (by decide +kernel), tb_mem 1282 (by decide +kernel) (by decide +kernel), tb_mem 1 (by decide +kernel) (by decide +kernel), ⟨by decide, by decide⟩, by decide +kernel⟩
theorem ml_L_78 : Cond.methodLink RL 78 yX11_rule ∈ TBG := tb_mem 1280 (by decide +kernel) (by decide +kernel)
theorem mf_Lw_rule : MFW yL_rule cL_rule 6 (some .int) [(0, 12, 15, 13), (0, 12, 19, 15)] 5 := ⟨tb_mem 1279 (by decide +kernel) (by decide +kernel), tb_mem 1278 (by decide +kernel) (by decide +kernel), tb_mem 0 (by decide +kernel) (by decide +kernel), ⟨by decide, by decide⟩, by decide +kernel⟩
theorem mf_Hb_pass : MFV yX11_pass cX11_pass 3 (some .int) 1 := ⟨tb_mem 1307 (by decide +kernel) (by decide +kernel), tb_mem 1305 (by decide +kernel) (by decide +kernel), tb_mem 1306 (by decide +kernel) (by decide +kernel), tb_mem 1 (by decide +kernel) (by decide +kernel), ⟨by decide, by decide⟩, by decide +kernel⟩
theorem ml_L_81 : Cond.methodLink RL 81 yX11_pass ∈ TBG := tb_mem 1304 (by decide +kernel) (by decide +kernel)
theorem mf_Lw_pass : MFW yL_pass cL_pass 4 (some .int) [(0, 9, 12, 13)] 3 := ⟨tb_mem 1303 (by decide +kernel) (by decide +kernel), tb_mem 1302 (by decide +kernel) (by decide +kernel), tb_mem 0 (by decide +kernel) (by decide +kernel), ⟨by decide, by decide⟩, by decide +kernel⟩
theorem mf_Hb_cost : MFV yX11_cost cX11_cost 2 (some .int) 1 := ⟨tb_mem 1340 (by decide +kernel) (by decide +kernel), tb_mem 1338 (by decide +kernel) (by decide +kernel), tb_mem 1339 (by decide +kernel) (by decide +kernel), tb_mem 1 (by decide +kernel) (by decide +kernel), ⟨by decide, by decide⟩, by decide +kernel⟩
theorem ml_L_85 : Cond.methodLink RL 85 yX11_cost ∈ TBG := tb_mem 1337 (by decide +kernel) (by decide +kernel)
theorem mf_Lw_cost : MFW yL_cost cL_cost 4 (some .int) [(0, 9, 12, 13)] 3 := ⟨tb_mem 1336 (by decide +kernel) (by decide +kernel), tb_mem 1335 (by decide +kernel) (by decide +kernel), tb_mem 0 (by decide +kernel) (by decide +kernel), ⟨by decide, by decide⟩, by decide +kernel⟩
theorem mf_Hb_follow : MFV yX11_follow cX11_follow 6 (some .int) 2 := ⟨tb_mem 1347 (by decide +kernel) (by decide +kernel), tb_mem 1345 (by decide +kernel) (by decide +kernel), tb_mem 1346 (by decide +kernel) (by decide +kernel), tb_mem 1 (by decide +kernel) (by decide +kernel), ⟨by decide, by decide⟩, by decide +kernel⟩
theorem ml_L_88 : Cond.methodLink RL 88 yX11_follow ∈ TBG := tb_mem 1344 (by decide +kernel) (by decide +kernel)
theorem mf_Lw_follow : MFW yL_follow cL_follow 5 (some .int) [(0, 10, 13, 20), (0, 10, 17, 13)] 4 := ⟨tb_mem 1343 (by decide +kernel) (by decide +kernel), tb_mem 1342 (by decide +kernel) (by decide +kernel), tb_mem 0 (by decide +kernel) (by decide +kernel), ⟨by decide, by decide⟩, by decide +kernel⟩
theorem mf_Hb_behind : MFV yX11_behind cX11_behind 2 (some .int) 1 := ⟨tb_mem 1367 (by decide +kernel) (by decide +kernel), tb_mem 1365 (by decide +kernel) (by decide +kernel), tb_mem 1366 (by decide +kernel) (by decide +kernel), tb_mem 1 (by decide +kernel) (by decide +kernel), ⟨by decide, by decide⟩, by decide +kernel⟩
theorem ml_L_91 : Cond.methodLink RL 91 yX11_behind ∈ TBG := tb_mem 1364 (by decide +kernel) (by decide +kernel)
theorem mf_Lw_behind : MFW yL_behind cL_behind 4 (some .int) [(0, 9, 12, 20)] 3 := ⟨tb_mem 1363 (by decide +kernel) (by decide +kernel), tb_mem 1362 (by decide +kernel) (by decide +kernel), tb_mem 0 (by decide +kernel) (by decide +kernel), ⟨by decide, by decide⟩, by decide +kernel⟩
theorem mf_Hb_agrees : MFV yX11_agrees cX11_agrees 2 (some .boolean) 1 := ⟨tb_mem 1374 (by decide +kernel) (by decide +kernel), tb_mem 1372 (by decide +kernel) (by decide +kernel), tb_mem 1373 (by decide +kernel) (by decide +kernel), tb_mem 1 (by decide +kernel) (by decide +kernel), ⟨by decide, by decide⟩, by decide +kernel⟩
theorem ml_L_94 : Cond.methodLink RL 94 yX11_agrees ∈ TBG := tb_mem 1371 (by decide +kernel) (by decide +kernel)
theorem mf_Lw_agrees : MFW yL_agrees cL_agrees 4 (some .int) [(0, 16, 19, 20)] 3 := ⟨tb_mem 1370 (by decide +kernel) (by decide +kernel), tb_mem 1369 (by decide +kernel) (by decide +kernel), tb_mem 0 (by decide +kernel) (by decide +kernel), ⟨by decide, by decide⟩, by decide +kernel⟩
theorem mf_Hb_letter : MFV yX11_letter cX11_letter 4 (some .char) 2 := ⟨tb_mem 1402 (by decide +kernel) (by decide +kernel), tb_mem 1400 (by decide +kernel) (by decide +kernel), tb_mem 1401 (by decide +kernel) (by decide +kernel), tb_mem 1 (by decide +kernel) (by decide +kernel), ⟨by decide, by decide⟩, by decide +kernel⟩
theorem ml_L_98 : Cond.methodLink RL 98 yX11_letter ∈ TBG := tb_mem 1399 (by decide +kernel) (by decide +kernel)
theorem mf_Lw_letter : MFW yL_letter cL_letter 5 (some .int) [(0, 10, 13, 13), (0, 10, 17, 20)] 4 := ⟨tb_mem 1398 (by decide +kernel) (by decide +kernel), tb_mem 1397 (by decide +kernel) (by decide +kernel), tb_mem 0 (by decide +kernel) (by decide +kernel), ⟨by decide, by decide⟩, by decide +kernel⟩
theorem nc_0 : Cond.castable (exn 0) (exn 0) ∈ NST := ns_mem 378 (by decide +kernel) (by decide +kernel)
theorem nc_1 : Cond.castable (exn 1) (exn 1) ∈ NST := ns_mem 273 (by decide +kernel) (by decide +kernel)
theorem nc_2 : Cond.castable (exn 2) (exn 2) ∈ NST := ns_mem 343 (by decide +kernel) (by decide +kernel)
theorem lc_1 : Cond.classLink "BlobHarborLaw" 13 (exn 1) ∈ TBG := tb_mem 259 (by decide +kernel) (by decide +kernel)
theorem lc_2 : Cond.classLink "BlobHarborLaw" 15 (exn 2) ∈ TBG := tb_mem 260 (by decide +kernel) (by decide +kernel)
theorem lc_0 : Cond.classLink "BlobHarborLaw" 20 (exn 0) ∈ TBG := tb_mem 364 (by decide +kernel) (by decide +kernel)
def pLw_draft : List BR := [(0, .aload 4, 2, 0, 2), (2, .iconst 0, 1, 0, 3), (3, .aload_n 0, 1, 0, 4), (4, .iload_n 1, 1, 0, 5), (5, .iload_n 2, 1, 0, 6), (6, .iload_n 3, 1, 0, 7), (7, .invokevirtual 7, 3, 0, 10), (10, .i2l, 1, 0, 11), (11, .lastore, 1, 0, 12), (12, .goto (11), 3, 0, 23), (15, .astore 5, 2, 0, 17), (17, .iconst 1, 1, 1, 18), (18, .ireturn, 1, 0, 19), (19, .astore 5, 2, 0, 21), (21, .iconst 2, 1, 2, 22), (22, .ireturn, 1, 0, 23), (23, .iconst 0, 1, 0, 24), (24, .ireturn, 1, 0, 25)]
theorem kLw_draft : bOK cL_draft 6 pLw_draft = true := by decide +kernel
def fLw_draft (r0 : Option Nat) (x1 : Int32) (x2 : Int32) (x3 : Int32) (r4 : Option Nat) (M : Mm) (n : Nat) : Option (Int32 × Mm × Nat) :=
  rk 11 r0 M fun a1 =>
  bdT (fHb_draft a1 x1 x2 x3 M n) n (fun v M1 n1 =>
    asJ r4 0 v.toInt64 M1 fun M2 =>
    some (0, M2, n1))
    (fun k M1 n1 => if k = 1 then some (1, M1, n1) else if k = 2 then some (2, M1, n1) else none)
theorem wLw_draft {X : MC} {G : GE} {n0 : Nat} (C : CX X G RL cL_draft pLw_draft 6 (some .int) n0) (htab : X.2.2.2.2.2.2.2.2.exceptionTable.toList = tableOf [(0, 12, 15, 13), (0, 12, 19, 15)]) {σ : Sg} (r0 : Option Nat) (x1 : Int32) (x2 : Int32) (x3 : Int32) (r4 : Option Nat) (M : Mm) (n : Nat) : JS X G 6 300 0 n0 (EM X G n0 9 300 (eL σ)) (fLw_draft r0 x1 x2 x3 r4 M n) (σ, M, n) 0 [(0, .inr (.inl r0)), (1, .inl x1), (2, .inl x2), (3, .inl x3), (4, .inr (.inl r4))] [] := by
  unfold fLw_draft
  refine s_blk C 0 6 [] (pc' := 7) (lv' := []) (st' := [.inl x3, .inl x2, .inl x1, .inr (.inl r0), .inl 0, .inr (.inl r4)]) rfl ?_
  refine s_rk (fun a1 ha hk => ?_)
  subst ha
  refine s_T (CE_EM _ _ _ _ _ _) (st := [.inl 0, .inr (.inl r4)]) (fun o ho => j_callV (As := [.inl x1, .inl x2, .inl x3]) (st := [.inl 0, .inr (.inl r4)]) (b := a1) C 6 rfl mf_Hb_draft ml_L_7 rfl (recv_K C (by decide) (by decide) rfl hk) (by decide) (by decide) (Nat.le_refl _) rfl (cHb_draft (CX_tr C) σ M n a1 x1 x2 x3 o ho)) (fun v M1 n1 _ => ?_) (fun k M1 n1 _ => ?_)
  · refine s_blk C 7 1 [] (pc' := 11) (lv' := []) (st' := [.inr (.inr v.toInt64), .inl 0, .inr (.inl r4)]) rfl ?_
    refine s_stJ C 8 rfl (fun M2 _ => ?_)
    refine s_blk C 9 1 [] (pc' := 23) (lv' := []) (st' := []) rfl ?_
    refine s_blk C 16 1 [] (pc' := 24) (lv' := []) (st' := [.inl 0]) rfl ?_
    exact s_iret C 17 rfl rfl
  refine jsx_if (fun hk => ?_) ?_
  · subst hk
    refine jsx_catch C htab 0 rfl (by decide) (by decide) (by decide) lc_1 nc_1 (fun z hz => by cases hz) (fun q9 => ?_)
    refine s_blk C 10 2 [] (pc' := 18) (lv' := []) (st' := [.inl 1]) rfl ?_
    exact s_iret C 12 rfl rfl
  refine jsx_if (fun hk => ?_) ?_
  · subst hk
    refine jsx_catch C htab 1 rfl (by decide) (by decide) (by decide) lc_2 nc_2 (fun z hz => by
        rcases List.mem_cons.mp hz with rfl | hz
        · exact ⟨by decide, exn 1, lc_1, by decide⟩
        · cases hz) (fun q9 => ?_)
    refine s_blk C 13 2 [] (pc' := 22) (lv' := []) (st' := [.inl 2]) rfl ?_
    exact s_iret C 15 rfl rfl
  exact jsx_none
theorem cLw_draft {l : Launch} {G : GE} (htr : l.stackTraces = false) (σ : Sg) (M : Mm) (n : Nat) (r0 : Option Nat) (x1 : Int32) (x2 : Int32) (x3 : Int32) (r4 : Option Nat) : ∀ o, fLw_draft r0 x1 x2 x3 r4 M n = some o → MetW l G yL_draft cL_draft 6 (some .int) [(0, 12, 15, 13), (0, 12, 19, 15)] 9 300 [.inr (.inl r0), .inl x1, .inl x2, .inl x3, .inr (.inl r4)] (σ, M, n) (eL σ o) :=
  c_ofW (fun _ => ⟨_, rfl⟩) (by decide) kLw_draft htr rfl rfl fun X _ C htab => wLw_draft C htab r0 x1 x2 x3 r4 M n
def pLw_put : List BR := [(0, .aload 4, 2, 0, 2), (2, .iconst 0, 1, 0, 3), (3, .aload_n 0, 1, 0, 4), (4, .iload_n 1, 1, 0, 5), (5, .iload_n 2, 1, 0, 6), (6, .iload_n 3, 1, 0, 7), (7, .invokevirtual 17, 3, 0, 10), (10, .i2l, 1, 0, 11), (11, .lastore, 1, 0, 12), (12, .goto (15), 3, 0, 27), (15, .astore 5, 2, 0, 17), (17, .iconst 1, 1, 1, 18), (18, .ireturn, 1, 0, 19), (19, .astore 5, 2, 0, 21), (21, .iconst 2, 1, 2, 22), (22, .ireturn, 1, 0, 23), (23, .astore 5, 2, 0, 25), (25, .iconst 3, 1, 3, 26), (26, .ireturn, 1, 0, 27), (27, .iconst 0, 1, 0, 28), (28, .ireturn, 1, 0, 29)]
theorem kLw_put : bOK cL_put 6 pLw_put = true := by decide +kernel
def fLw_put (r0 : Option Nat) (x1 : Int32) (x2 : Int32) (x3 : Int32) (r4 : Option Nat) (M : Mm) (n : Nat) : Option (Int32 × Mm × Nat) :=
  rk 11 r0 M fun a1 =>
  bdT (fHb_put a1 x1 x2 x3 M n) n (fun v M1 n1 =>
    asJ r4 0 v.toInt64 M1 fun M2 =>
    some (0, M2, n1))
    (fun k M1 n1 => if k = 0 then some (1, M1, n1) else if k = 1 then some (2, M1, n1) else if k = 2 then some (3, M1, n1) else none)
theorem wLw_put {X : MC} {G : GE} {n0 : Nat} (C : CX X G RL cL_put pLw_put 6 (some .int) n0) (htab : X.2.2.2.2.2.2.2.2.exceptionTable.toList = tableOf [(0, 12, 15, 20), (0, 12, 19, 13), (0, 12, 23, 15)]) {σ : Sg} (r0 : Option Nat) (x1 : Int32) (x2 : Int32) (x3 : Int32) (r4 : Option Nat) (M : Mm) (n : Nat) : JS X G 6 300 0 n0 (EM X G n0 13 300 (eL σ)) (fLw_put r0 x1 x2 x3 r4 M n) (σ, M, n) 0 [(0, .inr (.inl r0)), (1, .inl x1), (2, .inl x2), (3, .inl x3), (4, .inr (.inl r4))] [] := by
  unfold fLw_put
  refine s_blk C 0 6 [] (pc' := 7) (lv' := []) (st' := [.inl x3, .inl x2, .inl x1, .inr (.inl r0), .inl 0, .inr (.inl r4)]) rfl ?_
  refine s_rk (fun a1 ha hk => ?_)
  subst ha
  refine s_T (CE_EM _ _ _ _ _ _) (st := [.inl 0, .inr (.inl r4)]) (fun o ho => j_callV (As := [.inl x1, .inl x2, .inl x3]) (st := [.inl 0, .inr (.inl r4)]) (b := a1) C 6 rfl mf_Hb_put ml_L_17 rfl (recv_K C (by decide) (by decide) rfl hk) (by decide) (by decide) (Nat.le_refl _) rfl (cHb_put (CX_tr C) σ M n a1 x1 x2 x3 o ho)) (fun v M1 n1 _ => ?_) (fun k M1 n1 _ => ?_)
  · refine s_blk C 7 1 [] (pc' := 11) (lv' := []) (st' := [.inr (.inr v.toInt64), .inl 0, .inr (.inl r4)]) rfl ?_
    refine s_stJ C 8 rfl (fun M2 _ => ?_)
    refine s_blk C 9 1 [] (pc' := 27) (lv' := []) (st' := []) rfl ?_
    refine s_blk C 19 1 [] (pc' := 28) (lv' := []) (st' := [.inl 0]) rfl ?_
    exact s_iret C 20 rfl rfl
  refine jsx_if (fun hk => ?_) ?_
  · subst hk
    refine jsx_catch C htab 0 rfl (by decide) (by decide) (by decide) lc_0 nc_0 (fun z hz => by cases hz) (fun q9 => ?_)
    refine s_blk C 10 2 [] (pc' := 18) (lv' := []) (st' := [.inl 1]) rfl ?_
    exact s_iret C 12 rfl rfl
  refine jsx_if (fun hk => ?_) ?_
  · subst hk
    refine jsx_catch C htab 1 rfl (by decide) (by decide) (by decide) lc_1 nc_1 (fun z hz => by
        rcases List.mem_cons.mp hz with rfl | hz
        · exact ⟨by decide, exn 0, lc_0, by decide⟩
        · cases hz) (fun q9 => ?_)
    refine s_blk C 13 2 [] (pc' := 22) (lv' := []) (st' := [.inl 2]) rfl ?_
    exact s_iret C 15 rfl rfl
  refine jsx_if (fun hk => ?_) ?_
  · subst hk
    refine jsx_catch C htab 2 rfl (by decide) (by decide) (by decide) lc_2 nc_2 (fun z hz => by
        rcases List.mem_cons.mp hz with rfl | hz
        · exact ⟨by decide, exn 0, lc_0, by decide⟩
        · rcases List.mem_cons.mp hz with rfl | hz
          · exact ⟨by decide, exn 1, lc_1, by decide⟩
          · cases hz) (fun q9 => ?_)
    refine s_blk C 16 2 [] (pc' := 26) (lv' := []) (st' := [.inl 3]) rfl ?_
    exact s_iret C 18 rfl rfl
  exact jsx_none
theorem cLw_put {l : Launch} {G : GE} (htr : l.stackTraces = false) (σ : Sg) (M : Mm) (n : Nat) (r0 : Option Nat) (x1 : Int32) (x2 : Int32) (x3 : Int32) (r4 : Option Nat) : ∀ o, fLw_put r0 x1 x2 x3 r4 M n = some o → MetW l G yL_put cL_put 6 (some .int) [(0, 12, 15, 20), (0, 12, 19, 13), (0, 12, 23, 15)] 13 300 [.inr (.inl r0), .inl x1, .inl x2, .inl x3, .inr (.inl r4)] (σ, M, n) (eL σ o) :=
  c_ofW (fun _ => ⟨_, rfl⟩) (by decide) kLw_put htr rfl rfl fun X _ C htab => wLw_put C htab r0 x1 x2 x3 r4 M n
def pLw_delete : List BR := [(0, .aload_n 3, 1, 0, 1), (1, .iconst 0, 1, 0, 2), (2, .aload_n 0, 1, 0, 3), (3, .iload_n 1, 1, 0, 4), (4, .iload_n 2, 1, 0, 5), (5, .invokevirtual 22, 3, 0, 8), (8, .i2l, 1, 0, 9), (9, .lastore, 1, 0, 10), (10, .goto (15), 3, 0, 25), (13, .astore 4, 2, 0, 15), (15, .iconst 1, 1, 1, 16), (16, .ireturn, 1, 0, 17), (17, .astore 4, 2, 0, 19), (19, .iconst 2, 1, 2, 20), (20, .ireturn, 1, 0, 21), (21, .astore 4, 2, 0, 23), (23, .iconst 3, 1, 3, 24), (24, .ireturn, 1, 0, 25), (25, .iconst 0, 1, 0, 26), (26, .ireturn, 1, 0, 27)]
theorem kLw_delete : bOK cL_delete 5 pLw_delete = true := by decide +kernel
def fLw_delete (r0 : Option Nat) (x1 : Int32) (x2 : Int32) (r3 : Option Nat) (M : Mm) (n : Nat) : Option (Int32 × Mm × Nat) :=
  rk 11 r0 M fun a1 =>
  bdT (fHb_delete a1 x1 x2 M n) n (fun v M1 n1 =>
    asJ r3 0 v.toInt64 M1 fun M2 =>
    some (0, M2, n1))
    (fun k M1 n1 => if k = 0 then some (1, M1, n1) else if k = 1 then some (2, M1, n1) else if k = 2 then some (3, M1, n1) else none)
theorem wLw_delete {X : MC} {G : GE} {n0 : Nat} (C : CX X G RL cL_delete pLw_delete 5 (some .int) n0) (htab : X.2.2.2.2.2.2.2.2.exceptionTable.toList = tableOf [(0, 10, 13, 20), (0, 10, 17, 13), (0, 10, 21, 15)]) {σ : Sg} (r0 : Option Nat) (x1 : Int32) (x2 : Int32) (r3 : Option Nat) (M : Mm) (n : Nat) : JS X G 5 300 0 n0 (EM X G n0 13 300 (eL σ)) (fLw_delete r0 x1 x2 r3 M n) (σ, M, n) 0 [(0, .inr (.inl r0)), (1, .inl x1), (2, .inl x2), (3, .inr (.inl r3))] [] := by
  unfold fLw_delete
  refine s_blk C 0 5 [] (pc' := 5) (lv' := []) (st' := [.inl x2, .inl x1, .inr (.inl r0), .inl 0, .inr (.inl r3)]) rfl ?_
  refine s_rk (fun a1 ha hk => ?_)
  subst ha
  refine s_T (CE_EM _ _ _ _ _ _) (st := [.inl 0, .inr (.inl r3)]) (fun o ho => j_callV (As := [.inl x1, .inl x2]) (st := [.inl 0, .inr (.inl r3)]) (b := a1) C 5 rfl mf_Hb_delete ml_L_22 rfl (recv_K C (by decide) (by decide) rfl hk) (by decide) (by decide) (Nat.le_refl _) rfl (cHb_delete (CX_tr C) σ M n a1 x1 x2 o ho)) (fun v M1 n1 _ => ?_) (fun k M1 n1 _ => ?_)
  · refine s_blk C 6 1 [] (pc' := 9) (lv' := []) (st' := [.inr (.inr v.toInt64), .inl 0, .inr (.inl r3)]) rfl ?_
    refine s_stJ C 7 rfl (fun M2 _ => ?_)
    refine s_blk C 8 1 [] (pc' := 25) (lv' := []) (st' := []) rfl ?_
    refine s_blk C 18 1 [] (pc' := 26) (lv' := []) (st' := [.inl 0]) rfl ?_
    exact s_iret C 19 rfl rfl
  refine jsx_if (fun hk => ?_) ?_
  · subst hk
    refine jsx_catch C htab 0 rfl (by decide) (by decide) (by decide) lc_0 nc_0 (fun z hz => by cases hz) (fun q9 => ?_)
    refine s_blk C 9 2 [] (pc' := 16) (lv' := []) (st' := [.inl 1]) rfl ?_
    exact s_iret C 11 rfl rfl
  refine jsx_if (fun hk => ?_) ?_
  · subst hk
    refine jsx_catch C htab 1 rfl (by decide) (by decide) (by decide) lc_1 nc_1 (fun z hz => by
        rcases List.mem_cons.mp hz with rfl | hz
        · exact ⟨by decide, exn 0, lc_0, by decide⟩
        · cases hz) (fun q9 => ?_)
    refine s_blk C 12 2 [] (pc' := 20) (lv' := []) (st' := [.inl 2]) rfl ?_
    exact s_iret C 14 rfl rfl
  refine jsx_if (fun hk => ?_) ?_
  · subst hk
    refine jsx_catch C htab 2 rfl (by decide) (by decide) (by decide) lc_2 nc_2 (fun z hz => by
        rcases List.mem_cons.mp hz with rfl | hz
        · exact ⟨by decide, exn 0, lc_0, by decide⟩
        · rcases List.mem_cons.mp hz with rfl | hz
          · exact ⟨by decide, exn 1, lc_1, by decide⟩
          · cases hz) (fun q9 => ?_)
    refine s_blk C 15 2 [] (pc' := 24) (lv' := []) (st' := [.inl 3]) rfl ?_
    exact s_iret C 17 rfl rfl
  exact jsx_none
theorem cLw_delete {l : Launch} {G : GE} (htr : l.stackTraces = false) (σ : Sg) (M : Mm) (n : Nat) (r0 : Option Nat) (x1 : Int32) (x2 : Int32) (r3 : Option Nat) : ∀ o, fLw_delete r0 x1 x2 r3 M n = some o → MetW l G yL_delete cL_delete 5 (some .int) [(0, 10, 13, 20), (0, 10, 17, 13), (0, 10, 21, 15)] 13 300 [.inr (.inl r0), .inl x1, .inl x2, .inr (.inl r3)] (σ, M, n) (eL σ o) :=
  c_ofW (fun _ => ⟨_, rfl⟩) (by decide) kLw_delete htr rfl rfl fun X _ C htab => wLw_delete C htab r0 x1 x2 r3 M n
def pLw_drop : List BR := [(0, .aload 4, 2, 0, 2), (2, .iconst 0, 1, 0, 3), (3, .aload_n 0, 1, 0, 4), (4, .iload_n 1, 1, 0, 5), (5, .iload_n 2, 1, 0, 6), (6, .iload_n 3, 1, 0, 7), (7, .invokevirtual 26, 3, 0, 10), (10, .i2l, 1, 0, 11), (11, .lastore, 1, 0, 12), (12, .goto (15), 3, 0, 27), (15, .astore 5, 2, 0, 17), (17, .iconst 1, 1, 1, 18), (18, .ireturn, 1, 0, 19), (19, .astore 5, 2, 0, 21), (21, .iconst 2, 1, 2, 22), (22, .ireturn, 1, 0, 23), (23, .astore 5, 2, 0, 25), (25, .iconst 3, 1, 3, 26), (26, .ireturn, 1, 0, 27), (27, .iconst 0, 1, 0, 28), (28, .ireturn, 1, 0, 29)]
theorem kLw_drop : bOK cL_drop 6 pLw_drop = true := by decide +kernel
def fLw_drop (r0 : Option Nat) (x1 : Int32) (x2 : Int32) (x3 : Int32) (r4 : Option Nat) (M : Mm) (n : Nat) : Option (Int32 × Mm × Nat) :=
  rk 11 r0 M fun a1 =>
  bdT (fHb_drop a1 x1 x2 x3 M n) n (fun v M1 n1 =>
    asJ r4 0 v.toInt64 M1 fun M2 =>
    some (0, M2, n1))
    (fun k M1 n1 => if k = 0 then some (1, M1, n1) else if k = 1 then some (2, M1, n1) else if k = 2 then some (3, M1, n1) else none)
theorem wLw_drop {X : MC} {G : GE} {n0 : Nat} (C : CX X G RL cL_drop pLw_drop 6 (some .int) n0) (htab : X.2.2.2.2.2.2.2.2.exceptionTable.toList = tableOf [(0, 12, 15, 20), (0, 12, 19, 13), (0, 12, 23, 15)]) {σ : Sg} (r0 : Option Nat) (x1 : Int32) (x2 : Int32) (x3 : Int32) (r4 : Option Nat) (M : Mm) (n : Nat) : JS X G 6 300 0 n0 (EM X G n0 9 300 (eL σ)) (fLw_drop r0 x1 x2 x3 r4 M n) (σ, M, n) 0 [(0, .inr (.inl r0)), (1, .inl x1), (2, .inl x2), (3, .inl x3), (4, .inr (.inl r4))] [] := by
  unfold fLw_drop
  refine s_blk C 0 6 [] (pc' := 7) (lv' := []) (st' := [.inl x3, .inl x2, .inl x1, .inr (.inl r0), .inl 0, .inr (.inl r4)]) rfl ?_
  refine s_rk (fun a1 ha hk => ?_)
  subst ha
  refine s_T (CE_EM _ _ _ _ _ _) (st := [.inl 0, .inr (.inl r4)]) (fun o ho => j_callV (As := [.inl x1, .inl x2, .inl x3]) (st := [.inl 0, .inr (.inl r4)]) (b := a1) C 6 rfl mf_Hb_drop ml_L_26 rfl (recv_K C (by decide) (by decide) rfl hk) (by decide) (by decide) (Nat.le_refl _) rfl (cHb_drop (CX_tr C) σ M n a1 x1 x2 x3 o ho)) (fun v M1 n1 _ => ?_) (fun k M1 n1 _ => ?_)
  · refine s_blk C 7 1 [] (pc' := 11) (lv' := []) (st' := [.inr (.inr v.toInt64), .inl 0, .inr (.inl r4)]) rfl ?_
    refine s_stJ C 8 rfl (fun M2 _ => ?_)
    refine s_blk C 9 1 [] (pc' := 27) (lv' := []) (st' := []) rfl ?_
    refine s_blk C 19 1 [] (pc' := 28) (lv' := []) (st' := [.inl 0]) rfl ?_
    exact s_iret C 20 rfl rfl
  refine jsx_if (fun hk => ?_) ?_
  · subst hk
    refine jsx_catch C htab 0 rfl (by decide) (by decide) (by decide) lc_0 nc_0 (fun z hz => by cases hz) (fun q9 => ?_)
    refine s_blk C 10 2 [] (pc' := 18) (lv' := []) (st' := [.inl 1]) rfl ?_
    exact s_iret C 12 rfl rfl
  refine jsx_if (fun hk => ?_) ?_
  · subst hk
    refine jsx_catch C htab 1 rfl (by decide) (by decide) (by decide) lc_1 nc_1 (fun z hz => by
        rcases List.mem_cons.mp hz with rfl | hz
        · exact ⟨by decide, exn 0, lc_0, by decide⟩
        · cases hz) (fun q9 => ?_)
    refine s_blk C 13 2 [] (pc' := 22) (lv' := []) (st' := [.inl 2]) rfl ?_
    exact s_iret C 15 rfl rfl
  refine jsx_if (fun hk => ?_) ?_
  · subst hk
    refine jsx_catch C htab 2 rfl (by decide) (by decide) (by decide) lc_2 nc_2 (fun z hz => by
        rcases List.mem_cons.mp hz with rfl | hz
        · exact ⟨by decide, exn 0, lc_0, by decide⟩
        · rcases List.mem_cons.mp hz with rfl | hz
          · exact ⟨by decide, exn 1, lc_1, by decide⟩
          · cases hz) (fun q9 => ?_)
    refine s_blk C 16 2 [] (pc' := 26) (lv' := []) (st' := [.inl 3]) rfl ?_
    exact s_iret C 18 rfl rfl
  exact jsx_none
theorem cLw_drop {l : Launch} {G : GE} (htr : l.stackTraces = false) (σ : Sg) (M : Mm) (n : Nat) (r0 : Option Nat) (x1 : Int32) (x2 : Int32) (x3 : Int32) (r4 : Option Nat) : ∀ o, fLw_drop r0 x1 x2 x3 r4 M n = some o → MetW l G yL_drop cL_drop 6 (some .int) [(0, 12, 15, 20), (0, 12, 19, 13), (0, 12, 23, 15)] 9 300 [.inr (.inl r0), .inl x1, .inl x2, .inl x3, .inr (.inl r4)] (σ, M, n) (eL σ o) :=
  c_ofW (fun _ => ⟨_, rfl⟩) (by decide) kLw_drop htr rfl rfl fun X _ C htab => wLw_drop C htab r0 x1 x2 x3 r4 M n
def pLw_lock : List BR := [(0, .aload 5, 2, 0, 2), (2, .iconst 0, 1, 0, 3), (3, .aload_n 0, 1, 0, 4), (4, .iload_n 1, 1, 0, 5), (5, .iload_n 2, 1, 0, 6), (6, .iload_n 3, 1, 0, 7), (7, .iload 4, 2, 0, 9), (9, .invokevirtual 29, 3, 0, 12), (12, .i2l, 1, 0, 13), (13, .lastore, 1, 0, 14), (14, .goto (15), 3, 0, 29), (17, .astore 6, 2, 0, 19), (19, .iconst 1, 1, 1, 20), (20, .ireturn, 1, 0, 21), (21, .astore 6, 2, 0, 23), (23, .iconst 2, 1, 2, 24), (24, .ireturn, 1, 0, 25), (25, .astore 6, 2, 0, 27), (27, .iconst 3, 1, 3, 28), (28, .ireturn, 1, 0, 29), (29, .iconst 0, 1, 0, 30), (30, .ireturn, 1, 0, 31)]
theorem kLw_lock : bOK cL_lock 7 pLw_lock = true := by decide +kernel
def fLw_lock (r0 : Option Nat) (x1 : Int32) (x2 : Int32) (x3 : Int32) (x4 : Int32) (r5 : Option Nat) (M : Mm) (n : Nat) : Option (Int32 × Mm × Nat) :=
  rk 11 r0 M fun a1 =>
  bdT (fHb_lock a1 x1 x2 x3 x4 M n) n (fun v M1 n1 =>
    asJ r5 0 v.toInt64 M1 fun M2 =>
    some (0, M2, n1))
    (fun k M1 n1 => if k = 0 then some (1, M1, n1) else if k = 1 then some (2, M1, n1) else if k = 2 then some (3, M1, n1) else none)
theorem wLw_lock {X : MC} {G : GE} {n0 : Nat} (C : CX X G RL cL_lock pLw_lock 7 (some .int) n0) (htab : X.2.2.2.2.2.2.2.2.exceptionTable.toList = tableOf [(0, 14, 17, 20), (0, 14, 21, 13), (0, 14, 25, 15)]) {σ : Sg} (r0 : Option Nat) (x1 : Int32) (x2 : Int32) (x3 : Int32) (x4 : Int32) (r5 : Option Nat) (M : Mm) (n : Nat) : JS X G 7 300 0 n0 (EM X G n0 9 300 (eL σ)) (fLw_lock r0 x1 x2 x3 x4 r5 M n) (σ, M, n) 0 [(0, .inr (.inl r0)), (1, .inl x1), (2, .inl x2), (3, .inl x3), (4, .inl x4), (5, .inr (.inl r5))] [] := by
  unfold fLw_lock
  refine s_blk C 0 7 [] (pc' := 9) (lv' := []) (st' := [.inl x4, .inl x3, .inl x2, .inl x1, .inr (.inl r0), .inl 0, .inr (.inl r5)]) rfl ?_
  refine s_rk (fun a1 ha hk => ?_)
  subst ha
  refine s_T (CE_EM _ _ _ _ _ _) (st := [.inl 0, .inr (.inl r5)]) (fun o ho => j_callV (As := [.inl x1, .inl x2, .inl x3, .inl x4]) (st := [.inl 0, .inr (.inl r5)]) (b := a1) C 7 rfl mf_Hb_lock ml_L_29 rfl (recv_K C (by decide) (by decide) rfl hk) (by decide) (by decide) (Nat.le_refl _) rfl (cHb_lock (CX_tr C) σ M n a1 x1 x2 x3 x4 o ho)) (fun v M1 n1 _ => ?_) (fun k M1 n1 _ => ?_)
  · refine s_blk C 8 1 [] (pc' := 13) (lv' := []) (st' := [.inr (.inr v.toInt64), .inl 0, .inr (.inl r5)]) rfl ?_
    refine s_stJ C 9 rfl (fun M2 _ => ?_)
    refine s_blk C 10 1 [] (pc' := 29) (lv' := []) (st' := []) rfl ?_
    refine s_blk C 20 1 [] (pc' := 30) (lv' := []) (st' := [.inl 0]) rfl ?_
    exact s_iret C 21 rfl rfl
  refine jsx_if (fun hk => ?_) ?_
  · subst hk
    refine jsx_catch C htab 0 rfl (by decide) (by decide) (by decide) lc_0 nc_0 (fun z hz => by cases hz) (fun q9 => ?_)
    refine s_blk C 11 2 [] (pc' := 20) (lv' := []) (st' := [.inl 1]) rfl ?_
    exact s_iret C 13 rfl rfl
  refine jsx_if (fun hk => ?_) ?_
  · subst hk
    refine jsx_catch C htab 1 rfl (by decide) (by decide) (by decide) lc_1 nc_1 (fun z hz => by
        rcases List.mem_cons.mp hz with rfl | hz
        · exact ⟨by decide, exn 0, lc_0, by decide⟩
        · cases hz) (fun q9 => ?_)
    refine s_blk C 14 2 [] (pc' := 24) (lv' := []) (st' := [.inl 2]) rfl ?_
    exact s_iret C 16 rfl rfl
  refine jsx_if (fun hk => ?_) ?_
  · subst hk
    refine jsx_catch C htab 2 rfl (by decide) (by decide) (by decide) lc_2 nc_2 (fun z hz => by
        rcases List.mem_cons.mp hz with rfl | hz
        · exact ⟨by decide, exn 0, lc_0, by decide⟩
        · rcases List.mem_cons.mp hz with rfl | hz
          · exact ⟨by decide, exn 1, lc_1, by decide⟩
          · cases hz) (fun q9 => ?_)
    refine s_blk C 17 2 [] (pc' := 28) (lv' := []) (st' := [.inl 3]) rfl ?_
    exact s_iret C 19 rfl rfl
  exact jsx_none
theorem cLw_lock {l : Launch} {G : GE} (htr : l.stackTraces = false) (σ : Sg) (M : Mm) (n : Nat) (r0 : Option Nat) (x1 : Int32) (x2 : Int32) (x3 : Int32) (x4 : Int32) (r5 : Option Nat) : ∀ o, fLw_lock r0 x1 x2 x3 x4 r5 M n = some o → MetW l G yL_lock cL_lock 7 (some .int) [(0, 14, 17, 20), (0, 14, 21, 13), (0, 14, 25, 15)] 9 300 [.inr (.inl r0), .inl x1, .inl x2, .inl x3, .inl x4, .inr (.inl r5)] (σ, M, n) (eL σ o) :=
  c_ofW (fun _ => ⟨_, rfl⟩) (by decide) kLw_lock htr rfl rfl fun X _ C htab => wLw_lock C htab r0 x1 x2 x3 x4 r5 M n
def pLw_read : List BR := [(0, .aload 5, 2, 0, 2), (2, .iconst 0, 1, 0, 3), (3, .aload_n 0, 1, 0, 4), (4, .iload_n 1, 1, 0, 5), (5, .iload_n 2, 1, 0, 6), (6, .iload_n 3, 1, 0, 7), (7, .iload 4, 2, 0, 9), (9, .invokevirtual 33, 3, 0, 12), (12, .i2l, 1, 0, 13), (13, .lastore, 1, 0, 14), (14, .goto (11), 3, 0, 25), (17, .astore 6, 2, 0, 19), (19, .iconst 1, 1, 1, 20), (20, .ireturn, 1, 0, 21), (21, .astore 6, 2, 0, 23), (23, .iconst 2, 1, 2, 24), (24, .ireturn, 1, 0, 25), (25, .iconst 0, 1, 0, 26), (26, .ireturn, 1, 0, 27)]
theorem kLw_read : bOK cL_read 7 pLw_read = true := by decide +kernel
def fLw_read (r0 : Option Nat) (x1 : Int32) (x2 : Int32) (x3 : Int32) (x4 : Int32) (r5 : Option Nat) (M : Mm) (n : Nat) : Option (Int32 × Mm × Nat) :=
  rk 11 r0 M fun a1 =>
  bdT (fHb_read a1 x1 x2 x3 x4 M n) n (fun v M1 n1 =>
    asJ r5 0 v.toInt64 M1 fun M2 =>
    some (0, M2, n1))
    (fun k M1 n1 => if k = 0 then some (1, M1, n1) else if k = 1 then some (2, M1, n1) else none)
theorem wLw_read {X : MC} {G : GE} {n0 : Nat} (C : CX X G RL cL_read pLw_read 7 (some .int) n0) (htab : X.2.2.2.2.2.2.2.2.exceptionTable.toList = tableOf [(0, 14, 17, 20), (0, 14, 21, 13)]) {σ : Sg} (r0 : Option Nat) (x1 : Int32) (x2 : Int32) (x3 : Int32) (x4 : Int32) (r5 : Option Nat) (M : Mm) (n : Nat) : JS X G 7 300 0 n0 (EM X G n0 10 300 (eL σ)) (fLw_read r0 x1 x2 x3 x4 r5 M n) (σ, M, n) 0 [(0, .inr (.inl r0)), (1, .inl x1), (2, .inl x2), (3, .inl x3), (4, .inl x4), (5, .inr (.inl r5))] [] := by
  unfold fLw_read
  refine s_blk C 0 7 [] (pc' := 9) (lv' := []) (st' := [.inl x4, .inl x3, .inl x2, .inl x1, .inr (.inl r0), .inl 0, .inr (.inl r5)]) rfl ?_
  refine s_rk (fun a1 ha hk => ?_)
  subst ha
  refine s_T (CE_EM _ _ _ _ _ _) (st := [.inl 0, .inr (.inl r5)]) (fun o ho => j_callV (As := [.inl x1, .inl x2, .inl x3, .inl x4]) (st := [.inl 0, .inr (.inl r5)]) (b := a1) C 7 rfl mf_Hb_read ml_L_33 rfl (recv_K C (by decide) (by decide) rfl hk) (by decide) (by decide) (Nat.le_refl _) rfl (cHb_read (CX_tr C) σ M n a1 x1 x2 x3 x4 o ho)) (fun v M1 n1 _ => ?_) (fun k M1 n1 _ => ?_)
  · refine s_blk C 8 1 [] (pc' := 13) (lv' := []) (st' := [.inr (.inr v.toInt64), .inl 0, .inr (.inl r5)]) rfl ?_
    refine s_stJ C 9 rfl (fun M2 _ => ?_)
    refine s_blk C 10 1 [] (pc' := 25) (lv' := []) (st' := []) rfl ?_
    refine s_blk C 17 1 [] (pc' := 26) (lv' := []) (st' := [.inl 0]) rfl ?_
    exact s_iret C 18 rfl rfl
  refine jsx_if (fun hk => ?_) ?_
  · subst hk
    refine jsx_catch C htab 0 rfl (by decide) (by decide) (by decide) lc_0 nc_0 (fun z hz => by cases hz) (fun q9 => ?_)
    refine s_blk C 11 2 [] (pc' := 20) (lv' := []) (st' := [.inl 1]) rfl ?_
    exact s_iret C 13 rfl rfl
  refine jsx_if (fun hk => ?_) ?_
  · subst hk
    refine jsx_catch C htab 1 rfl (by decide) (by decide) (by decide) lc_1 nc_1 (fun z hz => by
        rcases List.mem_cons.mp hz with rfl | hz
        · exact ⟨by decide, exn 0, lc_0, by decide⟩
        · cases hz) (fun q9 => ?_)
    refine s_blk C 14 2 [] (pc' := 24) (lv' := []) (st' := [.inl 2]) rfl ?_
    exact s_iret C 16 rfl rfl
  exact jsx_none
theorem cLw_read {l : Launch} {G : GE} (htr : l.stackTraces = false) (σ : Sg) (M : Mm) (n : Nat) (r0 : Option Nat) (x1 : Int32) (x2 : Int32) (x3 : Int32) (x4 : Int32) (r5 : Option Nat) : ∀ o, fLw_read r0 x1 x2 x3 x4 r5 M n = some o → MetW l G yL_read cL_read 7 (some .int) [(0, 14, 17, 20), (0, 14, 21, 13)] 10 300 [.inr (.inl r0), .inl x1, .inl x2, .inl x3, .inl x4, .inr (.inl r5)] (σ, M, n) (eL σ o) :=
  c_ofW (fun _ => ⟨_, rfl⟩) (by decide) kLw_read htr rfl rfl fun X _ C htab => wLw_read C htab r0 x1 x2 x3 x4 r5 M n
def pLw_ask : List BR := [(0, .aload 4, 2, 0, 2), (2, .iconst 0, 1, 0, 3), (3, .aload_n 0, 1, 0, 4), (4, .iload_n 1, 1, 0, 5), (5, .iload_n 2, 1, 0, 6), (6, .iload_n 3, 1, 0, 7), (7, .invokevirtual 36, 3, 0, 10), (10, .i2l, 1, 0, 11), (11, .lastore, 1, 0, 12), (12, .goto (15), 3, 0, 27), (15, .astore 5, 2, 0, 17), (17, .iconst 1, 1, 1, 18), (18, .ireturn, 1, 0, 19), (19, .astore 5, 2, 0, 21), (21, .iconst 2, 1, 2, 22), (22, .ireturn, 1, 0, 23), (23, .astore 5, 2, 0, 25), (25, .iconst 3, 1, 3, 26), (26, .ireturn, 1, 0, 27), (27, .iconst 0, 1, 0, 28), (28, .ireturn, 1, 0, 29)]
theorem kLw_ask : bOK cL_ask 6 pLw_ask = true := by decide +kernel
def fLw_ask (r0 : Option Nat) (x1 : Int32) (x2 : Int32) (x3 : Int32) (r4 : Option Nat) (M : Mm) (n : Nat) : Option (Int32 × Mm × Nat) :=
  rk 11 r0 M fun a1 =>
  bdT (fHb_ask a1 x1 x2 x3 M n) n (fun v M1 n1 =>
    asJ r4 0 v.toInt64 M1 fun M2 =>
    some (0, M2, n1))
    (fun k M1 n1 => if k = 0 then some (1, M1, n1) else if k = 1 then some (2, M1, n1) else if k = 2 then some (3, M1, n1) else none)
theorem wLw_ask {X : MC} {G : GE} {n0 : Nat} (C : CX X G RL cL_ask pLw_ask 6 (some .int) n0) (htab : X.2.2.2.2.2.2.2.2.exceptionTable.toList = tableOf [(0, 12, 15, 20), (0, 12, 19, 13), (0, 12, 23, 15)]) {σ : Sg} (r0 : Option Nat) (x1 : Int32) (x2 : Int32) (x3 : Int32) (r4 : Option Nat) (M : Mm) (n : Nat) : JS X G 6 300 0 n0 (EM X G n0 9 300 (eL σ)) (fLw_ask r0 x1 x2 x3 r4 M n) (σ, M, n) 0 [(0, .inr (.inl r0)), (1, .inl x1), (2, .inl x2), (3, .inl x3), (4, .inr (.inl r4))] [] := by
  unfold fLw_ask
  refine s_blk C 0 6 [] (pc' := 7) (lv' := []) (st' := [.inl x3, .inl x2, .inl x1, .inr (.inl r0), .inl 0, .inr (.inl r4)]) rfl ?_
  refine s_rk (fun a1 ha hk => ?_)
  subst ha
  refine s_T (CE_EM _ _ _ _ _ _) (st := [.inl 0, .inr (.inl r4)]) (fun o ho => j_callV (As := [.inl x1, .inl x2, .inl x3]) (st := [.inl 0, .inr (.inl r4)]) (b := a1) C 6 rfl mf_Hb_ask ml_L_36 rfl (recv_K C (by decide) (by decide) rfl hk) (by decide) (by decide) (Nat.le_refl _) rfl (cHb_ask (CX_tr C) σ M n a1 x1 x2 x3 o ho)) (fun v M1 n1 _ => ?_) (fun k M1 n1 _ => ?_)
  · refine s_blk C 7 1 [] (pc' := 11) (lv' := []) (st' := [.inr (.inr v.toInt64), .inl 0, .inr (.inl r4)]) rfl ?_
    refine s_stJ C 8 rfl (fun M2 _ => ?_)
    refine s_blk C 9 1 [] (pc' := 27) (lv' := []) (st' := []) rfl ?_
    refine s_blk C 19 1 [] (pc' := 28) (lv' := []) (st' := [.inl 0]) rfl ?_
    exact s_iret C 20 rfl rfl
  refine jsx_if (fun hk => ?_) ?_
  · subst hk
    refine jsx_catch C htab 0 rfl (by decide) (by decide) (by decide) lc_0 nc_0 (fun z hz => by cases hz) (fun q9 => ?_)
    refine s_blk C 10 2 [] (pc' := 18) (lv' := []) (st' := [.inl 1]) rfl ?_
    exact s_iret C 12 rfl rfl
  refine jsx_if (fun hk => ?_) ?_
  · subst hk
    refine jsx_catch C htab 1 rfl (by decide) (by decide) (by decide) lc_1 nc_1 (fun z hz => by
        rcases List.mem_cons.mp hz with rfl | hz
        · exact ⟨by decide, exn 0, lc_0, by decide⟩
        · cases hz) (fun q9 => ?_)
    refine s_blk C 13 2 [] (pc' := 22) (lv' := []) (st' := [.inl 2]) rfl ?_
    exact s_iret C 15 rfl rfl
  refine jsx_if (fun hk => ?_) ?_
  · subst hk
    refine jsx_catch C htab 2 rfl (by decide) (by decide) (by decide) lc_2 nc_2 (fun z hz => by
        rcases List.mem_cons.mp hz with rfl | hz
        · exact ⟨by decide, exn 0, lc_0, by decide⟩
        · rcases List.mem_cons.mp hz with rfl | hz
          · exact ⟨by decide, exn 1, lc_1, by decide⟩
          · cases hz) (fun q9 => ?_)
    refine s_blk C 16 2 [] (pc' := 26) (lv' := []) (st' := [.inl 3]) rfl ?_
    exact s_iret C 18 rfl rfl
  exact jsx_none
theorem cLw_ask {l : Launch} {G : GE} (htr : l.stackTraces = false) (σ : Sg) (M : Mm) (n : Nat) (r0 : Option Nat) (x1 : Int32) (x2 : Int32) (x3 : Int32) (r4 : Option Nat) : ∀ o, fLw_ask r0 x1 x2 x3 r4 M n = some o → MetW l G yL_ask cL_ask 6 (some .int) [(0, 12, 15, 20), (0, 12, 19, 13), (0, 12, 23, 15)] 9 300 [.inr (.inl r0), .inl x1, .inl x2, .inl x3, .inr (.inl r4)] (σ, M, n) (eL σ o) :=
  c_ofW (fun _ => ⟨_, rfl⟩) (by decide) kLw_ask htr rfl rfl fun X _ C htab => wLw_ask C htab r0 x1 x2 x3 r4 M n
def pLw_upload : List BR := [(0, .aload_n 3, 1, 0, 1), (1, .iconst 0, 1, 0, 2), (2, .aload_n 0, 1, 0, 3), (3, .iload_n 1, 1, 0, 4), (4, .iload_n 2, 1, 0, 5), (5, .invokevirtual 39, 3, 0, 8), (8, .i2l, 1, 0, 9), (9, .lastore, 1, 0, 10), (10, .goto (15), 3, 0, 25), (13, .astore 4, 2, 0, 15), (15, .iconst 1, 1, 1, 16), (16, .ireturn, 1, 0, 17), (17, .astore 4, 2, 0, 19), (19, .iconst 2, 1, 2, 20), (20, .ireturn, 1, 0, 21), (21, .astore 4, 2, 0, 23), (23, .iconst 3, 1, 3, 24), (24, .ireturn, 1, 0, 25), (25, .iconst 0, 1, 0, 26), (26, .ireturn, 1, 0, 27)]
theorem kLw_upload : bOK cL_upload 5 pLw_upload = true := by decide +kernel
def fLw_upload (r0 : Option Nat) (x1 : Int32) (x2 : Int32) (r3 : Option Nat) (M : Mm) (n : Nat) : Option (Int32 × Mm × Nat) :=
  rk 11 r0 M fun a1 =>
  bdT (fHb_upload a1 x1 x2 M n) n (fun v M1 n1 =>
    asJ r3 0 v.toInt64 M1 fun M2 =>
    some (0, M2, n1))
    (fun k M1 n1 => if k = 0 then some (1, M1, n1) else if k = 1 then some (2, M1, n1) else if k = 2 then some (3, M1, n1) else none)
theorem wLw_upload {X : MC} {G : GE} {n0 : Nat} (C : CX X G RL cL_upload pLw_upload 5 (some .int) n0) (htab : X.2.2.2.2.2.2.2.2.exceptionTable.toList = tableOf [(0, 10, 13, 20), (0, 10, 17, 13), (0, 10, 21, 15)]) {σ : Sg} (r0 : Option Nat) (x1 : Int32) (x2 : Int32) (r3 : Option Nat) (M : Mm) (n : Nat) : JS X G 5 300 0 n0 (EM X G n0 9 300 (eL σ)) (fLw_upload r0 x1 x2 r3 M n) (σ, M, n) 0 [(0, .inr (.inl r0)), (1, .inl x1), (2, .inl x2), (3, .inr (.inl r3))] [] := by
  unfold fLw_upload
  refine s_blk C 0 5 [] (pc' := 5) (lv' := []) (st' := [.inl x2, .inl x1, .inr (.inl r0), .inl 0, .inr (.inl r3)]) rfl ?_
  refine s_rk (fun a1 ha hk => ?_)
  subst ha
  refine s_T (CE_EM _ _ _ _ _ _) (st := [.inl 0, .inr (.inl r3)]) (fun o ho => j_callV (As := [.inl x1, .inl x2]) (st := [.inl 0, .inr (.inl r3)]) (b := a1) C 5 rfl mf_Hb_upload ml_L_39 rfl (recv_K C (by decide) (by decide) rfl hk) (by decide) (by decide) (Nat.le_refl _) rfl (cHb_upload (CX_tr C) σ M n a1 x1 x2 o ho)) (fun v M1 n1 _ => ?_) (fun k M1 n1 _ => ?_)
  · refine s_blk C 6 1 [] (pc' := 9) (lv' := []) (st' := [.inr (.inr v.toInt64), .inl 0, .inr (.inl r3)]) rfl ?_
    refine s_stJ C 7 rfl (fun M2 _ => ?_)
    refine s_blk C 8 1 [] (pc' := 25) (lv' := []) (st' := []) rfl ?_
    refine s_blk C 18 1 [] (pc' := 26) (lv' := []) (st' := [.inl 0]) rfl ?_
    exact s_iret C 19 rfl rfl
  refine jsx_if (fun hk => ?_) ?_
  · subst hk
    refine jsx_catch C htab 0 rfl (by decide) (by decide) (by decide) lc_0 nc_0 (fun z hz => by cases hz) (fun q9 => ?_)
    refine s_blk C 9 2 [] (pc' := 16) (lv' := []) (st' := [.inl 1]) rfl ?_
    exact s_iret C 11 rfl rfl
  refine jsx_if (fun hk => ?_) ?_
  · subst hk
    refine jsx_catch C htab 1 rfl (by decide) (by decide) (by decide) lc_1 nc_1 (fun z hz => by
        rcases List.mem_cons.mp hz with rfl | hz
        · exact ⟨by decide, exn 0, lc_0, by decide⟩
        · cases hz) (fun q9 => ?_)
    refine s_blk C 12 2 [] (pc' := 20) (lv' := []) (st' := [.inl 2]) rfl ?_
    exact s_iret C 14 rfl rfl
  refine jsx_if (fun hk => ?_) ?_
  · subst hk
    refine jsx_catch C htab 2 rfl (by decide) (by decide) (by decide) lc_2 nc_2 (fun z hz => by
        rcases List.mem_cons.mp hz with rfl | hz
        · exact ⟨by decide, exn 0, lc_0, by decide⟩
        · rcases List.mem_cons.mp hz with rfl | hz
          · exact ⟨by decide, exn 1, lc_1, by decide⟩
          · cases hz) (fun q9 => ?_)
    refine s_blk C 15 2 [] (pc' := 24) (lv' := []) (st' := [.inl 3]) rfl ?_
    exact s_iret C 17 rfl rfl
  exact jsx_none
theorem cLw_upload {l : Launch} {G : GE} (htr : l.stackTraces = false) (σ : Sg) (M : Mm) (n : Nat) (r0 : Option Nat) (x1 : Int32) (x2 : Int32) (r3 : Option Nat) : ∀ o, fLw_upload r0 x1 x2 r3 M n = some o → MetW l G yL_upload cL_upload 5 (some .int) [(0, 10, 13, 20), (0, 10, 17, 13), (0, 10, 21, 15)] 9 300 [.inr (.inl r0), .inl x1, .inl x2, .inr (.inl r3)] (σ, M, n) (eL σ o) :=
  c_ofW (fun _ => ⟨_, rfl⟩) (by decide) kLw_upload htr rfl rfl fun X _ C htab => wLw_upload C htab r0 x1 x2 r3 M n
def pLw_piece : List BR := [(0, .aload_n 3, 1, 0, 1), (1, .iconst 0, 1, 0, 2), (2, .aload_n 0, 1, 0, 3), (3, .iload_n 1, 1, 0, 4), (4, .iload_n 2, 1, 0, 5), (5, .invokevirtual 42, 3, 0, 8), (8, .i2l, 1, 0, 9), (9, .lastore, 1, 0, 10), (10, .goto (15), 3, 0, 25), (13, .astore 4, 2, 0, 15), (15, .iconst 1, 1, 1, 16), (16, .ireturn, 1, 0, 17), (17, .astore 4, 2, 0, 19), (19, .iconst 2, 1, 2, 20), (20, .ireturn, 1, 0, 21), (21, .astore 4, 2, 0, 23), (23, .iconst 3, 1, 3, 24), (24, .ireturn, 1, 0, 25), (25, .iconst 0, 1, 0, 26), (26, .ireturn, 1, 0, 27)]
theorem kLw_piece : bOK cL_piece 5 pLw_piece = true := by decide +kernel
def fLw_piece (r0 : Option Nat) (x1 : Int32) (x2 : Int32) (r3 : Option Nat) (M : Mm) (n : Nat) : Option (Int32 × Mm × Nat) :=
  rk 11 r0 M fun a1 =>
  bdT (fHb_piece a1 x1 x2 M n) n (fun v M1 n1 =>
    asJ r3 0 v.toInt64 M1 fun M2 =>
    some (0, M2, n1))
    (fun k M1 n1 => if k = 0 then some (1, M1, n1) else if k = 1 then some (2, M1, n1) else if k = 2 then some (3, M1, n1) else none)
theorem wLw_piece {X : MC} {G : GE} {n0 : Nat} (C : CX X G RL cL_piece pLw_piece 5 (some .int) n0) (htab : X.2.2.2.2.2.2.2.2.exceptionTable.toList = tableOf [(0, 10, 13, 20), (0, 10, 17, 13), (0, 10, 21, 15)]) {σ : Sg} (r0 : Option Nat) (x1 : Int32) (x2 : Int32) (r3 : Option Nat) (M : Mm) (n : Nat) : JS X G 5 300 0 n0 (EM X G n0 9 300 (eL σ)) (fLw_piece r0 x1 x2 r3 M n) (σ, M, n) 0 [(0, .inr (.inl r0)), (1, .inl x1), (2, .inl x2), (3, .inr (.inl r3))] [] := by
  unfold fLw_piece
  refine s_blk C 0 5 [] (pc' := 5) (lv' := []) (st' := [.inl x2, .inl x1, .inr (.inl r0), .inl 0, .inr (.inl r3)]) rfl ?_
  refine s_rk (fun a1 ha hk => ?_)
  subst ha
  refine s_T (CE_EM _ _ _ _ _ _) (st := [.inl 0, .inr (.inl r3)]) (fun o ho => j_callV (As := [.inl x1, .inl x2]) (st := [.inl 0, .inr (.inl r3)]) (b := a1) C 5 rfl mf_Hb_piece ml_L_42 rfl (recv_K C (by decide) (by decide) rfl hk) (by decide) (by decide) (Nat.le_refl _) rfl (cHb_piece (CX_tr C) σ M n a1 x1 x2 o ho)) (fun v M1 n1 _ => ?_) (fun k M1 n1 _ => ?_)
  · refine s_blk C 6 1 [] (pc' := 9) (lv' := []) (st' := [.inr (.inr v.toInt64), .inl 0, .inr (.inl r3)]) rfl ?_
    refine s_stJ C 7 rfl (fun M2 _ => ?_)
    refine s_blk C 8 1 [] (pc' := 25) (lv' := []) (st' := []) rfl ?_
    refine s_blk C 18 1 [] (pc' := 26) (lv' := []) (st' := [.inl 0]) rfl ?_
    exact s_iret C 19 rfl rfl
  refine jsx_if (fun hk => ?_) ?_
  · subst hk
    refine jsx_catch C htab 0 rfl (by decide) (by decide) (by decide) lc_0 nc_0 (fun z hz => by cases hz) (fun q9 => ?_)
    refine s_blk C 9 2 [] (pc' := 16) (lv' := []) (st' := [.inl 1]) rfl ?_
    exact s_iret C 11 rfl rfl
  refine jsx_if (fun hk => ?_) ?_
  · subst hk
    refine jsx_catch C htab 1 rfl (by decide) (by decide) (by decide) lc_1 nc_1 (fun z hz => by
        rcases List.mem_cons.mp hz with rfl | hz
        · exact ⟨by decide, exn 0, lc_0, by decide⟩
        · cases hz) (fun q9 => ?_)
    refine s_blk C 12 2 [] (pc' := 20) (lv' := []) (st' := [.inl 2]) rfl ?_
    exact s_iret C 14 rfl rfl
  refine jsx_if (fun hk => ?_) ?_
  · subst hk
    refine jsx_catch C htab 2 rfl (by decide) (by decide) (by decide) lc_2 nc_2 (fun z hz => by
        rcases List.mem_cons.mp hz with rfl | hz
        · exact ⟨by decide, exn 0, lc_0, by decide⟩
        · rcases List.mem_cons.mp hz with rfl | hz
          · exact ⟨by decide, exn 1, lc_1, by decide⟩
          · cases hz) (fun q9 => ?_)
    refine s_blk C 15 2 [] (pc' := 24) (lv' := []) (st' := [.inl 3]) rfl ?_
    exact s_iret C 17 rfl rfl
  exact jsx_none
theorem cLw_piece {l : Launch} {G : GE} (htr : l.stackTraces = false) (σ : Sg) (M : Mm) (n : Nat) (r0 : Option Nat) (x1 : Int32) (x2 : Int32) (r3 : Option Nat) : ∀ o, fLw_piece r0 x1 x2 r3 M n = some o → MetW l G yL_piece cL_piece 5 (some .int) [(0, 10, 13, 20), (0, 10, 17, 13), (0, 10, 21, 15)] 9 300 [.inr (.inl r0), .inl x1, .inl x2, .inr (.inl r3)] (σ, M, n) (eL σ o) :=
  c_ofW (fun _ => ⟨_, rfl⟩) (by decide) kLw_piece htr rfl rfl fun X _ C htab => wLw_piece C htab r0 x1 x2 r3 M n
def pLw_finish : List BR := [(0, .aload_n 3, 1, 0, 1), (1, .iconst 0, 1, 0, 2), (2, .aload_n 0, 1, 0, 3), (3, .iload_n 1, 1, 0, 4), (4, .iload_n 2, 1, 0, 5), (5, .invokevirtual 45, 3, 0, 8), (8, .i2l, 1, 0, 9), (9, .lastore, 1, 0, 10), (10, .goto (11), 3, 0, 21), (13, .astore 4, 2, 0, 15), (15, .iconst 1, 1, 1, 16), (16, .ireturn, 1, 0, 17), (17, .astore 4, 2, 0, 19), (19, .iconst 2, 1, 2, 20), (20, .ireturn, 1, 0, 21), (21, .iconst 0, 1, 0, 22), (22, .ireturn, 1, 0, 23)]
theorem kLw_finish : bOK cL_finish 5 pLw_finish = true := by decide +kernel
def fLw_finish (r0 : Option Nat) (x1 : Int32) (x2 : Int32) (r3 : Option Nat) (M : Mm) (n : Nat) : Option (Int32 × Mm × Nat) :=
  rk 11 r0 M fun a1 =>
  bdT (fHb_finish a1 x1 x2 M n) n (fun v M1 n1 =>
    asJ r3 0 v.toInt64 M1 fun M2 =>
    some (0, M2, n1))
    (fun k M1 n1 => if k = 0 then some (1, M1, n1) else if k = 2 then some (2, M1, n1) else none)
theorem wLw_finish {X : MC} {G : GE} {n0 : Nat} (C : CX X G RL cL_finish pLw_finish 5 (some .int) n0) (htab : X.2.2.2.2.2.2.2.2.exceptionTable.toList = tableOf [(0, 10, 13, 20), (0, 10, 17, 15)]) {σ : Sg} (r0 : Option Nat) (x1 : Int32) (x2 : Int32) (r3 : Option Nat) (M : Mm) (n : Nat) : JS X G 5 300 0 n0 (EM X G n0 13 300 (eL σ)) (fLw_finish r0 x1 x2 r3 M n) (σ, M, n) 0 [(0, .inr (.inl r0)), (1, .inl x1), (2, .inl x2), (3, .inr (.inl r3))] [] := by
  unfold fLw_finish
  refine s_blk C 0 5 [] (pc' := 5) (lv' := []) (st' := [.inl x2, .inl x1, .inr (.inl r0), .inl 0, .inr (.inl r3)]) rfl ?_
  refine s_rk (fun a1 ha hk => ?_)
  subst ha
  refine s_T (CE_EM _ _ _ _ _ _) (st := [.inl 0, .inr (.inl r3)]) (fun o ho => j_callV (As := [.inl x1, .inl x2]) (st := [.inl 0, .inr (.inl r3)]) (b := a1) C 5 rfl mf_Hb_finish ml_L_45 rfl (recv_K C (by decide) (by decide) rfl hk) (by decide) (by decide) (Nat.le_refl _) rfl (cHb_finish (CX_tr C) σ M n a1 x1 x2 o ho)) (fun v M1 n1 _ => ?_) (fun k M1 n1 _ => ?_)
  · refine s_blk C 6 1 [] (pc' := 9) (lv' := []) (st' := [.inr (.inr v.toInt64), .inl 0, .inr (.inl r3)]) rfl ?_
    refine s_stJ C 7 rfl (fun M2 _ => ?_)
    refine s_blk C 8 1 [] (pc' := 21) (lv' := []) (st' := []) rfl ?_
    refine s_blk C 15 1 [] (pc' := 22) (lv' := []) (st' := [.inl 0]) rfl ?_
    exact s_iret C 16 rfl rfl
  refine jsx_if (fun hk => ?_) ?_
  · subst hk
    refine jsx_catch C htab 0 rfl (by decide) (by decide) (by decide) lc_0 nc_0 (fun z hz => by cases hz) (fun q9 => ?_)
    refine s_blk C 9 2 [] (pc' := 16) (lv' := []) (st' := [.inl 1]) rfl ?_
    exact s_iret C 11 rfl rfl
  refine jsx_if (fun hk => ?_) ?_
  · subst hk
    refine jsx_catch C htab 1 rfl (by decide) (by decide) (by decide) lc_2 nc_2 (fun z hz => by
        rcases List.mem_cons.mp hz with rfl | hz
        · exact ⟨by decide, exn 0, lc_0, by decide⟩
        · cases hz) (fun q9 => ?_)
    refine s_blk C 12 2 [] (pc' := 20) (lv' := []) (st' := [.inl 2]) rfl ?_
    exact s_iret C 14 rfl rfl
  exact jsx_none
theorem cLw_finish {l : Launch} {G : GE} (htr : l.stackTraces = false) (σ : Sg) (M : Mm) (n : Nat) (r0 : Option Nat) (x1 : Int32) (x2 : Int32) (r3 : Option Nat) : ∀ o, fLw_finish r0 x1 x2 r3 M n = some o → MetW l G yL_finish cL_finish 5 (some .int) [(0, 10, 13, 20), (0, 10, 17, 15)] 13 300 [.inr (.inl r0), .inl x1, .inl x2, .inr (.inl r3)] (σ, M, n) (eL σ o) :=
  c_ofW (fun _ => ⟨_, rfl⟩) (by decide) kLw_finish htr rfl rfl fun X _ C htab => wLw_finish C htab r0 x1 x2 r3 M n
def pLw_list : List BR := [(0, .aload 5, 2, 0, 2), (2, .iconst 0, 1, 0, 3), (3, .aload_n 0, 1, 0, 4), (4, .iload_n 1, 1, 0, 5), (5, .iload_n 2, 1, 0, 6), (6, .iload_n 3, 1, 0, 7), (7, .iload 4, 2, 0, 9), (9, .invokevirtual 49, 3, 0, 12), (12, .i2l, 1, 0, 13), (13, .lastore, 1, 0, 14), (14, .goto (11), 3, 0, 25), (17, .astore 6, 2, 0, 19), (19, .iconst 1, 1, 1, 20), (20, .ireturn, 1, 0, 21), (21, .astore 6, 2, 0, 23), (23, .iconst 2, 1, 2, 24), (24, .ireturn, 1, 0, 25), (25, .iconst 0, 1, 0, 26), (26, .ireturn, 1, 0, 27)]
theorem kLw_list : bOK cL_list 7 pLw_list = true := by decide +kernel
def fLw_list (r0 : Option Nat) (x1 : Int32) (x2 : Int32) (x3 : Int32) (x4 : Int32) (r5 : Option Nat) (M : Mm) (n : Nat) : Option (Int32 × Mm × Nat) :=
  rk 11 r0 M fun a1 =>
  bdT (fHb_list a1 x1 x2 x3 x4 M n) n (fun v M1 n1 =>
    asJ r5 0 v.toInt64 M1 fun M2 =>
    some (0, M2, n1))
    (fun k M1 n1 => if k = 0 then some (1, M1, n1) else if k = 1 then some (2, M1, n1) else none)
theorem wLw_list {X : MC} {G : GE} {n0 : Nat} (C : CX X G RL cL_list pLw_list 7 (some .int) n0) (htab : X.2.2.2.2.2.2.2.2.exceptionTable.toList = tableOf [(0, 14, 17, 20), (0, 14, 21, 13)]) {σ : Sg} (r0 : Option Nat) (x1 : Int32) (x2 : Int32) (x3 : Int32) (x4 : Int32) (r5 : Option Nat) (M : Mm) (n : Nat) : JS X G 7 300 0 n0 (EM X G n0 9 300 (eL σ)) (fLw_list r0 x1 x2 x3 x4 r5 M n) (σ, M, n) 0 [(0, .inr (.inl r0)), (1, .inl x1), (2, .inl x2), (3, .inl x3), (4, .inl x4), (5, .inr (.inl r5))] [] := by
  unfold fLw_list
  refine s_blk C 0 7 [] (pc' := 9) (lv' := []) (st' := [.inl x4, .inl x3, .inl x2, .inl x1, .inr (.inl r0), .inl 0, .inr (.inl r5)]) rfl ?_
  refine s_rk (fun a1 ha hk => ?_)
  subst ha
  refine s_T (CE_EM _ _ _ _ _ _) (st := [.inl 0, .inr (.inl r5)]) (fun o ho => j_callV (As := [.inl x1, .inl x2, .inl x3, .inl x4]) (st := [.inl 0, .inr (.inl r5)]) (b := a1) C 7 rfl mf_Hb_list ml_L_49 rfl (recv_K C (by decide) (by decide) rfl hk) (by decide) (by decide) (Nat.le_refl _) rfl (cHb_list (CX_tr C) σ M n a1 x1 x2 x3 x4 o ho)) (fun v M1 n1 _ => ?_) (fun k M1 n1 _ => ?_)
  · refine s_blk C 8 1 [] (pc' := 13) (lv' := []) (st' := [.inr (.inr v.toInt64), .inl 0, .inr (.inl r5)]) rfl ?_
    refine s_stJ C 9 rfl (fun M2 _ => ?_)
    refine s_blk C 10 1 [] (pc' := 25) (lv' := []) (st' := []) rfl ?_
    refine s_blk C 17 1 [] (pc' := 26) (lv' := []) (st' := [.inl 0]) rfl ?_
    exact s_iret C 18 rfl rfl
  refine jsx_if (fun hk => ?_) ?_
  · subst hk
    refine jsx_catch C htab 0 rfl (by decide) (by decide) (by decide) lc_0 nc_0 (fun z hz => by cases hz) (fun q9 => ?_)
    refine s_blk C 11 2 [] (pc' := 20) (lv' := []) (st' := [.inl 1]) rfl ?_
    exact s_iret C 13 rfl rfl
  refine jsx_if (fun hk => ?_) ?_
  · subst hk
    refine jsx_catch C htab 1 rfl (by decide) (by decide) (by decide) lc_1 nc_1 (fun z hz => by
        rcases List.mem_cons.mp hz with rfl | hz
        · exact ⟨by decide, exn 0, lc_0, by decide⟩
        · cases hz) (fun q9 => ?_)
    refine s_blk C 14 2 [] (pc' := 24) (lv' := []) (st' := [.inl 2]) rfl ?_
    exact s_iret C 16 rfl rfl
  exact jsx_none
theorem cLw_list {l : Launch} {G : GE} (htr : l.stackTraces = false) (σ : Sg) (M : Mm) (n : Nat) (r0 : Option Nat) (x1 : Int32) (x2 : Int32) (x3 : Int32) (x4 : Int32) (r5 : Option Nat) : ∀ o, fLw_list r0 x1 x2 x3 x4 r5 M n = some o → MetW l G yL_list cL_list 7 (some .int) [(0, 14, 17, 20), (0, 14, 21, 13)] 9 300 [.inr (.inl r0), .inl x1, .inl x2, .inl x3, .inl x4, .inr (.inl r5)] (σ, M, n) (eL σ o) :=
  c_ofW (fun _ => ⟨_, rfl⟩) (by decide) kLw_list htr rfl rfl fun X _ C htab => wLw_list C htab r0 x1 x2 x3 x4 r5 M n
def pLw_version : List BR := [(0, .aload 4, 2, 0, 2), (2, .iconst 0, 1, 0, 3), (3, .aload_n 0, 1, 0, 4), (4, .iload_n 1, 1, 0, 5), (5, .iload_n 2, 1, 0, 6), (6, .iload_n 3, 1, 0, 7), (7, .invokevirtual 52, 3, 0, 10), (10, .i2l, 1, 0, 11), (11, .lastore, 1, 0, 12), (12, .goto (11), 3, 0, 23), (15, .astore 5, 2, 0, 17), (17, .iconst 1, 1, 1, 18), (18, .ireturn, 1, 0, 19), (19, .astore 5, 2, 0, 21), (21, .iconst 2, 1, 2, 22), (22, .ireturn, 1, 0, 23), (23, .iconst 0, 1, 0, 24), (24, .ireturn, 1, 0, 25)]
theorem kLw_version : bOK cL_version 6 pLw_version = true := by decide +kernel
def fLw_version (r0 : Option Nat) (x1 : Int32) (x2 : Int32) (x3 : Int32) (r4 : Option Nat) (M : Mm) (n : Nat) : Option (Int32 × Mm × Nat) :=
  rk 11 r0 M fun a1 =>
  bdT (fHb_version a1 x1 x2 x3 M n) n (fun v M1 n1 =>
    asJ r4 0 v.toInt64 M1 fun M2 =>
    some (0, M2, n1))
    (fun k M1 n1 => if k = 0 then some (1, M1, n1) else if k = 1 then some (2, M1, n1) else none)
theorem wLw_version {X : MC} {G : GE} {n0 : Nat} (C : CX X G RL cL_version pLw_version 6 (some .int) n0) (htab : X.2.2.2.2.2.2.2.2.exceptionTable.toList = tableOf [(0, 12, 15, 20), (0, 12, 19, 13)]) {σ : Sg} (r0 : Option Nat) (x1 : Int32) (x2 : Int32) (x3 : Int32) (r4 : Option Nat) (M : Mm) (n : Nat) : JS X G 6 300 0 n0 (EM X G n0 9 300 (eL σ)) (fLw_version r0 x1 x2 x3 r4 M n) (σ, M, n) 0 [(0, .inr (.inl r0)), (1, .inl x1), (2, .inl x2), (3, .inl x3), (4, .inr (.inl r4))] [] := by
  unfold fLw_version
  refine s_blk C 0 6 [] (pc' := 7) (lv' := []) (st' := [.inl x3, .inl x2, .inl x1, .inr (.inl r0), .inl 0, .inr (.inl r4)]) rfl ?_
  refine s_rk (fun a1 ha hk => ?_)
  subst ha
  refine s_T (CE_EM _ _ _ _ _ _) (st := [.inl 0, .inr (.inl r4)]) (fun o ho => j_callV (As := [.inl x1, .inl x2, .inl x3]) (st := [.inl 0, .inr (.inl r4)]) (b := a1) C 6 rfl mf_Hb_version ml_L_52 rfl (recv_K C (by decide) (by decide) rfl hk) (by decide) (by decide) (Nat.le_refl _) rfl (cHb_version (CX_tr C) σ M n a1 x1 x2 x3 o ho)) (fun v M1 n1 _ => ?_) (fun k M1 n1 _ => ?_)
  · refine s_blk C 7 1 [] (pc' := 11) (lv' := []) (st' := [.inr (.inr v.toInt64), .inl 0, .inr (.inl r4)]) rfl ?_
    refine s_stJ C 8 rfl (fun M2 _ => ?_)
    refine s_blk C 9 1 [] (pc' := 23) (lv' := []) (st' := []) rfl ?_
    refine s_blk C 16 1 [] (pc' := 24) (lv' := []) (st' := [.inl 0]) rfl ?_
    exact s_iret C 17 rfl rfl
  refine jsx_if (fun hk => ?_) ?_
  · subst hk
    refine jsx_catch C htab 0 rfl (by decide) (by decide) (by decide) lc_0 nc_0 (fun z hz => by cases hz) (fun q9 => ?_)
    refine s_blk C 10 2 [] (pc' := 18) (lv' := []) (st' := [.inl 1]) rfl ?_
    exact s_iret C 12 rfl rfl
  refine jsx_if (fun hk => ?_) ?_
  · subst hk
    refine jsx_catch C htab 1 rfl (by decide) (by decide) (by decide) lc_1 nc_1 (fun z hz => by
        rcases List.mem_cons.mp hz with rfl | hz
        · exact ⟨by decide, exn 0, lc_0, by decide⟩
        · cases hz) (fun q9 => ?_)
    refine s_blk C 13 2 [] (pc' := 22) (lv' := []) (st' := [.inl 2]) rfl ?_
    exact s_iret C 15 rfl rfl
  exact jsx_none
theorem cLw_version {l : Launch} {G : GE} (htr : l.stackTraces = false) (σ : Sg) (M : Mm) (n : Nat) (r0 : Option Nat) (x1 : Int32) (x2 : Int32) (x3 : Int32) (r4 : Option Nat) : ∀ o, fLw_version r0 x1 x2 x3 r4 M n = some o → MetW l G yL_version cL_version 6 (some .int) [(0, 12, 15, 20), (0, 12, 19, 13)] 9 300 [.inr (.inl r0), .inl x1, .inl x2, .inl x3, .inr (.inl r4)] (σ, M, n) (eL σ o) :=
  c_ofW (fun _ => ⟨_, rfl⟩) (by decide) kLw_version htr rfl rfl fun X _ C htab => wLw_version C htab r0 x1 x2 x3 r4 M n
def pLw_about : List BR := [(0, .aload 5, 2, 0, 2), (2, .iconst 0, 1, 0, 3), (3, .aload_n 0, 1, 0, 4), (4, .iload_n 1, 1, 0, 5), (5, .iload_n 2, 1, 0, 6), (6, .iload_n 3, 1, 0, 7), (7, .iload 4, 2, 0, 9), (9, .invokevirtual 55, 3, 0, 12), (12, .i2l, 1, 0, 13), (13, .lastore, 1, 0, 14), (14, .goto (11), 3, 0, 25), (17, .astore 6, 2, 0, 19), (19, .iconst 1, 1, 1, 20), (20, .ireturn, 1, 0, 21), (21, .astore 6, 2, 0, 23), (23, .iconst 2, 1, 2, 24), (24, .ireturn, 1, 0, 25), (25, .iconst 0, 1, 0, 26), (26, .ireturn, 1, 0, 27)]
theorem kLw_about : bOK cL_about 7 pLw_about = true := by decide +kernel
def fLw_about (r0 : Option Nat) (x1 : Int32) (x2 : Int32) (x3 : Int32) (x4 : Int32) (r5 : Option Nat) (M : Mm) (n : Nat) : Option (Int32 × Mm × Nat) :=
  rk 11 r0 M fun a1 =>
  bdT (fHb_about a1 x1 x2 x3 x4 M n) n (fun v M1 n1 =>
    asJ r5 0 v.toInt64 M1 fun M2 =>
    some (0, M2, n1))
    (fun k M1 n1 => if k = 0 then some (1, M1, n1) else if k = 1 then some (2, M1, n1) else none)
theorem wLw_about {X : MC} {G : GE} {n0 : Nat} (C : CX X G RL cL_about pLw_about 7 (some .int) n0) (htab : X.2.2.2.2.2.2.2.2.exceptionTable.toList = tableOf [(0, 14, 17, 20), (0, 14, 21, 13)]) {σ : Sg} (r0 : Option Nat) (x1 : Int32) (x2 : Int32) (x3 : Int32) (x4 : Int32) (r5 : Option Nat) (M : Mm) (n : Nat) : JS X G 7 300 0 n0 (EM X G n0 9 300 (eL σ)) (fLw_about r0 x1 x2 x3 x4 r5 M n) (σ, M, n) 0 [(0, .inr (.inl r0)), (1, .inl x1), (2, .inl x2), (3, .inl x3), (4, .inl x4), (5, .inr (.inl r5))] [] := by
  unfold fLw_about
  refine s_blk C 0 7 [] (pc' := 9) (lv' := []) (st' := [.inl x4, .inl x3, .inl x2, .inl x1, .inr (.inl r0), .inl 0, .inr (.inl r5)]) rfl ?_
  refine s_rk (fun a1 ha hk => ?_)
  subst ha
  refine s_T (CE_EM _ _ _ _ _ _) (st := [.inl 0, .inr (.inl r5)]) (fun o ho => j_callV (As := [.inl x1, .inl x2, .inl x3, .inl x4]) (st := [.inl 0, .inr (.inl r5)]) (b := a1) C 7 rfl mf_Hb_about ml_L_55 rfl (recv_K C (by decide) (by decide) rfl hk) (by decide) (by decide) (Nat.le_refl _) rfl (cHb_about (CX_tr C) σ M n a1 x1 x2 x3 x4 o ho)) (fun v M1 n1 _ => ?_) (fun k M1 n1 _ => ?_)
  · refine s_blk C 8 1 [] (pc' := 13) (lv' := []) (st' := [.inr (.inr v.toInt64), .inl 0, .inr (.inl r5)]) rfl ?_
    refine s_stJ C 9 rfl (fun M2 _ => ?_)
    refine s_blk C 10 1 [] (pc' := 25) (lv' := []) (st' := []) rfl ?_
    refine s_blk C 17 1 [] (pc' := 26) (lv' := []) (st' := [.inl 0]) rfl ?_
    exact s_iret C 18 rfl rfl
  refine jsx_if (fun hk => ?_) ?_
  · subst hk
    refine jsx_catch C htab 0 rfl (by decide) (by decide) (by decide) lc_0 nc_0 (fun z hz => by cases hz) (fun q9 => ?_)
    refine s_blk C 11 2 [] (pc' := 20) (lv' := []) (st' := [.inl 1]) rfl ?_
    exact s_iret C 13 rfl rfl
  refine jsx_if (fun hk => ?_) ?_
  · subst hk
    refine jsx_catch C htab 1 rfl (by decide) (by decide) (by decide) lc_1 nc_1 (fun z hz => by
        rcases List.mem_cons.mp hz with rfl | hz
        · exact ⟨by decide, exn 0, lc_0, by decide⟩
        · cases hz) (fun q9 => ?_)
    refine s_blk C 14 2 [] (pc' := 24) (lv' := []) (st' := [.inl 2]) rfl ?_
    exact s_iret C 16 rfl rfl
  exact jsx_none
theorem cLw_about {l : Launch} {G : GE} (htr : l.stackTraces = false) (σ : Sg) (M : Mm) (n : Nat) (r0 : Option Nat) (x1 : Int32) (x2 : Int32) (x3 : Int32) (x4 : Int32) (r5 : Option Nat) : ∀ o, fLw_about r0 x1 x2 x3 x4 r5 M n = some o → MetW l G yL_about cL_about 7 (some .int) [(0, 14, 17, 20), (0, 14, 21, 13)] 9 300 [.inr (.inl r0), .inl x1, .inl x2, .inl x3, .inl x4, .inr (.inl r5)] (σ, M, n) (eL σ o) :=
  c_ofW (fun _ => ⟨_, rfl⟩) (by decide) kLw_about htr rfl rfl fun X _ C htab => wLw_about C htab r0 x1 x2 x3 x4 r5 M n
def pLw_part : List BR := [(0, .aload 5, 2, 0, 2), (2, .iconst 0, 1, 0, 3), (3, .aload_n 0, 1, 0, 4), (4, .iload_n 1, 1, 0, 5), (5, .iload_n 2, 1, 0, 6), (6, .iload_n 3, 1, 0, 7), (7, .iload 4, 2, 0, 9), (9, .invokevirtual 58, 3, 0, 12), (12, .i2l, 1, 0, 13), (13, .lastore, 1, 0, 14), (14, .goto (11), 3, 0, 25), (17, .astore 6, 2, 0, 19), (19, .iconst 1, 1, 1, 20), (20, .ireturn, 1, 0, 21), (21, .astore 6, 2, 0, 23), (23, .iconst 2, 1, 2, 24), (24, .ireturn, 1, 0, 25), (25, .iconst 0, 1, 0, 26), (26, .ireturn, 1, 0, 27)]
theorem kLw_part : bOK cL_part 7 pLw_part = true := by decide +kernel
def fLw_part (r0 : Option Nat) (x1 : Int32) (x2 : Int32) (x3 : Int32) (x4 : Int32) (r5 : Option Nat) (M : Mm) (n : Nat) : Option (Int32 × Mm × Nat) :=
  rk 11 r0 M fun a1 =>
  bdT (fHb_part a1 x1 x2 x3 x4 M n) n (fun v M1 n1 =>
    asJ r5 0 v.toInt64 M1 fun M2 =>
    some (0, M2, n1))
    (fun k M1 n1 => if k = 0 then some (1, M1, n1) else if k = 1 then some (2, M1, n1) else none)
theorem wLw_part {X : MC} {G : GE} {n0 : Nat} (C : CX X G RL cL_part pLw_part 7 (some .int) n0) (htab : X.2.2.2.2.2.2.2.2.exceptionTable.toList = tableOf [(0, 14, 17, 20), (0, 14, 21, 13)]) {σ : Sg} (r0 : Option Nat) (x1 : Int32) (x2 : Int32) (x3 : Int32) (x4 : Int32) (r5 : Option Nat) (M : Mm) (n : Nat) : JS X G 7 300 0 n0 (EM X G n0 9 300 (eL σ)) (fLw_part r0 x1 x2 x3 x4 r5 M n) (σ, M, n) 0 [(0, .inr (.inl r0)), (1, .inl x1), (2, .inl x2), (3, .inl x3), (4, .inl x4), (5, .inr (.inl r5))] [] := by
  unfold fLw_part
  refine s_blk C 0 7 [] (pc' := 9) (lv' := []) (st' := [.inl x4, .inl x3, .inl x2, .inl x1, .inr (.inl r0), .inl 0, .inr (.inl r5)]) rfl ?_
  refine s_rk (fun a1 ha hk => ?_)
  subst ha
  refine s_T (CE_EM _ _ _ _ _ _) (st := [.inl 0, .inr (.inl r5)]) (fun o ho => j_callV (As := [.inl x1, .inl x2, .inl x3, .inl x4]) (st := [.inl 0, .inr (.inl r5)]) (b := a1) C 7 rfl mf_Hb_part ml_L_58 rfl (recv_K C (by decide) (by decide) rfl hk) (by decide) (by decide) (Nat.le_refl _) rfl (cHb_part (CX_tr C) σ M n a1 x1 x2 x3 x4 o ho)) (fun v M1 n1 _ => ?_) (fun k M1 n1 _ => ?_)
  · refine s_blk C 8 1 [] (pc' := 13) (lv' := []) (st' := [.inr (.inr v.toInt64), .inl 0, .inr (.inl r5)]) rfl ?_
    refine s_stJ C 9 rfl (fun M2 _ => ?_)
    refine s_blk C 10 1 [] (pc' := 25) (lv' := []) (st' := []) rfl ?_
    refine s_blk C 17 1 [] (pc' := 26) (lv' := []) (st' := [.inl 0]) rfl ?_
    exact s_iret C 18 rfl rfl
  refine jsx_if (fun hk => ?_) ?_
  · subst hk
    refine jsx_catch C htab 0 rfl (by decide) (by decide) (by decide) lc_0 nc_0 (fun z hz => by cases hz) (fun q9 => ?_)
    refine s_blk C 11 2 [] (pc' := 20) (lv' := []) (st' := [.inl 1]) rfl ?_
    exact s_iret C 13 rfl rfl
  refine jsx_if (fun hk => ?_) ?_
  · subst hk
    refine jsx_catch C htab 1 rfl (by decide) (by decide) (by decide) lc_1 nc_1 (fun z hz => by
        rcases List.mem_cons.mp hz with rfl | hz
        · exact ⟨by decide, exn 0, lc_0, by decide⟩
        · cases hz) (fun q9 => ?_)
    refine s_blk C 14 2 [] (pc' := 24) (lv' := []) (st' := [.inl 2]) rfl ?_
    exact s_iret C 16 rfl rfl
  exact jsx_none
theorem cLw_part {l : Launch} {G : GE} (htr : l.stackTraces = false) (σ : Sg) (M : Mm) (n : Nat) (r0 : Option Nat) (x1 : Int32) (x2 : Int32) (x3 : Int32) (x4 : Int32) (r5 : Option Nat) : ∀ o, fLw_part r0 x1 x2 x3 x4 r5 M n = some o → MetW l G yL_part cL_part 7 (some .int) [(0, 14, 17, 20), (0, 14, 21, 13)] 9 300 [.inr (.inl r0), .inl x1, .inl x2, .inl x3, .inl x4, .inr (.inl r5)] (σ, M, n) (eL σ o) :=
  c_ofW (fun _ => ⟨_, rfl⟩) (by decide) kLw_part htr rfl rfl fun X _ C htab => wLw_part C htab r0 x1 x2 x3 x4 r5 M n
def pLw_partIs : List BR := [(0, .aload 4, 2, 0, 2), (2, .iconst 0, 1, 0, 3), (3, .aload_n 0, 1, 0, 4), (4, .iload_n 1, 1, 0, 5), (5, .iload_n 2, 1, 0, 6), (6, .iload_n 3, 1, 0, 7), (7, .invokevirtual 61, 3, 0, 10), (10, .i2l, 1, 0, 11), (11, .lastore, 1, 0, 12), (12, .goto (11), 3, 0, 23), (15, .astore 5, 2, 0, 17), (17, .iconst 1, 1, 1, 18), (18, .ireturn, 1, 0, 19), (19, .astore 5, 2, 0, 21), (21, .iconst 2, 1, 2, 22), (22, .ireturn, 1, 0, 23), (23, .iconst 0, 1, 0, 24), (24, .ireturn, 1, 0, 25)]
theorem kLw_partIs : bOK cL_partIs 6 pLw_partIs = true := by decide +kernel
def fLw_partIs (r0 : Option Nat) (x1 : Int32) (x2 : Int32) (x3 : Int32) (r4 : Option Nat) (M : Mm) (n : Nat) : Option (Int32 × Mm × Nat) :=
  rk 11 r0 M fun a1 =>
  bdT (fHb_partIs a1 x1 x2 x3 M n) n (fun v M1 n1 =>
    asJ r4 0 v.toInt64 M1 fun M2 =>
    some (0, M2, n1))
    (fun k M1 n1 => if k = 0 then some (1, M1, n1) else if k = 1 then some (2, M1, n1) else none)
theorem wLw_partIs {X : MC} {G : GE} {n0 : Nat} (C : CX X G RL cL_partIs pLw_partIs 6 (some .int) n0) (htab : X.2.2.2.2.2.2.2.2.exceptionTable.toList = tableOf [(0, 12, 15, 20), (0, 12, 19, 13)]) {σ : Sg} (r0 : Option Nat) (x1 : Int32) (x2 : Int32) (x3 : Int32) (r4 : Option Nat) (M : Mm) (n : Nat) : JS X G 6 300 0 n0 (EM X G n0 9 300 (eL σ)) (fLw_partIs r0 x1 x2 x3 r4 M n) (σ, M, n) 0 [(0, .inr (.inl r0)), (1, .inl x1), (2, .inl x2), (3, .inl x3), (4, .inr (.inl r4))] [] := by
  unfold fLw_partIs
  refine s_blk C 0 6 [] (pc' := 7) (lv' := []) (st' := [.inl x3, .inl x2, .inl x1, .inr (.inl r0), .inl 0, .inr (.inl r4)]) rfl ?_
  refine s_rk (fun a1 ha hk => ?_)
  subst ha
  refine s_T (CE_EM _ _ _ _ _ _) (st := [.inl 0, .inr (.inl r4)]) (fun o ho => j_callV (As := [.inl x1, .inl x2, .inl x3]) (st := [.inl 0, .inr (.inl r4)]) (b := a1) C 6 rfl mf_Hb_partIs ml_L_61 rfl (recv_K C (by decide) (by decide) rfl hk) (by decide) (by decide) (Nat.le_refl _) rfl (cHb_partIs (CX_tr C) σ M n a1 x1 x2 x3 o ho)) (fun v M1 n1 _ => ?_) (fun k M1 n1 _ => ?_)
  · refine s_blk C 7 1 [] (pc' := 11) (lv' := []) (st' := [.inr (.inr v.toInt64), .inl 0, .inr (.inl r4)]) rfl ?_
    refine s_stJ C 8 rfl (fun M2 _ => ?_)
    refine s_blk C 9 1 [] (pc' := 23) (lv' := []) (st' := []) rfl ?_
    refine s_blk C 16 1 [] (pc' := 24) (lv' := []) (st' := [.inl 0]) rfl ?_
    exact s_iret C 17 rfl rfl
  refine jsx_if (fun hk => ?_) ?_
  · subst hk
    refine jsx_catch C htab 0 rfl (by decide) (by decide) (by decide) lc_0 nc_0 (fun z hz => by cases hz) (fun q9 => ?_)
    refine s_blk C 10 2 [] (pc' := 18) (lv' := []) (st' := [.inl 1]) rfl ?_
    exact s_iret C 12 rfl rfl
  refine jsx_if (fun hk => ?_) ?_
  · subst hk
    refine jsx_catch C htab 1 rfl (by decide) (by decide) (by decide) lc_1 nc_1 (fun z hz => by
        rcases List.mem_cons.mp hz with rfl | hz
        · exact ⟨by decide, exn 0, lc_0, by decide⟩
        · cases hz) (fun q9 => ?_)
    refine s_blk C 13 2 [] (pc' := 22) (lv' := []) (st' := [.inl 2]) rfl ?_
    exact s_iret C 15 rfl rfl
  exact jsx_none
theorem cLw_partIs {l : Launch} {G : GE} (htr : l.stackTraces = false) (σ : Sg) (M : Mm) (n : Nat) (r0 : Option Nat) (x1 : Int32) (x2 : Int32) (x3 : Int32) (r4 : Option Nat) : ∀ o, fLw_partIs r0 x1 x2 x3 r4 M n = some o → MetW l G yL_partIs cL_partIs 6 (some .int) [(0, 12, 15, 20), (0, 12, 19, 13)] 9 300 [.inr (.inl r0), .inl x1, .inl x2, .inl x3, .inr (.inl r4)] (σ, M, n) (eL σ o) :=
  c_ofW (fun _ => ⟨_, rfl⟩) (by decide) kLw_partIs htr rfl rfl fun X _ C htab => wLw_partIs C htab r0 x1 x2 x3 r4 M n
def pLw_node : List BR := [(0, .aload 4, 2, 0, 2), (2, .iconst 0, 1, 0, 3), (3, .aload_n 0, 1, 0, 4), (4, .iload_n 1, 1, 0, 5), (5, .iload_n 2, 1, 0, 6), (6, .iload_n 3, 1, 0, 7), (7, .invokevirtual 64, 3, 0, 10), (10, .i2l, 1, 0, 11), (11, .lastore, 1, 0, 12), (12, .goto (11), 3, 0, 23), (15, .astore 5, 2, 0, 17), (17, .iconst 1, 1, 1, 18), (18, .ireturn, 1, 0, 19), (19, .astore 5, 2, 0, 21), (21, .iconst 2, 1, 2, 22), (22, .ireturn, 1, 0, 23), (23, .iconst 0, 1, 0, 24), (24, .ireturn, 1, 0, 25)]
theorem kLw_node : bOK cL_node 6 pLw_node = true := by decide +kernel
def fLw_node (r0 : Option Nat) (x1 : Int32) (x2 : Int32) (x3 : Int32) (r4 : Option Nat) (M : Mm) (n : Nat) : Option (Int32 × Mm × Nat) :=
  rk 11 r0 M fun a1 =>
  bdT (fHb_node a1 x1 x2 x3 M n) n (fun v M1 n1 =>
    asJ r4 0 v.toInt64 M1 fun M2 =>
    some (0, M2, n1))
    (fun k M1 n1 => if k = 0 then some (1, M1, n1) else if k = 2 then some (2, M1, n1) else none)
theorem wLw_node {X : MC} {G : GE} {n0 : Nat} (C : CX X G RL cL_node pLw_node 6 (some .int) n0) (htab : X.2.2.2.2.2.2.2.2.exceptionTable.toList = tableOf [(0, 12, 15, 20), (0, 12, 19, 15)]) {σ : Sg} (r0 : Option Nat) (x1 : Int32) (x2 : Int32) (x3 : Int32) (r4 : Option Nat) (M : Mm) (n : Nat) : JS X G 6 300 0 n0 (EM X G n0 9 300 (eL σ)) (fLw_node r0 x1 x2 x3 r4 M n) (σ, M, n) 0 [(0, .inr (.inl r0)), (1, .inl x1), (2, .inl x2), (3, .inl x3), (4, .inr (.inl r4))] [] := by
  unfold fLw_node
  refine s_blk C 0 6 [] (pc' := 7) (lv' := []) (st' := [.inl x3, .inl x2, .inl x1, .inr (.inl r0), .inl 0, .inr (.inl r4)]) rfl ?_
  refine s_rk (fun a1 ha hk => ?_)
  subst ha
  refine s_T (CE_EM _ _ _ _ _ _) (st := [.inl 0, .inr (.inl r4)]) (fun o ho => j_callV (As := [.inl x1, .inl x2, .inl x3]) (st := [.inl 0, .inr (.inl r4)]) (b := a1) C 6 rfl mf_Hb_node ml_L_64 rfl (recv_K C (by decide) (by decide) rfl hk) (by decide) (by decide) (Nat.le_refl _) rfl (cHb_node (CX_tr C) σ M n a1 x1 x2 x3 o ho)) (fun v M1 n1 _ => ?_) (fun k M1 n1 _ => ?_)
  · refine s_blk C 7 1 [] (pc' := 11) (lv' := []) (st' := [.inr (.inr v.toInt64), .inl 0, .inr (.inl r4)]) rfl ?_
    refine s_stJ C 8 rfl (fun M2 _ => ?_)
    refine s_blk C 9 1 [] (pc' := 23) (lv' := []) (st' := []) rfl ?_
    refine s_blk C 16 1 [] (pc' := 24) (lv' := []) (st' := [.inl 0]) rfl ?_
    exact s_iret C 17 rfl rfl
  refine jsx_if (fun hk => ?_) ?_
  · subst hk
    refine jsx_catch C htab 0 rfl (by decide) (by decide) (by decide) lc_0 nc_0 (fun z hz => by cases hz) (fun q9 => ?_)
    refine s_blk C 10 2 [] (pc' := 18) (lv' := []) (st' := [.inl 1]) rfl ?_
    exact s_iret C 12 rfl rfl
  refine jsx_if (fun hk => ?_) ?_
  · subst hk
    refine jsx_catch C htab 1 rfl (by decide) (by decide) (by decide) lc_2 nc_2 (fun z hz => by
        rcases List.mem_cons.mp hz with rfl | hz
        · exact ⟨by decide, exn 0, lc_0, by decide⟩
        · cases hz) (fun q9 => ?_)
    refine s_blk C 13 2 [] (pc' := 22) (lv' := []) (st' := [.inl 2]) rfl ?_
    exact s_iret C 15 rfl rfl
  exact jsx_none
theorem cLw_node {l : Launch} {G : GE} (htr : l.stackTraces = false) (σ : Sg) (M : Mm) (n : Nat) (r0 : Option Nat) (x1 : Int32) (x2 : Int32) (x3 : Int32) (r4 : Option Nat) : ∀ o, fLw_node r0 x1 x2 x3 r4 M n = some o → MetW l G yL_node cL_node 6 (some .int) [(0, 12, 15, 20), (0, 12, 19, 15)] 9 300 [.inr (.inl r0), .inl x1, .inl x2, .inl x3, .inr (.inl r4)] (σ, M, n) (eL σ o) :=
  c_ofW (fun _ => ⟨_, rfl⟩) (by decide) kLw_node htr rfl rfl fun X _ C htab => wLw_node C htab r0 x1 x2 x3 r4 M n
def pLw_rot : List BR := [(0, .aload 4, 2, 0, 2), (2, .iconst 0, 1, 0, 3), (3, .aload_n 0, 1, 0, 4), (4, .iload_n 1, 1, 0, 5), (5, .iload_n 2, 1, 0, 6), (6, .iload_n 3, 1, 0, 7), (7, .invokevirtual 68, 3, 0, 10), (10, .ifCond .eq (7), 3, 0, 17), (13, .lconst 1, 1, 0, 14), (14, .goto (4), 3, 0, 18), (17, .lconst 0, 1, 0, 18), (18, .lastore, 1, 0, 19), (19, .goto (11), 3, 0, 30), (22, .astore 5, 2, 0, 24), (24, .iconst 1, 1, 1, 25), (25, .ireturn, 1, 0, 26), (26, .astore 5, 2, 0, 28), (28, .iconst 2, 1, 2, 29), (29, .ireturn, 1, 0, 30), (30, .iconst 0, 1, 0, 31), (31, .ireturn, 1, 0, 32)]
theorem kLw_rot : bOK cL_rot 6 pLw_rot = true := by decide +kernel
def fLw_rot (r0 : Option Nat) (x1 : Int32) (x2 : Int32) (x3 : Int32) (r4 : Option Nat) (M : Mm) (n : Nat) : Option (Int32 × Mm × Nat) :=
  rk 11 r0 M fun a1 =>
  bdT (fHb_rot a1 x1 x2 x3 M n) n (fun v M1 n1 =>
    if v = 0 then
    asJ r4 0 (Int64.ofNat 0) M1 fun M2 =>
    some (0, M2, n1)
    else
    asJ r4 0 (Int64.ofNat 1) M1 fun M2 =>
    some (0, M2, n1))
    (fun k M1 n1 => if k = 0 then some (1, M1, n1) else if k = 1 then some (2, M1, n1) else none)
theorem wLw_rot {X : MC} {G : GE} {n0 : Nat} (C : CX X G RL cL_rot pLw_rot 6 (some .int) n0) (htab : X.2.2.2.2.2.2.2.2.exceptionTable.toList = tableOf [(0, 19, 22, 20), (0, 19, 26, 13)]) {σ : Sg} (r0 : Option Nat) (x1 : Int32) (x2 : Int32) (x3 : Int32) (r4 : Option Nat) (M : Mm) (n : Nat) : JS X G 6 300 0 n0 (EM X G n0 9 300 (eL σ)) (fLw_rot r0 x1 x2 x3 r4 M n) (σ, M, n) 0 [(0, .inr (.inl r0)), (1, .inl x1), (2, .inl x2), (3, .inl x3), (4, .inr (.inl r4))] [] := by
  unfold fLw_rot
  refine s_blk C 0 6 [] (pc' := 7) (lv' := []) (st' := [.inl x3, .inl x2, .inl x1, .inr (.inl r0), .inl 0, .inr (.inl r4)]) rfl ?_
  refine s_rk (fun a1 ha hk => ?_)
  subst ha
  refine s_T (CE_EM _ _ _ _ _ _) (st := [.inl 0, .inr (.inl r4)]) (fun o ho => j_callV (As := [.inl x1, .inl x2, .inl x3]) (st := [.inl 0, .inr (.inl r4)]) (b := a1) C 6 rfl mf_Hb_rot ml_L_68 rfl (recv_K C (by decide) (by decide) rfl hk) (by decide) (by decide) (Nat.le_refl _) rfl (cHb_rot (CX_tr C) σ M n a1 x1 x2 x3 o ho)) (fun v M1 n1 _ => ?_) (fun k M1 n1 _ => ?_)
  · refine s_ieq C 7 rfl (fun _ => ?_) (fun _ => ?_)
    · refine s_blk C 10 1 [] (pc' := 18) (lv' := []) (st' := [.inr (.inr (Int64.ofNat 0)), .inl 0, .inr (.inl r4)]) rfl ?_
      refine s_stJ C 11 rfl (fun M2 _ => ?_)
      refine s_blk C 12 1 [] (pc' := 30) (lv' := []) (st' := []) rfl ?_
      refine s_blk C 19 1 [] (pc' := 31) (lv' := []) (st' := [.inl 0]) rfl ?_
      exact s_iret C 20 rfl rfl
    refine s_blk C 8 2 [] (pc' := 18) (lv' := []) (st' := [.inr (.inr (Int64.ofNat 1)), .inl 0, .inr (.inl r4)]) rfl ?_
    refine s_stJ C 11 rfl (fun M2 _ => ?_)
    refine s_blk C 12 1 [] (pc' := 30) (lv' := []) (st' := []) rfl ?_
    refine s_blk C 19 1 [] (pc' := 31) (lv' := []) (st' := [.inl 0]) rfl ?_
    exact s_iret C 20 rfl rfl
  refine jsx_if (fun hk => ?_) ?_
  · subst hk
    refine jsx_catch C htab 0 rfl (by decide) (by decide) (by decide) lc_0 nc_0 (fun z hz => by cases hz) (fun q9 => ?_)
    refine s_blk C 13 2 [] (pc' := 25) (lv' := []) (st' := [.inl 1]) rfl ?_
    exact s_iret C 15 rfl rfl
  refine jsx_if (fun hk => ?_) ?_
  · subst hk
    refine jsx_catch C htab 1 rfl (by decide) (by decide) (by decide) lc_1 nc_1 (fun z hz => by
        rcases List.mem_cons.mp hz with rfl | hz
        · exact ⟨by decide, exn 0, lc_0, by decide⟩
        · cases hz) (fun q9 => ?_)
    refine s_blk C 16 2 [] (pc' := 29) (lv' := []) (st' := [.inl 2]) rfl ?_
    exact s_iret C 18 rfl rfl
  exact jsx_none
theorem cLw_rot {l : Launch} {G : GE} (htr : l.stackTraces = false) (σ : Sg) (M : Mm) (n : Nat) (r0 : Option Nat) (x1 : Int32) (x2 : Int32) (x3 : Int32) (r4 : Option Nat) : ∀ o, fLw_rot r0 x1 x2 x3 r4 M n = some o → MetW l G yL_rot cL_rot 6 (some .int) [(0, 19, 22, 20), (0, 19, 26, 13)] 9 300 [.inr (.inl r0), .inl x1, .inl x2, .inl x3, .inr (.inl r4)] (σ, M, n) (eL σ o) :=
  c_ofW (fun _ => ⟨_, rfl⟩) (by decide) kLw_rot htr rfl rfl fun X _ C htab => wLw_rot C htab r0 x1 x2 x3 r4 M n
def pLw_mend : List BR := [(0, .aload_n 3, 1, 0, 1), (1, .iconst 0, 1, 0, 2), (2, .aload_n 0, 1, 0, 3), (3, .iload_n 1, 1, 0, 4), (4, .iload_n 2, 1, 0, 5), (5, .invokevirtual 72, 3, 0, 8), (8, .i2l, 1, 0, 9), (9, .lastore, 1, 0, 10), (10, .goto (11), 3, 0, 21), (13, .astore 4, 2, 0, 15), (15, .iconst 1, 1, 1, 16), (16, .ireturn, 1, 0, 17), (17, .astore 4, 2, 0, 19), (19, .iconst 2, 1, 2, 20), (20, .ireturn, 1, 0, 21), (21, .iconst 0, 1, 0, 22), (22, .ireturn, 1, 0, 23)]
theorem kLw_mend : bOK cL_mend 5 pLw_mend = true := by decide +kernel
def fLw_mend (r0 : Option Nat) (x1 : Int32) (x2 : Int32) (r3 : Option Nat) (M : Mm) (n : Nat) : Option (Int32 × Mm × Nat) :=
  rk 11 r0 M fun a1 =>
  bdT (fHb_mend a1 x1 x2 M n) n (fun v M1 n1 =>
    asJ r3 0 v.toInt64 M1 fun M2 =>
    some (0, M2, n1))
    (fun k M1 n1 => if k = 0 then some (1, M1, n1) else if k = 1 then some (2, M1, n1) else none)
theorem wLw_mend {X : MC} {G : GE} {n0 : Nat} (C : CX X G RL cL_mend pLw_mend 5 (some .int) n0) (htab : X.2.2.2.2.2.2.2.2.exceptionTable.toList = tableOf [(0, 10, 13, 20), (0, 10, 17, 13)]) {σ : Sg} (r0 : Option Nat) (x1 : Int32) (x2 : Int32) (r3 : Option Nat) (M : Mm) (n : Nat) : JS X G 5 300 0 n0 (EM X G n0 10 300 (eL σ)) (fLw_mend r0 x1 x2 r3 M n) (σ, M, n) 0 [(0, .inr (.inl r0)), (1, .inl x1), (2, .inl x2), (3, .inr (.inl r3))] [] := by
  unfold fLw_mend
  refine s_blk C 0 5 [] (pc' := 5) (lv' := []) (st' := [.inl x2, .inl x1, .inr (.inl r0), .inl 0, .inr (.inl r3)]) rfl ?_
  refine s_rk (fun a1 ha hk => ?_)
  subst ha
  refine s_T (CE_EM _ _ _ _ _ _) (st := [.inl 0, .inr (.inl r3)]) (fun o ho => j_callV (As := [.inl x1, .inl x2]) (st := [.inl 0, .inr (.inl r3)]) (b := a1) C 5 rfl mf_Hb_mend ml_L_72 rfl (recv_K C (by decide) (by decide) rfl hk) (by decide) (by decide) (Nat.le_refl _) rfl (cHb_mend (CX_tr C) σ M n a1 x1 x2 o ho)) (fun v M1 n1 _ => ?_) (fun k M1 n1 _ => ?_)
  · refine s_blk C 6 1 [] (pc' := 9) (lv' := []) (st' := [.inr (.inr v.toInt64), .inl 0, .inr (.inl r3)]) rfl ?_
    refine s_stJ C 7 rfl (fun M2 _ => ?_)
    refine s_blk C 8 1 [] (pc' := 21) (lv' := []) (st' := []) rfl ?_
    refine s_blk C 15 1 [] (pc' := 22) (lv' := []) (st' := [.inl 0]) rfl ?_
    exact s_iret C 16 rfl rfl
  refine jsx_if (fun hk => ?_) ?_
  · subst hk
    refine jsx_catch C htab 0 rfl (by decide) (by decide) (by decide) lc_0 nc_0 (fun z hz => by cases hz) (fun q9 => ?_)
    refine s_blk C 9 2 [] (pc' := 16) (lv' := []) (st' := [.inl 1]) rfl ?_
    exact s_iret C 11 rfl rfl
  refine jsx_if (fun hk => ?_) ?_
  · subst hk
    refine jsx_catch C htab 1 rfl (by decide) (by decide) (by decide) lc_1 nc_1 (fun z hz => by
        rcases List.mem_cons.mp hz with rfl | hz
        · exact ⟨by decide, exn 0, lc_0, by decide⟩
        · cases hz) (fun q9 => ?_)
    refine s_blk C 12 2 [] (pc' := 20) (lv' := []) (st' := [.inl 2]) rfl ?_
    exact s_iret C 14 rfl rfl
  exact jsx_none
theorem cLw_mend {l : Launch} {G : GE} (htr : l.stackTraces = false) (σ : Sg) (M : Mm) (n : Nat) (r0 : Option Nat) (x1 : Int32) (x2 : Int32) (r3 : Option Nat) : ∀ o, fLw_mend r0 x1 x2 r3 M n = some o → MetW l G yL_mend cL_mend 5 (some .int) [(0, 10, 13, 20), (0, 10, 17, 13)] 10 300 [.inr (.inl r0), .inl x1, .inl x2, .inr (.inl r3)] (σ, M, n) (eL σ o) :=
  c_ofW (fun _ => ⟨_, rfl⟩) (by decide) kLw_mend htr rfl rfl fun X _ C htab => wLw_mend C htab r0 x1 x2 r3 M n
def pLw_sweep : List BR := [(0, .aload_n 3, 1, 0, 1), (1, .iconst 0, 1, 0, 2), (2, .aload_n 0, 1, 0, 3), (3, .iload_n 1, 1, 0, 4), (4, .iload_n 2, 1, 0, 5), (5, .invokevirtual 75, 3, 0, 8), (8, .i2l, 1, 0, 9), (9, .lastore, 1, 0, 10), (10, .goto (11), 3, 0, 21), (13, .astore 4, 2, 0, 15), (15, .iconst 1, 1, 1, 16), (16, .ireturn, 1, 0, 17), (17, .astore 4, 2, 0, 19), (19, .iconst 2, 1, 2, 20), (20, .ireturn, 1, 0, 21), (21, .iconst 0, 1, 0, 22), (22, .ireturn, 1, 0, 23)]
theorem kLw_sweep : bOK cL_sweep 5 pLw_sweep = true := by decide +kernel
def fLw_sweep (r0 : Option Nat) (x1 : Int32) (x2 : Int32) (r3 : Option Nat) (M : Mm) (n : Nat) : Option (Int32 × Mm × Nat) :=
  rk 11 r0 M fun a1 =>
  bdT (fHb_sweep a1 x1 x2 M n) n (fun v M1 n1 =>
    asJ r3 0 v.toInt64 M1 fun M2 =>
    some (0, M2, n1))
    (fun k M1 n1 => if k = 0 then some (1, M1, n1) else if k = 1 then some (2, M1, n1) else none)
theorem wLw_sweep {X : MC} {G : GE} {n0 : Nat} (C : CX X G RL cL_sweep pLw_sweep 5 (some .int) n0) (htab : X.2.2.2.2.2.2.2.2.exceptionTable.toList = tableOf [(0, 10, 13, 20), (0, 10, 17, 13)]) {σ : Sg} (r0 : Option Nat) (x1 : Int32) (x2 : Int32) (r3 : Option Nat) (M : Mm) (n : Nat) : JS X G 5 300 0 n0 (EM X G n0 9 300 (eL σ)) (fLw_sweep r0 x1 x2 r3 M n) (σ, M, n) 0 [(0, .inr (.inl r0)), (1, .inl x1), (2, .inl x2), (3, .inr (.inl r3))] [] := by
  unfold fLw_sweep
  refine s_blk C 0 5 [] (pc' := 5) (lv' := []) (st' := [.inl x2, .inl x1, .inr (.inl r0), .inl 0, .inr (.inl r3)]) rfl ?_
  refine s_rk (fun a1 ha hk => ?_)
  subst ha
  refine s_T (CE_EM _ _ _ _ _ _) (st := [.inl 0, .inr (.inl r3)]) (fun o ho => j_callV (As := [.inl x1, .inl x2]) (st := [.inl 0, .inr (.inl r3)]) (b := a1) C 5 rfl mf_Hb_sweep ml_L_75 rfl (recv_K C (by decide) (by decide) rfl hk) (by decide) (by decide) (Nat.le_refl _) rfl (cHb_sweep (CX_tr C) σ M n a1 x1 x2 o ho)) (fun v M1 n1 _ => ?_) (fun k M1 n1 _ => ?_)
  · refine s_blk C 6 1 [] (pc' := 9) (lv' := []) (st' := [.inr (.inr v.toInt64), .inl 0, .inr (.inl r3)]) rfl ?_
    refine s_stJ C 7 rfl (fun M2 _ => ?_)
    refine s_blk C 8 1 [] (pc' := 21) (lv' := []) (st' := []) rfl ?_
    refine s_blk C 15 1 [] (pc' := 22) (lv' := []) (st' := [.inl 0]) rfl ?_
    exact s_iret C 16 rfl rfl
  refine jsx_if (fun hk => ?_) ?_
  · subst hk
    refine jsx_catch C htab 0 rfl (by decide) (by decide) (by decide) lc_0 nc_0 (fun z hz => by cases hz) (fun q9 => ?_)
    refine s_blk C 9 2 [] (pc' := 16) (lv' := []) (st' := [.inl 1]) rfl ?_
    exact s_iret C 11 rfl rfl
  refine jsx_if (fun hk => ?_) ?_
  · subst hk
    refine jsx_catch C htab 1 rfl (by decide) (by decide) (by decide) lc_1 nc_1 (fun z hz => by
        rcases List.mem_cons.mp hz with rfl | hz
        · exact ⟨by decide, exn 0, lc_0, by decide⟩
        · cases hz) (fun q9 => ?_)
    refine s_blk C 12 2 [] (pc' := 20) (lv' := []) (st' := [.inl 2]) rfl ?_
    exact s_iret C 14 rfl rfl
  exact jsx_none
theorem cLw_sweep {l : Launch} {G : GE} (htr : l.stackTraces = false) (σ : Sg) (M : Mm) (n : Nat) (r0 : Option Nat) (x1 : Int32) (x2 : Int32) (r3 : Option Nat) : ∀ o, fLw_sweep r0 x1 x2 r3 M n = some o → MetW l G yL_sweep cL_sweep 5 (some .int) [(0, 10, 13, 20), (0, 10, 17, 13)] 9 300 [.inr (.inl r0), .inl x1, .inl x2, .inr (.inl r3)] (σ, M, n) (eL σ o) :=
  c_ofW (fun _ => ⟨_, rfl⟩) (by decide) kLw_sweep htr rfl rfl fun X _ C htab => wLw_sweep C htab r0 x1 x2 r3 M n
def pLw_rule : List BR := [(0, .aload 4, 2, 0, 2), (2, .iconst 0, 1, 0, 3), (3, .aload_n 0, 1, 0, 4), (4, .iload_n 1, 1, 0, 5), (5, .iload_n 2, 1, 0, 6), (6, .iload_n 3, 1, 0, 7), (7, .invokevirtual 78, 3, 0, 10), (10, .i2l, 1, 0, 11), (11, .lastore, 1, 0, 12), (12, .goto (11), 3, 0, 23), (15, .astore 5, 2, 0, 17), (17, .iconst 1, 1, 1, 18), (18, .ireturn, 1, 0, 19), (19, .astore 5, 2, 0, 21), (21, .iconst 2, 1, 2, 22), (22, .ireturn, 1, 0, 23), (23, .iconst 0, 1, 0, 24), (24, .ireturn, 1, 0, 25)]
theorem kLw_rule : bOK cL_rule 6 pLw_rule = true := by decide +kernel
def fLw_rule (r0 : Option Nat) (x1 : Int32) (x2 : Int32) (x3 : Int32) (r4 : Option Nat) (M : Mm) (n : Nat) : Option (Int32 × Mm × Nat) :=
  rk 11 r0 M fun a1 =>
  bdT (fHb_rule a1 x1 x2 x3 M n) n (fun v M1 n1 =>
    asJ r4 0 v.toInt64 M1 fun M2 =>
    some (0, M2, n1))
    (fun k M1 n1 => if k = 1 then some (1, M1, n1) else if k = 2 then some (2, M1, n1) else none)
theorem wLw_rule {X : MC} {G : GE} {n0 : Nat} (C : CX X G RL cL_rule pLw_rule 6 (some .int) n0) (htab : X.2.2.2.2.2.2.2.2.exceptionTable.toList = tableOf [(0, 12, 15, 13), (0, 12, 19, 15)]) {σ : Sg} (r0 : Option Nat) (x1 : Int32) (x2 : Int32) (x3 : Int32) (r4 : Option Nat) (M : Mm) (n : Nat) : JS X G 6 300 0 n0 (EM X G n0 9 300 (eL σ)) (fLw_rule r0 x1 x2 x3 r4 M n) (σ, M, n) 0 [(0, .inr (.inl r0)), (1, .inl x1), (2, .inl x2), (3, .inl x3), (4, .inr (.inl r4))] [] := by
  unfold fLw_rule
  refine s_blk C 0 6 [] (pc' := 7) (lv' := []) (st' := [.inl x3, .inl x2, .inl x1, .inr (.inl r0), .inl 0, .inr (.inl r4)]) rfl ?_
  refine s_rk (fun a1 ha hk => ?_)
  subst ha
  refine s_T (CE_EM _ _ _ _ _ _) (st := [.inl 0, .inr (.inl r4)]) (fun o ho => j_callV (As := [.inl x1, .inl x2, .inl x3]) (st := [.inl 0, .inr (.inl r4)]) (b := a1) C 6 rfl mf_Hb_rule ml_L_78 rfl (recv_K C (by decide) (by decide) rfl hk) (by decide) (by decide) (Nat.le_refl _) rfl (cHb_rule (CX_tr C) σ M n a1 x1 x2 x3 o ho)) (fun v M1 n1 _ => ?_) (fun k M1 n1 _ => ?_)
  · refine s_blk C 7 1 [] (pc' := 11) (lv' := []) (st' := [.inr (.inr v.toInt64), .inl 0, .inr (.inl r4)]) rfl ?_
    refine s_stJ C 8 rfl (fun M2 _ => ?_)
    refine s_blk C 9 1 [] (pc' := 23) (lv' := []) (st' := []) rfl ?_
    refine s_blk C 16 1 [] (pc' := 24) (lv' := []) (st' := [.inl 0]) rfl ?_
    exact s_iret C 17 rfl rfl
  refine jsx_if (fun hk => ?_) ?_
  · subst hk
    refine jsx_catch C htab 0 rfl (by decide) (by decide) (by decide) lc_1 nc_1 (fun z hz => by cases hz) (fun q9 => ?_)
    refine s_blk C 10 2 [] (pc' := 18) (lv' := []) (st' := [.inl 1]) rfl ?_
    exact s_iret C 12 rfl rfl
  refine jsx_if (fun hk => ?_) ?_
  · subst hk
    refine jsx_catch C htab 1 rfl (by decide) (by decide) (by decide) lc_2 nc_2 (fun z hz => by
        rcases List.mem_cons.mp hz with rfl | hz
        · exact ⟨by decide, exn 1, lc_1, by decide⟩
        · cases hz) (fun q9 => ?_)
    refine s_blk C 13 2 [] (pc' := 22) (lv' := []) (st' := [.inl 2]) rfl ?_
    exact s_iret C 15 rfl rfl
  exact jsx_none
theorem cLw_rule {l : Launch} {G : GE} (htr : l.stackTraces = false) (σ : Sg) (M : Mm) (n : Nat) (r0 : Option Nat) (x1 : Int32) (x2 : Int32) (x3 : Int32) (r4 : Option Nat) : ∀ o, fLw_rule r0 x1 x2 x3 r4 M n = some o → MetW l G yL_rule cL_rule 6 (some .int) [(0, 12, 15, 13), (0, 12, 19, 15)] 9 300 [.inr (.inl r0), .inl x1, .inl x2, .inl x3, .inr (.inl r4)] (σ, M, n) (eL σ o) :=
  c_ofW (fun _ => ⟨_, rfl⟩) (by decide) kLw_rule htr rfl rfl fun X _ C htab => wLw_rule C htab r0 x1 x2 x3 r4 M n
def pLw_pass : List BR := [(0, .aload_n 2, 1, 0, 1), (1, .iconst 0, 1, 0, 2), (2, .aload_n 0, 1, 0, 3), (3, .iload_n 1, 1, 0, 4), (4, .invokevirtual 81, 3, 0, 7), (7, .i2l, 1, 0, 8), (8, .lastore, 1, 0, 9), (9, .goto (6), 3, 0, 15), (12, .astore_n 3, 1, 0, 13), (13, .iconst 1, 1, 1, 14), (14, .ireturn, 1, 0, 15), (15, .iconst 0, 1, 0, 16), (16, .ireturn, 1, 0, 17)]
theorem kLw_pass : bOK cL_pass 4 pLw_pass = true := by decide +kernel
def fLw_pass (r0 : Option Nat) (x1 : Int32) (r2 : Option Nat) (M : Mm) (n : Nat) : Option (Int32 × Mm × Nat) :=
  rk 11 r0 M fun a1 =>
  bdT (fHb_pass a1 x1 M n) n (fun v M1 n1 =>
    asJ r2 0 v.toInt64 M1 fun M2 =>
    some (0, M2, n1))
    (fun k M1 n1 => if k = 1 then some (1, M1, n1) else none)
theorem wLw_pass {X : MC} {G : GE} {n0 : Nat} (C : CX X G RL cL_pass pLw_pass 4 (some .int) n0) (htab : X.2.2.2.2.2.2.2.2.exceptionTable.toList = tableOf [(0, 9, 12, 13)]) {σ : Sg} (r0 : Option Nat) (x1 : Int32) (r2 : Option Nat) (M : Mm) (n : Nat) : JS X G 4 300 0 n0 (EM X G n0 12 300 (eL σ)) (fLw_pass r0 x1 r2 M n) (σ, M, n) 0 [(0, .inr (.inl r0)), (1, .inl x1), (2, .inr (.inl r2))] [] := by
  unfold fLw_pass
  refine s_blk C 0 4 [] (pc' := 4) (lv' := []) (st' := [.inl x1, .inr (.inl r0), .inl 0, .inr (.inl r2)]) rfl ?_
  refine s_rk (fun a1 ha hk => ?_)
  subst ha
  refine s_T (CE_EM _ _ _ _ _ _) (st := [.inl 0, .inr (.inl r2)]) (fun o ho => j_callV (As := [.inl x1]) (st := [.inl 0, .inr (.inl r2)]) (b := a1) C 4 rfl mf_Hb_pass ml_L_81 rfl (recv_K C (by decide) (by decide) rfl hk) (by decide) (by decide) (Nat.le_refl _) rfl (cHb_pass (CX_tr C) σ M n a1 x1 o ho)) (fun v M1 n1 _ => ?_) (fun k M1 n1 _ => ?_)
  · refine s_blk C 5 1 [] (pc' := 8) (lv' := []) (st' := [.inr (.inr v.toInt64), .inl 0, .inr (.inl r2)]) rfl ?_
    refine s_stJ C 6 rfl (fun M2 _ => ?_)
    refine s_blk C 7 1 [] (pc' := 15) (lv' := []) (st' := []) rfl ?_
    refine s_blk C 11 1 [] (pc' := 16) (lv' := []) (st' := [.inl 0]) rfl ?_
    exact s_iret C 12 rfl rfl
  refine jsx_if (fun hk => ?_) ?_
  · subst hk
    refine jsx_catch C htab 0 rfl (by decide) (by decide) (by decide) lc_1 nc_1 (fun z hz => by cases hz) (fun q9 => ?_)
    refine s_blk C 8 2 [] (pc' := 14) (lv' := []) (st' := [.inl 1]) rfl ?_
    exact s_iret C 10 rfl rfl
  exact jsx_none
theorem cLw_pass {l : Launch} {G : GE} (htr : l.stackTraces = false) (σ : Sg) (M : Mm) (n : Nat) (r0 : Option Nat) (x1 : Int32) (r2 : Option Nat) : ∀ o, fLw_pass r0 x1 r2 M n = some o → MetW l G yL_pass cL_pass 4 (some .int) [(0, 9, 12, 13)] 12 300 [.inr (.inl r0), .inl x1, .inr (.inl r2)] (σ, M, n) (eL σ o) :=
  c_ofW (fun _ => ⟨_, rfl⟩) (by decide) kLw_pass htr rfl rfl fun X _ C htab => wLw_pass C htab r0 x1 r2 M n
def pLw_cost : List BR := [(0, .aload_n 2, 1, 0, 1), (1, .iconst 0, 1, 0, 2), (2, .aload_n 0, 1, 0, 3), (3, .iload_n 1, 1, 0, 4), (4, .invokevirtual 85, 3, 0, 7), (7, .i2l, 1, 0, 8), (8, .lastore, 1, 0, 9), (9, .goto (6), 3, 0, 15), (12, .astore_n 3, 1, 0, 13), (13, .iconst 1, 1, 1, 14), (14, .ireturn, 1, 0, 15), (15, .iconst 0, 1, 0, 16), (16, .ireturn, 1, 0, 17)]
theorem kLw_cost : bOK cL_cost 4 pLw_cost = true := by decide +kernel
def fLw_cost (r0 : Option Nat) (x1 : Int32) (r2 : Option Nat) (M : Mm) (n : Nat) : Option (Int32 × Mm × Nat) :=
  rk 11 r0 M fun a1 =>
  bdT (fHb_cost a1 x1 M n) n (fun v M1 n1 =>
    asJ r2 0 v.toInt64 M1 fun M2 =>
    some (0, M2, n1))
    (fun k M1 n1 => if k = 1 then some (1, M1, n1) else none)
theorem wLw_cost {X : MC} {G : GE} {n0 : Nat} (C : CX X G RL cL_cost pLw_cost 4 (some .int) n0) (htab : X.2.2.2.2.2.2.2.2.exceptionTable.toList = tableOf [(0, 9, 12, 13)]) {σ : Sg} (r0 : Option Nat) (x1 : Int32) (r2 : Option Nat) (M : Mm) (n : Nat) : JS X G 4 300 0 n0 (EM X G n0 9 300 (eL σ)) (fLw_cost r0 x1 r2 M n) (σ, M, n) 0 [(0, .inr (.inl r0)), (1, .inl x1), (2, .inr (.inl r2))] [] := by
  unfold fLw_cost
  refine s_blk C 0 4 [] (pc' := 4) (lv' := []) (st' := [.inl x1, .inr (.inl r0), .inl 0, .inr (.inl r2)]) rfl ?_
  refine s_rk (fun a1 ha hk => ?_)
  subst ha
  refine s_T (CE_EM _ _ _ _ _ _) (st := [.inl 0, .inr (.inl r2)]) (fun o ho => j_callV (As := [.inl x1]) (st := [.inl 0, .inr (.inl r2)]) (b := a1) C 4 rfl mf_Hb_cost ml_L_85 rfl (recv_K C (by decide) (by decide) rfl hk) (by decide) (by decide) (Nat.le_refl _) rfl (cHb_cost (CX_tr C) σ M n a1 x1 o ho)) (fun v M1 n1 _ => ?_) (fun k M1 n1 _ => ?_)
  · refine s_blk C 5 1 [] (pc' := 8) (lv' := []) (st' := [.inr (.inr v.toInt64), .inl 0, .inr (.inl r2)]) rfl ?_
    refine s_stJ C 6 rfl (fun M2 _ => ?_)
    refine s_blk C 7 1 [] (pc' := 15) (lv' := []) (st' := []) rfl ?_
    refine s_blk C 11 1 [] (pc' := 16) (lv' := []) (st' := [.inl 0]) rfl ?_
    exact s_iret C 12 rfl rfl
  refine jsx_if (fun hk => ?_) ?_
  · subst hk
    refine jsx_catch C htab 0 rfl (by decide) (by decide) (by decide) lc_1 nc_1 (fun z hz => by cases hz) (fun q9 => ?_)
    refine s_blk C 8 2 [] (pc' := 14) (lv' := []) (st' := [.inl 1]) rfl ?_
    exact s_iret C 10 rfl rfl
  exact jsx_none
theorem cLw_cost {l : Launch} {G : GE} (htr : l.stackTraces = false) (σ : Sg) (M : Mm) (n : Nat) (r0 : Option Nat) (x1 : Int32) (r2 : Option Nat) : ∀ o, fLw_cost r0 x1 r2 M n = some o → MetW l G yL_cost cL_cost 4 (some .int) [(0, 9, 12, 13)] 9 300 [.inr (.inl r0), .inl x1, .inr (.inl r2)] (σ, M, n) (eL σ o) :=
  c_ofW (fun _ => ⟨_, rfl⟩) (by decide) kLw_cost htr rfl rfl fun X _ C htab => wLw_cost C htab r0 x1 r2 M n
def pLw_follow : List BR := [(0, .aload_n 3, 1, 0, 1), (1, .iconst 0, 1, 0, 2), (2, .aload_n 0, 1, 0, 3), (3, .iload_n 1, 1, 0, 4), (4, .iload_n 2, 1, 0, 5), (5, .invokevirtual 88, 3, 0, 8), (8, .i2l, 1, 0, 9), (9, .lastore, 1, 0, 10), (10, .goto (11), 3, 0, 21), (13, .astore 4, 2, 0, 15), (15, .iconst 1, 1, 1, 16), (16, .ireturn, 1, 0, 17), (17, .astore 4, 2, 0, 19), (19, .iconst 2, 1, 2, 20), (20, .ireturn, 1, 0, 21), (21, .iconst 0, 1, 0, 22), (22, .ireturn, 1, 0, 23)]
theorem kLw_follow : bOK cL_follow 5 pLw_follow = true := by decide +kernel
def fLw_follow (r0 : Option Nat) (x1 : Int32) (x2 : Int32) (r3 : Option Nat) (M : Mm) (n : Nat) : Option (Int32 × Mm × Nat) :=
  rk 11 r0 M fun a1 =>
  bdT (fHb_follow a1 x1 x2 M n) n (fun v M1 n1 =>
    asJ r3 0 v.toInt64 M1 fun M2 =>
    some (0, M2, n1))
    (fun k M1 n1 => if k = 0 then some (1, M1, n1) else if k = 1 then some (2, M1, n1) else none)
theorem wLw_follow {X : MC} {G : GE} {n0 : Nat} (C : CX X G RL cL_follow pLw_follow 5 (some .int) n0) (htab : X.2.2.2.2.2.2.2.2.exceptionTable.toList = tableOf [(0, 10, 13, 20), (0, 10, 17, 13)]) {σ : Sg} (r0 : Option Nat) (x1 : Int32) (x2 : Int32) (r3 : Option Nat) (M : Mm) (n : Nat) : JS X G 5 300 0 n0 (EM X G n0 13 300 (eL σ)) (fLw_follow r0 x1 x2 r3 M n) (σ, M, n) 0 [(0, .inr (.inl r0)), (1, .inl x1), (2, .inl x2), (3, .inr (.inl r3))] [] := by
  unfold fLw_follow
  refine s_blk C 0 5 [] (pc' := 5) (lv' := []) (st' := [.inl x2, .inl x1, .inr (.inl r0), .inl 0, .inr (.inl r3)]) rfl ?_
  refine s_rk (fun a1 ha hk => ?_)
  subst ha
  refine s_T (CE_EM _ _ _ _ _ _) (st := [.inl 0, .inr (.inl r3)]) (fun o ho => j_callV (As := [.inl x1, .inl x2]) (st := [.inl 0, .inr (.inl r3)]) (b := a1) C 5 rfl mf_Hb_follow ml_L_88 rfl (recv_K C (by decide) (by decide) rfl hk) (by decide) (by decide) (Nat.le_refl _) rfl (cHb_follow (CX_tr C) σ M n a1 x1 x2 o ho)) (fun v M1 n1 _ => ?_) (fun k M1 n1 _ => ?_)
  · refine s_blk C 6 1 [] (pc' := 9) (lv' := []) (st' := [.inr (.inr v.toInt64), .inl 0, .inr (.inl r3)]) rfl ?_
    refine s_stJ C 7 rfl (fun M2 _ => ?_)
    refine s_blk C 8 1 [] (pc' := 21) (lv' := []) (st' := []) rfl ?_
    refine s_blk C 15 1 [] (pc' := 22) (lv' := []) (st' := [.inl 0]) rfl ?_
    exact s_iret C 16 rfl rfl
  refine jsx_if (fun hk => ?_) ?_
  · subst hk
    refine jsx_catch C htab 0 rfl (by decide) (by decide) (by decide) lc_0 nc_0 (fun z hz => by cases hz) (fun q9 => ?_)
    refine s_blk C 9 2 [] (pc' := 16) (lv' := []) (st' := [.inl 1]) rfl ?_
    exact s_iret C 11 rfl rfl
  refine jsx_if (fun hk => ?_) ?_
  · subst hk
    refine jsx_catch C htab 1 rfl (by decide) (by decide) (by decide) lc_1 nc_1 (fun z hz => by
        rcases List.mem_cons.mp hz with rfl | hz
        · exact ⟨by decide, exn 0, lc_0, by decide⟩
        · cases hz) (fun q9 => ?_)
    refine s_blk C 12 2 [] (pc' := 20) (lv' := []) (st' := [.inl 2]) rfl ?_
    exact s_iret C 14 rfl rfl
  exact jsx_none
theorem cLw_follow {l : Launch} {G : GE} (htr : l.stackTraces = false) (σ : Sg) (M : Mm) (n : Nat) (r0 : Option Nat) (x1 : Int32) (x2 : Int32) (r3 : Option Nat) : ∀ o, fLw_follow r0 x1 x2 r3 M n = some o → MetW l G yL_follow cL_follow 5 (some .int) [(0, 10, 13, 20), (0, 10, 17, 13)] 13 300 [.inr (.inl r0), .inl x1, .inl x2, .inr (.inl r3)] (σ, M, n) (eL σ o) :=
  c_ofW (fun _ => ⟨_, rfl⟩) (by decide) kLw_follow htr rfl rfl fun X _ C htab => wLw_follow C htab r0 x1 x2 r3 M n
def pLw_behind : List BR := [(0, .aload_n 2, 1, 0, 1), (1, .iconst 0, 1, 0, 2), (2, .aload_n 0, 1, 0, 3), (3, .iload_n 1, 1, 0, 4), (4, .invokevirtual 91, 3, 0, 7), (7, .i2l, 1, 0, 8), (8, .lastore, 1, 0, 9), (9, .goto (6), 3, 0, 15), (12, .astore_n 3, 1, 0, 13), (13, .iconst 1, 1, 1, 14), (14, .ireturn, 1, 0, 15), (15, .iconst 0, 1, 0, 16), (16, .ireturn, 1, 0, 17)]
theorem kLw_behind : bOK cL_behind 4 pLw_behind = true := by decide +kernel
def fLw_behind (r0 : Option Nat) (x1 : Int32) (r2 : Option Nat) (M : Mm) (n : Nat) : Option (Int32 × Mm × Nat) :=
  rk 11 r0 M fun a1 =>
  bdT (fHb_behind a1 x1 M n) n (fun v M1 n1 =>
    asJ r2 0 v.toInt64 M1 fun M2 =>
    some (0, M2, n1))
    (fun k M1 n1 => if k = 0 then some (1, M1, n1) else none)
theorem wLw_behind {X : MC} {G : GE} {n0 : Nat} (C : CX X G RL cL_behind pLw_behind 4 (some .int) n0) (htab : X.2.2.2.2.2.2.2.2.exceptionTable.toList = tableOf [(0, 9, 12, 20)]) {σ : Sg} (r0 : Option Nat) (x1 : Int32) (r2 : Option Nat) (M : Mm) (n : Nat) : JS X G 4 300 0 n0 (EM X G n0 9 300 (eL σ)) (fLw_behind r0 x1 r2 M n) (σ, M, n) 0 [(0, .inr (.inl r0)), (1, .inl x1), (2, .inr (.inl r2))] [] := by
  unfold fLw_behind
  refine s_blk C 0 4 [] (pc' := 4) (lv' := []) (st' := [.inl x1, .inr (.inl r0), .inl 0, .inr (.inl r2)]) rfl ?_
  refine s_rk (fun a1 ha hk => ?_)
  subst ha
  refine s_T (CE_EM _ _ _ _ _ _) (st := [.inl 0, .inr (.inl r2)]) (fun o ho => j_callV (As := [.inl x1]) (st := [.inl 0, .inr (.inl r2)]) (b := a1) C 4 rfl mf_Hb_behind ml_L_91 rfl (recv_K C (by decide) (by decide) rfl hk) (by decide) (by decide) (Nat.le_refl _) rfl (cHb_behind (CX_tr C) σ M n a1 x1 o ho)) (fun v M1 n1 _ => ?_) (fun k M1 n1 _ => ?_)
  · refine s_blk C 5 1 [] (pc' := 8) (lv' := []) (st' := [.inr (.inr v.toInt64), .inl 0, .inr (.inl r2)]) rfl ?_
    refine s_stJ C 6 rfl (fun M2 _ => ?_)
    refine s_blk C 7 1 [] (pc' := 15) (lv' := []) (st' := []) rfl ?_
    refine s_blk C 11 1 [] (pc' := 16) (lv' := []) (st' := [.inl 0]) rfl ?_
    exact s_iret C 12 rfl rfl
  refine jsx_if (fun hk => ?_) ?_
  · subst hk
    refine jsx_catch C htab 0 rfl (by decide) (by decide) (by decide) lc_0 nc_0 (fun z hz => by cases hz) (fun q9 => ?_)
    refine s_blk C 8 2 [] (pc' := 14) (lv' := []) (st' := [.inl 1]) rfl ?_
    exact s_iret C 10 rfl rfl
  exact jsx_none
theorem cLw_behind {l : Launch} {G : GE} (htr : l.stackTraces = false) (σ : Sg) (M : Mm) (n : Nat) (r0 : Option Nat) (x1 : Int32) (r2 : Option Nat) : ∀ o, fLw_behind r0 x1 r2 M n = some o → MetW l G yL_behind cL_behind 4 (some .int) [(0, 9, 12, 20)] 9 300 [.inr (.inl r0), .inl x1, .inr (.inl r2)] (σ, M, n) (eL σ o) :=
  c_ofW (fun _ => ⟨_, rfl⟩) (by decide) kLw_behind htr rfl rfl fun X _ C htab => wLw_behind C htab r0 x1 r2 M n
def pLw_agrees : List BR := [(0, .aload_n 2, 1, 0, 1), (1, .iconst 0, 1, 0, 2), (2, .aload_n 0, 1, 0, 3), (3, .iload_n 1, 1, 0, 4), (4, .invokevirtual 94, 3, 0, 7), (7, .ifCond .eq (7), 3, 0, 14), (10, .lconst 1, 1, 0, 11), (11, .goto (4), 3, 0, 15), (14, .lconst 0, 1, 0, 15), (15, .lastore, 1, 0, 16), (16, .goto (6), 3, 0, 22), (19, .astore_n 3, 1, 0, 20), (20, .iconst 1, 1, 1, 21), (21, .ireturn, 1, 0, 22), (22, .iconst 0, 1, 0, 23), (23, .ireturn, 1, 0, 24)]
theorem kLw_agrees : bOK cL_agrees 4 pLw_agrees = true := by decide +kernel
def fLw_agrees (r0 : Option Nat) (x1 : Int32) (r2 : Option Nat) (M : Mm) (n : Nat) : Option (Int32 × Mm × Nat) :=
  rk 11 r0 M fun a1 =>
  bdT (fHb_agrees a1 x1 M n) n (fun v M1 n1 =>
    if v = 0 then
    asJ r2 0 (Int64.ofNat 0) M1 fun M2 =>
    some (0, M2, n1)
    else
    asJ r2 0 (Int64.ofNat 1) M1 fun M2 =>
    some (0, M2, n1))
    (fun k M1 n1 => if k = 0 then some (1, M1, n1) else none)
theorem wLw_agrees {X : MC} {G : GE} {n0 : Nat} (C : CX X G RL cL_agrees pLw_agrees 4 (some .int) n0) (htab : X.2.2.2.2.2.2.2.2.exceptionTable.toList = tableOf [(0, 16, 19, 20)]) {σ : Sg} (r0 : Option Nat) (x1 : Int32) (r2 : Option Nat) (M : Mm) (n : Nat) : JS X G 4 300 0 n0 (EM X G n0 10 300 (eL σ)) (fLw_agrees r0 x1 r2 M n) (σ, M, n) 0 [(0, .inr (.inl r0)), (1, .inl x1), (2, .inr (.inl r2))] [] := by
  unfold fLw_agrees
  refine s_blk C 0 4 [] (pc' := 4) (lv' := []) (st' := [.inl x1, .inr (.inl r0), .inl 0, .inr (.inl r2)]) rfl ?_
  refine s_rk (fun a1 ha hk => ?_)
  subst ha
  refine s_T (CE_EM _ _ _ _ _ _) (st := [.inl 0, .inr (.inl r2)]) (fun o ho => j_callV (As := [.inl x1]) (st := [.inl 0, .inr (.inl r2)]) (b := a1) C 4 rfl mf_Hb_agrees ml_L_94 rfl (recv_K C (by decide) (by decide) rfl hk) (by decide) (by decide) (Nat.le_refl _) rfl (cHb_agrees (CX_tr C) σ M n a1 x1 o ho)) (fun v M1 n1 _ => ?_) (fun k M1 n1 _ => ?_)
  · refine s_ieq C 5 rfl (fun _ => ?_) (fun _ => ?_)
    · refine s_blk C 8 1 [] (pc' := 15) (lv' := []) (st' := [.inr (.inr (Int64.ofNat 0)), .inl 0, .inr (.inl r2)]) rfl ?_
      refine s_stJ C 9 rfl (fun M2 _ => ?_)
      refine s_blk C 10 1 [] (pc' := 22) (lv' := []) (st' := []) rfl ?_
      refine s_blk C 14 1 [] (pc' := 23) (lv' := []) (st' := [.inl 0]) rfl ?_
      exact s_iret C 15 rfl rfl
    refine s_blk C 6 2 [] (pc' := 15) (lv' := []) (st' := [.inr (.inr (Int64.ofNat 1)), .inl 0, .inr (.inl r2)]) rfl ?_
    refine s_stJ C 9 rfl (fun M2 _ => ?_)
    refine s_blk C 10 1 [] (pc' := 22) (lv' := []) (st' := []) rfl ?_
    refine s_blk C 14 1 [] (pc' := 23) (lv' := []) (st' := [.inl 0]) rfl ?_
    exact s_iret C 15 rfl rfl
  refine jsx_if (fun hk => ?_) ?_
  · subst hk
    refine jsx_catch C htab 0 rfl (by decide) (by decide) (by decide) lc_0 nc_0 (fun z hz => by cases hz) (fun q9 => ?_)
    refine s_blk C 11 2 [] (pc' := 21) (lv' := []) (st' := [.inl 1]) rfl ?_
    exact s_iret C 13 rfl rfl
  exact jsx_none
theorem cLw_agrees {l : Launch} {G : GE} (htr : l.stackTraces = false) (σ : Sg) (M : Mm) (n : Nat) (r0 : Option Nat) (x1 : Int32) (r2 : Option Nat) : ∀ o, fLw_agrees r0 x1 r2 M n = some o → MetW l G yL_agrees cL_agrees 4 (some .int) [(0, 16, 19, 20)] 10 300 [.inr (.inl r0), .inl x1, .inr (.inl r2)] (σ, M, n) (eL σ o) :=
  c_ofW (fun _ => ⟨_, rfl⟩) (by decide) kLw_agrees htr rfl rfl fun X _ C htab => wLw_agrees C htab r0 x1 r2 M n
def pLw_letter : List BR := [(0, .aload_n 3, 1, 0, 1), (1, .iconst 0, 1, 0, 2), (2, .aload_n 0, 1, 0, 3), (3, .iload_n 1, 1, 0, 4), (4, .iload_n 2, 1, 0, 5), (5, .invokevirtual 98, 3, 0, 8), (8, .i2l, 1, 0, 9), (9, .lastore, 1, 0, 10), (10, .goto (11), 3, 0, 21), (13, .astore 4, 2, 0, 15), (15, .iconst 1, 1, 1, 16), (16, .ireturn, 1, 0, 17), (17, .astore 4, 2, 0, 19), (19, .iconst 2, 1, 2, 20), (20, .ireturn, 1, 0, 21), (21, .iconst 0, 1, 0, 22), (22, .ireturn, 1, 0, 23)]
theorem kLw_letter : bOK cL_letter 5 pLw_letter = true := by decide +kernel
def fLw_letter (r0 : Option Nat) (x1 : Int32) (x2 : Int32) (r3 : Option Nat) (M : Mm) (n : Nat) : Option (Int32 × Mm × Nat) :=
  rk 11 r0 M fun a1 =>
  bdT (fHb_letter a1 x1 x2 M n) n (fun v M1 n1 =>
    asJ r3 0 v.toInt64 M1 fun M2 =>
    some (0, M2, n1))
    (fun k M1 n1 => if k = 1 then some (1, M1, n1) else if k = 0 then some (2, M1, n1) else none)
theorem wLw_letter {X : MC} {G : GE} {n0 : Nat} (C : CX X G RL cL_letter pLw_letter 5 (some .int) n0) (htab : X.2.2.2.2.2.2.2.2.exceptionTable.toList = tableOf [(0, 10, 13, 13), (0, 10, 17, 20)]) {σ : Sg} (r0 : Option Nat) (x1 : Int32) (x2 : Int32) (r3 : Option Nat) (M : Mm) (n : Nat) : JS X G 5 300 0 n0 (EM X G n0 9 300 (eL σ)) (fLw_letter r0 x1 x2 r3 M n) (σ, M, n) 0 [(0, .inr (.inl r0)), (1, .inl x1), (2, .inl x2), (3, .inr (.inl r3))] [] := by
  unfold fLw_letter
  refine s_blk C 0 5 [] (pc' := 5) (lv' := []) (st' := [.inl x2, .inl x1, .inr (.inl r0), .inl 0, .inr (.inl r3)]) rfl ?_
  refine s_rk (fun a1 ha hk => ?_)
  subst ha
  refine s_T (CE_EM _ _ _ _ _ _) (st := [.inl 0, .inr (.inl r3)]) (fun o ho => j_callV (As := [.inl x1, .inl x2]) (st := [.inl 0, .inr (.inl r3)]) (b := a1) C 5 rfl mf_Hb_letter ml_L_98 rfl (recv_K C (by decide) (by decide) rfl hk) (by decide) (by decide) (Nat.le_refl _) rfl (cHb_letter (CX_tr C) σ M n a1 x1 x2 o ho)) (fun v M1 n1 _ => ?_) (fun k M1 n1 _ => ?_)
  · refine s_blk C 6 1 [] (pc' := 9) (lv' := []) (st' := [.inr (.inr v.toInt64), .inl 0, .inr (.inl r3)]) rfl ?_
    refine s_stJ C 7 rfl (fun M2 _ => ?_)
    refine s_blk C 8 1 [] (pc' := 21) (lv' := []) (st' := []) rfl ?_
    refine s_blk C 15 1 [] (pc' := 22) (lv' := []) (st' := [.inl 0]) rfl ?_
    exact s_iret C 16 rfl rfl
  refine jsx_if (fun hk => ?_) ?_
  · subst hk
    refine jsx_catch C htab 0 rfl (by decide) (by decide) (by decide) lc_1 nc_1 (fun z hz => by cases hz) (fun q9 => ?_)
    refine s_blk C 9 2 [] (pc' := 16) (lv' := []) (st' := [.inl 1]) rfl ?_
    exact s_iret C 11 rfl rfl
  refine jsx_if (fun hk => ?_) ?_
  · subst hk
    refine jsx_catch C htab 1 rfl (by decide) (by decide) (by decide) lc_0 nc_0 (fun z hz => by
        rcases List.mem_cons.mp hz with rfl | hz
        · exact ⟨by decide, exn 1, lc_1, by decide⟩
        · cases hz) (fun q9 => ?_)
    refine s_blk C 12 2 [] (pc' := 20) (lv' := []) (st' := [.inl 2]) rfl ?_
    exact s_iret C 14 rfl rfl
  exact jsx_none
theorem cLw_letter {l : Launch} {G : GE} (htr : l.stackTraces = false) (σ : Sg) (M : Mm) (n : Nat) (r0 : Option Nat) (x1 : Int32) (x2 : Int32) (r3 : Option Nat) : ∀ o, fLw_letter r0 x1 x2 r3 M n = some o → MetW l G yL_letter cL_letter 5 (some .int) [(0, 10, 13, 13), (0, 10, 17, 20)] 9 300 [.inr (.inl r0), .inl x1, .inl x2, .inr (.inl r3)] (σ, M, n) (eL σ o) :=
  c_ofW (fun _ => ⟨_, rfl⟩) (by decide) kLw_letter htr rfl rfl fun X _ C htab => wLw_letter C htab r0 x1 x2 r3 M n
