theorem dL_act_0 : decode cL_act 0 = .ok (.aload 4, 2) := by decide +kernel
theorem dL_act_2 : decode cL_act 2 = .ok (.iconst 0, 1) := by decide +kernel
theorem dL_act_3 : decode cL_act 3 = .ok (.aload_n 0, 1) := by decide +kernel
theorem dL_act_4 : decode cL_act 4 = .ok (.iload_n 1, 1) := by decide +kernel
theorem dL_act_5 : decode cL_act 5 = .ok (.iload_n 2, 1) := by decide +kernel
theorem dL_act_6 : decode cL_act 6 = .ok (.iload_n 3, 1) := by decide +kernel
theorem dL_act_7 : decode cL_act 7 = .ok (.invokevirtual 63, 3) := by decide +kernel
theorem dL_act_15 : decode cL_act 15 = .ok (.astore 5, 2) := by decide +kernel
theorem dL_act_17 : decode cL_act 17 = .ok (.iconst 1, 1) := by decide +kernel
theorem dL_act_18 : decode cL_act 18 = .ok (.ireturn, 1) := by decide +kernel
theorem dL_balloon_0 : decode cL_balloon 0 = .ok (.aload_n 3, 1) := by decide +kernel
theorem dL_balloon_1 : decode cL_balloon 1 = .ok (.iconst 0, 1) := by decide +kernel
theorem dL_balloon_2 : decode cL_balloon 2 = .ok (.aload_n 0, 1) := by decide +kernel
theorem dL_balloon_3 : decode cL_balloon 3 = .ok (.iload_n 1, 1) := by decide +kernel
theorem dL_balloon_4 : decode cL_balloon 4 = .ok (.iload_n 2, 1) := by decide +kernel
theorem dL_balloon_5 : decode cL_balloon 5 = .ok (.invokevirtual 30, 3) := by decide +kernel
theorem dL_balloon_8 : decode cL_balloon 8 = .ok (.i2l, 1) := by decide +kernel
theorem dL_balloon_9 : decode cL_balloon 9 = .ok (.lastore, 1) := by decide +kernel
theorem dL_balloon_10 : decode cL_balloon 10 = .ok (.goto 11, 3) := by decide +kernel
theorem dL_balloon_13 : decode cL_balloon 13 = .ok (.astore 4, 2) := by decide +kernel
theorem dL_balloon_15 : decode cL_balloon 15 = .ok (.iconst 1, 1) := by decide +kernel
theorem dL_balloon_16 : decode cL_balloon 16 = .ok (.ireturn, 1) := by decide +kernel
theorem dL_balloon_21 : decode cL_balloon 21 = .ok (.iconst 0, 1) := by decide +kernel
theorem dL_balloon_22 : decode cL_balloon 22 = .ok (.ireturn, 1) := by decide +kernel
theorem dL_cloud_0 : decode cL_cloud 0 = .ok (.aload 4, 2) := by decide +kernel
theorem dL_cloud_2 : decode cL_cloud 2 = .ok (.iconst 0, 1) := by decide +kernel
theorem dL_cloud_3 : decode cL_cloud 3 = .ok (.aload_n 0, 1) := by decide +kernel
theorem dL_cloud_4 : decode cL_cloud 4 = .ok (.iload_n 1, 1) := by decide +kernel
theorem dL_cloud_5 : decode cL_cloud 5 = .ok (.iload_n 2, 1) := by decide +kernel
theorem dL_cloud_6 : decode cL_cloud 6 = .ok (.iload_n 3, 1) := by decide +kernel
theorem dL_cloud_7 : decode cL_cloud 7 = .ok (.invokevirtual 26, 3) := by decide +kernel
theorem dL_cloud_10 : decode cL_cloud 10 = .ok (.i2l, 1) := by decide +kernel
theorem dL_cloud_11 : decode cL_cloud 11 = .ok (.lastore, 1) := by decide +kernel
theorem dL_cloud_12 : decode cL_cloud 12 = .ok (.goto 7, 3) := by decide +kernel
theorem dL_cloud_15 : decode cL_cloud 15 = .ok (.astore 5, 2) := by decide +kernel
theorem dL_cloud_17 : decode cL_cloud 17 = .ok (.iconst 1, 1) := by decide +kernel
theorem dL_cloud_18 : decode cL_cloud 18 = .ok (.ireturn, 1) := by decide +kernel
theorem dL_cloud_19 : decode cL_cloud 19 = .ok (.iconst 0, 1) := by decide +kernel
theorem dL_cloud_20 : decode cL_cloud 20 = .ok (.ireturn, 1) := by decide +kernel
theorem dL_cylinder_0 : decode cL_cylinder 0 = .ok (.aload 4, 2) := by decide +kernel
theorem dL_cylinder_2 : decode cL_cylinder 2 = .ok (.iconst 0, 1) := by decide +kernel
theorem dL_cylinder_3 : decode cL_cylinder 3 = .ok (.aload_n 0, 1) := by decide +kernel
theorem dL_cylinder_4 : decode cL_cylinder 4 = .ok (.iload_n 1, 1) := by decide +kernel
theorem dL_cylinder_5 : decode cL_cylinder 5 = .ok (.iload_n 2, 1) := by decide +kernel
theorem dL_cylinder_6 : decode cL_cylinder 6 = .ok (.iload_n 3, 1) := by decide +kernel
theorem dL_cylinder_7 : decode cL_cylinder 7 = .ok (.invokevirtual 36, 3) := by decide +kernel
theorem dL_cylinder_10 : decode cL_cylinder 10 = .ok (.i2l, 1) := by decide +kernel
theorem dL_cylinder_11 : decode cL_cylinder 11 = .ok (.lastore, 1) := by decide +kernel
theorem dL_cylinder_12 : decode cL_cylinder 12 = .ok (.goto 7, 3) := by decide +kernel
theorem dL_cylinder_15 : decode cL_cylinder 15 = .ok (.astore 5, 2) := by decide +kernel
theorem dL_cylinder_17 : decode cL_cylinder 17 = .ok (.iconst 1, 1) := by decide +kernel
theorem dL_cylinder_18 : decode cL_cylinder 18 = .ok (.ireturn, 1) := by decide +kernel
theorem dL_cylinder_19 : decode cL_cylinder 19 = .ok (.iconst 0, 1) := by decide +kernel
theorem dL_cylinder_20 : decode cL_cylinder 20 = .ok (.ireturn, 1) := by decide +kernel
theorem dL_enter_0 : decode cL_enter 0 = .ok (.aload_n 2, 1) := by decide +kernel
theorem dL_enter_1 : decode cL_enter 1 = .ok (.iconst 0, 1) := by decide +kernel
theorem dL_enter_2 : decode cL_enter 2 = .ok (.aload_n 0, 1) := by decide +kernel
theorem dL_enter_3 : decode cL_enter 3 = .ok (.iload_n 1, 1) := by decide +kernel
theorem dL_enter_4 : decode cL_enter 4 = .ok (.invokevirtual 91, 3) := by decide +kernel
theorem dL_enter_12 : decode cL_enter 12 = .ok (.astore_n 3, 1) := by decide +kernel
theorem dL_enter_13 : decode cL_enter 13 = .ok (.iconst 1, 1) := by decide +kernel
theorem dL_enter_14 : decode cL_enter 14 = .ok (.ireturn, 1) := by decide +kernel
theorem dL_fill_0 : decode cL_fill 0 = .ok (.aload 4, 2) := by decide +kernel
theorem dL_fill_2 : decode cL_fill 2 = .ok (.iconst 0, 1) := by decide +kernel
theorem dL_fill_3 : decode cL_fill 3 = .ok (.aload_n 0, 1) := by decide +kernel
theorem dL_fill_4 : decode cL_fill 4 = .ok (.iload_n 1, 1) := by decide +kernel
theorem dL_fill_5 : decode cL_fill 5 = .ok (.iload_n 2, 1) := by decide +kernel
theorem dL_fill_6 : decode cL_fill 6 = .ok (.iload_n 3, 1) := by decide +kernel
theorem dL_fill_7 : decode cL_fill 7 = .ok (.invokevirtual 42, 3) := by decide +kernel
theorem dL_fill_15 : decode cL_fill 15 = .ok (.astore 5, 2) := by decide +kernel
theorem dL_fill_17 : decode cL_fill 17 = .ok (.iconst 1, 1) := by decide +kernel
theorem dL_fill_18 : decode cL_fill 18 = .ok (.ireturn, 1) := by decide +kernel
theorem dL_fillable_0 : decode cL_fillable 0 = .ok (.aload 4, 2) := by decide +kernel
theorem dL_fillable_2 : decode cL_fillable 2 = .ok (.iconst 0, 1) := by decide +kernel
theorem dL_fillable_3 : decode cL_fillable 3 = .ok (.aload_n 0, 1) := by decide +kernel
theorem dL_fillable_4 : decode cL_fillable 4 = .ok (.iload_n 1, 1) := by decide +kernel
theorem dL_fillable_5 : decode cL_fillable 5 = .ok (.iload_n 2, 1) := by decide +kernel
theorem dL_fillable_6 : decode cL_fillable 6 = .ok (.iload_n 3, 1) := by decide +kernel
theorem dL_fillable_7 : decode cL_fillable 7 = .ok (.invokevirtual 39, 3) := by decide +kernel
theorem dL_fillable_10 : decode cL_fillable 10 = .ok (.i2l, 1) := by decide +kernel
theorem dL_fillable_11 : decode cL_fillable 11 = .ok (.lastore, 1) := by decide +kernel
theorem dL_fillable_12 : decode cL_fillable 12 = .ok (.goto 7, 3) := by decide +kernel
theorem dL_fillable_15 : decode cL_fillable 15 = .ok (.astore 5, 2) := by decide +kernel
theorem dL_fillable_17 : decode cL_fillable 17 = .ok (.iconst 1, 1) := by decide +kernel
theorem dL_fillable_18 : decode cL_fillable 18 = .ok (.ireturn, 1) := by decide +kernel
theorem dL_fillable_19 : decode cL_fillable 19 = .ok (.iconst 0, 1) := by decide +kernel
theorem dL_fillable_20 : decode cL_fillable 20 = .ok (.ireturn, 1) := by decide +kernel
theorem dL_forecast_0 : decode cL_forecast 0 = .ok (.aload 7, 2) := by decide +kernel
theorem dL_forecast_2 : decode cL_forecast 2 = .ok (.iconst 0, 1) := by decide +kernel
theorem dL_forecast_3 : decode cL_forecast 3 = .ok (.aload_n 0, 1) := by decide +kernel
theorem dL_forecast_4 : decode cL_forecast 4 = .ok (.iload_n 1, 1) := by decide +kernel
theorem dL_forecast_5 : decode cL_forecast 5 = .ok (.iload_n 2, 1) := by decide +kernel
theorem dL_forecast_6 : decode cL_forecast 6 = .ok (.iload_n 3, 1) := by decide +kernel
theorem dL_forecast_7 : decode cL_forecast 7 = .ok (.iload 4, 2) := by decide +kernel
theorem dL_forecast_9 : decode cL_forecast 9 = .ok (.iload 5, 2) := by decide +kernel
theorem dL_forecast_11 : decode cL_forecast 11 = .ok (.iload 6, 2) := by decide +kernel
theorem dL_forecast_13 : decode cL_forecast 13 = .ok (.invokevirtual 15, 3) := by decide +kernel
theorem dL_forecast_16 : decode cL_forecast 16 = .ok (.i2l, 1) := by decide +kernel
theorem dL_forecast_17 : decode cL_forecast 17 = .ok (.lastore, 1) := by decide +kernel
theorem dL_forecast_18 : decode cL_forecast 18 = .ok (.goto 7, 3) := by decide +kernel
theorem dL_forecast_21 : decode cL_forecast 21 = .ok (.astore 8, 2) := by decide +kernel
theorem dL_forecast_23 : decode cL_forecast 23 = .ok (.iconst 1, 1) := by decide +kernel
theorem dL_forecast_24 : decode cL_forecast 24 = .ok (.ireturn, 1) := by decide +kernel
theorem dL_forecast_25 : decode cL_forecast 25 = .ok (.iconst 0, 1) := by decide +kernel
theorem dL_forecast_26 : decode cL_forecast 26 = .ok (.ireturn, 1) := by decide +kernel
theorem dL_found_0 : decode cL_found 0 = .ok (.aload 4, 2) := by decide +kernel
theorem dL_found_2 : decode cL_found 2 = .ok (.iconst 0, 1) := by decide +kernel
theorem dL_found_3 : decode cL_found 3 = .ok (.aload_n 0, 1) := by decide +kernel
theorem dL_found_4 : decode cL_found 4 = .ok (.iload_n 1, 1) := by decide +kernel
theorem dL_found_5 : decode cL_found 5 = .ok (.iload_n 2, 1) := by decide +kernel
theorem dL_found_6 : decode cL_found 6 = .ok (.iload_n 3, 1) := by decide +kernel
theorem dL_found_7 : decode cL_found 7 = .ok (.invokevirtual 22, 3) := by decide +kernel
theorem dL_found_10 : decode cL_found 10 = .ok (.i2l, 1) := by decide +kernel
theorem dL_found_11 : decode cL_found 11 = .ok (.lastore, 1) := by decide +kernel
theorem dL_found_12 : decode cL_found 12 = .ok (.goto 7, 3) := by decide +kernel
theorem dL_found_15 : decode cL_found 15 = .ok (.astore 5, 2) := by decide +kernel
theorem dL_found_17 : decode cL_found 17 = .ok (.iconst 1, 1) := by decide +kernel
theorem dL_found_18 : decode cL_found 18 = .ok (.ireturn, 1) := by decide +kernel
theorem dL_found_19 : decode cL_found 19 = .ok (.iconst 0, 1) := by decide +kernel
theorem dL_found_20 : decode cL_found 20 = .ok (.ireturn, 1) := by decide +kernel
theorem dL_home_0 : decode cL_home 0 = .ok (.aload_n 2, 1) := by decide +kernel
theorem dL_home_1 : decode cL_home 1 = .ok (.iconst 0, 1) := by decide +kernel
theorem dL_home_2 : decode cL_home 2 = .ok (.aload_n 0, 1) := by decide +kernel
theorem dL_home_3 : decode cL_home 3 = .ok (.iload_n 1, 1) := by decide +kernel
theorem dL_home_4 : decode cL_home 4 = .ok (.invokevirtual 57, 3) := by decide +kernel
theorem dL_home_12 : decode cL_home 12 = .ok (.astore_n 3, 1) := by decide +kernel
theorem dL_home_13 : decode cL_home 13 = .ok (.iconst 1, 1) := by decide +kernel
theorem dL_home_14 : decode cL_home 14 = .ok (.ireturn, 1) := by decide +kernel
theorem dL_hours_0 : decode cL_hours 0 = .ok (.aload_n 2, 1) := by decide +kernel
theorem dL_hours_1 : decode cL_hours 1 = .ok (.iconst 0, 1) := by decide +kernel
theorem dL_hours_2 : decode cL_hours 2 = .ok (.aload_n 0, 1) := by decide +kernel
theorem dL_hours_3 : decode cL_hours 3 = .ok (.iload_n 1, 1) := by decide +kernel
theorem dL_hours_4 : decode cL_hours 4 = .ok (.invokevirtual 66, 3) := by decide +kernel
theorem dL_hours_7 : decode cL_hours 7 = .ok (.i2l, 1) := by decide +kernel
theorem dL_hours_8 : decode cL_hours 8 = .ok (.lastore, 1) := by decide +kernel
theorem dL_hours_9 : decode cL_hours 9 = .ok (.goto 9, 3) := by decide +kernel
theorem dL_hours_12 : decode cL_hours 12 = .ok (.astore_n 3, 1) := by decide +kernel
theorem dL_hours_13 : decode cL_hours 13 = .ok (.iconst 1, 1) := by decide +kernel
theorem dL_hours_14 : decode cL_hours 14 = .ok (.ireturn, 1) := by decide +kernel
theorem dL_hours_18 : decode cL_hours 18 = .ok (.iconst 0, 1) := by decide +kernel
theorem dL_hours_19 : decode cL_hours 19 = .ok (.ireturn, 1) := by decide +kernel
theorem dL_inspect_0 : decode cL_inspect 0 = .ok (.aload_n 2, 1) := by decide +kernel
theorem dL_inspect_1 : decode cL_inspect 1 = .ok (.iconst 0, 1) := by decide +kernel
theorem dL_inspect_2 : decode cL_inspect 2 = .ok (.aload_n 0, 1) := by decide +kernel
theorem dL_inspect_3 : decode cL_inspect 3 = .ok (.iload_n 1, 1) := by decide +kernel
theorem dL_inspect_4 : decode cL_inspect 4 = .ok (.invokevirtual 50, 3) := by decide +kernel
theorem dL_inspect_12 : decode cL_inspect 12 = .ok (.astore_n 3, 1) := by decide +kernel
theorem dL_inspect_13 : decode cL_inspect 13 = .ok (.iconst 1, 1) := by decide +kernel
theorem dL_inspect_14 : decode cL_inspect 14 = .ok (.ireturn, 1) := by decide +kernel
theorem dL_law_0 : decode cL_law 0 = .ok (.new 8, 3) := by decide +kernel
theorem dL_law_3 : decode cL_law 3 = .ok (.dup, 1) := by decide +kernel
theorem dL_law_4 : decode cL_law 4 = .ok (.invokespecial 97, 3) := by decide +kernel
theorem dL_law_7 : decode cL_law 7 = .ok (.astore_n 1, 1) := by decide +kernel
theorem dL_law_8 : decode cL_law 8 = .ok (.new 98, 3) := by decide +kernel
theorem dL_law_11 : decode cL_law 11 = .ok (.dup, 1) := by decide +kernel
theorem dL_law_12 : decode cL_law 12 = .ok (.invokespecial 100, 3) := by decide +kernel
theorem dL_law_15 : decode cL_law 15 = .ok (.astore_n 2, 1) := by decide +kernel
theorem dL_law_16 : decode cL_law 16 = .ok (.iconst 1, 1) := by decide +kernel
theorem dL_law_17 : decode cL_law 17 = .ok (.newarray .long, 2) := by decide +kernel
theorem dL_law_19 : decode cL_law 19 = .ok (.astore_n 3, 1) := by decide +kernel
theorem dL_law_20 : decode cL_law 20 = .ok (.iconst 0, 1) := by decide +kernel
theorem dL_law_21 : decode cL_law 21 = .ok (.istore 4, 2) := by decide +kernel
theorem dL_law_23 : decode cL_law 23 = .ok (.iload 4, 2) := by decide +kernel
theorem dL_law_25 : decode cL_law 25 = .ok (.aload_n 0, 1) := by decide +kernel
theorem dL_law_26 : decode cL_law 26 = .ok (.arraylength, 1) := by decide +kernel
theorem dL_law_27 : decode cL_law 27 = .ok (.bipush 7, 2) := by decide +kernel
theorem dL_law_29 : decode cL_law 29 = .ok (.isub, 1) := by decide +kernel
theorem dL_law_30 : decode cL_law 30 = .ok (.if_icmp .gt 2350, 3) := by decide +kernel
theorem dL_law_33 : decode cL_law 33 = .ok (.aload_n 0, 1) := by decide +kernel
theorem dL_law_34 : decode cL_law 34 = .ok (.iload 4, 2) := by decide +kernel
theorem dL_law_36 : decode cL_law 36 = .ok (.iaload, 1) := by decide +kernel
theorem dL_law_37 : decode cL_law 37 = .ok (.bipush 63, 2) := by decide +kernel
theorem dL_law_39 : decode cL_law 39 = .ok (.iand, 1) := by decide +kernel
theorem dL_law_40 : decode cL_law 40 = .ok (.tableswitch 2334 0 32 #[148, 266, 384, 476, 556, 652, 720, 800, 880, 960, 1040, 1096, 1176, 1232, 1305, 1373, 1386, 1466, 1522, 1590, 1670, 1774, 1892, 1972, 1985, 1998, 2023, 2091, 2104, 2160, 2216, 2272, 2309], 148) := by decide +kernel
theorem dL_law_188 : decode cL_law 188 = .ok (.aload_n 1, 1) := by decide +kernel
theorem dL_law_189 : decode cL_law 189 = .ok (.aload_n 0, 1) := by decide +kernel
theorem dL_law_190 : decode cL_law 190 = .ok (.iload 4, 2) := by decide +kernel
theorem dL_law_192 : decode cL_law 192 = .ok (.iconst 1, 1) := by decide +kernel
theorem dL_law_193 : decode cL_law 193 = .ok (.iadd, 1) := by decide +kernel
theorem dL_law_194 : decode cL_law 194 = .ok (.iaload, 1) := by decide +kernel
theorem dL_law_195 : decode cL_law 195 = .ok (.aload_n 0, 1) := by decide +kernel
theorem dL_law_196 : decode cL_law 196 = .ok (.iload 4, 2) := by decide +kernel
theorem dL_law_198 : decode cL_law 198 = .ok (.iconst 2, 1) := by decide +kernel
theorem dL_law_199 : decode cL_law 199 = .ok (.iadd, 1) := by decide +kernel
theorem dL_law_200 : decode cL_law 200 = .ok (.iaload, 1) := by decide +kernel
theorem dL_law_201 : decode cL_law 201 = .ok (.aload_n 0, 1) := by decide +kernel
theorem dL_law_202 : decode cL_law 202 = .ok (.iload 4, 2) := by decide +kernel
theorem dL_law_204 : decode cL_law 204 = .ok (.iconst 3, 1) := by decide +kernel
theorem dL_law_205 : decode cL_law 205 = .ok (.iadd, 1) := by decide +kernel
theorem dL_law_206 : decode cL_law 206 = .ok (.iaload, 1) := by decide +kernel
theorem dL_law_207 : decode cL_law 207 = .ok (.aload_n 0, 1) := by decide +kernel
theorem dL_law_208 : decode cL_law 208 = .ok (.iload 4, 2) := by decide +kernel
theorem dL_law_210 : decode cL_law 210 = .ok (.iconst 4, 1) := by decide +kernel
theorem dL_law_211 : decode cL_law 211 = .ok (.iadd, 1) := by decide +kernel
theorem dL_law_212 : decode cL_law 212 = .ok (.iaload, 1) := by decide +kernel
theorem dL_law_213 : decode cL_law 213 = .ok (.aload_n 0, 1) := by decide +kernel
theorem dL_law_214 : decode cL_law 214 = .ok (.iload 4, 2) := by decide +kernel
theorem dL_law_216 : decode cL_law 216 = .ok (.iconst 5, 1) := by decide +kernel
theorem dL_law_217 : decode cL_law 217 = .ok (.iadd, 1) := by decide +kernel
theorem dL_law_218 : decode cL_law 218 = .ok (.iaload, 1) := by decide +kernel
theorem dL_law_219 : decode cL_law 219 = .ok (.aload_n 0, 1) := by decide +kernel
theorem dL_law_220 : decode cL_law 220 = .ok (.iload 4, 2) := by decide +kernel
theorem dL_law_222 : decode cL_law 222 = .ok (.bipush 6, 2) := by decide +kernel
theorem dL_law_224 : decode cL_law 224 = .ok (.iadd, 1) := by decide +kernel
theorem dL_law_225 : decode cL_law 225 = .ok (.iaload, 1) := by decide +kernel
theorem dL_law_226 : decode cL_law 226 = .ok (.aload_n 3, 1) := by decide +kernel
theorem dL_law_227 : decode cL_law 227 = .ok (.invokestatic 101, 3) := by decide +kernel
theorem dL_law_230 : decode cL_law 230 = .ok (.istore 5, 2) := by decide +kernel
theorem dL_law_232 : decode cL_law 232 = .ok (.aload_n 2, 1) := by decide +kernel
theorem dL_law_233 : decode cL_law 233 = .ok (.aload_n 0, 1) := by decide +kernel
theorem dL_law_234 : decode cL_law 234 = .ok (.iload 4, 2) := by decide +kernel
theorem dL_law_236 : decode cL_law 236 = .ok (.iconst 1, 1) := by decide +kernel
theorem dL_law_237 : decode cL_law 237 = .ok (.iadd, 1) := by decide +kernel
theorem dL_law_238 : decode cL_law 238 = .ok (.iaload, 1) := by decide +kernel
theorem dL_law_239 : decode cL_law 239 = .ok (.aload_n 0, 1) := by decide +kernel
theorem dL_law_240 : decode cL_law 240 = .ok (.iload 4, 2) := by decide +kernel
theorem dL_law_242 : decode cL_law 242 = .ok (.iconst 2, 1) := by decide +kernel
theorem dL_law_243 : decode cL_law 243 = .ok (.iadd, 1) := by decide +kernel
theorem dL_law_244 : decode cL_law 244 = .ok (.iaload, 1) := by decide +kernel
theorem dL_law_245 : decode cL_law 245 = .ok (.aload_n 0, 1) := by decide +kernel
theorem dL_law_246 : decode cL_law 246 = .ok (.iload 4, 2) := by decide +kernel
theorem dL_law_248 : decode cL_law 248 = .ok (.iconst 3, 1) := by decide +kernel
theorem dL_law_249 : decode cL_law 249 = .ok (.iadd, 1) := by decide +kernel
theorem dL_law_250 : decode cL_law 250 = .ok (.iaload, 1) := by decide +kernel
theorem dL_law_251 : decode cL_law 251 = .ok (.aload_n 0, 1) := by decide +kernel
theorem dL_law_252 : decode cL_law 252 = .ok (.iload 4, 2) := by decide +kernel
theorem dL_law_254 : decode cL_law 254 = .ok (.iconst 4, 1) := by decide +kernel
theorem dL_law_255 : decode cL_law 255 = .ok (.iadd, 1) := by decide +kernel
theorem dL_law_256 : decode cL_law 256 = .ok (.iaload, 1) := by decide +kernel
theorem dL_law_257 : decode cL_law 257 = .ok (.aload_n 0, 1) := by decide +kernel
theorem dL_law_258 : decode cL_law 258 = .ok (.iload 4, 2) := by decide +kernel
theorem dL_law_260 : decode cL_law 260 = .ok (.iconst 5, 1) := by decide +kernel
theorem dL_law_261 : decode cL_law 261 = .ok (.iadd, 1) := by decide +kernel
theorem dL_law_262 : decode cL_law 262 = .ok (.iaload, 1) := by decide +kernel
theorem dL_law_263 : decode cL_law 263 = .ok (.aload_n 0, 1) := by decide +kernel
theorem dL_law_264 : decode cL_law 264 = .ok (.iload 4, 2) := by decide +kernel
theorem dL_law_266 : decode cL_law 266 = .ok (.bipush 6, 2) := by decide +kernel
theorem dL_law_268 : decode cL_law 268 = .ok (.iadd, 1) := by decide +kernel
theorem dL_law_269 : decode cL_law 269 = .ok (.iaload, 1) := by decide +kernel
theorem dL_law_270 : decode cL_law 270 = .ok (.invokevirtual 106, 3) := by decide +kernel
theorem dL_law_273 : decode cL_law 273 = .ok (.istore 6, 2) := by decide +kernel
theorem dL_law_275 : decode cL_law 275 = .ok (.aload_n 2, 1) := by decide +kernel
theorem dL_law_276 : decode cL_law 276 = .ok (.invokevirtual 107, 3) := by decide +kernel
theorem dL_law_279 : decode cL_law 279 = .ok (.iload 5, 2) := by decide +kernel
theorem dL_law_281 : decode cL_law 281 = .ok (.if_icmp .eq 5, 3) := by decide +kernel
theorem dL_law_286 : decode cL_law 286 = .ok (.iload 5, 2) := by decide +kernel
theorem dL_law_288 : decode cL_law 288 = .ok (.ifCond .ne 15, 3) := by decide +kernel
theorem dL_law_291 : decode cL_law 291 = .ok (.aload_n 3, 1) := by decide +kernel
theorem dL_law_292 : decode cL_law 292 = .ok (.iconst 0, 1) := by decide +kernel
theorem dL_law_293 : decode cL_law 293 = .ok (.laload, 1) := by decide +kernel
theorem dL_law_294 : decode cL_law 294 = .ok (.iload 6, 2) := by decide +kernel
theorem dL_law_296 : decode cL_law 296 = .ok (.i2l, 1) := by decide +kernel
theorem dL_law_297 : decode cL_law 297 = .ok (.lcmp, 1) := by decide +kernel
theorem dL_law_298 : decode cL_law 298 = .ok (.ifCond .eq 5, 3) := by decide +kernel
theorem dL_law_303 : decode cL_law 303 = .ok (.goto 2071, 3) := by decide +kernel
theorem dL_law_306 : decode cL_law 306 = .ok (.aload_n 1, 1) := by decide +kernel
theorem dL_law_307 : decode cL_law 307 = .ok (.aload_n 0, 1) := by decide +kernel
theorem dL_law_308 : decode cL_law 308 = .ok (.iload 4, 2) := by decide +kernel
theorem dL_law_310 : decode cL_law 310 = .ok (.iconst 1, 1) := by decide +kernel
theorem dL_law_311 : decode cL_law 311 = .ok (.iadd, 1) := by decide +kernel
theorem dL_law_312 : decode cL_law 312 = .ok (.iaload, 1) := by decide +kernel
theorem dL_law_313 : decode cL_law 313 = .ok (.aload_n 0, 1) := by decide +kernel
theorem dL_law_314 : decode cL_law 314 = .ok (.iload 4, 2) := by decide +kernel
theorem dL_law_316 : decode cL_law 316 = .ok (.iconst 2, 1) := by decide +kernel
theorem dL_law_317 : decode cL_law 317 = .ok (.iadd, 1) := by decide +kernel
theorem dL_law_318 : decode cL_law 318 = .ok (.iaload, 1) := by decide +kernel
theorem dL_law_319 : decode cL_law 319 = .ok (.aload_n 0, 1) := by decide +kernel
theorem dL_law_320 : decode cL_law 320 = .ok (.iload 4, 2) := by decide +kernel
theorem dL_law_322 : decode cL_law 322 = .ok (.iconst 3, 1) := by decide +kernel
theorem dL_law_323 : decode cL_law 323 = .ok (.iadd, 1) := by decide +kernel
theorem dL_law_324 : decode cL_law 324 = .ok (.iaload, 1) := by decide +kernel
theorem dL_law_325 : decode cL_law 325 = .ok (.aload_n 0, 1) := by decide +kernel
theorem dL_law_326 : decode cL_law 326 = .ok (.iload 4, 2) := by decide +kernel
theorem dL_law_328 : decode cL_law 328 = .ok (.iconst 4, 1) := by decide +kernel
theorem dL_law_329 : decode cL_law 329 = .ok (.iadd, 1) := by decide +kernel
theorem dL_law_330 : decode cL_law 330 = .ok (.iaload, 1) := by decide +kernel
theorem dL_law_331 : decode cL_law 331 = .ok (.aload_n 0, 1) := by decide +kernel
theorem dL_law_332 : decode cL_law 332 = .ok (.iload 4, 2) := by decide +kernel
theorem dL_law_334 : decode cL_law 334 = .ok (.iconst 5, 1) := by decide +kernel
theorem dL_law_335 : decode cL_law 335 = .ok (.iadd, 1) := by decide +kernel
theorem dL_law_336 : decode cL_law 336 = .ok (.iaload, 1) := by decide +kernel
theorem dL_law_337 : decode cL_law 337 = .ok (.aload_n 0, 1) := by decide +kernel
theorem dL_law_338 : decode cL_law 338 = .ok (.iload 4, 2) := by decide +kernel
theorem dL_law_340 : decode cL_law 340 = .ok (.bipush 6, 2) := by decide +kernel
theorem dL_law_342 : decode cL_law 342 = .ok (.iadd, 1) := by decide +kernel
theorem dL_law_343 : decode cL_law 343 = .ok (.iaload, 1) := by decide +kernel
theorem dL_law_344 : decode cL_law 344 = .ok (.aload_n 3, 1) := by decide +kernel
theorem dL_law_345 : decode cL_law 345 = .ok (.invokestatic 111, 3) := by decide +kernel
theorem dL_law_348 : decode cL_law 348 = .ok (.istore 5, 2) := by decide +kernel
theorem dL_law_350 : decode cL_law 350 = .ok (.aload_n 2, 1) := by decide +kernel
theorem dL_law_351 : decode cL_law 351 = .ok (.aload_n 0, 1) := by decide +kernel
theorem dL_law_352 : decode cL_law 352 = .ok (.iload 4, 2) := by decide +kernel
theorem dL_law_354 : decode cL_law 354 = .ok (.iconst 1, 1) := by decide +kernel
theorem dL_law_355 : decode cL_law 355 = .ok (.iadd, 1) := by decide +kernel
theorem dL_law_356 : decode cL_law 356 = .ok (.iaload, 1) := by decide +kernel
theorem dL_law_357 : decode cL_law 357 = .ok (.aload_n 0, 1) := by decide +kernel
theorem dL_law_358 : decode cL_law 358 = .ok (.iload 4, 2) := by decide +kernel
theorem dL_law_360 : decode cL_law 360 = .ok (.iconst 2, 1) := by decide +kernel
theorem dL_law_361 : decode cL_law 361 = .ok (.iadd, 1) := by decide +kernel
theorem dL_law_362 : decode cL_law 362 = .ok (.iaload, 1) := by decide +kernel
theorem dL_law_363 : decode cL_law 363 = .ok (.aload_n 0, 1) := by decide +kernel
theorem dL_law_364 : decode cL_law 364 = .ok (.iload 4, 2) := by decide +kernel
theorem dL_law_366 : decode cL_law 366 = .ok (.iconst 3, 1) := by decide +kernel
theorem dL_law_367 : decode cL_law 367 = .ok (.iadd, 1) := by decide +kernel
theorem dL_law_368 : decode cL_law 368 = .ok (.iaload, 1) := by decide +kernel
theorem dL_law_369 : decode cL_law 369 = .ok (.aload_n 0, 1) := by decide +kernel
theorem dL_law_370 : decode cL_law 370 = .ok (.iload 4, 2) := by decide +kernel
theorem dL_law_372 : decode cL_law 372 = .ok (.iconst 4, 1) := by decide +kernel
theorem dL_law_373 : decode cL_law 373 = .ok (.iadd, 1) := by decide +kernel
theorem dL_law_374 : decode cL_law 374 = .ok (.iaload, 1) := by decide +kernel
theorem dL_law_375 : decode cL_law 375 = .ok (.aload_n 0, 1) := by decide +kernel
theorem dL_law_376 : decode cL_law 376 = .ok (.iload 4, 2) := by decide +kernel
theorem dL_law_378 : decode cL_law 378 = .ok (.iconst 5, 1) := by decide +kernel
theorem dL_law_379 : decode cL_law 379 = .ok (.iadd, 1) := by decide +kernel
theorem dL_law_380 : decode cL_law 380 = .ok (.iaload, 1) := by decide +kernel
theorem dL_law_381 : decode cL_law 381 = .ok (.aload_n 0, 1) := by decide +kernel
theorem dL_law_382 : decode cL_law 382 = .ok (.iload 4, 2) := by decide +kernel
theorem dL_law_384 : decode cL_law 384 = .ok (.bipush 6, 2) := by decide +kernel
theorem dL_law_386 : decode cL_law 386 = .ok (.iadd, 1) := by decide +kernel
theorem dL_law_387 : decode cL_law 387 = .ok (.iaload, 1) := by decide +kernel
theorem dL_law_388 : decode cL_law 388 = .ok (.invokevirtual 113, 3) := by decide +kernel
theorem dL_law_391 : decode cL_law 391 = .ok (.istore 6, 2) := by decide +kernel
theorem dL_law_393 : decode cL_law 393 = .ok (.aload_n 2, 1) := by decide +kernel
theorem dL_law_394 : decode cL_law 394 = .ok (.invokevirtual 107, 3) := by decide +kernel
theorem dL_law_397 : decode cL_law 397 = .ok (.iload 5, 2) := by decide +kernel
theorem dL_law_399 : decode cL_law 399 = .ok (.if_icmp .eq 5, 3) := by decide +kernel
theorem dL_law_404 : decode cL_law 404 = .ok (.iload 5, 2) := by decide +kernel
theorem dL_law_406 : decode cL_law 406 = .ok (.ifCond .ne 15, 3) := by decide +kernel
theorem dL_law_409 : decode cL_law 409 = .ok (.aload_n 3, 1) := by decide +kernel
theorem dL_law_410 : decode cL_law 410 = .ok (.iconst 0, 1) := by decide +kernel
theorem dL_law_411 : decode cL_law 411 = .ok (.laload, 1) := by decide +kernel
theorem dL_law_412 : decode cL_law 412 = .ok (.iload 6, 2) := by decide +kernel
theorem dL_law_414 : decode cL_law 414 = .ok (.i2l, 1) := by decide +kernel
theorem dL_law_415 : decode cL_law 415 = .ok (.lcmp, 1) := by decide +kernel
theorem dL_law_416 : decode cL_law 416 = .ok (.ifCond .eq 5, 3) := by decide +kernel
theorem dL_law_421 : decode cL_law 421 = .ok (.goto 1953, 3) := by decide +kernel
theorem dL_law_424 : decode cL_law 424 = .ok (.aload_n 1, 1) := by decide +kernel
theorem dL_law_425 : decode cL_law 425 = .ok (.aload_n 0, 1) := by decide +kernel
theorem dL_law_426 : decode cL_law 426 = .ok (.iload 4, 2) := by decide +kernel
theorem dL_law_428 : decode cL_law 428 = .ok (.iconst 1, 1) := by decide +kernel
theorem dL_law_429 : decode cL_law 429 = .ok (.iadd, 1) := by decide +kernel
theorem dL_law_430 : decode cL_law 430 = .ok (.iaload, 1) := by decide +kernel
theorem dL_law_431 : decode cL_law 431 = .ok (.aload_n 0, 1) := by decide +kernel
theorem dL_law_432 : decode cL_law 432 = .ok (.iload 4, 2) := by decide +kernel
theorem dL_law_434 : decode cL_law 434 = .ok (.iconst 2, 1) := by decide +kernel
theorem dL_law_435 : decode cL_law 435 = .ok (.iadd, 1) := by decide +kernel
theorem dL_law_436 : decode cL_law 436 = .ok (.iaload, 1) := by decide +kernel
theorem dL_law_437 : decode cL_law 437 = .ok (.aload_n 0, 1) := by decide +kernel
theorem dL_law_438 : decode cL_law 438 = .ok (.iload 4, 2) := by decide +kernel
theorem dL_law_440 : decode cL_law 440 = .ok (.iconst 3, 1) := by decide +kernel
theorem dL_law_441 : decode cL_law 441 = .ok (.iadd, 1) := by decide +kernel
theorem dL_law_442 : decode cL_law 442 = .ok (.iaload, 1) := by decide +kernel
theorem dL_law_443 : decode cL_law 443 = .ok (.aload_n 0, 1) := by decide +kernel
theorem dL_law_444 : decode cL_law 444 = .ok (.iload 4, 2) := by decide +kernel
theorem dL_law_446 : decode cL_law 446 = .ok (.iconst 4, 1) := by decide +kernel
theorem dL_law_447 : decode cL_law 447 = .ok (.iadd, 1) := by decide +kernel
theorem dL_law_448 : decode cL_law 448 = .ok (.iaload, 1) := by decide +kernel
theorem dL_law_449 : decode cL_law 449 = .ok (.aload_n 3, 1) := by decide +kernel
theorem dL_law_450 : decode cL_law 450 = .ok (.invokestatic 114, 3) := by decide +kernel
theorem dL_law_453 : decode cL_law 453 = .ok (.istore 5, 2) := by decide +kernel
theorem dL_law_455 : decode cL_law 455 = .ok (.aload_n 2, 1) := by decide +kernel
theorem dL_law_456 : decode cL_law 456 = .ok (.aload_n 0, 1) := by decide +kernel
theorem dL_law_457 : decode cL_law 457 = .ok (.iload 4, 2) := by decide +kernel
theorem dL_law_459 : decode cL_law 459 = .ok (.iconst 1, 1) := by decide +kernel
theorem dL_law_460 : decode cL_law 460 = .ok (.iadd, 1) := by decide +kernel
theorem dL_law_461 : decode cL_law 461 = .ok (.iaload, 1) := by decide +kernel
theorem dL_law_462 : decode cL_law 462 = .ok (.aload_n 0, 1) := by decide +kernel
theorem dL_law_463 : decode cL_law 463 = .ok (.iload 4, 2) := by decide +kernel
theorem dL_law_465 : decode cL_law 465 = .ok (.iconst 2, 1) := by decide +kernel
theorem dL_law_466 : decode cL_law 466 = .ok (.iadd, 1) := by decide +kernel
theorem dL_law_467 : decode cL_law 467 = .ok (.iaload, 1) := by decide +kernel
theorem dL_law_468 : decode cL_law 468 = .ok (.aload_n 0, 1) := by decide +kernel
theorem dL_law_469 : decode cL_law 469 = .ok (.iload 4, 2) := by decide +kernel
theorem dL_law_471 : decode cL_law 471 = .ok (.iconst 3, 1) := by decide +kernel
theorem dL_law_472 : decode cL_law 472 = .ok (.iadd, 1) := by decide +kernel
theorem dL_law_473 : decode cL_law 473 = .ok (.iaload, 1) := by decide +kernel
theorem dL_law_474 : decode cL_law 474 = .ok (.aload_n 0, 1) := by decide +kernel
theorem dL_law_475 : decode cL_law 475 = .ok (.iload 4, 2) := by decide +kernel
theorem dL_law_477 : decode cL_law 477 = .ok (.iconst 4, 1) := by decide +kernel
theorem dL_law_478 : decode cL_law 478 = .ok (.iadd, 1) := by decide +kernel
theorem dL_law_479 : decode cL_law 479 = .ok (.iaload, 1) := by decide +kernel
theorem dL_law_480 : decode cL_law 480 = .ok (.invokevirtual 117, 3) := by decide +kernel
theorem dL_law_483 : decode cL_law 483 = .ok (.istore 6, 2) := by decide +kernel
theorem dL_law_485 : decode cL_law 485 = .ok (.aload_n 2, 1) := by decide +kernel
theorem dL_law_486 : decode cL_law 486 = .ok (.invokevirtual 107, 3) := by decide +kernel
theorem dL_law_489 : decode cL_law 489 = .ok (.iload 5, 2) := by decide +kernel
theorem dL_law_491 : decode cL_law 491 = .ok (.if_icmp .eq 5, 3) := by decide +kernel
theorem dL_law_496 : decode cL_law 496 = .ok (.iload 5, 2) := by decide +kernel
theorem dL_law_498 : decode cL_law 498 = .ok (.ifCond .ne 15, 3) := by decide +kernel
theorem dL_law_501 : decode cL_law 501 = .ok (.aload_n 3, 1) := by decide +kernel
theorem dL_law_502 : decode cL_law 502 = .ok (.iconst 0, 1) := by decide +kernel
theorem dL_law_503 : decode cL_law 503 = .ok (.laload, 1) := by decide +kernel
theorem dL_law_504 : decode cL_law 504 = .ok (.iload 6, 2) := by decide +kernel
theorem dL_law_506 : decode cL_law 506 = .ok (.i2l, 1) := by decide +kernel
theorem dL_law_507 : decode cL_law 507 = .ok (.lcmp, 1) := by decide +kernel
theorem dL_law_508 : decode cL_law 508 = .ok (.ifCond .eq 5, 3) := by decide +kernel
theorem dL_law_513 : decode cL_law 513 = .ok (.goto 1861, 3) := by decide +kernel
theorem dL_law_516 : decode cL_law 516 = .ok (.aload_n 1, 1) := by decide +kernel
theorem dL_law_517 : decode cL_law 517 = .ok (.aload_n 0, 1) := by decide +kernel
theorem dL_law_518 : decode cL_law 518 = .ok (.iload 4, 2) := by decide +kernel
theorem dL_law_520 : decode cL_law 520 = .ok (.iconst 1, 1) := by decide +kernel
theorem dL_law_521 : decode cL_law 521 = .ok (.iadd, 1) := by decide +kernel
theorem dL_law_522 : decode cL_law 522 = .ok (.iaload, 1) := by decide +kernel
theorem dL_law_523 : decode cL_law 523 = .ok (.aload_n 0, 1) := by decide +kernel
theorem dL_law_524 : decode cL_law 524 = .ok (.iload 4, 2) := by decide +kernel
theorem dL_law_526 : decode cL_law 526 = .ok (.iconst 2, 1) := by decide +kernel
theorem dL_law_527 : decode cL_law 527 = .ok (.iadd, 1) := by decide +kernel
theorem dL_law_528 : decode cL_law 528 = .ok (.iaload, 1) := by decide +kernel
theorem dL_law_529 : decode cL_law 529 = .ok (.aload_n 0, 1) := by decide +kernel
theorem dL_law_530 : decode cL_law 530 = .ok (.iload 4, 2) := by decide +kernel
theorem dL_law_532 : decode cL_law 532 = .ok (.iconst 3, 1) := by decide +kernel
theorem dL_law_533 : decode cL_law 533 = .ok (.iadd, 1) := by decide +kernel
theorem dL_law_534 : decode cL_law 534 = .ok (.iaload, 1) := by decide +kernel
theorem dL_law_535 : decode cL_law 535 = .ok (.aload_n 3, 1) := by decide +kernel
theorem dL_law_536 : decode cL_law 536 = .ok (.invokestatic 118, 3) := by decide +kernel
theorem dL_law_539 : decode cL_law 539 = .ok (.istore 5, 2) := by decide +kernel
theorem dL_law_541 : decode cL_law 541 = .ok (.aload_n 2, 1) := by decide +kernel
theorem dL_law_542 : decode cL_law 542 = .ok (.aload_n 0, 1) := by decide +kernel
theorem dL_law_543 : decode cL_law 543 = .ok (.iload 4, 2) := by decide +kernel
theorem dL_law_545 : decode cL_law 545 = .ok (.iconst 1, 1) := by decide +kernel
theorem dL_law_546 : decode cL_law 546 = .ok (.iadd, 1) := by decide +kernel
theorem dL_law_547 : decode cL_law 547 = .ok (.iaload, 1) := by decide +kernel
theorem dL_law_548 : decode cL_law 548 = .ok (.aload_n 0, 1) := by decide +kernel
theorem dL_law_549 : decode cL_law 549 = .ok (.iload 4, 2) := by decide +kernel
theorem dL_law_551 : decode cL_law 551 = .ok (.iconst 2, 1) := by decide +kernel
theorem dL_law_552 : decode cL_law 552 = .ok (.iadd, 1) := by decide +kernel
theorem dL_law_553 : decode cL_law 553 = .ok (.iaload, 1) := by decide +kernel
theorem dL_law_554 : decode cL_law 554 = .ok (.aload_n 0, 1) := by decide +kernel
theorem dL_law_555 : decode cL_law 555 = .ok (.iload 4, 2) := by decide +kernel
theorem dL_law_557 : decode cL_law 557 = .ok (.iconst 3, 1) := by decide +kernel
theorem dL_law_558 : decode cL_law 558 = .ok (.iadd, 1) := by decide +kernel
theorem dL_law_559 : decode cL_law 559 = .ok (.iaload, 1) := by decide +kernel
theorem dL_law_560 : decode cL_law 560 = .ok (.invokevirtual 121, 3) := by decide +kernel
theorem dL_law_563 : decode cL_law 563 = .ok (.istore 6, 2) := by decide +kernel
theorem dL_law_565 : decode cL_law 565 = .ok (.aload_n 2, 1) := by decide +kernel
theorem dL_law_566 : decode cL_law 566 = .ok (.invokevirtual 107, 3) := by decide +kernel
theorem dL_law_569 : decode cL_law 569 = .ok (.iload 5, 2) := by decide +kernel
theorem dL_law_571 : decode cL_law 571 = .ok (.if_icmp .eq 5, 3) := by decide +kernel
theorem dL_law_576 : decode cL_law 576 = .ok (.iload 5, 2) := by decide +kernel
theorem dL_law_578 : decode cL_law 578 = .ok (.ifCond .ne 15, 3) := by decide +kernel
theorem dL_law_581 : decode cL_law 581 = .ok (.aload_n 3, 1) := by decide +kernel
theorem dL_law_582 : decode cL_law 582 = .ok (.iconst 0, 1) := by decide +kernel
theorem dL_law_583 : decode cL_law 583 = .ok (.laload, 1) := by decide +kernel
theorem dL_law_584 : decode cL_law 584 = .ok (.iload 6, 2) := by decide +kernel
theorem dL_law_586 : decode cL_law 586 = .ok (.i2l, 1) := by decide +kernel
theorem dL_law_587 : decode cL_law 587 = .ok (.lcmp, 1) := by decide +kernel
theorem dL_law_588 : decode cL_law 588 = .ok (.ifCond .eq 5, 3) := by decide +kernel
theorem dL_law_593 : decode cL_law 593 = .ok (.goto 1781, 3) := by decide +kernel
theorem dL_law_596 : decode cL_law 596 = .ok (.aload_n 1, 1) := by decide +kernel
theorem dL_law_597 : decode cL_law 597 = .ok (.aload_n 0, 1) := by decide +kernel
