theorem d_LA_channel_0 : decode b_LA_channel 0 = .ok (.aload 6, 2) := by decide +kernel
theorem d_LA_channel_2 : decode b_LA_channel 2 = .ok (.iconst 0, 1) := by decide +kernel
theorem d_LA_channel_3 : decode b_LA_channel 3 = .ok (.aload_n 0, 1) := by decide +kernel
theorem d_LA_channel_4 : decode b_LA_channel 4 = .ok (.iload_n 1, 1) := by decide +kernel
theorem d_LA_channel_5 : decode b_LA_channel 5 = .ok (.iload_n 2, 1) := by decide +kernel
theorem d_LA_channel_6 : decode b_LA_channel 6 = .ok (.iload_n 3, 1) := by decide +kernel
theorem d_LA_channel_7 : decode b_LA_channel 7 = .ok (.iload 4, 2) := by decide +kernel
theorem d_LA_channel_9 : decode b_LA_channel 9 = .ok (.iload 5, 2) := by decide +kernel
theorem d_LA_channel_11 : decode b_LA_channel 11 = .ok (.invokevirtual 7, 3) := by decide +kernel
theorem d_LA_channel_14 : decode b_LA_channel 14 = .ok (.i2l, 1) := by decide +kernel
theorem d_LA_channel_15 : decode b_LA_channel 15 = .ok (.lastore, 1) := by decide +kernel
theorem d_LA_channel_16 : decode b_LA_channel 16 = .ok (.goto 11, 3) := by decide +kernel
theorem d_LA_channel_19 : decode b_LA_channel 19 = .ok (.astore 7, 2) := by decide +kernel
theorem d_LA_channel_21 : decode b_LA_channel 21 = .ok (.iconst 1, 1) := by decide +kernel
theorem d_LA_channel_22 : decode b_LA_channel 22 = .ok (.ireturn, 1) := by decide +kernel
theorem d_LA_channel_23 : decode b_LA_channel 23 = .ok (.astore 7, 2) := by decide +kernel
theorem d_LA_channel_25 : decode b_LA_channel 25 = .ok (.iconst 2, 1) := by decide +kernel
theorem d_LA_channel_26 : decode b_LA_channel 26 = .ok (.ireturn, 1) := by decide +kernel
theorem d_LA_channel_27 : decode b_LA_channel 27 = .ok (.iconst 0, 1) := by decide +kernel
theorem d_LA_channel_28 : decode b_LA_channel 28 = .ok (.ireturn, 1) := by decide +kernel
theorem d_LA_tick_0 : decode b_LA_tick 0 = .ok (.aload_n 2, 1) := by decide +kernel
theorem d_LA_tick_1 : decode b_LA_tick 1 = .ok (.iconst 0, 1) := by decide +kernel
theorem d_LA_tick_2 : decode b_LA_tick 2 = .ok (.aload_n 0, 1) := by decide +kernel
theorem d_LA_tick_3 : decode b_LA_tick 3 = .ok (.iload_n 1, 1) := by decide +kernel
theorem d_LA_tick_4 : decode b_LA_tick 4 = .ok (.invokevirtual 17, 3) := by decide +kernel
theorem d_LA_tick_7 : decode b_LA_tick 7 = .ok (.i2l, 1) := by decide +kernel
theorem d_LA_tick_8 : decode b_LA_tick 8 = .ok (.lastore, 1) := by decide +kernel
theorem d_LA_tick_9 : decode b_LA_tick 9 = .ok (.goto 6, 3) := by decide +kernel
theorem d_LA_tick_12 : decode b_LA_tick 12 = .ok (.astore_n 3, 1) := by decide +kernel
theorem d_LA_tick_13 : decode b_LA_tick 13 = .ok (.iconst 1, 1) := by decide +kernel
theorem d_LA_tick_14 : decode b_LA_tick 14 = .ok (.ireturn, 1) := by decide +kernel
theorem d_LA_tick_15 : decode b_LA_tick 15 = .ok (.iconst 0, 1) := by decide +kernel
theorem d_LA_tick_16 : decode b_LA_tick 16 = .ok (.ireturn, 1) := by decide +kernel
theorem d_LA_bind_0 : decode b_LA_bind 0 = .ok (.aload_n 3, 1) := by decide +kernel
theorem d_LA_bind_1 : decode b_LA_bind 1 = .ok (.iconst 0, 1) := by decide +kernel
theorem d_LA_bind_2 : decode b_LA_bind 2 = .ok (.aload_n 0, 1) := by decide +kernel
theorem d_LA_bind_3 : decode b_LA_bind 3 = .ok (.iload_n 1, 1) := by decide +kernel
theorem d_LA_bind_4 : decode b_LA_bind 4 = .ok (.iload_n 2, 1) := by decide +kernel
theorem d_LA_bind_5 : decode b_LA_bind 5 = .ok (.invokevirtual 21, 3) := by decide +kernel
theorem d_LA_bind_8 : decode b_LA_bind 8 = .ok (.i2l, 1) := by decide +kernel
theorem d_LA_bind_9 : decode b_LA_bind 9 = .ok (.lastore, 1) := by decide +kernel
theorem d_LA_bind_10 : decode b_LA_bind 10 = .ok (.goto 11, 3) := by decide +kernel
theorem d_LA_bind_13 : decode b_LA_bind 13 = .ok (.astore 4, 2) := by decide +kernel
theorem d_LA_bind_15 : decode b_LA_bind 15 = .ok (.iconst 1, 1) := by decide +kernel
theorem d_LA_bind_16 : decode b_LA_bind 16 = .ok (.ireturn, 1) := by decide +kernel
theorem d_LA_bind_17 : decode b_LA_bind 17 = .ok (.astore 4, 2) := by decide +kernel
theorem d_LA_bind_19 : decode b_LA_bind 19 = .ok (.iconst 2, 1) := by decide +kernel
theorem d_LA_bind_20 : decode b_LA_bind 20 = .ok (.ireturn, 1) := by decide +kernel
theorem d_LA_bind_21 : decode b_LA_bind 21 = .ok (.iconst 0, 1) := by decide +kernel
theorem d_LA_bind_22 : decode b_LA_bind 22 = .ok (.ireturn, 1) := by decide +kernel
theorem d_LA_shown_0 : decode b_LA_shown 0 = .ok (.aload_n 3, 1) := by decide +kernel
theorem d_LA_shown_1 : decode b_LA_shown 1 = .ok (.iconst 0, 1) := by decide +kernel
theorem d_LA_shown_2 : decode b_LA_shown 2 = .ok (.aload_n 0, 1) := by decide +kernel
theorem d_LA_shown_3 : decode b_LA_shown 3 = .ok (.iload_n 1, 1) := by decide +kernel
theorem d_LA_shown_4 : decode b_LA_shown 4 = .ok (.iload_n 2, 1) := by decide +kernel
theorem d_LA_shown_5 : decode b_LA_shown 5 = .ok (.invokevirtual 25, 3) := by decide +kernel
theorem d_LA_shown_8 : decode b_LA_shown 8 = .ok (.i2l, 1) := by decide +kernel
theorem d_LA_shown_9 : decode b_LA_shown 9 = .ok (.lastore, 1) := by decide +kernel
theorem d_LA_shown_10 : decode b_LA_shown 10 = .ok (.goto 11, 3) := by decide +kernel
theorem d_LA_shown_13 : decode b_LA_shown 13 = .ok (.astore 4, 2) := by decide +kernel
theorem d_LA_shown_15 : decode b_LA_shown 15 = .ok (.iconst 1, 1) := by decide +kernel
theorem d_LA_shown_16 : decode b_LA_shown 16 = .ok (.ireturn, 1) := by decide +kernel
theorem d_LA_shown_17 : decode b_LA_shown 17 = .ok (.astore 4, 2) := by decide +kernel
theorem d_LA_shown_19 : decode b_LA_shown 19 = .ok (.iconst 2, 1) := by decide +kernel
theorem d_LA_shown_20 : decode b_LA_shown 20 = .ok (.ireturn, 1) := by decide +kernel
theorem d_LA_shown_21 : decode b_LA_shown 21 = .ok (.iconst 0, 1) := by decide +kernel
theorem d_LA_shown_22 : decode b_LA_shown 22 = .ok (.ireturn, 1) := by decide +kernel
theorem d_LA_order_0 : decode b_LA_order 0 = .ok (.aload 5, 2) := by decide +kernel
theorem d_LA_order_2 : decode b_LA_order 2 = .ok (.iconst 0, 1) := by decide +kernel
theorem d_LA_order_3 : decode b_LA_order 3 = .ok (.aload_n 0, 1) := by decide +kernel
theorem d_LA_order_4 : decode b_LA_order 4 = .ok (.iload_n 1, 1) := by decide +kernel
theorem d_LA_order_5 : decode b_LA_order 5 = .ok (.iload_n 2, 1) := by decide +kernel
theorem d_LA_order_6 : decode b_LA_order 6 = .ok (.iload_n 3, 1) := by decide +kernel
theorem d_LA_order_7 : decode b_LA_order 7 = .ok (.iload 4, 2) := by decide +kernel
theorem d_LA_order_9 : decode b_LA_order 9 = .ok (.invokevirtual 32, 3) := by decide +kernel
theorem d_LA_order_12 : decode b_LA_order 12 = .ok (.i2l, 1) := by decide +kernel
theorem d_LA_order_13 : decode b_LA_order 13 = .ok (.lastore, 1) := by decide +kernel
theorem d_LA_order_14 : decode b_LA_order 14 = .ok (.goto 11, 3) := by decide +kernel
theorem d_LA_order_17 : decode b_LA_order 17 = .ok (.astore 6, 2) := by decide +kernel
theorem d_LA_order_19 : decode b_LA_order 19 = .ok (.iconst 1, 1) := by decide +kernel
theorem d_LA_order_20 : decode b_LA_order 20 = .ok (.ireturn, 1) := by decide +kernel
theorem d_LA_order_21 : decode b_LA_order 21 = .ok (.astore 6, 2) := by decide +kernel
theorem d_LA_order_23 : decode b_LA_order 23 = .ok (.iconst 2, 1) := by decide +kernel
theorem d_LA_order_24 : decode b_LA_order 24 = .ok (.ireturn, 1) := by decide +kernel
theorem d_LA_order_25 : decode b_LA_order 25 = .ok (.iconst 0, 1) := by decide +kernel
theorem d_LA_order_26 : decode b_LA_order 26 = .ok (.ireturn, 1) := by decide +kernel
theorem d_LA_look_0 : decode b_LA_look 0 = .ok (.aload_n 3, 1) := by decide +kernel
theorem d_LA_look_1 : decode b_LA_look 1 = .ok (.iconst 0, 1) := by decide +kernel
theorem d_LA_look_2 : decode b_LA_look 2 = .ok (.aload_n 0, 1) := by decide +kernel
theorem d_LA_look_3 : decode b_LA_look 3 = .ok (.iload_n 1, 1) := by decide +kernel
theorem d_LA_look_4 : decode b_LA_look 4 = .ok (.iload_n 2, 1) := by decide +kernel
theorem d_LA_look_5 : decode b_LA_look 5 = .ok (.invokevirtual 36, 3) := by decide +kernel
theorem d_LA_look_8 : decode b_LA_look 8 = .ok (.i2l, 1) := by decide +kernel
theorem d_LA_look_9 : decode b_LA_look 9 = .ok (.lastore, 1) := by decide +kernel
theorem d_LA_look_10 : decode b_LA_look 10 = .ok (.goto 7, 3) := by decide +kernel
theorem d_LA_look_13 : decode b_LA_look 13 = .ok (.astore 4, 2) := by decide +kernel
theorem d_LA_look_15 : decode b_LA_look 15 = .ok (.iconst 1, 1) := by decide +kernel
theorem d_LA_look_16 : decode b_LA_look 16 = .ok (.ireturn, 1) := by decide +kernel
theorem d_LA_look_17 : decode b_LA_look 17 = .ok (.iconst 0, 1) := by decide +kernel
theorem d_LA_look_18 : decode b_LA_look 18 = .ok (.ireturn, 1) := by decide +kernel
theorem d_LA_message_0 : decode b_LA_message 0 = .ok (.aload_n 3, 1) := by decide +kernel
theorem d_LA_message_1 : decode b_LA_message 1 = .ok (.iconst 0, 1) := by decide +kernel
theorem d_LA_message_2 : decode b_LA_message 2 = .ok (.aload_n 0, 1) := by decide +kernel
theorem d_LA_message_3 : decode b_LA_message 3 = .ok (.iload_n 1, 1) := by decide +kernel
theorem d_LA_message_4 : decode b_LA_message 4 = .ok (.iload_n 2, 1) := by decide +kernel
theorem d_LA_message_5 : decode b_LA_message 5 = .ok (.invokevirtual 39, 3) := by decide +kernel
theorem d_LA_message_8 : decode b_LA_message 8 = .ok (.i2l, 1) := by decide +kernel
theorem d_LA_message_9 : decode b_LA_message 9 = .ok (.lastore, 1) := by decide +kernel
theorem d_LA_message_10 : decode b_LA_message 10 = .ok (.goto 11, 3) := by decide +kernel
theorem d_LA_message_13 : decode b_LA_message 13 = .ok (.astore 4, 2) := by decide +kernel
theorem d_LA_message_15 : decode b_LA_message 15 = .ok (.iconst 1, 1) := by decide +kernel
theorem d_LA_message_16 : decode b_LA_message 16 = .ok (.ireturn, 1) := by decide +kernel
theorem d_LA_message_17 : decode b_LA_message 17 = .ok (.astore 4, 2) := by decide +kernel
theorem d_LA_message_19 : decode b_LA_message 19 = .ok (.iconst 2, 1) := by decide +kernel
theorem d_LA_message_20 : decode b_LA_message 20 = .ok (.ireturn, 1) := by decide +kernel
theorem d_LA_message_21 : decode b_LA_message 21 = .ok (.iconst 0, 1) := by decide +kernel
theorem d_LA_message_22 : decode b_LA_message 22 = .ok (.ireturn, 1) := by decide +kernel
theorem d_LA_law_0 : decode b_LA_law 0 = .ok (.new 8, 3) := by decide +kernel
theorem d_LA_law_3 : decode b_LA_law 3 = .ok (.dup, 1) := by decide +kernel
theorem d_LA_law_4 : decode b_LA_law 4 = .ok (.invokespecial 42, 3) := by decide +kernel
theorem d_LA_law_7 : decode b_LA_law 7 = .ok (.astore_n 1, 1) := by decide +kernel
theorem d_LA_law_8 : decode b_LA_law 8 = .ok (.new 43, 3) := by decide +kernel
theorem d_LA_law_11 : decode b_LA_law 11 = .ok (.dup, 1) := by decide +kernel
theorem d_LA_law_12 : decode b_LA_law 12 = .ok (.invokespecial 45, 3) := by decide +kernel
theorem d_LA_law_15 : decode b_LA_law 15 = .ok (.astore_n 2, 1) := by decide +kernel
theorem d_LA_law_16 : decode b_LA_law 16 = .ok (.iconst 1, 1) := by decide +kernel
theorem d_LA_law_17 : decode b_LA_law 17 = .ok (.newarray .long, 2) := by decide +kernel
theorem d_LA_law_19 : decode b_LA_law 19 = .ok (.astore_n 3, 1) := by decide +kernel
theorem d_LA_law_20 : decode b_LA_law 20 = .ok (.iconst 0, 1) := by decide +kernel
theorem d_LA_law_21 : decode b_LA_law 21 = .ok (.istore 4, 2) := by decide +kernel
theorem d_LA_law_23 : decode b_LA_law 23 = .ok (.iload 4, 2) := by decide +kernel
theorem d_LA_law_25 : decode b_LA_law 25 = .ok (.aload_n 0, 1) := by decide +kernel
theorem d_LA_law_26 : decode b_LA_law 26 = .ok (.arraylength, 1) := by decide +kernel
theorem d_LA_law_27 : decode b_LA_law 27 = .ok (.bipush 6, 2) := by decide +kernel
theorem d_LA_law_29 : decode b_LA_law 29 = .ok (.isub, 1) := by decide +kernel
theorem d_LA_law_30 : decode b_LA_law 30 = .ok (.if_icmp .gt 1308, 3) := by decide +kernel
theorem d_LA_law_33 : decode b_LA_law 33 = .ok (.aload_n 0, 1) := by decide +kernel
theorem d_LA_law_34 : decode b_LA_law 34 = .ok (.iload 4, 2) := by decide +kernel
theorem d_LA_law_36 : decode b_LA_law 36 = .ok (.iaload, 1) := by decide +kernel
theorem d_LA_law_37 : decode b_LA_law 37 = .ok (.bipush 31, 2) := by decide +kernel
theorem d_LA_law_39 : decode b_LA_law 39 = .ok (.iand, 1) := by decide +kernel
theorem d_LA_law_40 : decode b_LA_law 40 = .ok (.tableswitch 1292 0 22 #[108, 145, 249, 322, 383, 408, 445, 482, 507, 556, 612, 665, 690, 758, 826, 863, 912, 949, 1041, 1106, 1131, 1199, 1267], 108) := by decide +kernel
theorem d_LA_law_148 : decode b_LA_law 148 = .ok (.aload_n 1, 1) := by decide +kernel
theorem d_LA_law_149 : decode b_LA_law 149 = .ok (.aload_n 0, 1) := by decide +kernel
theorem d_LA_law_150 : decode b_LA_law 150 = .ok (.iload 4, 2) := by decide +kernel
theorem d_LA_law_152 : decode b_LA_law 152 = .ok (.iconst 1, 1) := by decide +kernel
theorem d_LA_law_153 : decode b_LA_law 153 = .ok (.iadd, 1) := by decide +kernel
theorem d_LA_law_154 : decode b_LA_law 154 = .ok (.iaload, 1) := by decide +kernel
theorem d_LA_law_155 : decode b_LA_law 155 = .ok (.aload_n 0, 1) := by decide +kernel
theorem d_LA_law_156 : decode b_LA_law 156 = .ok (.iload 4, 2) := by decide +kernel
theorem d_LA_law_158 : decode b_LA_law 158 = .ok (.iconst 2, 1) := by decide +kernel
theorem d_LA_law_159 : decode b_LA_law 159 = .ok (.iadd, 1) := by decide +kernel
theorem d_LA_law_160 : decode b_LA_law 160 = .ok (.iaload, 1) := by decide +kernel
theorem d_LA_law_161 : decode b_LA_law 161 = .ok (.invokevirtual 46, 3) := by decide +kernel
theorem d_LA_law_164 : decode b_LA_law 164 = .ok (.aload_n 2, 1) := by decide +kernel
theorem d_LA_law_165 : decode b_LA_law 165 = .ok (.aload_n 0, 1) := by decide +kernel
theorem d_LA_law_166 : decode b_LA_law 166 = .ok (.iload 4, 2) := by decide +kernel
theorem d_LA_law_168 : decode b_LA_law 168 = .ok (.iconst 1, 1) := by decide +kernel
theorem d_LA_law_169 : decode b_LA_law 169 = .ok (.iadd, 1) := by decide +kernel
theorem d_LA_law_170 : decode b_LA_law 170 = .ok (.iaload, 1) := by decide +kernel
theorem d_LA_law_171 : decode b_LA_law 171 = .ok (.aload_n 0, 1) := by decide +kernel
theorem d_LA_law_172 : decode b_LA_law 172 = .ok (.iload 4, 2) := by decide +kernel
theorem d_LA_law_174 : decode b_LA_law 174 = .ok (.iconst 2, 1) := by decide +kernel
theorem d_LA_law_175 : decode b_LA_law 175 = .ok (.iadd, 1) := by decide +kernel
theorem d_LA_law_176 : decode b_LA_law 176 = .ok (.iaload, 1) := by decide +kernel
theorem d_LA_law_177 : decode b_LA_law 177 = .ok (.invokevirtual 50, 3) := by decide +kernel
theorem d_LA_law_180 : decode b_LA_law 180 = .ok (.if_icmp .eq 1152, 3) := by decide +kernel
theorem d_LA_law_183 : decode b_LA_law 183 = .ok (.iconst 0, 1) := by decide +kernel
theorem d_LA_law_184 : decode b_LA_law 184 = .ok (.ireturn, 1) := by decide +kernel
theorem d_LA_law_185 : decode b_LA_law 185 = .ok (.aload_n 1, 1) := by decide +kernel
theorem d_LA_law_186 : decode b_LA_law 186 = .ok (.aload_n 0, 1) := by decide +kernel
theorem d_LA_law_187 : decode b_LA_law 187 = .ok (.iload 4, 2) := by decide +kernel
theorem d_LA_law_189 : decode b_LA_law 189 = .ok (.iconst 1, 1) := by decide +kernel
theorem d_LA_law_190 : decode b_LA_law 190 = .ok (.iadd, 1) := by decide +kernel
theorem d_LA_law_191 : decode b_LA_law 191 = .ok (.iaload, 1) := by decide +kernel
theorem d_LA_law_192 : decode b_LA_law 192 = .ok (.aload_n 0, 1) := by decide +kernel
theorem d_LA_law_193 : decode b_LA_law 193 = .ok (.iload 4, 2) := by decide +kernel
theorem d_LA_law_195 : decode b_LA_law 195 = .ok (.iconst 2, 1) := by decide +kernel
theorem d_LA_law_196 : decode b_LA_law 196 = .ok (.iadd, 1) := by decide +kernel
theorem d_LA_law_197 : decode b_LA_law 197 = .ok (.iaload, 1) := by decide +kernel
theorem d_LA_law_198 : decode b_LA_law 198 = .ok (.aload_n 0, 1) := by decide +kernel
theorem d_LA_law_199 : decode b_LA_law 199 = .ok (.iload 4, 2) := by decide +kernel
theorem d_LA_law_201 : decode b_LA_law 201 = .ok (.iconst 3, 1) := by decide +kernel
theorem d_LA_law_202 : decode b_LA_law 202 = .ok (.iadd, 1) := by decide +kernel
theorem d_LA_law_203 : decode b_LA_law 203 = .ok (.iaload, 1) := by decide +kernel
theorem d_LA_law_204 : decode b_LA_law 204 = .ok (.aload_n 0, 1) := by decide +kernel
theorem d_LA_law_205 : decode b_LA_law 205 = .ok (.iload 4, 2) := by decide +kernel
theorem d_LA_law_207 : decode b_LA_law 207 = .ok (.iconst 4, 1) := by decide +kernel
theorem d_LA_law_208 : decode b_LA_law 208 = .ok (.iadd, 1) := by decide +kernel
theorem d_LA_law_209 : decode b_LA_law 209 = .ok (.iaload, 1) := by decide +kernel
theorem d_LA_law_210 : decode b_LA_law 210 = .ok (.aload_n 0, 1) := by decide +kernel
theorem d_LA_law_211 : decode b_LA_law 211 = .ok (.iload 4, 2) := by decide +kernel
theorem d_LA_law_213 : decode b_LA_law 213 = .ok (.iconst 5, 1) := by decide +kernel
theorem d_LA_law_214 : decode b_LA_law 214 = .ok (.iadd, 1) := by decide +kernel
theorem d_LA_law_215 : decode b_LA_law 215 = .ok (.iaload, 1) := by decide +kernel
theorem d_LA_law_216 : decode b_LA_law 216 = .ok (.aload_n 3, 1) := by decide +kernel
theorem d_LA_law_217 : decode b_LA_law 217 = .ok (.invokestatic 51, 3) := by decide +kernel
theorem d_LA_law_220 : decode b_LA_law 220 = .ok (.istore 5, 2) := by decide +kernel
theorem d_LA_law_222 : decode b_LA_law 222 = .ok (.aload_n 2, 1) := by decide +kernel
theorem d_LA_law_223 : decode b_LA_law 223 = .ok (.aload_n 0, 1) := by decide +kernel
theorem d_LA_law_224 : decode b_LA_law 224 = .ok (.iload 4, 2) := by decide +kernel
theorem d_LA_law_226 : decode b_LA_law 226 = .ok (.iconst 1, 1) := by decide +kernel
theorem d_LA_law_227 : decode b_LA_law 227 = .ok (.iadd, 1) := by decide +kernel
theorem d_LA_law_228 : decode b_LA_law 228 = .ok (.iaload, 1) := by decide +kernel
theorem d_LA_law_229 : decode b_LA_law 229 = .ok (.aload_n 0, 1) := by decide +kernel
theorem d_LA_law_230 : decode b_LA_law 230 = .ok (.iload 4, 2) := by decide +kernel
theorem d_LA_law_232 : decode b_LA_law 232 = .ok (.iconst 2, 1) := by decide +kernel
theorem d_LA_law_233 : decode b_LA_law 233 = .ok (.iadd, 1) := by decide +kernel
theorem d_LA_law_234 : decode b_LA_law 234 = .ok (.iaload, 1) := by decide +kernel
theorem d_LA_law_235 : decode b_LA_law 235 = .ok (.aload_n 0, 1) := by decide +kernel
theorem d_LA_law_236 : decode b_LA_law 236 = .ok (.iload 4, 2) := by decide +kernel
theorem d_LA_law_238 : decode b_LA_law 238 = .ok (.iconst 3, 1) := by decide +kernel
theorem d_LA_law_239 : decode b_LA_law 239 = .ok (.iadd, 1) := by decide +kernel
theorem d_LA_law_240 : decode b_LA_law 240 = .ok (.iaload, 1) := by decide +kernel
theorem d_LA_law_241 : decode b_LA_law 241 = .ok (.aload_n 0, 1) := by decide +kernel
theorem d_LA_law_242 : decode b_LA_law 242 = .ok (.iload 4, 2) := by decide +kernel
theorem d_LA_law_244 : decode b_LA_law 244 = .ok (.iconst 4, 1) := by decide +kernel
theorem d_LA_law_245 : decode b_LA_law 245 = .ok (.iadd, 1) := by decide +kernel
theorem d_LA_law_246 : decode b_LA_law 246 = .ok (.iaload, 1) := by decide +kernel
theorem d_LA_law_247 : decode b_LA_law 247 = .ok (.aload_n 0, 1) := by decide +kernel
theorem d_LA_law_248 : decode b_LA_law 248 = .ok (.iload 4, 2) := by decide +kernel
theorem d_LA_law_250 : decode b_LA_law 250 = .ok (.iconst 5, 1) := by decide +kernel
theorem d_LA_law_251 : decode b_LA_law 251 = .ok (.iadd, 1) := by decide +kernel
theorem d_LA_law_252 : decode b_LA_law 252 = .ok (.iaload, 1) := by decide +kernel
theorem d_LA_law_253 : decode b_LA_law 253 = .ok (.invokevirtual 56, 3) := by decide +kernel
theorem d_LA_law_256 : decode b_LA_law 256 = .ok (.istore 6, 2) := by decide +kernel
theorem d_LA_law_258 : decode b_LA_law 258 = .ok (.aload_n 2, 1) := by decide +kernel
theorem d_LA_law_259 : decode b_LA_law 259 = .ok (.invokevirtual 57, 3) := by decide +kernel
theorem d_LA_law_262 : decode b_LA_law 262 = .ok (.iload 5, 2) := by decide +kernel
theorem d_LA_law_264 : decode b_LA_law 264 = .ok (.if_icmp .eq 5, 3) := by decide +kernel
theorem d_LA_law_267 : decode b_LA_law 267 = .ok (.iconst 0, 1) := by decide +kernel
theorem d_LA_law_268 : decode b_LA_law 268 = .ok (.ireturn, 1) := by decide +kernel
theorem d_LA_law_269 : decode b_LA_law 269 = .ok (.iload 5, 2) := by decide +kernel
theorem d_LA_law_271 : decode b_LA_law 271 = .ok (.ifCond .ne 15, 3) := by decide +kernel
theorem d_LA_law_274 : decode b_LA_law 274 = .ok (.aload_n 3, 1) := by decide +kernel
theorem d_LA_law_275 : decode b_LA_law 275 = .ok (.iconst 0, 1) := by decide +kernel
theorem d_LA_law_276 : decode b_LA_law 276 = .ok (.laload, 1) := by decide +kernel
theorem d_LA_law_277 : decode b_LA_law 277 = .ok (.iload 6, 2) := by decide +kernel
theorem d_LA_law_279 : decode b_LA_law 279 = .ok (.i2l, 1) := by decide +kernel
theorem d_LA_law_280 : decode b_LA_law 280 = .ok (.lcmp, 1) := by decide +kernel
theorem d_LA_law_281 : decode b_LA_law 281 = .ok (.ifCond .eq 5, 3) := by decide +kernel
theorem d_LA_law_284 : decode b_LA_law 284 = .ok (.iconst 0, 1) := by decide +kernel
theorem d_LA_law_285 : decode b_LA_law 285 = .ok (.ireturn, 1) := by decide +kernel
theorem d_LA_law_286 : decode b_LA_law 286 = .ok (.goto 1046, 3) := by decide +kernel
theorem d_LA_law_289 : decode b_LA_law 289 = .ok (.aload_n 1, 1) := by decide +kernel
theorem d_LA_law_290 : decode b_LA_law 290 = .ok (.aload_n 0, 1) := by decide +kernel
theorem d_LA_law_291 : decode b_LA_law 291 = .ok (.iload 4, 2) := by decide +kernel
theorem d_LA_law_293 : decode b_LA_law 293 = .ok (.iconst 1, 1) := by decide +kernel
theorem d_LA_law_294 : decode b_LA_law 294 = .ok (.iadd, 1) := by decide +kernel
theorem d_LA_law_295 : decode b_LA_law 295 = .ok (.iaload, 1) := by decide +kernel
theorem d_LA_law_296 : decode b_LA_law 296 = .ok (.aload_n 0, 1) := by decide +kernel
theorem d_LA_law_297 : decode b_LA_law 297 = .ok (.iload 4, 2) := by decide +kernel
theorem d_LA_law_299 : decode b_LA_law 299 = .ok (.iconst 2, 1) := by decide +kernel
theorem d_LA_law_300 : decode b_LA_law 300 = .ok (.iadd, 1) := by decide +kernel
theorem d_LA_law_301 : decode b_LA_law 301 = .ok (.iaload, 1) := by decide +kernel
theorem d_LA_law_302 : decode b_LA_law 302 = .ok (.aload_n 0, 1) := by decide +kernel
theorem d_LA_law_303 : decode b_LA_law 303 = .ok (.iload 4, 2) := by decide +kernel
theorem d_LA_law_305 : decode b_LA_law 305 = .ok (.iconst 3, 1) := by decide +kernel
theorem d_LA_law_306 : decode b_LA_law 306 = .ok (.iadd, 1) := by decide +kernel
theorem d_LA_law_307 : decode b_LA_law 307 = .ok (.iaload, 1) := by decide +kernel
theorem d_LA_law_308 : decode b_LA_law 308 = .ok (.aload_n 0, 1) := by decide +kernel
theorem d_LA_law_309 : decode b_LA_law 309 = .ok (.iload 4, 2) := by decide +kernel
theorem d_LA_law_311 : decode b_LA_law 311 = .ok (.iconst 4, 1) := by decide +kernel
theorem d_LA_law_312 : decode b_LA_law 312 = .ok (.iadd, 1) := by decide +kernel
theorem d_LA_law_313 : decode b_LA_law 313 = .ok (.iaload, 1) := by decide +kernel
theorem d_LA_law_314 : decode b_LA_law 314 = .ok (.aload_n 0, 1) := by decide +kernel
theorem d_LA_law_315 : decode b_LA_law 315 = .ok (.iload 4, 2) := by decide +kernel
theorem d_LA_law_317 : decode b_LA_law 317 = .ok (.iconst 5, 1) := by decide +kernel
theorem d_LA_law_318 : decode b_LA_law 318 = .ok (.iadd, 1) := by decide +kernel
theorem d_LA_law_319 : decode b_LA_law 319 = .ok (.iaload, 1) := by decide +kernel
theorem d_LA_law_320 : decode b_LA_law 320 = .ok (.invokevirtual 61, 3) := by decide +kernel
theorem d_LA_law_323 : decode b_LA_law 323 = .ok (.aload_n 2, 1) := by decide +kernel
theorem d_LA_law_324 : decode b_LA_law 324 = .ok (.aload_n 0, 1) := by decide +kernel
theorem d_LA_law_325 : decode b_LA_law 325 = .ok (.iload 4, 2) := by decide +kernel
theorem d_LA_law_327 : decode b_LA_law 327 = .ok (.iconst 1, 1) := by decide +kernel
theorem d_LA_law_328 : decode b_LA_law 328 = .ok (.iadd, 1) := by decide +kernel
theorem d_LA_law_329 : decode b_LA_law 329 = .ok (.iaload, 1) := by decide +kernel
theorem d_LA_law_330 : decode b_LA_law 330 = .ok (.aload_n 0, 1) := by decide +kernel
theorem d_LA_law_331 : decode b_LA_law 331 = .ok (.iload 4, 2) := by decide +kernel
theorem d_LA_law_333 : decode b_LA_law 333 = .ok (.iconst 2, 1) := by decide +kernel
theorem d_LA_law_334 : decode b_LA_law 334 = .ok (.iadd, 1) := by decide +kernel
theorem d_LA_law_335 : decode b_LA_law 335 = .ok (.iaload, 1) := by decide +kernel
theorem d_LA_law_336 : decode b_LA_law 336 = .ok (.aload_n 0, 1) := by decide +kernel
theorem d_LA_law_337 : decode b_LA_law 337 = .ok (.iload 4, 2) := by decide +kernel
theorem d_LA_law_339 : decode b_LA_law 339 = .ok (.iconst 3, 1) := by decide +kernel
theorem d_LA_law_340 : decode b_LA_law 340 = .ok (.iadd, 1) := by decide +kernel
theorem d_LA_law_341 : decode b_LA_law 341 = .ok (.iaload, 1) := by decide +kernel
theorem d_LA_law_342 : decode b_LA_law 342 = .ok (.aload_n 0, 1) := by decide +kernel
theorem d_LA_law_343 : decode b_LA_law 343 = .ok (.iload 4, 2) := by decide +kernel
theorem d_LA_law_345 : decode b_LA_law 345 = .ok (.iconst 4, 1) := by decide +kernel
theorem d_LA_law_346 : decode b_LA_law 346 = .ok (.iadd, 1) := by decide +kernel
theorem d_LA_law_347 : decode b_LA_law 347 = .ok (.iaload, 1) := by decide +kernel
theorem d_LA_law_348 : decode b_LA_law 348 = .ok (.aload_n 0, 1) := by decide +kernel
theorem d_LA_law_349 : decode b_LA_law 349 = .ok (.iload 4, 2) := by decide +kernel
theorem d_LA_law_351 : decode b_LA_law 351 = .ok (.iconst 5, 1) := by decide +kernel
theorem d_LA_law_352 : decode b_LA_law 352 = .ok (.iadd, 1) := by decide +kernel
theorem d_LA_law_353 : decode b_LA_law 353 = .ok (.iaload, 1) := by decide +kernel
theorem d_LA_law_354 : decode b_LA_law 354 = .ok (.invokevirtual 65, 3) := by decide +kernel
theorem d_LA_law_357 : decode b_LA_law 357 = .ok (.if_icmp .eq 975, 3) := by decide +kernel
theorem d_LA_law_360 : decode b_LA_law 360 = .ok (.iconst 0, 1) := by decide +kernel
theorem d_LA_law_361 : decode b_LA_law 361 = .ok (.ireturn, 1) := by decide +kernel
theorem d_LA_law_362 : decode b_LA_law 362 = .ok (.aload_n 1, 1) := by decide +kernel
theorem d_LA_law_363 : decode b_LA_law 363 = .ok (.aload_n 0, 1) := by decide +kernel
theorem d_LA_law_364 : decode b_LA_law 364 = .ok (.iload 4, 2) := by decide +kernel
theorem d_LA_law_366 : decode b_LA_law 366 = .ok (.iconst 1, 1) := by decide +kernel
theorem d_LA_law_367 : decode b_LA_law 367 = .ok (.iadd, 1) := by decide +kernel
theorem d_LA_law_368 : decode b_LA_law 368 = .ok (.iaload, 1) := by decide +kernel
theorem d_LA_law_369 : decode b_LA_law 369 = .ok (.aload_n 0, 1) := by decide +kernel
theorem d_LA_law_370 : decode b_LA_law 370 = .ok (.iload 4, 2) := by decide +kernel
theorem d_LA_law_372 : decode b_LA_law 372 = .ok (.iconst 2, 1) := by decide +kernel
theorem d_LA_law_373 : decode b_LA_law 373 = .ok (.iadd, 1) := by decide +kernel
theorem d_LA_law_374 : decode b_LA_law 374 = .ok (.iaload, 1) := by decide +kernel
theorem d_LA_law_375 : decode b_LA_law 375 = .ok (.aload_n 0, 1) := by decide +kernel
theorem d_LA_law_376 : decode b_LA_law 376 = .ok (.iload 4, 2) := by decide +kernel
theorem d_LA_law_378 : decode b_LA_law 378 = .ok (.iconst 3, 1) := by decide +kernel
theorem d_LA_law_379 : decode b_LA_law 379 = .ok (.iadd, 1) := by decide +kernel
theorem d_LA_law_380 : decode b_LA_law 380 = .ok (.iaload, 1) := by decide +kernel
theorem d_LA_law_381 : decode b_LA_law 381 = .ok (.aload_n 0, 1) := by decide +kernel
theorem d_LA_law_382 : decode b_LA_law 382 = .ok (.iload 4, 2) := by decide +kernel
theorem d_LA_law_384 : decode b_LA_law 384 = .ok (.iconst 4, 1) := by decide +kernel
theorem d_LA_law_385 : decode b_LA_law 385 = .ok (.iadd, 1) := by decide +kernel
theorem d_LA_law_386 : decode b_LA_law 386 = .ok (.iaload, 1) := by decide +kernel
theorem d_LA_law_387 : decode b_LA_law 387 = .ok (.invokevirtual 66, 3) := by decide +kernel
theorem d_LA_law_390 : decode b_LA_law 390 = .ok (.aload_n 2, 1) := by decide +kernel
theorem d_LA_law_391 : decode b_LA_law 391 = .ok (.aload_n 0, 1) := by decide +kernel
theorem d_LA_law_392 : decode b_LA_law 392 = .ok (.iload 4, 2) := by decide +kernel
theorem d_LA_law_394 : decode b_LA_law 394 = .ok (.iconst 1, 1) := by decide +kernel
theorem d_LA_law_395 : decode b_LA_law 395 = .ok (.iadd, 1) := by decide +kernel
theorem d_LA_law_396 : decode b_LA_law 396 = .ok (.iaload, 1) := by decide +kernel
theorem d_LA_law_397 : decode b_LA_law 397 = .ok (.aload_n 0, 1) := by decide +kernel
theorem d_LA_law_398 : decode b_LA_law 398 = .ok (.iload 4, 2) := by decide +kernel
theorem d_LA_law_400 : decode b_LA_law 400 = .ok (.iconst 2, 1) := by decide +kernel
theorem d_LA_law_401 : decode b_LA_law 401 = .ok (.iadd, 1) := by decide +kernel
theorem d_LA_law_402 : decode b_LA_law 402 = .ok (.iaload, 1) := by decide +kernel
theorem d_LA_law_403 : decode b_LA_law 403 = .ok (.aload_n 0, 1) := by decide +kernel
theorem d_LA_law_404 : decode b_LA_law 404 = .ok (.iload 4, 2) := by decide +kernel
theorem d_LA_law_406 : decode b_LA_law 406 = .ok (.iconst 3, 1) := by decide +kernel
theorem d_LA_law_407 : decode b_LA_law 407 = .ok (.iadd, 1) := by decide +kernel
theorem d_LA_law_408 : decode b_LA_law 408 = .ok (.iaload, 1) := by decide +kernel
theorem d_LA_law_409 : decode b_LA_law 409 = .ok (.aload_n 0, 1) := by decide +kernel
theorem d_LA_law_410 : decode b_LA_law 410 = .ok (.iload 4, 2) := by decide +kernel
theorem d_LA_law_412 : decode b_LA_law 412 = .ok (.iconst 4, 1) := by decide +kernel
theorem d_LA_law_413 : decode b_LA_law 413 = .ok (.iadd, 1) := by decide +kernel
theorem d_LA_law_414 : decode b_LA_law 414 = .ok (.iaload, 1) := by decide +kernel
theorem d_LA_law_415 : decode b_LA_law 415 = .ok (.invokevirtual 70, 3) := by decide +kernel
theorem d_LA_law_418 : decode b_LA_law 418 = .ok (.if_icmp .eq 914, 3) := by decide +kernel
theorem d_LA_law_421 : decode b_LA_law 421 = .ok (.iconst 0, 1) := by decide +kernel
theorem d_LA_law_422 : decode b_LA_law 422 = .ok (.ireturn, 1) := by decide +kernel
theorem d_LA_law_423 : decode b_LA_law 423 = .ok (.aload_n 1, 1) := by decide +kernel
theorem d_LA_law_424 : decode b_LA_law 424 = .ok (.aload_n 0, 1) := by decide +kernel
theorem d_LA_law_425 : decode b_LA_law 425 = .ok (.iload 4, 2) := by decide +kernel
theorem d_LA_law_427 : decode b_LA_law 427 = .ok (.iconst 1, 1) := by decide +kernel
theorem d_LA_law_428 : decode b_LA_law 428 = .ok (.iadd, 1) := by decide +kernel
theorem d_LA_law_429 : decode b_LA_law 429 = .ok (.iaload, 1) := by decide +kernel
theorem d_LA_law_430 : decode b_LA_law 430 = .ok (.invokevirtual 71, 3) := by decide +kernel
theorem d_LA_law_433 : decode b_LA_law 433 = .ok (.aload_n 2, 1) := by decide +kernel
theorem d_LA_law_434 : decode b_LA_law 434 = .ok (.aload_n 0, 1) := by decide +kernel
theorem d_LA_law_435 : decode b_LA_law 435 = .ok (.iload 4, 2) := by decide +kernel
theorem d_LA_law_437 : decode b_LA_law 437 = .ok (.iconst 1, 1) := by decide +kernel
theorem d_LA_law_438 : decode b_LA_law 438 = .ok (.iadd, 1) := by decide +kernel
theorem d_LA_law_439 : decode b_LA_law 439 = .ok (.iaload, 1) := by decide +kernel
theorem d_LA_law_440 : decode b_LA_law 440 = .ok (.invokevirtual 75, 3) := by decide +kernel
theorem d_LA_law_443 : decode b_LA_law 443 = .ok (.if_icmp .eq 889, 3) := by decide +kernel
theorem d_LA_law_446 : decode b_LA_law 446 = .ok (.iconst 0, 1) := by decide +kernel
theorem d_LA_law_447 : decode b_LA_law 447 = .ok (.ireturn, 1) := by decide +kernel
theorem d_LA_law_448 : decode b_LA_law 448 = .ok (.aload_n 1, 1) := by decide +kernel
theorem d_LA_law_449 : decode b_LA_law 449 = .ok (.aload_n 0, 1) := by decide +kernel
theorem d_LA_law_450 : decode b_LA_law 450 = .ok (.iload 4, 2) := by decide +kernel
theorem d_LA_law_452 : decode b_LA_law 452 = .ok (.iconst 1, 1) := by decide +kernel
theorem d_LA_law_453 : decode b_LA_law 453 = .ok (.iadd, 1) := by decide +kernel
theorem d_LA_law_454 : decode b_LA_law 454 = .ok (.iaload, 1) := by decide +kernel
theorem d_LA_law_455 : decode b_LA_law 455 = .ok (.aload_n 0, 1) := by decide +kernel
theorem d_LA_law_456 : decode b_LA_law 456 = .ok (.iload 4, 2) := by decide +kernel
theorem d_LA_law_458 : decode b_LA_law 458 = .ok (.iconst 2, 1) := by decide +kernel
theorem d_LA_law_459 : decode b_LA_law 459 = .ok (.iadd, 1) := by decide +kernel
theorem d_LA_law_460 : decode b_LA_law 460 = .ok (.iaload, 1) := by decide +kernel
theorem d_LA_law_461 : decode b_LA_law 461 = .ok (.invokevirtual 76, 3) := by decide +kernel
theorem d_LA_law_464 : decode b_LA_law 464 = .ok (.aload_n 2, 1) := by decide +kernel
theorem d_LA_law_465 : decode b_LA_law 465 = .ok (.aload_n 0, 1) := by decide +kernel
theorem d_LA_law_466 : decode b_LA_law 466 = .ok (.iload 4, 2) := by decide +kernel
theorem d_LA_law_468 : decode b_LA_law 468 = .ok (.iconst 1, 1) := by decide +kernel
theorem d_LA_law_469 : decode b_LA_law 469 = .ok (.iadd, 1) := by decide +kernel
theorem d_LA_law_470 : decode b_LA_law 470 = .ok (.iaload, 1) := by decide +kernel
theorem d_LA_law_471 : decode b_LA_law 471 = .ok (.aload_n 0, 1) := by decide +kernel
theorem d_LA_law_472 : decode b_LA_law 472 = .ok (.iload 4, 2) := by decide +kernel
theorem d_LA_law_474 : decode b_LA_law 474 = .ok (.iconst 2, 1) := by decide +kernel
theorem d_LA_law_475 : decode b_LA_law 475 = .ok (.iadd, 1) := by decide +kernel
theorem d_LA_law_476 : decode b_LA_law 476 = .ok (.iaload, 1) := by decide +kernel
theorem d_LA_law_477 : decode b_LA_law 477 = .ok (.invokevirtual 79, 3) := by decide +kernel
theorem d_LA_law_480 : decode b_LA_law 480 = .ok (.if_icmp .eq 852, 3) := by decide +kernel
theorem d_LA_law_483 : decode b_LA_law 483 = .ok (.iconst 0, 1) := by decide +kernel
theorem d_LA_law_484 : decode b_LA_law 484 = .ok (.ireturn, 1) := by decide +kernel
theorem d_LA_law_485 : decode b_LA_law 485 = .ok (.aload_n 1, 1) := by decide +kernel
theorem d_LA_law_486 : decode b_LA_law 486 = .ok (.aload_n 0, 1) := by decide +kernel
theorem d_LA_law_487 : decode b_LA_law 487 = .ok (.iload 4, 2) := by decide +kernel
theorem d_LA_law_489 : decode b_LA_law 489 = .ok (.iconst 1, 1) := by decide +kernel
theorem d_LA_law_490 : decode b_LA_law 490 = .ok (.iadd, 1) := by decide +kernel
theorem d_LA_law_491 : decode b_LA_law 491 = .ok (.iaload, 1) := by decide +kernel
theorem d_LA_law_492 : decode b_LA_law 492 = .ok (.aload_n 0, 1) := by decide +kernel
theorem d_LA_law_493 : decode b_LA_law 493 = .ok (.iload 4, 2) := by decide +kernel
theorem d_LA_law_495 : decode b_LA_law 495 = .ok (.iconst 2, 1) := by decide +kernel
theorem d_LA_law_496 : decode b_LA_law 496 = .ok (.iadd, 1) := by decide +kernel
theorem d_LA_law_497 : decode b_LA_law 497 = .ok (.iaload, 1) := by decide +kernel
theorem d_LA_law_498 : decode b_LA_law 498 = .ok (.invokevirtual 80, 3) := by decide +kernel
theorem d_LA_law_501 : decode b_LA_law 501 = .ok (.aload_n 2, 1) := by decide +kernel
theorem d_LA_law_502 : decode b_LA_law 502 = .ok (.aload_n 0, 1) := by decide +kernel
theorem d_LA_law_503 : decode b_LA_law 503 = .ok (.iload 4, 2) := by decide +kernel
theorem d_LA_law_505 : decode b_LA_law 505 = .ok (.iconst 1, 1) := by decide +kernel
theorem d_LA_law_506 : decode b_LA_law 506 = .ok (.iadd, 1) := by decide +kernel
theorem d_LA_law_507 : decode b_LA_law 507 = .ok (.iaload, 1) := by decide +kernel
theorem d_LA_law_508 : decode b_LA_law 508 = .ok (.aload_n 0, 1) := by decide +kernel
theorem d_LA_law_509 : decode b_LA_law 509 = .ok (.iload 4, 2) := by decide +kernel
theorem d_LA_law_511 : decode b_LA_law 511 = .ok (.iconst 2, 1) := by decide +kernel
theorem d_LA_law_512 : decode b_LA_law 512 = .ok (.iadd, 1) := by decide +kernel
theorem d_LA_law_513 : decode b_LA_law 513 = .ok (.iaload, 1) := by decide +kernel
theorem d_LA_law_514 : decode b_LA_law 514 = .ok (.invokevirtual 83, 3) := by decide +kernel
theorem d_LA_law_517 : decode b_LA_law 517 = .ok (.if_icmp .eq 815, 3) := by decide +kernel
theorem d_LA_law_520 : decode b_LA_law 520 = .ok (.iconst 0, 1) := by decide +kernel
theorem d_LA_law_521 : decode b_LA_law 521 = .ok (.ireturn, 1) := by decide +kernel
theorem d_LA_law_522 : decode b_LA_law 522 = .ok (.aload_n 1, 1) := by decide +kernel
theorem d_LA_law_523 : decode b_LA_law 523 = .ok (.aload_n 0, 1) := by decide +kernel
theorem d_LA_law_524 : decode b_LA_law 524 = .ok (.iload 4, 2) := by decide +kernel
theorem d_LA_law_526 : decode b_LA_law 526 = .ok (.iconst 1, 1) := by decide +kernel
theorem d_LA_law_527 : decode b_LA_law 527 = .ok (.iadd, 1) := by decide +kernel
theorem d_LA_law_528 : decode b_LA_law 528 = .ok (.iaload, 1) := by decide +kernel
theorem d_LA_law_529 : decode b_LA_law 529 = .ok (.invokevirtual 84, 3) := by decide +kernel
theorem d_LA_law_532 : decode b_LA_law 532 = .ok (.aload_n 2, 1) := by decide +kernel
theorem d_LA_law_533 : decode b_LA_law 533 = .ok (.aload_n 0, 1) := by decide +kernel
theorem d_LA_law_534 : decode b_LA_law 534 = .ok (.iload 4, 2) := by decide +kernel
theorem d_LA_law_536 : decode b_LA_law 536 = .ok (.iconst 1, 1) := by decide +kernel
theorem d_LA_law_537 : decode b_LA_law 537 = .ok (.iadd, 1) := by decide +kernel
theorem d_LA_law_538 : decode b_LA_law 538 = .ok (.iaload, 1) := by decide +kernel
theorem d_LA_law_539 : decode b_LA_law 539 = .ok (.invokevirtual 87, 3) := by decide +kernel
theorem d_LA_law_542 : decode b_LA_law 542 = .ok (.if_icmp .eq 790, 3) := by decide +kernel
theorem d_LA_law_545 : decode b_LA_law 545 = .ok (.iconst 0, 1) := by decide +kernel
theorem d_LA_law_546 : decode b_LA_law 546 = .ok (.ireturn, 1) := by decide +kernel
theorem d_LA_law_547 : decode b_LA_law 547 = .ok (.aload_n 1, 1) := by decide +kernel
theorem d_LA_law_548 : decode b_LA_law 548 = .ok (.aload_n 0, 1) := by decide +kernel
theorem d_LA_law_549 : decode b_LA_law 549 = .ok (.iload 4, 2) := by decide +kernel
theorem d_LA_law_551 : decode b_LA_law 551 = .ok (.iconst 1, 1) := by decide +kernel
theorem d_LA_law_552 : decode b_LA_law 552 = .ok (.iadd, 1) := by decide +kernel
theorem d_LA_law_553 : decode b_LA_law 553 = .ok (.iaload, 1) := by decide +kernel
theorem d_LA_law_554 : decode b_LA_law 554 = .ok (.aload_n 0, 1) := by decide +kernel
theorem d_LA_law_555 : decode b_LA_law 555 = .ok (.iload 4, 2) := by decide +kernel
theorem d_LA_law_557 : decode b_LA_law 557 = .ok (.iconst 2, 1) := by decide +kernel
theorem d_LA_law_558 : decode b_LA_law 558 = .ok (.iadd, 1) := by decide +kernel
theorem d_LA_law_559 : decode b_LA_law 559 = .ok (.iaload, 1) := by decide +kernel
theorem d_LA_law_560 : decode b_LA_law 560 = .ok (.aload_n 0, 1) := by decide +kernel
theorem d_LA_law_561 : decode b_LA_law 561 = .ok (.iload 4, 2) := by decide +kernel
theorem d_LA_law_563 : decode b_LA_law 563 = .ok (.iconst 3, 1) := by decide +kernel
theorem d_LA_law_564 : decode b_LA_law 564 = .ok (.iadd, 1) := by decide +kernel
theorem d_LA_law_565 : decode b_LA_law 565 = .ok (.iaload, 1) := by decide +kernel
theorem d_LA_law_566 : decode b_LA_law 566 = .ok (.invokevirtual 88, 3) := by decide +kernel
theorem d_LA_law_569 : decode b_LA_law 569 = .ok (.aload_n 2, 1) := by decide +kernel
theorem d_LA_law_570 : decode b_LA_law 570 = .ok (.aload_n 0, 1) := by decide +kernel
theorem d_LA_law_571 : decode b_LA_law 571 = .ok (.iload 4, 2) := by decide +kernel
theorem d_LA_law_573 : decode b_LA_law 573 = .ok (.iconst 1, 1) := by decide +kernel
theorem d_LA_law_574 : decode b_LA_law 574 = .ok (.iadd, 1) := by decide +kernel
theorem d_LA_law_575 : decode b_LA_law 575 = .ok (.iaload, 1) := by decide +kernel
theorem d_LA_law_576 : decode b_LA_law 576 = .ok (.aload_n 0, 1) := by decide +kernel
theorem d_LA_law_577 : decode b_LA_law 577 = .ok (.iload 4, 2) := by decide +kernel
theorem d_LA_law_579 : decode b_LA_law 579 = .ok (.iconst 2, 1) := by decide +kernel
theorem d_LA_law_580 : decode b_LA_law 580 = .ok (.iadd, 1) := by decide +kernel
theorem d_LA_law_581 : decode b_LA_law 581 = .ok (.iaload, 1) := by decide +kernel
theorem d_LA_law_582 : decode b_LA_law 582 = .ok (.aload_n 0, 1) := by decide +kernel
theorem d_LA_law_583 : decode b_LA_law 583 = .ok (.iload 4, 2) := by decide +kernel
theorem d_LA_law_585 : decode b_LA_law 585 = .ok (.iconst 3, 1) := by decide +kernel
theorem d_LA_law_586 : decode b_LA_law 586 = .ok (.iadd, 1) := by decide +kernel
theorem d_LA_law_587 : decode b_LA_law 587 = .ok (.iaload, 1) := by decide +kernel
theorem d_LA_law_588 : decode b_LA_law 588 = .ok (.invokevirtual 92, 3) := by decide +kernel
theorem d_LA_law_591 : decode b_LA_law 591 = .ok (.if_icmp .eq 741, 3) := by decide +kernel
theorem d_LA_law_594 : decode b_LA_law 594 = .ok (.iconst 0, 1) := by decide +kernel
theorem d_LA_law_595 : decode b_LA_law 595 = .ok (.ireturn, 1) := by decide +kernel
theorem d_LA_law_596 : decode b_LA_law 596 = .ok (.aload_n 1, 1) := by decide +kernel
theorem d_LA_law_597 : decode b_LA_law 597 = .ok (.aload_n 0, 1) := by decide +kernel
theorem d_LA_law_598 : decode b_LA_law 598 = .ok (.iload 4, 2) := by decide +kernel
theorem d_LA_law_600 : decode b_LA_law 600 = .ok (.iconst 1, 1) := by decide +kernel
theorem d_LA_law_601 : decode b_LA_law 601 = .ok (.iadd, 1) := by decide +kernel
theorem d_LA_law_602 : decode b_LA_law 602 = .ok (.iaload, 1) := by decide +kernel
theorem d_LA_law_603 : decode b_LA_law 603 = .ok (.aload_n 3, 1) := by decide +kernel
theorem d_LA_law_604 : decode b_LA_law 604 = .ok (.invokestatic 93, 3) := by decide +kernel
theorem d_LA_law_607 : decode b_LA_law 607 = .ok (.istore 5, 2) := by decide +kernel
theorem d_LA_law_609 : decode b_LA_law 609 = .ok (.aload_n 2, 1) := by decide +kernel
theorem d_LA_law_610 : decode b_LA_law 610 = .ok (.aload_n 0, 1) := by decide +kernel
theorem d_LA_law_611 : decode b_LA_law 611 = .ok (.iload 4, 2) := by decide +kernel
theorem d_LA_law_613 : decode b_LA_law 613 = .ok (.iconst 1, 1) := by decide +kernel
theorem d_LA_law_614 : decode b_LA_law 614 = .ok (.iadd, 1) := by decide +kernel
theorem d_LA_law_615 : decode b_LA_law 615 = .ok (.iaload, 1) := by decide +kernel
theorem d_LA_law_616 : decode b_LA_law 616 = .ok (.invokevirtual 96, 3) := by decide +kernel
theorem d_LA_law_619 : decode b_LA_law 619 = .ok (.istore 6, 2) := by decide +kernel
theorem d_LA_law_621 : decode b_LA_law 621 = .ok (.aload_n 2, 1) := by decide +kernel
theorem d_LA_law_622 : decode b_LA_law 622 = .ok (.invokevirtual 57, 3) := by decide +kernel
theorem d_LA_law_625 : decode b_LA_law 625 = .ok (.iload 5, 2) := by decide +kernel
theorem d_LA_law_627 : decode b_LA_law 627 = .ok (.if_icmp .eq 5, 3) := by decide +kernel
theorem d_LA_law_630 : decode b_LA_law 630 = .ok (.iconst 0, 1) := by decide +kernel
theorem d_LA_law_631 : decode b_LA_law 631 = .ok (.ireturn, 1) := by decide +kernel
theorem d_LA_law_632 : decode b_LA_law 632 = .ok (.iload 5, 2) := by decide +kernel
theorem d_LA_law_634 : decode b_LA_law 634 = .ok (.ifCond .ne 15, 3) := by decide +kernel
theorem d_LA_law_637 : decode b_LA_law 637 = .ok (.aload_n 3, 1) := by decide +kernel
theorem d_LA_law_638 : decode b_LA_law 638 = .ok (.iconst 0, 1) := by decide +kernel
theorem d_LA_law_639 : decode b_LA_law 639 = .ok (.laload, 1) := by decide +kernel
theorem d_LA_law_640 : decode b_LA_law 640 = .ok (.iload 6, 2) := by decide +kernel
theorem d_LA_law_642 : decode b_LA_law 642 = .ok (.i2l, 1) := by decide +kernel
theorem d_LA_law_643 : decode b_LA_law 643 = .ok (.lcmp, 1) := by decide +kernel
theorem d_LA_law_644 : decode b_LA_law 644 = .ok (.ifCond .eq 5, 3) := by decide +kernel
theorem d_LA_law_647 : decode b_LA_law 647 = .ok (.iconst 0, 1) := by decide +kernel
theorem d_LA_law_648 : decode b_LA_law 648 = .ok (.ireturn, 1) := by decide +kernel
theorem d_LA_law_649 : decode b_LA_law 649 = .ok (.goto 683, 3) := by decide +kernel
theorem d_LA_law_652 : decode b_LA_law 652 = .ok (.aload_n 1, 1) := by decide +kernel
theorem d_LA_law_653 : decode b_LA_law 653 = .ok (.aload_n 0, 1) := by decide +kernel
theorem d_LA_law_654 : decode b_LA_law 654 = .ok (.iload 4, 2) := by decide +kernel
theorem d_LA_law_656 : decode b_LA_law 656 = .ok (.iconst 1, 1) := by decide +kernel
theorem d_LA_law_657 : decode b_LA_law 657 = .ok (.iadd, 1) := by decide +kernel
theorem d_LA_law_658 : decode b_LA_law 658 = .ok (.iaload, 1) := by decide +kernel
theorem d_LA_law_659 : decode b_LA_law 659 = .ok (.aload_n 0, 1) := by decide +kernel
theorem d_LA_law_660 : decode b_LA_law 660 = .ok (.iload 4, 2) := by decide +kernel
theorem d_LA_law_662 : decode b_LA_law 662 = .ok (.iconst 2, 1) := by decide +kernel
theorem d_LA_law_663 : decode b_LA_law 663 = .ok (.iadd, 1) := by decide +kernel
theorem d_LA_law_664 : decode b_LA_law 664 = .ok (.iaload, 1) := by decide +kernel
theorem d_LA_law_665 : decode b_LA_law 665 = .ok (.ifCond .eq 7, 3) := by decide +kernel
theorem d_LA_law_668 : decode b_LA_law 668 = .ok (.iconst 1, 1) := by decide +kernel
theorem d_LA_law_669 : decode b_LA_law 669 = .ok (.goto 4, 3) := by decide +kernel
theorem d_LA_law_672 : decode b_LA_law 672 = .ok (.iconst 0, 1) := by decide +kernel
theorem d_LA_law_673 : decode b_LA_law 673 = .ok (.invokevirtual 97, 3) := by decide +kernel
theorem d_LA_law_676 : decode b_LA_law 676 = .ok (.aload_n 2, 1) := by decide +kernel
theorem d_LA_law_677 : decode b_LA_law 677 = .ok (.aload_n 0, 1) := by decide +kernel
theorem d_LA_law_678 : decode b_LA_law 678 = .ok (.iload 4, 2) := by decide +kernel
theorem d_LA_law_680 : decode b_LA_law 680 = .ok (.iconst 1, 1) := by decide +kernel
theorem d_LA_law_681 : decode b_LA_law 681 = .ok (.iadd, 1) := by decide +kernel
theorem d_LA_law_682 : decode b_LA_law 682 = .ok (.iaload, 1) := by decide +kernel
theorem d_LA_law_683 : decode b_LA_law 683 = .ok (.aload_n 0, 1) := by decide +kernel
theorem d_LA_law_684 : decode b_LA_law 684 = .ok (.iload 4, 2) := by decide +kernel
theorem d_LA_law_686 : decode b_LA_law 686 = .ok (.iconst 2, 1) := by decide +kernel
theorem d_LA_law_687 : decode b_LA_law 687 = .ok (.iadd, 1) := by decide +kernel
theorem d_LA_law_688 : decode b_LA_law 688 = .ok (.iaload, 1) := by decide +kernel
theorem d_LA_law_689 : decode b_LA_law 689 = .ok (.ifCond .eq 7, 3) := by decide +kernel
theorem d_LA_law_692 : decode b_LA_law 692 = .ok (.iconst 1, 1) := by decide +kernel
theorem d_LA_law_693 : decode b_LA_law 693 = .ok (.goto 4, 3) := by decide +kernel
theorem d_LA_law_696 : decode b_LA_law 696 = .ok (.iconst 0, 1) := by decide +kernel
theorem d_LA_law_697 : decode b_LA_law 697 = .ok (.invokevirtual 101, 3) := by decide +kernel
theorem d_LA_law_700 : decode b_LA_law 700 = .ok (.if_icmp .eq 632, 3) := by decide +kernel
theorem d_LA_law_703 : decode b_LA_law 703 = .ok (.iconst 0, 1) := by decide +kernel
theorem d_LA_law_704 : decode b_LA_law 704 = .ok (.ireturn, 1) := by decide +kernel
theorem d_LA_law_705 : decode b_LA_law 705 = .ok (.aload_n 1, 1) := by decide +kernel
theorem d_LA_law_706 : decode b_LA_law 706 = .ok (.aload_n 0, 1) := by decide +kernel
theorem d_LA_law_707 : decode b_LA_law 707 = .ok (.iload 4, 2) := by decide +kernel
theorem d_LA_law_709 : decode b_LA_law 709 = .ok (.iconst 1, 1) := by decide +kernel
theorem d_LA_law_710 : decode b_LA_law 710 = .ok (.iadd, 1) := by decide +kernel
theorem d_LA_law_711 : decode b_LA_law 711 = .ok (.iaload, 1) := by decide +kernel
theorem d_LA_law_712 : decode b_LA_law 712 = .ok (.invokevirtual 102, 3) := by decide +kernel
theorem d_LA_law_715 : decode b_LA_law 715 = .ok (.aload_n 2, 1) := by decide +kernel
theorem d_LA_law_716 : decode b_LA_law 716 = .ok (.aload_n 0, 1) := by decide +kernel
theorem d_LA_law_717 : decode b_LA_law 717 = .ok (.iload 4, 2) := by decide +kernel
theorem d_LA_law_719 : decode b_LA_law 719 = .ok (.iconst 1, 1) := by decide +kernel
theorem d_LA_law_720 : decode b_LA_law 720 = .ok (.iadd, 1) := by decide +kernel
theorem d_LA_law_721 : decode b_LA_law 721 = .ok (.iaload, 1) := by decide +kernel
theorem d_LA_law_722 : decode b_LA_law 722 = .ok (.invokevirtual 105, 3) := by decide +kernel
theorem d_LA_law_725 : decode b_LA_law 725 = .ok (.if_icmp .eq 607, 3) := by decide +kernel
theorem d_LA_law_728 : decode b_LA_law 728 = .ok (.iconst 0, 1) := by decide +kernel
theorem d_LA_law_729 : decode b_LA_law 729 = .ok (.ireturn, 1) := by decide +kernel
theorem d_LA_law_730 : decode b_LA_law 730 = .ok (.aload_n 1, 1) := by decide +kernel
theorem d_LA_law_731 : decode b_LA_law 731 = .ok (.aload_n 0, 1) := by decide +kernel
theorem d_LA_law_732 : decode b_LA_law 732 = .ok (.iload 4, 2) := by decide +kernel
theorem d_LA_law_734 : decode b_LA_law 734 = .ok (.iconst 1, 1) := by decide +kernel
theorem d_LA_law_735 : decode b_LA_law 735 = .ok (.iadd, 1) := by decide +kernel
theorem d_LA_law_736 : decode b_LA_law 736 = .ok (.iaload, 1) := by decide +kernel
theorem d_LA_law_737 : decode b_LA_law 737 = .ok (.aload_n 0, 1) := by decide +kernel
theorem d_LA_law_738 : decode b_LA_law 738 = .ok (.iload 4, 2) := by decide +kernel
theorem d_LA_law_740 : decode b_LA_law 740 = .ok (.iconst 2, 1) := by decide +kernel
theorem d_LA_law_741 : decode b_LA_law 741 = .ok (.iadd, 1) := by decide +kernel
theorem d_LA_law_742 : decode b_LA_law 742 = .ok (.iaload, 1) := by decide +kernel
theorem d_LA_law_743 : decode b_LA_law 743 = .ok (.aload_n 3, 1) := by decide +kernel
theorem d_LA_law_744 : decode b_LA_law 744 = .ok (.invokestatic 106, 3) := by decide +kernel
theorem d_LA_law_747 : decode b_LA_law 747 = .ok (.istore 5, 2) := by decide +kernel
theorem d_LA_law_749 : decode b_LA_law 749 = .ok (.aload_n 2, 1) := by decide +kernel
theorem d_LA_law_750 : decode b_LA_law 750 = .ok (.aload_n 0, 1) := by decide +kernel
theorem d_LA_law_751 : decode b_LA_law 751 = .ok (.iload 4, 2) := by decide +kernel
theorem d_LA_law_753 : decode b_LA_law 753 = .ok (.iconst 1, 1) := by decide +kernel
theorem d_LA_law_754 : decode b_LA_law 754 = .ok (.iadd, 1) := by decide +kernel
theorem d_LA_law_755 : decode b_LA_law 755 = .ok (.iaload, 1) := by decide +kernel
theorem d_LA_law_756 : decode b_LA_law 756 = .ok (.aload_n 0, 1) := by decide +kernel
theorem d_LA_law_757 : decode b_LA_law 757 = .ok (.iload 4, 2) := by decide +kernel
theorem d_LA_law_759 : decode b_LA_law 759 = .ok (.iconst 2, 1) := by decide +kernel
theorem d_LA_law_760 : decode b_LA_law 760 = .ok (.iadd, 1) := by decide +kernel
theorem d_LA_law_761 : decode b_LA_law 761 = .ok (.iaload, 1) := by decide +kernel
theorem d_LA_law_762 : decode b_LA_law 762 = .ok (.invokevirtual 109, 3) := by decide +kernel
theorem d_LA_law_765 : decode b_LA_law 765 = .ok (.istore 6, 2) := by decide +kernel
theorem d_LA_law_767 : decode b_LA_law 767 = .ok (.aload_n 2, 1) := by decide +kernel
theorem d_LA_law_768 : decode b_LA_law 768 = .ok (.invokevirtual 57, 3) := by decide +kernel
theorem d_LA_law_771 : decode b_LA_law 771 = .ok (.iload 5, 2) := by decide +kernel
theorem d_LA_law_773 : decode b_LA_law 773 = .ok (.if_icmp .eq 5, 3) := by decide +kernel
theorem d_LA_law_776 : decode b_LA_law 776 = .ok (.iconst 0, 1) := by decide +kernel
theorem d_LA_law_777 : decode b_LA_law 777 = .ok (.ireturn, 1) := by decide +kernel
theorem d_LA_law_778 : decode b_LA_law 778 = .ok (.iload 5, 2) := by decide +kernel
theorem d_LA_law_780 : decode b_LA_law 780 = .ok (.ifCond .ne 15, 3) := by decide +kernel
theorem d_LA_law_783 : decode b_LA_law 783 = .ok (.aload_n 3, 1) := by decide +kernel
theorem d_LA_law_784 : decode b_LA_law 784 = .ok (.iconst 0, 1) := by decide +kernel
theorem d_LA_law_785 : decode b_LA_law 785 = .ok (.laload, 1) := by decide +kernel
theorem d_LA_law_786 : decode b_LA_law 786 = .ok (.iload 6, 2) := by decide +kernel
theorem d_LA_law_788 : decode b_LA_law 788 = .ok (.i2l, 1) := by decide +kernel
theorem d_LA_law_789 : decode b_LA_law 789 = .ok (.lcmp, 1) := by decide +kernel
theorem d_LA_law_790 : decode b_LA_law 790 = .ok (.ifCond .eq 5, 3) := by decide +kernel
theorem d_LA_law_793 : decode b_LA_law 793 = .ok (.iconst 0, 1) := by decide +kernel
theorem d_LA_law_794 : decode b_LA_law 794 = .ok (.ireturn, 1) := by decide +kernel
theorem d_LA_law_795 : decode b_LA_law 795 = .ok (.goto 537, 3) := by decide +kernel
theorem d_LA_law_798 : decode b_LA_law 798 = .ok (.aload_n 1, 1) := by decide +kernel
theorem d_LA_law_799 : decode b_LA_law 799 = .ok (.aload_n 0, 1) := by decide +kernel
theorem d_LA_law_800 : decode b_LA_law 800 = .ok (.iload 4, 2) := by decide +kernel
theorem d_LA_law_802 : decode b_LA_law 802 = .ok (.iconst 1, 1) := by decide +kernel
theorem d_LA_law_803 : decode b_LA_law 803 = .ok (.iadd, 1) := by decide +kernel
theorem d_LA_law_804 : decode b_LA_law 804 = .ok (.iaload, 1) := by decide +kernel
theorem d_LA_law_805 : decode b_LA_law 805 = .ok (.aload_n 0, 1) := by decide +kernel
theorem d_LA_law_806 : decode b_LA_law 806 = .ok (.iload 4, 2) := by decide +kernel
theorem d_LA_law_808 : decode b_LA_law 808 = .ok (.iconst 2, 1) := by decide +kernel
theorem d_LA_law_809 : decode b_LA_law 809 = .ok (.iadd, 1) := by decide +kernel
theorem d_LA_law_810 : decode b_LA_law 810 = .ok (.iaload, 1) := by decide +kernel
theorem d_LA_law_811 : decode b_LA_law 811 = .ok (.aload_n 3, 1) := by decide +kernel
theorem d_LA_law_812 : decode b_LA_law 812 = .ok (.invokestatic 110, 3) := by decide +kernel
theorem d_LA_law_815 : decode b_LA_law 815 = .ok (.istore 5, 2) := by decide +kernel
theorem d_LA_law_817 : decode b_LA_law 817 = .ok (.aload_n 2, 1) := by decide +kernel
theorem d_LA_law_818 : decode b_LA_law 818 = .ok (.aload_n 0, 1) := by decide +kernel
theorem d_LA_law_819 : decode b_LA_law 819 = .ok (.iload 4, 2) := by decide +kernel
theorem d_LA_law_821 : decode b_LA_law 821 = .ok (.iconst 1, 1) := by decide +kernel
theorem d_LA_law_822 : decode b_LA_law 822 = .ok (.iadd, 1) := by decide +kernel
theorem d_LA_law_823 : decode b_LA_law 823 = .ok (.iaload, 1) := by decide +kernel
theorem d_LA_law_824 : decode b_LA_law 824 = .ok (.aload_n 0, 1) := by decide +kernel
theorem d_LA_law_825 : decode b_LA_law 825 = .ok (.iload 4, 2) := by decide +kernel
theorem d_LA_law_827 : decode b_LA_law 827 = .ok (.iconst 2, 1) := by decide +kernel
theorem d_LA_law_828 : decode b_LA_law 828 = .ok (.iadd, 1) := by decide +kernel
theorem d_LA_law_829 : decode b_LA_law 829 = .ok (.iaload, 1) := by decide +kernel
theorem d_LA_law_830 : decode b_LA_law 830 = .ok (.invokevirtual 112, 3) := by decide +kernel
theorem d_LA_law_833 : decode b_LA_law 833 = .ok (.istore 6, 2) := by decide +kernel
theorem d_LA_law_835 : decode b_LA_law 835 = .ok (.aload_n 2, 1) := by decide +kernel
theorem d_LA_law_836 : decode b_LA_law 836 = .ok (.invokevirtual 57, 3) := by decide +kernel
theorem d_LA_law_839 : decode b_LA_law 839 = .ok (.iload 5, 2) := by decide +kernel
theorem d_LA_law_841 : decode b_LA_law 841 = .ok (.if_icmp .eq 5, 3) := by decide +kernel
theorem d_LA_law_844 : decode b_LA_law 844 = .ok (.iconst 0, 1) := by decide +kernel
theorem d_LA_law_845 : decode b_LA_law 845 = .ok (.ireturn, 1) := by decide +kernel
theorem d_LA_law_846 : decode b_LA_law 846 = .ok (.iload 5, 2) := by decide +kernel
theorem d_LA_law_848 : decode b_LA_law 848 = .ok (.ifCond .ne 15, 3) := by decide +kernel
theorem d_LA_law_851 : decode b_LA_law 851 = .ok (.aload_n 3, 1) := by decide +kernel
theorem d_LA_law_852 : decode b_LA_law 852 = .ok (.iconst 0, 1) := by decide +kernel
theorem d_LA_law_853 : decode b_LA_law 853 = .ok (.laload, 1) := by decide +kernel
theorem d_LA_law_854 : decode b_LA_law 854 = .ok (.iload 6, 2) := by decide +kernel
theorem d_LA_law_856 : decode b_LA_law 856 = .ok (.i2l, 1) := by decide +kernel
theorem d_LA_law_857 : decode b_LA_law 857 = .ok (.lcmp, 1) := by decide +kernel
theorem d_LA_law_858 : decode b_LA_law 858 = .ok (.ifCond .eq 5, 3) := by decide +kernel
theorem d_LA_law_861 : decode b_LA_law 861 = .ok (.iconst 0, 1) := by decide +kernel
theorem d_LA_law_862 : decode b_LA_law 862 = .ok (.ireturn, 1) := by decide +kernel
theorem d_LA_law_863 : decode b_LA_law 863 = .ok (.goto 469, 3) := by decide +kernel
theorem d_LA_law_866 : decode b_LA_law 866 = .ok (.aload_n 1, 1) := by decide +kernel
theorem d_LA_law_867 : decode b_LA_law 867 = .ok (.aload_n 0, 1) := by decide +kernel
theorem d_LA_law_868 : decode b_LA_law 868 = .ok (.iload 4, 2) := by decide +kernel
theorem d_LA_law_870 : decode b_LA_law 870 = .ok (.iconst 1, 1) := by decide +kernel
theorem d_LA_law_871 : decode b_LA_law 871 = .ok (.iadd, 1) := by decide +kernel
theorem d_LA_law_872 : decode b_LA_law 872 = .ok (.iaload, 1) := by decide +kernel
theorem d_LA_law_873 : decode b_LA_law 873 = .ok (.aload_n 0, 1) := by decide +kernel
theorem d_LA_law_874 : decode b_LA_law 874 = .ok (.iload 4, 2) := by decide +kernel
theorem d_LA_law_876 : decode b_LA_law 876 = .ok (.iconst 2, 1) := by decide +kernel
theorem d_LA_law_877 : decode b_LA_law 877 = .ok (.iadd, 1) := by decide +kernel
theorem d_LA_law_878 : decode b_LA_law 878 = .ok (.iaload, 1) := by decide +kernel
theorem d_LA_law_879 : decode b_LA_law 879 = .ok (.invokevirtual 113, 3) := by decide +kernel
theorem d_LA_law_882 : decode b_LA_law 882 = .ok (.aload_n 2, 1) := by decide +kernel
theorem d_LA_law_883 : decode b_LA_law 883 = .ok (.aload_n 0, 1) := by decide +kernel
theorem d_LA_law_884 : decode b_LA_law 884 = .ok (.iload 4, 2) := by decide +kernel
theorem d_LA_law_886 : decode b_LA_law 886 = .ok (.iconst 1, 1) := by decide +kernel
theorem d_LA_law_887 : decode b_LA_law 887 = .ok (.iadd, 1) := by decide +kernel
theorem d_LA_law_888 : decode b_LA_law 888 = .ok (.iaload, 1) := by decide +kernel
theorem d_LA_law_889 : decode b_LA_law 889 = .ok (.aload_n 0, 1) := by decide +kernel
theorem d_LA_law_890 : decode b_LA_law 890 = .ok (.iload 4, 2) := by decide +kernel
theorem d_LA_law_892 : decode b_LA_law 892 = .ok (.iconst 2, 1) := by decide +kernel
theorem d_LA_law_893 : decode b_LA_law 893 = .ok (.iadd, 1) := by decide +kernel
theorem d_LA_law_894 : decode b_LA_law 894 = .ok (.iaload, 1) := by decide +kernel
theorem d_LA_law_895 : decode b_LA_law 895 = .ok (.invokevirtual 116, 3) := by decide +kernel
theorem d_LA_law_898 : decode b_LA_law 898 = .ok (.if_icmp .eq 434, 3) := by decide +kernel
theorem d_LA_law_901 : decode b_LA_law 901 = .ok (.iconst 0, 1) := by decide +kernel
theorem d_LA_law_902 : decode b_LA_law 902 = .ok (.ireturn, 1) := by decide +kernel
theorem d_LA_law_903 : decode b_LA_law 903 = .ok (.aload_n 1, 1) := by decide +kernel
theorem d_LA_law_904 : decode b_LA_law 904 = .ok (.aload_n 0, 1) := by decide +kernel
theorem d_LA_law_905 : decode b_LA_law 905 = .ok (.iload 4, 2) := by decide +kernel
theorem d_LA_law_907 : decode b_LA_law 907 = .ok (.iconst 1, 1) := by decide +kernel
theorem d_LA_law_908 : decode b_LA_law 908 = .ok (.iadd, 1) := by decide +kernel
theorem d_LA_law_909 : decode b_LA_law 909 = .ok (.iaload, 1) := by decide +kernel
theorem d_LA_law_910 : decode b_LA_law 910 = .ok (.aload_n 0, 1) := by decide +kernel
theorem d_LA_law_911 : decode b_LA_law 911 = .ok (.iload 4, 2) := by decide +kernel
theorem d_LA_law_913 : decode b_LA_law 913 = .ok (.iconst 2, 1) := by decide +kernel
theorem d_LA_law_914 : decode b_LA_law 914 = .ok (.iadd, 1) := by decide +kernel
theorem d_LA_law_915 : decode b_LA_law 915 = .ok (.iaload, 1) := by decide +kernel
theorem d_LA_law_916 : decode b_LA_law 916 = .ok (.aload_n 0, 1) := by decide +kernel
theorem d_LA_law_917 : decode b_LA_law 917 = .ok (.iload 4, 2) := by decide +kernel
theorem d_LA_law_919 : decode b_LA_law 919 = .ok (.iconst 3, 1) := by decide +kernel
theorem d_LA_law_920 : decode b_LA_law 920 = .ok (.iadd, 1) := by decide +kernel
theorem d_LA_law_921 : decode b_LA_law 921 = .ok (.iaload, 1) := by decide +kernel
theorem d_LA_law_922 : decode b_LA_law 922 = .ok (.invokevirtual 117, 3) := by decide +kernel
theorem d_LA_law_925 : decode b_LA_law 925 = .ok (.aload_n 2, 1) := by decide +kernel
theorem d_LA_law_926 : decode b_LA_law 926 = .ok (.aload_n 0, 1) := by decide +kernel
theorem d_LA_law_927 : decode b_LA_law 927 = .ok (.iload 4, 2) := by decide +kernel
theorem d_LA_law_929 : decode b_LA_law 929 = .ok (.iconst 1, 1) := by decide +kernel
theorem d_LA_law_930 : decode b_LA_law 930 = .ok (.iadd, 1) := by decide +kernel
theorem d_LA_law_931 : decode b_LA_law 931 = .ok (.iaload, 1) := by decide +kernel
theorem d_LA_law_932 : decode b_LA_law 932 = .ok (.aload_n 0, 1) := by decide +kernel
theorem d_LA_law_933 : decode b_LA_law 933 = .ok (.iload 4, 2) := by decide +kernel
theorem d_LA_law_935 : decode b_LA_law 935 = .ok (.iconst 2, 1) := by decide +kernel
theorem d_LA_law_936 : decode b_LA_law 936 = .ok (.iadd, 1) := by decide +kernel
theorem d_LA_law_937 : decode b_LA_law 937 = .ok (.iaload, 1) := by decide +kernel
theorem d_LA_law_938 : decode b_LA_law 938 = .ok (.aload_n 0, 1) := by decide +kernel
theorem d_LA_law_939 : decode b_LA_law 939 = .ok (.iload 4, 2) := by decide +kernel
theorem d_LA_law_941 : decode b_LA_law 941 = .ok (.iconst 3, 1) := by decide +kernel
theorem d_LA_law_942 : decode b_LA_law 942 = .ok (.iadd, 1) := by decide +kernel
theorem d_LA_law_943 : decode b_LA_law 943 = .ok (.iaload, 1) := by decide +kernel
theorem d_LA_law_944 : decode b_LA_law 944 = .ok (.invokevirtual 120, 3) := by decide +kernel
theorem d_LA_law_947 : decode b_LA_law 947 = .ok (.if_icmp .eq 385, 3) := by decide +kernel
theorem d_LA_law_950 : decode b_LA_law 950 = .ok (.iconst 0, 1) := by decide +kernel
theorem d_LA_law_951 : decode b_LA_law 951 = .ok (.ireturn, 1) := by decide +kernel
theorem d_LA_law_952 : decode b_LA_law 952 = .ok (.aload_n 1, 1) := by decide +kernel
theorem d_LA_law_953 : decode b_LA_law 953 = .ok (.aload_n 0, 1) := by decide +kernel
theorem d_LA_law_954 : decode b_LA_law 954 = .ok (.iload 4, 2) := by decide +kernel
theorem d_LA_law_956 : decode b_LA_law 956 = .ok (.iconst 1, 1) := by decide +kernel
theorem d_LA_law_957 : decode b_LA_law 957 = .ok (.iadd, 1) := by decide +kernel
theorem d_LA_law_958 : decode b_LA_law 958 = .ok (.iaload, 1) := by decide +kernel
theorem d_LA_law_959 : decode b_LA_law 959 = .ok (.aload_n 0, 1) := by decide +kernel
theorem d_LA_law_960 : decode b_LA_law 960 = .ok (.iload 4, 2) := by decide +kernel
theorem d_LA_law_962 : decode b_LA_law 962 = .ok (.iconst 2, 1) := by decide +kernel
theorem d_LA_law_963 : decode b_LA_law 963 = .ok (.iadd, 1) := by decide +kernel
theorem d_LA_law_964 : decode b_LA_law 964 = .ok (.iaload, 1) := by decide +kernel
theorem d_LA_law_965 : decode b_LA_law 965 = .ok (.invokevirtual 121, 3) := by decide +kernel
theorem d_LA_law_968 : decode b_LA_law 968 = .ok (.aload_n 2, 1) := by decide +kernel
theorem d_LA_law_969 : decode b_LA_law 969 = .ok (.aload_n 0, 1) := by decide +kernel
theorem d_LA_law_970 : decode b_LA_law 970 = .ok (.iload 4, 2) := by decide +kernel
theorem d_LA_law_972 : decode b_LA_law 972 = .ok (.iconst 1, 1) := by decide +kernel
theorem d_LA_law_973 : decode b_LA_law 973 = .ok (.iadd, 1) := by decide +kernel
theorem d_LA_law_974 : decode b_LA_law 974 = .ok (.iaload, 1) := by decide +kernel
theorem d_LA_law_975 : decode b_LA_law 975 = .ok (.aload_n 0, 1) := by decide +kernel
theorem d_LA_law_976 : decode b_LA_law 976 = .ok (.iload 4, 2) := by decide +kernel
theorem d_LA_law_978 : decode b_LA_law 978 = .ok (.iconst 2, 1) := by decide +kernel
theorem d_LA_law_979 : decode b_LA_law 979 = .ok (.iadd, 1) := by decide +kernel
theorem d_LA_law_980 : decode b_LA_law 980 = .ok (.iaload, 1) := by decide +kernel
theorem d_LA_law_981 : decode b_LA_law 981 = .ok (.invokevirtual 124, 3) := by decide +kernel
theorem d_LA_law_984 : decode b_LA_law 984 = .ok (.if_icmp .eq 348, 3) := by decide +kernel
theorem d_LA_law_987 : decode b_LA_law 987 = .ok (.iconst 0, 1) := by decide +kernel
theorem d_LA_law_988 : decode b_LA_law 988 = .ok (.ireturn, 1) := by decide +kernel
theorem d_LA_law_989 : decode b_LA_law 989 = .ok (.aload_n 1, 1) := by decide +kernel
theorem d_LA_law_990 : decode b_LA_law 990 = .ok (.aload_n 0, 1) := by decide +kernel
theorem d_LA_law_991 : decode b_LA_law 991 = .ok (.iload 4, 2) := by decide +kernel
theorem d_LA_law_993 : decode b_LA_law 993 = .ok (.iconst 1, 1) := by decide +kernel
theorem d_LA_law_994 : decode b_LA_law 994 = .ok (.iadd, 1) := by decide +kernel
theorem d_LA_law_995 : decode b_LA_law 995 = .ok (.iaload, 1) := by decide +kernel
theorem d_LA_law_996 : decode b_LA_law 996 = .ok (.aload_n 0, 1) := by decide +kernel
theorem d_LA_law_997 : decode b_LA_law 997 = .ok (.iload 4, 2) := by decide +kernel
theorem d_LA_law_999 : decode b_LA_law 999 = .ok (.iconst 2, 1) := by decide +kernel
theorem d_LA_law_1000 : decode b_LA_law 1000 = .ok (.iadd, 1) := by decide +kernel
theorem d_LA_law_1001 : decode b_LA_law 1001 = .ok (.iaload, 1) := by decide +kernel
theorem d_LA_law_1002 : decode b_LA_law 1002 = .ok (.aload_n 0, 1) := by decide +kernel
theorem d_LA_law_1003 : decode b_LA_law 1003 = .ok (.iload 4, 2) := by decide +kernel
theorem d_LA_law_1005 : decode b_LA_law 1005 = .ok (.iconst 3, 1) := by decide +kernel
theorem d_LA_law_1006 : decode b_LA_law 1006 = .ok (.iadd, 1) := by decide +kernel
theorem d_LA_law_1007 : decode b_LA_law 1007 = .ok (.iaload, 1) := by decide +kernel
theorem d_LA_law_1008 : decode b_LA_law 1008 = .ok (.aload_n 0, 1) := by decide +kernel
theorem d_LA_law_1009 : decode b_LA_law 1009 = .ok (.iload 4, 2) := by decide +kernel
theorem d_LA_law_1011 : decode b_LA_law 1011 = .ok (.iconst 4, 1) := by decide +kernel
theorem d_LA_law_1012 : decode b_LA_law 1012 = .ok (.iadd, 1) := by decide +kernel
theorem d_LA_law_1013 : decode b_LA_law 1013 = .ok (.iaload, 1) := by decide +kernel
theorem d_LA_law_1014 : decode b_LA_law 1014 = .ok (.aload_n 3, 1) := by decide +kernel
theorem d_LA_law_1015 : decode b_LA_law 1015 = .ok (.invokestatic 125, 3) := by decide +kernel
theorem d_LA_law_1018 : decode b_LA_law 1018 = .ok (.istore 5, 2) := by decide +kernel
theorem d_LA_law_1020 : decode b_LA_law 1020 = .ok (.aload_n 2, 1) := by decide +kernel
theorem d_LA_law_1021 : decode b_LA_law 1021 = .ok (.aload_n 0, 1) := by decide +kernel
theorem d_LA_law_1022 : decode b_LA_law 1022 = .ok (.iload 4, 2) := by decide +kernel
theorem d_LA_law_1024 : decode b_LA_law 1024 = .ok (.iconst 1, 1) := by decide +kernel
theorem d_LA_law_1025 : decode b_LA_law 1025 = .ok (.iadd, 1) := by decide +kernel
theorem d_LA_law_1026 : decode b_LA_law 1026 = .ok (.iaload, 1) := by decide +kernel
theorem d_LA_law_1027 : decode b_LA_law 1027 = .ok (.aload_n 0, 1) := by decide +kernel
theorem d_LA_law_1028 : decode b_LA_law 1028 = .ok (.iload 4, 2) := by decide +kernel
theorem d_LA_law_1030 : decode b_LA_law 1030 = .ok (.iconst 2, 1) := by decide +kernel
theorem d_LA_law_1031 : decode b_LA_law 1031 = .ok (.iadd, 1) := by decide +kernel
theorem d_LA_law_1032 : decode b_LA_law 1032 = .ok (.iaload, 1) := by decide +kernel
theorem d_LA_law_1033 : decode b_LA_law 1033 = .ok (.aload_n 0, 1) := by decide +kernel
theorem d_LA_law_1034 : decode b_LA_law 1034 = .ok (.iload 4, 2) := by decide +kernel
theorem d_LA_law_1036 : decode b_LA_law 1036 = .ok (.iconst 3, 1) := by decide +kernel
theorem d_LA_law_1037 : decode b_LA_law 1037 = .ok (.iadd, 1) := by decide +kernel
theorem d_LA_law_1038 : decode b_LA_law 1038 = .ok (.iaload, 1) := by decide +kernel
theorem d_LA_law_1039 : decode b_LA_law 1039 = .ok (.aload_n 0, 1) := by decide +kernel
theorem d_LA_law_1040 : decode b_LA_law 1040 = .ok (.iload 4, 2) := by decide +kernel
theorem d_LA_law_1042 : decode b_LA_law 1042 = .ok (.iconst 4, 1) := by decide +kernel
theorem d_LA_law_1043 : decode b_LA_law 1043 = .ok (.iadd, 1) := by decide +kernel
theorem d_LA_law_1044 : decode b_LA_law 1044 = .ok (.iaload, 1) := by decide +kernel
theorem d_LA_law_1045 : decode b_LA_law 1045 = .ok (.invokevirtual 128, 3) := by decide +kernel
theorem d_LA_law_1048 : decode b_LA_law 1048 = .ok (.istore 6, 2) := by decide +kernel
theorem d_LA_law_1050 : decode b_LA_law 1050 = .ok (.aload_n 2, 1) := by decide +kernel
theorem d_LA_law_1051 : decode b_LA_law 1051 = .ok (.invokevirtual 57, 3) := by decide +kernel
theorem d_LA_law_1054 : decode b_LA_law 1054 = .ok (.iload 5, 2) := by decide +kernel
theorem d_LA_law_1056 : decode b_LA_law 1056 = .ok (.if_icmp .eq 5, 3) := by decide +kernel
theorem d_LA_law_1059 : decode b_LA_law 1059 = .ok (.iconst 0, 1) := by decide +kernel
theorem d_LA_law_1060 : decode b_LA_law 1060 = .ok (.ireturn, 1) := by decide +kernel
theorem d_LA_law_1061 : decode b_LA_law 1061 = .ok (.iload 5, 2) := by decide +kernel
theorem d_LA_law_1063 : decode b_LA_law 1063 = .ok (.ifCond .ne 15, 3) := by decide +kernel
theorem d_LA_law_1066 : decode b_LA_law 1066 = .ok (.aload_n 3, 1) := by decide +kernel
theorem d_LA_law_1067 : decode b_LA_law 1067 = .ok (.iconst 0, 1) := by decide +kernel
theorem d_LA_law_1068 : decode b_LA_law 1068 = .ok (.laload, 1) := by decide +kernel
theorem d_LA_law_1069 : decode b_LA_law 1069 = .ok (.iload 6, 2) := by decide +kernel
theorem d_LA_law_1071 : decode b_LA_law 1071 = .ok (.i2l, 1) := by decide +kernel
theorem d_LA_law_1072 : decode b_LA_law 1072 = .ok (.lcmp, 1) := by decide +kernel
theorem d_LA_law_1073 : decode b_LA_law 1073 = .ok (.ifCond .eq 5, 3) := by decide +kernel
theorem d_LA_law_1076 : decode b_LA_law 1076 = .ok (.iconst 0, 1) := by decide +kernel
theorem d_LA_law_1077 : decode b_LA_law 1077 = .ok (.ireturn, 1) := by decide +kernel
theorem d_LA_law_1078 : decode b_LA_law 1078 = .ok (.goto 254, 3) := by decide +kernel
theorem d_LA_law_1081 : decode b_LA_law 1081 = .ok (.aload_n 1, 1) := by decide +kernel
theorem d_LA_law_1082 : decode b_LA_law 1082 = .ok (.aload_n 0, 1) := by decide +kernel
theorem d_LA_law_1083 : decode b_LA_law 1083 = .ok (.iload 4, 2) := by decide +kernel
theorem d_LA_law_1085 : decode b_LA_law 1085 = .ok (.iconst 1, 1) := by decide +kernel
theorem d_LA_law_1086 : decode b_LA_law 1086 = .ok (.iadd, 1) := by decide +kernel
theorem d_LA_law_1087 : decode b_LA_law 1087 = .ok (.iaload, 1) := by decide +kernel
theorem d_LA_law_1088 : decode b_LA_law 1088 = .ok (.aload_n 0, 1) := by decide +kernel
theorem d_LA_law_1089 : decode b_LA_law 1089 = .ok (.iload 4, 2) := by decide +kernel
theorem d_LA_law_1091 : decode b_LA_law 1091 = .ok (.iconst 2, 1) := by decide +kernel
theorem d_LA_law_1092 : decode b_LA_law 1092 = .ok (.iadd, 1) := by decide +kernel
theorem d_LA_law_1093 : decode b_LA_law 1093 = .ok (.iaload, 1) := by decide +kernel
theorem d_LA_law_1094 : decode b_LA_law 1094 = .ok (.aload_n 0, 1) := by decide +kernel
theorem d_LA_law_1095 : decode b_LA_law 1095 = .ok (.iload 4, 2) := by decide +kernel
theorem d_LA_law_1097 : decode b_LA_law 1097 = .ok (.iconst 3, 1) := by decide +kernel
theorem d_LA_law_1098 : decode b_LA_law 1098 = .ok (.iadd, 1) := by decide +kernel
theorem d_LA_law_1099 : decode b_LA_law 1099 = .ok (.iaload, 1) := by decide +kernel
theorem d_LA_law_1100 : decode b_LA_law 1100 = .ok (.ifCond .eq 7, 3) := by decide +kernel
theorem d_LA_law_1103 : decode b_LA_law 1103 = .ok (.iconst 1, 1) := by decide +kernel
theorem d_LA_law_1104 : decode b_LA_law 1104 = .ok (.goto 4, 3) := by decide +kernel
theorem d_LA_law_1107 : decode b_LA_law 1107 = .ok (.iconst 0, 1) := by decide +kernel
theorem d_LA_law_1108 : decode b_LA_law 1108 = .ok (.invokevirtual 129, 3) := by decide +kernel
theorem d_LA_law_1111 : decode b_LA_law 1111 = .ok (.aload_n 2, 1) := by decide +kernel
theorem d_LA_law_1112 : decode b_LA_law 1112 = .ok (.aload_n 0, 1) := by decide +kernel
theorem d_LA_law_1113 : decode b_LA_law 1113 = .ok (.iload 4, 2) := by decide +kernel
theorem d_LA_law_1115 : decode b_LA_law 1115 = .ok (.iconst 1, 1) := by decide +kernel
theorem d_LA_law_1116 : decode b_LA_law 1116 = .ok (.iadd, 1) := by decide +kernel
theorem d_LA_law_1117 : decode b_LA_law 1117 = .ok (.iaload, 1) := by decide +kernel
theorem d_LA_law_1118 : decode b_LA_law 1118 = .ok (.aload_n 0, 1) := by decide +kernel
theorem d_LA_law_1119 : decode b_LA_law 1119 = .ok (.iload 4, 2) := by decide +kernel
theorem d_LA_law_1121 : decode b_LA_law 1121 = .ok (.iconst 2, 1) := by decide +kernel
theorem d_LA_law_1122 : decode b_LA_law 1122 = .ok (.iadd, 1) := by decide +kernel
theorem d_LA_law_1123 : decode b_LA_law 1123 = .ok (.iaload, 1) := by decide +kernel
theorem d_LA_law_1124 : decode b_LA_law 1124 = .ok (.aload_n 0, 1) := by decide +kernel
theorem d_LA_law_1125 : decode b_LA_law 1125 = .ok (.iload 4, 2) := by decide +kernel
theorem d_LA_law_1127 : decode b_LA_law 1127 = .ok (.iconst 3, 1) := by decide +kernel
theorem d_LA_law_1128 : decode b_LA_law 1128 = .ok (.iadd, 1) := by decide +kernel
theorem d_LA_law_1129 : decode b_LA_law 1129 = .ok (.iaload, 1) := by decide +kernel
theorem d_LA_law_1130 : decode b_LA_law 1130 = .ok (.ifCond .eq 7, 3) := by decide +kernel
theorem d_LA_law_1133 : decode b_LA_law 1133 = .ok (.iconst 1, 1) := by decide +kernel
theorem d_LA_law_1134 : decode b_LA_law 1134 = .ok (.goto 4, 3) := by decide +kernel
theorem d_LA_law_1137 : decode b_LA_law 1137 = .ok (.iconst 0, 1) := by decide +kernel
theorem d_LA_law_1138 : decode b_LA_law 1138 = .ok (.invokevirtual 133, 3) := by decide +kernel
theorem d_LA_law_1141 : decode b_LA_law 1141 = .ok (.if_icmp .eq 191, 3) := by decide +kernel
theorem d_LA_law_1144 : decode b_LA_law 1144 = .ok (.iconst 0, 1) := by decide +kernel
theorem d_LA_law_1145 : decode b_LA_law 1145 = .ok (.ireturn, 1) := by decide +kernel
theorem d_LA_law_1146 : decode b_LA_law 1146 = .ok (.aload_n 1, 1) := by decide +kernel
theorem d_LA_law_1147 : decode b_LA_law 1147 = .ok (.aload_n 0, 1) := by decide +kernel
theorem d_LA_law_1148 : decode b_LA_law 1148 = .ok (.iload 4, 2) := by decide +kernel
theorem d_LA_law_1150 : decode b_LA_law 1150 = .ok (.iconst 1, 1) := by decide +kernel
theorem d_LA_law_1151 : decode b_LA_law 1151 = .ok (.iadd, 1) := by decide +kernel
theorem d_LA_law_1152 : decode b_LA_law 1152 = .ok (.iaload, 1) := by decide +kernel
theorem d_LA_law_1153 : decode b_LA_law 1153 = .ok (.invokevirtual 134, 3) := by decide +kernel
theorem d_LA_law_1156 : decode b_LA_law 1156 = .ok (.aload_n 2, 1) := by decide +kernel
theorem d_LA_law_1157 : decode b_LA_law 1157 = .ok (.aload_n 0, 1) := by decide +kernel
theorem d_LA_law_1158 : decode b_LA_law 1158 = .ok (.iload 4, 2) := by decide +kernel
theorem d_LA_law_1160 : decode b_LA_law 1160 = .ok (.iconst 1, 1) := by decide +kernel
theorem d_LA_law_1161 : decode b_LA_law 1161 = .ok (.iadd, 1) := by decide +kernel
theorem d_LA_law_1162 : decode b_LA_law 1162 = .ok (.iaload, 1) := by decide +kernel
theorem d_LA_law_1163 : decode b_LA_law 1163 = .ok (.invokevirtual 137, 3) := by decide +kernel
theorem d_LA_law_1166 : decode b_LA_law 1166 = .ok (.if_icmp .eq 166, 3) := by decide +kernel
theorem d_LA_law_1169 : decode b_LA_law 1169 = .ok (.iconst 0, 1) := by decide +kernel
theorem d_LA_law_1170 : decode b_LA_law 1170 = .ok (.ireturn, 1) := by decide +kernel
theorem d_LA_law_1171 : decode b_LA_law 1171 = .ok (.aload_n 1, 1) := by decide +kernel
theorem d_LA_law_1172 : decode b_LA_law 1172 = .ok (.aload_n 0, 1) := by decide +kernel
theorem d_LA_law_1173 : decode b_LA_law 1173 = .ok (.iload 4, 2) := by decide +kernel
theorem d_LA_law_1175 : decode b_LA_law 1175 = .ok (.iconst 1, 1) := by decide +kernel
theorem d_LA_law_1176 : decode b_LA_law 1176 = .ok (.iadd, 1) := by decide +kernel
theorem d_LA_law_1177 : decode b_LA_law 1177 = .ok (.iaload, 1) := by decide +kernel
theorem d_LA_law_1178 : decode b_LA_law 1178 = .ok (.aload_n 0, 1) := by decide +kernel
theorem d_LA_law_1179 : decode b_LA_law 1179 = .ok (.iload 4, 2) := by decide +kernel
theorem d_LA_law_1181 : decode b_LA_law 1181 = .ok (.iconst 2, 1) := by decide +kernel
theorem d_LA_law_1182 : decode b_LA_law 1182 = .ok (.iadd, 1) := by decide +kernel
theorem d_LA_law_1183 : decode b_LA_law 1183 = .ok (.iaload, 1) := by decide +kernel
theorem d_LA_law_1184 : decode b_LA_law 1184 = .ok (.aload_n 3, 1) := by decide +kernel
theorem d_LA_law_1185 : decode b_LA_law 1185 = .ok (.invokestatic 138, 3) := by decide +kernel
theorem d_LA_law_1188 : decode b_LA_law 1188 = .ok (.istore 5, 2) := by decide +kernel
theorem d_LA_law_1190 : decode b_LA_law 1190 = .ok (.aload_n 2, 1) := by decide +kernel
theorem d_LA_law_1191 : decode b_LA_law 1191 = .ok (.aload_n 0, 1) := by decide +kernel
theorem d_LA_law_1192 : decode b_LA_law 1192 = .ok (.iload 4, 2) := by decide +kernel
theorem d_LA_law_1194 : decode b_LA_law 1194 = .ok (.iconst 1, 1) := by decide +kernel
theorem d_LA_law_1195 : decode b_LA_law 1195 = .ok (.iadd, 1) := by decide +kernel
theorem d_LA_law_1196 : decode b_LA_law 1196 = .ok (.iaload, 1) := by decide +kernel
theorem d_LA_law_1197 : decode b_LA_law 1197 = .ok (.aload_n 0, 1) := by decide +kernel
theorem d_LA_law_1198 : decode b_LA_law 1198 = .ok (.iload 4, 2) := by decide +kernel
theorem d_LA_law_1200 : decode b_LA_law 1200 = .ok (.iconst 2, 1) := by decide +kernel
theorem d_LA_law_1201 : decode b_LA_law 1201 = .ok (.iadd, 1) := by decide +kernel
theorem d_LA_law_1202 : decode b_LA_law 1202 = .ok (.iaload, 1) := by decide +kernel
theorem d_LA_law_1203 : decode b_LA_law 1203 = .ok (.invokevirtual 140, 3) := by decide +kernel
theorem d_LA_law_1206 : decode b_LA_law 1206 = .ok (.istore 6, 2) := by decide +kernel
theorem d_LA_law_1208 : decode b_LA_law 1208 = .ok (.aload_n 2, 1) := by decide +kernel
theorem d_LA_law_1209 : decode b_LA_law 1209 = .ok (.invokevirtual 57, 3) := by decide +kernel
theorem d_LA_law_1212 : decode b_LA_law 1212 = .ok (.iload 5, 2) := by decide +kernel
theorem d_LA_law_1214 : decode b_LA_law 1214 = .ok (.if_icmp .eq 5, 3) := by decide +kernel
theorem d_LA_law_1217 : decode b_LA_law 1217 = .ok (.iconst 0, 1) := by decide +kernel
theorem d_LA_law_1218 : decode b_LA_law 1218 = .ok (.ireturn, 1) := by decide +kernel
theorem d_LA_law_1219 : decode b_LA_law 1219 = .ok (.iload 5, 2) := by decide +kernel
theorem d_LA_law_1221 : decode b_LA_law 1221 = .ok (.ifCond .ne 15, 3) := by decide +kernel
theorem d_LA_law_1224 : decode b_LA_law 1224 = .ok (.aload_n 3, 1) := by decide +kernel
theorem d_LA_law_1225 : decode b_LA_law 1225 = .ok (.iconst 0, 1) := by decide +kernel
theorem d_LA_law_1226 : decode b_LA_law 1226 = .ok (.laload, 1) := by decide +kernel
theorem d_LA_law_1227 : decode b_LA_law 1227 = .ok (.iload 6, 2) := by decide +kernel
theorem d_LA_law_1229 : decode b_LA_law 1229 = .ok (.i2l, 1) := by decide +kernel
theorem d_LA_law_1230 : decode b_LA_law 1230 = .ok (.lcmp, 1) := by decide +kernel
theorem d_LA_law_1231 : decode b_LA_law 1231 = .ok (.ifCond .eq 5, 3) := by decide +kernel
theorem d_LA_law_1234 : decode b_LA_law 1234 = .ok (.iconst 0, 1) := by decide +kernel
theorem d_LA_law_1235 : decode b_LA_law 1235 = .ok (.ireturn, 1) := by decide +kernel
theorem d_LA_law_1236 : decode b_LA_law 1236 = .ok (.goto 96, 3) := by decide +kernel
theorem d_LA_law_1239 : decode b_LA_law 1239 = .ok (.aload_n 1, 1) := by decide +kernel
theorem d_LA_law_1240 : decode b_LA_law 1240 = .ok (.aload_n 0, 1) := by decide +kernel
theorem d_LA_law_1241 : decode b_LA_law 1241 = .ok (.iload 4, 2) := by decide +kernel
theorem d_LA_law_1243 : decode b_LA_law 1243 = .ok (.iconst 1, 1) := by decide +kernel
theorem d_LA_law_1244 : decode b_LA_law 1244 = .ok (.iadd, 1) := by decide +kernel
theorem d_LA_law_1245 : decode b_LA_law 1245 = .ok (.iaload, 1) := by decide +kernel
theorem d_LA_law_1246 : decode b_LA_law 1246 = .ok (.aload_n 0, 1) := by decide +kernel
theorem d_LA_law_1247 : decode b_LA_law 1247 = .ok (.iload 4, 2) := by decide +kernel
theorem d_LA_law_1249 : decode b_LA_law 1249 = .ok (.iconst 2, 1) := by decide +kernel
theorem d_LA_law_1250 : decode b_LA_law 1250 = .ok (.iadd, 1) := by decide +kernel
theorem d_LA_law_1251 : decode b_LA_law 1251 = .ok (.iaload, 1) := by decide +kernel
theorem d_LA_law_1252 : decode b_LA_law 1252 = .ok (.aload_n 3, 1) := by decide +kernel
theorem d_LA_law_1253 : decode b_LA_law 1253 = .ok (.invokestatic 141, 3) := by decide +kernel
theorem d_LA_law_1256 : decode b_LA_law 1256 = .ok (.istore 5, 2) := by decide +kernel
theorem d_LA_law_1258 : decode b_LA_law 1258 = .ok (.aload_n 2, 1) := by decide +kernel
theorem d_LA_law_1259 : decode b_LA_law 1259 = .ok (.aload_n 0, 1) := by decide +kernel
theorem d_LA_law_1260 : decode b_LA_law 1260 = .ok (.iload 4, 2) := by decide +kernel
theorem d_LA_law_1262 : decode b_LA_law 1262 = .ok (.iconst 1, 1) := by decide +kernel
theorem d_LA_law_1263 : decode b_LA_law 1263 = .ok (.iadd, 1) := by decide +kernel
theorem d_LA_law_1264 : decode b_LA_law 1264 = .ok (.iaload, 1) := by decide +kernel
theorem d_LA_law_1265 : decode b_LA_law 1265 = .ok (.aload_n 0, 1) := by decide +kernel
theorem d_LA_law_1266 : decode b_LA_law 1266 = .ok (.iload 4, 2) := by decide +kernel
theorem d_LA_law_1268 : decode b_LA_law 1268 = .ok (.iconst 2, 1) := by decide +kernel
theorem d_LA_law_1269 : decode b_LA_law 1269 = .ok (.iadd, 1) := by decide +kernel
theorem d_LA_law_1270 : decode b_LA_law 1270 = .ok (.iaload, 1) := by decide +kernel
theorem d_LA_law_1271 : decode b_LA_law 1271 = .ok (.invokevirtual 143, 3) := by decide +kernel
theorem d_LA_law_1274 : decode b_LA_law 1274 = .ok (.istore 6, 2) := by decide +kernel
theorem d_LA_law_1276 : decode b_LA_law 1276 = .ok (.aload_n 2, 1) := by decide +kernel
theorem d_LA_law_1277 : decode b_LA_law 1277 = .ok (.invokevirtual 57, 3) := by decide +kernel
theorem d_LA_law_1280 : decode b_LA_law 1280 = .ok (.iload 5, 2) := by decide +kernel
theorem d_LA_law_1282 : decode b_LA_law 1282 = .ok (.if_icmp .eq 5, 3) := by decide +kernel
theorem d_LA_law_1285 : decode b_LA_law 1285 = .ok (.iconst 0, 1) := by decide +kernel
theorem d_LA_law_1286 : decode b_LA_law 1286 = .ok (.ireturn, 1) := by decide +kernel
theorem d_LA_law_1287 : decode b_LA_law 1287 = .ok (.iload 5, 2) := by decide +kernel
theorem d_LA_law_1289 : decode b_LA_law 1289 = .ok (.ifCond .ne 15, 3) := by decide +kernel
theorem d_LA_law_1292 : decode b_LA_law 1292 = .ok (.aload_n 3, 1) := by decide +kernel
theorem d_LA_law_1293 : decode b_LA_law 1293 = .ok (.iconst 0, 1) := by decide +kernel
theorem d_LA_law_1294 : decode b_LA_law 1294 = .ok (.laload, 1) := by decide +kernel
theorem d_LA_law_1295 : decode b_LA_law 1295 = .ok (.iload 6, 2) := by decide +kernel
theorem d_LA_law_1297 : decode b_LA_law 1297 = .ok (.i2l, 1) := by decide +kernel
theorem d_LA_law_1298 : decode b_LA_law 1298 = .ok (.lcmp, 1) := by decide +kernel
theorem d_LA_law_1299 : decode b_LA_law 1299 = .ok (.ifCond .eq 5, 3) := by decide +kernel
theorem d_LA_law_1302 : decode b_LA_law 1302 = .ok (.iconst 0, 1) := by decide +kernel
theorem d_LA_law_1303 : decode b_LA_law 1303 = .ok (.ireturn, 1) := by decide +kernel
theorem d_LA_law_1304 : decode b_LA_law 1304 = .ok (.goto 28, 3) := by decide +kernel
theorem d_LA_law_1307 : decode b_LA_law 1307 = .ok (.aload_n 1, 1) := by decide +kernel
theorem d_LA_law_1308 : decode b_LA_law 1308 = .ok (.aload_n 0, 1) := by decide +kernel
theorem d_LA_law_1309 : decode b_LA_law 1309 = .ok (.iload 4, 2) := by decide +kernel
theorem d_LA_law_1311 : decode b_LA_law 1311 = .ok (.iconst 1, 1) := by decide +kernel
theorem d_LA_law_1312 : decode b_LA_law 1312 = .ok (.iadd, 1) := by decide +kernel
theorem d_LA_law_1313 : decode b_LA_law 1313 = .ok (.iaload, 1) := by decide +kernel
theorem d_LA_law_1314 : decode b_LA_law 1314 = .ok (.invokevirtual 144, 3) := by decide +kernel
theorem d_LA_law_1317 : decode b_LA_law 1317 = .ok (.aload_n 2, 1) := by decide +kernel
theorem d_LA_law_1318 : decode b_LA_law 1318 = .ok (.aload_n 0, 1) := by decide +kernel
theorem d_LA_law_1319 : decode b_LA_law 1319 = .ok (.iload 4, 2) := by decide +kernel
theorem d_LA_law_1321 : decode b_LA_law 1321 = .ok (.iconst 1, 1) := by decide +kernel
theorem d_LA_law_1322 : decode b_LA_law 1322 = .ok (.iadd, 1) := by decide +kernel
theorem d_LA_law_1323 : decode b_LA_law 1323 = .ok (.iaload, 1) := by decide +kernel
theorem d_LA_law_1324 : decode b_LA_law 1324 = .ok (.invokevirtual 147, 3) := by decide +kernel
theorem d_LA_law_1327 : decode b_LA_law 1327 = .ok (.if_icmp .eq 5, 3) := by decide +kernel
theorem d_LA_law_1330 : decode b_LA_law 1330 = .ok (.iconst 0, 1) := by decide +kernel
theorem d_LA_law_1331 : decode b_LA_law 1331 = .ok (.ireturn, 1) := by decide +kernel
theorem d_LA_law_1332 : decode b_LA_law 1332 = .ok (.iinc 4 6, 3) := by decide +kernel
theorem d_LA_law_1335 : decode b_LA_law 1335 = .ok (.goto (-1312), 3) := by decide +kernel
theorem d_LA_law_1338 : decode b_LA_law 1338 = .ok (.iconst 1, 1) := by decide +kernel
theorem d_LA_law_1339 : decode b_LA_law 1339 = .ok (.ireturn, 1) := by decide +kernel
