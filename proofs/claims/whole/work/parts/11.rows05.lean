/-! Rules of the methods, an instruction each, by program (wip/whole/rows.py). -/
theorem dX6_blame_0 : decode cX6_blame 0 = .ok (.aload_n 0, 1) := by decide +kernel
theorem dX6_blame_1 : decode cX6_blame 1 = .ok (.getfield 31, 3) := by decide +kernel
theorem dX6_blame_4 : decode cX6_blame 4 = .ok (.ifCond .ne 16, 3) := by decide +kernel
theorem dX6_blame_7 : decode cX6_blame 7 = .ok (.aload_n 0, 1) := by decide +kernel
theorem dX6_blame_8 : decode cX6_blame 8 = .ok (.iload_n 1, 1) := by decide +kernel
theorem dX6_blame_9 : decode cX6_blame 9 = .ok (.putfield 31, 3) := by decide +kernel
theorem dX6_blame_12 : decode cX6_blame 12 = .ok (.aload_n 0, 1) := by decide +kernel
theorem dX6_blame_13 : decode cX6_blame 13 = .ok (.aload_n 0, 1) := by decide +kernel
theorem dX6_blame_14 : decode cX6_blame 14 = .ok (.getfield 19, 3) := by decide +kernel
theorem dX6_blame_17 : decode cX6_blame 17 = .ok (.putfield 34, 3) := by decide +kernel
theorem dX6_blame_20 : decode cX6_blame 20 = .ok (.return_, 1) := by decide +kernel
theorem dX6_put_0 : decode cX6_put 0 = .ok (.aload_n 0, 1) := by decide +kernel
theorem dX6_put_1 : decode cX6_put 1 = .ok (.getfield 31, 3) := by decide +kernel
theorem dX6_put_4 : decode cX6_put 4 = .ok (.ifCond .ne 38, 3) := by decide +kernel
theorem dX6_put_7 : decode cX6_put 7 = .ok (.aload_n 0, 1) := by decide +kernel
theorem dX6_put_8 : decode cX6_put 8 = .ok (.getfield 25, 3) := by decide +kernel
theorem dX6_put_11 : decode cX6_put 11 = .ok (.aload_n 0, 1) := by decide +kernel
theorem dX6_put_12 : decode cX6_put 12 = .ok (.getfield 22, 3) := by decide +kernel
theorem dX6_put_15 : decode cX6_put 15 = .ok (.arraylength, 1) := by decide +kernel
theorem dX6_put_16 : decode cX6_put 16 = .ok (.invokestatic 70, 3) := by decide +kernel
theorem dX6_put_19 : decode cX6_put 19 = .ok (.ifCond .eq 23, 3) := by decide +kernel
theorem dX6_put_22 : decode cX6_put 22 = .ok (.aload_n 0, 1) := by decide +kernel
theorem dX6_put_23 : decode cX6_put 23 = .ok (.getfield 22, 3) := by decide +kernel
theorem dX6_put_26 : decode cX6_put 26 = .ok (.aload_n 0, 1) := by decide +kernel
theorem dX6_put_27 : decode cX6_put 27 = .ok (.getfield 25, 3) := by decide +kernel
theorem dX6_put_30 : decode cX6_put 30 = .ok (.iload_n 1, 1) := by decide +kernel
theorem dX6_put_31 : decode cX6_put 31 = .ok (.iastore, 1) := by decide +kernel
theorem dX6_put_32 : decode cX6_put 32 = .ok (.aload_n 0, 1) := by decide +kernel
theorem dX6_put_33 : decode cX6_put 33 = .ok (.dup, 1) := by decide +kernel
theorem dX6_put_34 : decode cX6_put 34 = .ok (.getfield 25, 3) := by decide +kernel
theorem dX6_put_37 : decode cX6_put 37 = .ok (.iconst 1, 1) := by decide +kernel
theorem dX6_put_38 : decode cX6_put 38 = .ok (.iadd, 1) := by decide +kernel
theorem dX6_put_39 : decode cX6_put 39 = .ok (.putfield 25, 3) := by decide +kernel
theorem dX6_put_42 : decode cX6_put 42 = .ok (.return_, 1) := by decide +kernel
theorem dX6_pass_0 : decode cX6_pass 0 = .ok (.aload_n 0, 1) := by decide +kernel
theorem dX6_pass_1 : decode cX6_pass 1 = .ok (.invokevirtual 74, 3) := by decide +kernel
theorem dX6_pass_4 : decode cX6_pass 4 = .ok (.iload_n 1, 1) := by decide +kernel
theorem dX6_pass_5 : decode cX6_pass 5 = .ok (.if_icmp .ne 16, 3) := by decide +kernel
theorem dX6_pass_8 : decode cX6_pass 8 = .ok (.aload_n 0, 1) := by decide +kernel
theorem dX6_pass_9 : decode cX6_pass 9 = .ok (.dup, 1) := by decide +kernel
theorem dX6_pass_10 : decode cX6_pass 10 = .ok (.getfield 19, 3) := by decide +kernel
theorem dX6_pass_13 : decode cX6_pass 13 = .ok (.iconst 1, 1) := by decide +kernel
theorem dX6_pass_14 : decode cX6_pass 14 = .ok (.iadd, 1) := by decide +kernel
theorem dX6_pass_15 : decode cX6_pass 15 = .ok (.putfield 19, 3) := by decide +kernel
theorem dX6_pass_18 : decode cX6_pass 18 = .ok (.goto 8, 3) := by decide +kernel
theorem dX6_pass_21 : decode cX6_pass 21 = .ok (.aload_n 0, 1) := by decide +kernel
theorem dX6_pass_22 : decode cX6_pass 22 = .ok (.iconst 1, 1) := by decide +kernel
theorem dX6_pass_23 : decode cX6_pass 23 = .ok (.invokevirtual 56, 3) := by decide +kernel
theorem dX6_pass_26 : decode cX6_pass 26 = .ok (.return_, 1) := by decide +kernel
theorem dX6_steps_0 : decode cX6_steps 0 = .ok (.aload_n 0, 1) := by decide +kernel
theorem dX6_steps_1 : decode cX6_steps 1 = .ok (.getfield 31, 3) := by decide +kernel
theorem dX6_steps_4 : decode cX6_steps 4 = .ok (.ifCond .ne 7, 3) := by decide +kernel
theorem dX6_steps_7 : decode cX6_steps 7 = .ok (.iconst 1, 1) := by decide +kernel
theorem dX6_steps_8 : decode cX6_steps 8 = .ok (.goto 4, 3) := by decide +kernel
theorem dX6_steps_11 : decode cX6_steps 11 = .ok (.iconst 0, 1) := by decide +kernel
theorem dX6_steps_12 : decode cX6_steps 12 = .ok (.istore_n 2, 1) := by decide +kernel
theorem dX6_steps_13 : decode cX6_steps 13 = .ok (.iconst 0, 1) := by decide +kernel
theorem dX6_steps_14 : decode cX6_steps 14 = .ok (.istore_n 3, 1) := by decide +kernel
theorem dX6_steps_15 : decode cX6_steps 15 = .ok (.iload_n 2, 1) := by decide +kernel
theorem dX6_steps_16 : decode cX6_steps 16 = .ok (.ifCond .eq 56, 3) := by decide +kernel
theorem dX6_steps_19 : decode cX6_steps 19 = .ok (.iload_n 3, 1) := by decide +kernel
theorem dX6_steps_20 : decode cX6_steps 20 = .ok (.bipush 120, 2) := by decide +kernel
theorem dX6_steps_22 : decode cX6_steps 22 = .ok (.if_icmp .gt 50, 3) := by decide +kernel
theorem dX6_steps_25 : decode cX6_steps 25 = .ok (.aload_n 0, 1) := by decide +kernel
theorem dX6_steps_26 : decode cX6_steps 26 = .ok (.iload_n 1, 1) := by decide +kernel
theorem dX6_steps_27 : decode cX6_steps 27 = .ok (.invokevirtual 78, 3) := by decide +kernel
theorem dX6_steps_30 : decode cX6_steps 30 = .ok (.aload_n 0, 1) := by decide +kernel
theorem dX6_steps_31 : decode cX6_steps 31 = .ok (.getfield 31, 3) := by decide +kernel
theorem dX6_steps_34 : decode cX6_steps 34 = .ok (.ifCond .ne 16, 3) := by decide +kernel
theorem dX6_steps_37 : decode cX6_steps 37 = .ok (.aload_n 0, 1) := by decide +kernel
theorem dX6_steps_38 : decode cX6_steps 38 = .ok (.invokevirtual 74, 3) := by decide +kernel
theorem dX6_steps_41 : decode cX6_steps 41 = .ok (.bipush 59, 2) := by decide +kernel
theorem dX6_steps_43 : decode cX6_steps 43 = .ok (.if_icmp .ne 7, 3) := by decide +kernel
theorem dX6_steps_46 : decode cX6_steps 46 = .ok (.iconst 1, 1) := by decide +kernel
theorem dX6_steps_47 : decode cX6_steps 47 = .ok (.goto 4, 3) := by decide +kernel
theorem dX6_steps_50 : decode cX6_steps 50 = .ok (.iconst 0, 1) := by decide +kernel
theorem dX6_steps_51 : decode cX6_steps 51 = .ok (.istore_n 2, 1) := by decide +kernel
theorem dX6_steps_52 : decode cX6_steps 52 = .ok (.iload_n 2, 1) := by decide +kernel
theorem dX6_steps_53 : decode cX6_steps 53 = .ok (.ifCond .eq 13, 3) := by decide +kernel
theorem dX6_steps_56 : decode cX6_steps 56 = .ok (.aload_n 0, 1) := by decide +kernel
theorem dX6_steps_57 : decode cX6_steps 57 = .ok (.dup, 1) := by decide +kernel
theorem dX6_steps_58 : decode cX6_steps 58 = .ok (.getfield 19, 3) := by decide +kernel
theorem dX6_steps_61 : decode cX6_steps 61 = .ok (.iconst 1, 1) := by decide +kernel
theorem dX6_steps_62 : decode cX6_steps 62 = .ok (.iadd, 1) := by decide +kernel
theorem dX6_steps_63 : decode cX6_steps 63 = .ok (.putfield 19, 3) := by decide +kernel
theorem dX6_steps_66 : decode cX6_steps 66 = .ok (.iinc 3 1, 3) := by decide +kernel
theorem dX6_steps_69 : decode cX6_steps 69 = .ok (.goto (-54), 3) := by decide +kernel
theorem dX6_steps_72 : decode cX6_steps 72 = .ok (.return_, 1) := by decide +kernel
theorem dX6_step_0 : decode cX6_step 0 = .ok (.aload_n 0, 1) := by decide +kernel
theorem dX6_step_1 : decode cX6_step 1 = .ok (.invokevirtual 74, 3) := by decide +kernel
theorem dX6_step_4 : decode cX6_step 4 = .ok (.istore_n 2, 1) := by decide +kernel
theorem dX6_step_5 : decode cX6_step 5 = .ok (.iload_n 2, 1) := by decide +kernel
theorem dX6_step_6 : decode cX6_step 6 = .ok (.invokestatic 81, 3) := by decide +kernel
theorem dX6_step_9 : decode cX6_step 9 = .ok (.ifCond .ne 11, 3) := by decide +kernel
theorem dX6_step_12 : decode cX6_step 12 = .ok (.aload_n 0, 1) := by decide +kernel
theorem dX6_step_13 : decode cX6_step 13 = .ok (.iconst 1, 1) := by decide +kernel
theorem dX6_step_14 : decode cX6_step 14 = .ok (.invokevirtual 56, 3) := by decide +kernel
theorem dX6_step_17 : decode cX6_step 17 = .ok (.goto 71, 3) := by decide +kernel
theorem dX6_step_20 : decode cX6_step 20 = .ok (.iload_n 2, 1) := by decide +kernel
theorem dX6_step_21 : decode cX6_step 21 = .ok (.bipush 91, 2) := by decide +kernel
theorem dX6_step_23 : decode cX6_step 23 = .ok (.if_icmp .ne 16, 3) := by decide +kernel
theorem dX6_step_26 : decode cX6_step 26 = .ok (.iload_n 1, 1) := by decide +kernel
theorem dX6_step_27 : decode cX6_step 27 = .ok (.iconst 3, 1) := by decide +kernel
theorem dX6_step_28 : decode cX6_step 28 = .ok (.if_icmp .lt 11, 3) := by decide +kernel
theorem dX6_step_31 : decode cX6_step 31 = .ok (.aload_n 0, 1) := by decide +kernel
theorem dX6_step_32 : decode cX6_step 32 = .ok (.iconst 3, 1) := by decide +kernel
theorem dX6_step_33 : decode cX6_step 33 = .ok (.invokevirtual 56, 3) := by decide +kernel
theorem dX6_step_36 : decode cX6_step 36 = .ok (.goto 52, 3) := by decide +kernel
theorem dX6_step_39 : decode cX6_step 39 = .ok (.aload_n 0, 1) := by decide +kernel
theorem dX6_step_40 : decode cX6_step 40 = .ok (.getfield 28, 3) := by decide +kernel
theorem dX6_step_43 : decode cX6_step 43 = .ok (.bipush 40, 2) := by decide +kernel
theorem dX6_step_45 : decode cX6_step 45 = .ok (.if_icmp .lt 11, 3) := by decide +kernel
theorem dX6_step_48 : decode cX6_step 48 = .ok (.aload_n 0, 1) := by decide +kernel
theorem dX6_step_49 : decode cX6_step 49 = .ok (.iconst 5, 1) := by decide +kernel
theorem dX6_step_50 : decode cX6_step 50 = .ok (.invokevirtual 56, 3) := by decide +kernel
theorem dX6_step_53 : decode cX6_step 53 = .ok (.goto 35, 3) := by decide +kernel
theorem dX6_step_56 : decode cX6_step 56 = .ok (.aload_n 0, 1) := by decide +kernel
theorem dX6_step_57 : decode cX6_step 57 = .ok (.dup, 1) := by decide +kernel
theorem dX6_step_58 : decode cX6_step 58 = .ok (.getfield 28, 3) := by decide +kernel
theorem dX6_step_61 : decode cX6_step 61 = .ok (.iconst 1, 1) := by decide +kernel
theorem dX6_step_62 : decode cX6_step 62 = .ok (.iadd, 1) := by decide +kernel
theorem dX6_step_63 : decode cX6_step 63 = .ok (.putfield 28, 3) := by decide +kernel
theorem dX6_step_66 : decode cX6_step 66 = .ok (.aload_n 0, 1) := by decide +kernel
theorem dX6_step_67 : decode cX6_step 67 = .ok (.dup, 1) := by decide +kernel
theorem dX6_step_68 : decode cX6_step 68 = .ok (.getfield 19, 3) := by decide +kernel
theorem dX6_step_71 : decode cX6_step 71 = .ok (.iconst 1, 1) := by decide +kernel
theorem dX6_step_72 : decode cX6_step 72 = .ok (.iadd, 1) := by decide +kernel
theorem dX6_step_73 : decode cX6_step 73 = .ok (.putfield 19, 3) := by decide +kernel
theorem dX6_step_76 : decode cX6_step 76 = .ok (.aload_n 0, 1) := by decide +kernel
theorem dX6_step_77 : decode cX6_step 77 = .ok (.bipush 59, 2) := by decide +kernel
theorem dX6_step_79 : decode cX6_step 79 = .ok (.invokevirtual 85, 3) := by decide +kernel
theorem dX6_step_82 : decode cX6_step 82 = .ok (.aload_n 0, 1) := by decide +kernel
theorem dX6_step_83 : decode cX6_step 83 = .ok (.iload_n 2, 1) := by decide +kernel
theorem dX6_step_84 : decode cX6_step 84 = .ok (.iload_n 1, 1) := by decide +kernel
theorem dX6_step_85 : decode cX6_step 85 = .ok (.invokevirtual 88, 3) := by decide +kernel
theorem dX6_step_88 : decode cX6_step 88 = .ok (.return_, 1) := by decide +kernel
theorem dX6_restOfStep_0 : decode cX6_restOfStep 0 = .ok (.iload_n 1, 1) := by decide +kernel
theorem dX6_restOfStep_1 : decode cX6_restOfStep 1 = .ok (.tableswitch 211 91 122 #[203, 211, 211, 211, 211, 211, 211, 211, 211, 143, 211, 211, 211, 143, 211, 211, 211, 211, 211, 211, 211, 156, 211, 211, 211, 211, 143, 211, 143, 180, 180, 180], 143) := by decide +kernel
theorem dX6_restOfStep_144 : decode cX6_restOfStep 144 = .ok (.aload_n 0, 1) := by decide +kernel
theorem dX6_restOfStep_145 : decode cX6_restOfStep 145 = .ok (.iconst 0, 1) := by decide +kernel
theorem dX6_restOfStep_146 : decode cX6_restOfStep 146 = .ok (.invokevirtual 92, 3) := by decide +kernel
theorem dX6_restOfStep_149 : decode cX6_restOfStep 149 = .ok (.aload_n 0, 1) := by decide +kernel
theorem dX6_restOfStep_150 : decode cX6_restOfStep 150 = .ok (.iload_n 1, 1) := by decide +kernel
theorem dX6_restOfStep_151 : decode cX6_restOfStep 151 = .ok (.invokevirtual 85, 3) := by decide +kernel
theorem dX6_restOfStep_154 : decode cX6_restOfStep 154 = .ok (.goto 63, 3) := by decide +kernel
theorem dX6_restOfStep_157 : decode cX6_restOfStep 157 = .ok (.aload_n 0, 1) := by decide +kernel
theorem dX6_restOfStep_158 : decode cX6_restOfStep 158 = .ok (.iconst 0, 1) := by decide +kernel
theorem dX6_restOfStep_159 : decode cX6_restOfStep 159 = .ok (.invokevirtual 92, 3) := by decide +kernel
theorem dX6_restOfStep_162 : decode cX6_restOfStep 162 = .ok (.aload_n 0, 1) := by decide +kernel
theorem dX6_restOfStep_163 : decode cX6_restOfStep 163 = .ok (.bipush 46, 2) := by decide +kernel
theorem dX6_restOfStep_165 : decode cX6_restOfStep 165 = .ok (.invokevirtual 95, 3) := by decide +kernel
theorem dX6_restOfStep_168 : decode cX6_restOfStep 168 = .ok (.aload_n 0, 1) := by decide +kernel
theorem dX6_restOfStep_169 : decode cX6_restOfStep 169 = .ok (.iconst 0, 1) := by decide +kernel
theorem dX6_restOfStep_170 : decode cX6_restOfStep 170 = .ok (.invokevirtual 92, 3) := by decide +kernel
theorem dX6_restOfStep_173 : decode cX6_restOfStep 173 = .ok (.aload_n 0, 1) := by decide +kernel
theorem dX6_restOfStep_174 : decode cX6_restOfStep 174 = .ok (.iload_n 1, 1) := by decide +kernel
theorem dX6_restOfStep_175 : decode cX6_restOfStep 175 = .ok (.invokevirtual 85, 3) := by decide +kernel
theorem dX6_restOfStep_178 : decode cX6_restOfStep 178 = .ok (.goto 39, 3) := by decide +kernel
theorem dX6_restOfStep_181 : decode cX6_restOfStep 181 = .ok (.aload_n 0, 1) := by decide +kernel
theorem dX6_restOfStep_182 : decode cX6_restOfStep 182 = .ok (.bipush 61, 2) := by decide +kernel
theorem dX6_restOfStep_184 : decode cX6_restOfStep 184 = .ok (.invokevirtual 95, 3) := by decide +kernel
theorem dX6_restOfStep_187 : decode cX6_restOfStep 187 = .ok (.aload_n 0, 1) := by decide +kernel
theorem dX6_restOfStep_188 : decode cX6_restOfStep 188 = .ok (.iconst 0, 1) := by decide +kernel
theorem dX6_restOfStep_189 : decode cX6_restOfStep 189 = .ok (.invokevirtual 92, 3) := by decide +kernel
theorem dX6_restOfStep_192 : decode cX6_restOfStep 192 = .ok (.aload_n 0, 1) := by decide +kernel
theorem dX6_restOfStep_193 : decode cX6_restOfStep 193 = .ok (.iload_n 1, 1) := by decide +kernel
theorem dX6_restOfStep_194 : decode cX6_restOfStep 194 = .ok (.sipush 128, 3) := by decide +kernel
theorem dX6_restOfStep_197 : decode cX6_restOfStep 197 = .ok (.iadd, 1) := by decide +kernel
theorem dX6_restOfStep_198 : decode cX6_restOfStep 198 = .ok (.invokevirtual 85, 3) := by decide +kernel
theorem dX6_restOfStep_201 : decode cX6_restOfStep 201 = .ok (.goto 16, 3) := by decide +kernel
theorem dX6_restOfStep_204 : decode cX6_restOfStep 204 = .ok (.aload_n 0, 1) := by decide +kernel
theorem dX6_restOfStep_205 : decode cX6_restOfStep 205 = .ok (.iload_n 2, 1) := by decide +kernel
theorem dX6_restOfStep_206 : decode cX6_restOfStep 206 = .ok (.invokevirtual 98, 3) := by decide +kernel
theorem dX6_restOfStep_209 : decode cX6_restOfStep 209 = .ok (.goto 8, 3) := by decide +kernel
theorem dX6_restOfStep_212 : decode cX6_restOfStep 212 = .ok (.aload_n 0, 1) := by decide +kernel
theorem dX6_restOfStep_213 : decode cX6_restOfStep 213 = .ok (.iload_n 1, 1) := by decide +kernel
theorem dX6_restOfStep_214 : decode cX6_restOfStep 214 = .ok (.invokevirtual 85, 3) := by decide +kernel
theorem dX6_restOfStep_217 : decode cX6_restOfStep 217 = .ok (.return_, 1) := by decide +kernel
theorem dX6_restOfRow_0 : decode cX6_restOfRow 0 = .ok (.aload_n 0, 1) := by decide +kernel
theorem dX6_restOfRow_1 : decode cX6_restOfRow 1 = .ok (.iconst 0, 1) := by decide +kernel
theorem dX6_restOfRow_2 : decode cX6_restOfRow 2 = .ok (.invokevirtual 92, 3) := by decide +kernel
theorem dX6_restOfRow_5 : decode cX6_restOfRow 5 = .ok (.aload_n 0, 1) := by decide +kernel
theorem dX6_restOfRow_6 : decode cX6_restOfRow 6 = .ok (.bipush 58, 2) := by decide +kernel
theorem dX6_restOfRow_8 : decode cX6_restOfRow 8 = .ok (.invokevirtual 95, 3) := by decide +kernel
theorem dX6_restOfRow_11 : decode cX6_restOfRow 11 = .ok (.aload_n 0, 1) := by decide +kernel
theorem dX6_restOfRow_12 : decode cX6_restOfRow 12 = .ok (.bipush 91, 2) := by decide +kernel
theorem dX6_restOfRow_14 : decode cX6_restOfRow 14 = .ok (.invokevirtual 85, 3) := by decide +kernel
theorem dX6_restOfRow_17 : decode cX6_restOfRow 17 = .ok (.aload_n 0, 1) := by decide +kernel
theorem dX6_restOfRow_18 : decode cX6_restOfRow 18 = .ok (.getfield 25, 3) := by decide +kernel
theorem dX6_restOfRow_21 : decode cX6_restOfRow 21 = .ok (.istore_n 2, 1) := by decide +kernel
theorem dX6_restOfRow_22 : decode cX6_restOfRow 22 = .ok (.aload_n 0, 1) := by decide +kernel
theorem dX6_restOfRow_23 : decode cX6_restOfRow 23 = .ok (.iconst 0, 1) := by decide +kernel
theorem dX6_restOfRow_24 : decode cX6_restOfRow 24 = .ok (.invokevirtual 85, 3) := by decide +kernel
theorem dX6_restOfRow_27 : decode cX6_restOfRow 27 = .ok (.aload_n 0, 1) := by decide +kernel
theorem dX6_restOfRow_28 : decode cX6_restOfRow 28 = .ok (.iload_n 1, 1) := by decide +kernel
theorem dX6_restOfRow_29 : decode cX6_restOfRow 29 = .ok (.iconst 1, 1) := by decide +kernel
theorem dX6_restOfRow_30 : decode cX6_restOfRow 30 = .ok (.iadd, 1) := by decide +kernel
theorem dX6_restOfRow_31 : decode cX6_restOfRow 31 = .ok (.invokevirtual 52, 3) := by decide +kernel
theorem dX6_restOfRow_34 : decode cX6_restOfRow 34 = .ok (.aload_n 0, 1) := by decide +kernel
theorem dX6_restOfRow_35 : decode cX6_restOfRow 35 = .ok (.bipush 93, 2) := by decide +kernel
theorem dX6_restOfRow_37 : decode cX6_restOfRow 37 = .ok (.invokevirtual 95, 3) := by decide +kernel
theorem dX6_restOfRow_40 : decode cX6_restOfRow 40 = .ok (.aload_n 0, 1) := by decide +kernel
theorem dX6_restOfRow_41 : decode cX6_restOfRow 41 = .ok (.bipush 93, 2) := by decide +kernel
theorem dX6_restOfRow_43 : decode cX6_restOfRow 43 = .ok (.invokevirtual 85, 3) := by decide +kernel
theorem dX6_restOfRow_46 : decode cX6_restOfRow 46 = .ok (.aload_n 0, 1) := by decide +kernel
theorem dX6_restOfRow_47 : decode cX6_restOfRow 47 = .ok (.getfield 31, 3) := by decide +kernel
theorem dX6_restOfRow_50 : decode cX6_restOfRow 50 = .ok (.ifCond .ne 25, 3) := by decide +kernel
theorem dX6_restOfRow_53 : decode cX6_restOfRow 53 = .ok (.iload_n 2, 1) := by decide +kernel
theorem dX6_restOfRow_54 : decode cX6_restOfRow 54 = .ok (.aload_n 0, 1) := by decide +kernel
theorem dX6_restOfRow_55 : decode cX6_restOfRow 55 = .ok (.getfield 22, 3) := by decide +kernel
theorem dX6_restOfRow_58 : decode cX6_restOfRow 58 = .ok (.arraylength, 1) := by decide +kernel
theorem dX6_restOfRow_59 : decode cX6_restOfRow 59 = .ok (.invokestatic 70, 3) := by decide +kernel
theorem dX6_restOfRow_62 : decode cX6_restOfRow 62 = .ok (.ifCond .eq 13, 3) := by decide +kernel
theorem dX6_restOfRow_65 : decode cX6_restOfRow 65 = .ok (.aload_n 0, 1) := by decide +kernel
theorem dX6_restOfRow_66 : decode cX6_restOfRow 66 = .ok (.getfield 22, 3) := by decide +kernel
theorem dX6_restOfRow_69 : decode cX6_restOfRow 69 = .ok (.iload_n 2, 1) := by decide +kernel
theorem dX6_restOfRow_70 : decode cX6_restOfRow 70 = .ok (.aload_n 0, 1) := by decide +kernel
theorem dX6_restOfRow_71 : decode cX6_restOfRow 71 = .ok (.getfield 25, 3) := by decide +kernel
theorem dX6_restOfRow_74 : decode cX6_restOfRow 74 = .ok (.iastore, 1) := by decide +kernel
theorem dX6_restOfRow_75 : decode cX6_restOfRow 75 = .ok (.return_, 1) := by decide +kernel
theorem dX6_sum_0 : decode cX6_sum 0 = .ok (.aload_n 0, 1) := by decide +kernel
theorem dX6_sum_1 : decode cX6_sum 1 = .ok (.iload_n 1, 1) := by decide +kernel
theorem dX6_sum_2 : decode cX6_sum 2 = .ok (.invokevirtual 101, 3) := by decide +kernel
theorem dX6_sum_5 : decode cX6_sum 5 = .ok (.iconst 0, 1) := by decide +kernel
theorem dX6_sum_6 : decode cX6_sum 6 = .ok (.istore_n 2, 1) := by decide +kernel
theorem dX6_sum_7 : decode cX6_sum 7 = .ok (.iload_n 2, 1) := by decide +kernel
theorem dX6_sum_8 : decode cX6_sum 8 = .ok (.bipush 120, 2) := by decide +kernel
theorem dX6_sum_10 : decode cX6_sum 10 = .ok (.if_icmp .ge 59, 3) := by decide +kernel
theorem dX6_sum_13 : decode cX6_sum 13 = .ok (.aload_n 0, 1) := by decide +kernel
theorem dX6_sum_14 : decode cX6_sum 14 = .ok (.getfield 31, 3) := by decide +kernel
theorem dX6_sum_17 : decode cX6_sum 17 = .ok (.ifCond .ne 52, 3) := by decide +kernel
theorem dX6_sum_20 : decode cX6_sum 20 = .ok (.aload_n 0, 1) := by decide +kernel
theorem dX6_sum_21 : decode cX6_sum 21 = .ok (.invokevirtual 74, 3) := by decide +kernel
theorem dX6_sum_24 : decode cX6_sum 24 = .ok (.bipush 43, 2) := by decide +kernel
theorem dX6_sum_26 : decode cX6_sum 26 = .ok (.if_icmp .eq 12, 3) := by decide +kernel
theorem dX6_sum_29 : decode cX6_sum 29 = .ok (.aload_n 0, 1) := by decide +kernel
theorem dX6_sum_30 : decode cX6_sum 30 = .ok (.invokevirtual 74, 3) := by decide +kernel
theorem dX6_sum_33 : decode cX6_sum 33 = .ok (.bipush 45, 2) := by decide +kernel
theorem dX6_sum_35 : decode cX6_sum 35 = .ok (.if_icmp .ne 34, 3) := by decide +kernel
theorem dX6_sum_38 : decode cX6_sum 38 = .ok (.aload_n 0, 1) := by decide +kernel
theorem dX6_sum_39 : decode cX6_sum 39 = .ok (.invokevirtual 74, 3) := by decide +kernel
theorem dX6_sum_42 : decode cX6_sum 42 = .ok (.istore_n 3, 1) := by decide +kernel
theorem dX6_sum_43 : decode cX6_sum 43 = .ok (.aload_n 0, 1) := by decide +kernel
theorem dX6_sum_44 : decode cX6_sum 44 = .ok (.dup, 1) := by decide +kernel
theorem dX6_sum_45 : decode cX6_sum 45 = .ok (.getfield 19, 3) := by decide +kernel
theorem dX6_sum_48 : decode cX6_sum 48 = .ok (.iconst 1, 1) := by decide +kernel
theorem dX6_sum_49 : decode cX6_sum 49 = .ok (.iadd, 1) := by decide +kernel
theorem dX6_sum_50 : decode cX6_sum 50 = .ok (.putfield 19, 3) := by decide +kernel
theorem dX6_sum_53 : decode cX6_sum 53 = .ok (.aload_n 0, 1) := by decide +kernel
theorem dX6_sum_54 : decode cX6_sum 54 = .ok (.iload_n 1, 1) := by decide +kernel
theorem dX6_sum_55 : decode cX6_sum 55 = .ok (.invokevirtual 101, 3) := by decide +kernel
theorem dX6_sum_58 : decode cX6_sum 58 = .ok (.aload_n 0, 1) := by decide +kernel
theorem dX6_sum_59 : decode cX6_sum 59 = .ok (.iload_n 3, 1) := by decide +kernel
theorem dX6_sum_60 : decode cX6_sum 60 = .ok (.invokevirtual 85, 3) := by decide +kernel
theorem dX6_sum_63 : decode cX6_sum 63 = .ok (.iinc 2 1, 3) := by decide +kernel
theorem dX6_sum_66 : decode cX6_sum 66 = .ok (.goto (-59), 3) := by decide +kernel
theorem dX6_sum_69 : decode cX6_sum 69 = .ok (.return_, 1) := by decide +kernel
theorem dX6_product_0 : decode cX6_product 0 = .ok (.aload_n 0, 1) := by decide +kernel
theorem dX6_product_1 : decode cX6_product 1 = .ok (.iload_n 1, 1) := by decide +kernel
theorem dX6_product_2 : decode cX6_product 2 = .ok (.invokevirtual 104, 3) := by decide +kernel
theorem dX6_product_5 : decode cX6_product 5 = .ok (.iconst 0, 1) := by decide +kernel
theorem dX6_product_6 : decode cX6_product 6 = .ok (.istore_n 2, 1) := by decide +kernel
theorem dX6_product_7 : decode cX6_product 7 = .ok (.iload_n 2, 1) := by decide +kernel
theorem dX6_product_8 : decode cX6_product 8 = .ok (.bipush 120, 2) := by decide +kernel
theorem dX6_product_10 : decode cX6_product 10 = .ok (.if_icmp .ge 59, 3) := by decide +kernel
theorem dX6_product_13 : decode cX6_product 13 = .ok (.aload_n 0, 1) := by decide +kernel
theorem dX6_product_14 : decode cX6_product 14 = .ok (.getfield 31, 3) := by decide +kernel
theorem dX6_product_17 : decode cX6_product 17 = .ok (.ifCond .ne 52, 3) := by decide +kernel
theorem dX6_product_20 : decode cX6_product 20 = .ok (.aload_n 0, 1) := by decide +kernel
theorem dX6_product_21 : decode cX6_product 21 = .ok (.invokevirtual 74, 3) := by decide +kernel
theorem dX6_product_24 : decode cX6_product 24 = .ok (.bipush 42, 2) := by decide +kernel
theorem dX6_product_26 : decode cX6_product 26 = .ok (.if_icmp .eq 12, 3) := by decide +kernel
theorem dX6_product_29 : decode cX6_product 29 = .ok (.aload_n 0, 1) := by decide +kernel
theorem dX6_product_30 : decode cX6_product 30 = .ok (.invokevirtual 74, 3) := by decide +kernel
theorem dX6_product_33 : decode cX6_product 33 = .ok (.bipush 47, 2) := by decide +kernel
theorem dX6_product_35 : decode cX6_product 35 = .ok (.if_icmp .ne 34, 3) := by decide +kernel
theorem dX6_product_38 : decode cX6_product 38 = .ok (.aload_n 0, 1) := by decide +kernel
theorem dX6_product_39 : decode cX6_product 39 = .ok (.invokevirtual 74, 3) := by decide +kernel
theorem dX6_product_42 : decode cX6_product 42 = .ok (.istore_n 3, 1) := by decide +kernel
theorem dX6_product_43 : decode cX6_product 43 = .ok (.aload_n 0, 1) := by decide +kernel
theorem dX6_product_44 : decode cX6_product 44 = .ok (.dup, 1) := by decide +kernel
theorem dX6_product_45 : decode cX6_product 45 = .ok (.getfield 19, 3) := by decide +kernel
theorem dX6_product_48 : decode cX6_product 48 = .ok (.iconst 1, 1) := by decide +kernel
theorem dX6_product_49 : decode cX6_product 49 = .ok (.iadd, 1) := by decide +kernel
theorem dX6_product_50 : decode cX6_product 50 = .ok (.putfield 19, 3) := by decide +kernel
theorem dX6_product_53 : decode cX6_product 53 = .ok (.aload_n 0, 1) := by decide +kernel
theorem dX6_product_54 : decode cX6_product 54 = .ok (.iload_n 1, 1) := by decide +kernel
theorem dX6_product_55 : decode cX6_product 55 = .ok (.invokevirtual 104, 3) := by decide +kernel
theorem dX6_product_58 : decode cX6_product 58 = .ok (.aload_n 0, 1) := by decide +kernel
theorem dX6_product_59 : decode cX6_product 59 = .ok (.iload_n 3, 1) := by decide +kernel
theorem dX6_product_60 : decode cX6_product 60 = .ok (.invokevirtual 85, 3) := by decide +kernel
theorem dX6_product_63 : decode cX6_product 63 = .ok (.iinc 2 1, 3) := by decide +kernel
theorem dX6_product_66 : decode cX6_product 66 = .ok (.goto (-59), 3) := by decide +kernel
theorem dX6_product_69 : decode cX6_product 69 = .ok (.return_, 1) := by decide +kernel
theorem dX6_factor_0 : decode cX6_factor 0 = .ok (.aload_n 0, 1) := by decide +kernel
theorem dX6_factor_1 : decode cX6_factor 1 = .ok (.invokevirtual 74, 3) := by decide +kernel
theorem dX6_factor_4 : decode cX6_factor 4 = .ok (.istore_n 2, 1) := by decide +kernel
theorem dX6_factor_5 : decode cX6_factor 5 = .ok (.aload_n 0, 1) := by decide +kernel
theorem dX6_factor_6 : decode cX6_factor 6 = .ok (.getfield 31, 3) := by decide +kernel
theorem dX6_factor_9 : decode cX6_factor 9 = .ok (.ifCond .eq 4, 3) := by decide +kernel
theorem dX6_factor_12 : decode cX6_factor 12 = .ok (.return_, 1) := by decide +kernel
theorem dX6_factor_13 : decode cX6_factor 13 = .ok (.iload_n 2, 1) := by decide +kernel
theorem dX6_factor_14 : decode cX6_factor 14 = .ok (.invokestatic 107, 3) := by decide +kernel
theorem dX6_factor_17 : decode cX6_factor 17 = .ok (.ifCond .eq 10, 3) := by decide +kernel
theorem dX6_factor_20 : decode cX6_factor 20 = .ok (.aload_n 0, 1) := by decide +kernel
theorem dX6_factor_21 : decode cX6_factor 21 = .ok (.invokevirtual 110, 3) := by decide +kernel
theorem dX6_factor_24 : decode cX6_factor 24 = .ok (.goto 79, 3) := by decide +kernel
theorem dX6_factor_27 : decode cX6_factor 27 = .ok (.iload_n 2, 1) := by decide +kernel
theorem dX6_factor_28 : decode cX6_factor 28 = .ok (.invokestatic 113, 3) := by decide +kernel
theorem dX6_factor_31 : decode cX6_factor 31 = .ok (.ifCond .eq 21, 3) := by decide +kernel
theorem dX6_factor_34 : decode cX6_factor 34 = .ok (.aload_n 0, 1) := by decide +kernel
theorem dX6_factor_35 : decode cX6_factor 35 = .ok (.iload_n 2, 1) := by decide +kernel
theorem dX6_factor_36 : decode cX6_factor 36 = .ok (.invokevirtual 85, 3) := by decide +kernel
theorem dX6_factor_39 : decode cX6_factor 39 = .ok (.aload_n 0, 1) := by decide +kernel
theorem dX6_factor_40 : decode cX6_factor 40 = .ok (.dup, 1) := by decide +kernel
theorem dX6_factor_41 : decode cX6_factor 41 = .ok (.getfield 19, 3) := by decide +kernel
theorem dX6_factor_44 : decode cX6_factor 44 = .ok (.iconst 1, 1) := by decide +kernel
theorem dX6_factor_45 : decode cX6_factor 45 = .ok (.iadd, 1) := by decide +kernel
theorem dX6_factor_46 : decode cX6_factor 46 = .ok (.putfield 19, 3) := by decide +kernel
theorem dX6_factor_49 : decode cX6_factor 49 = .ok (.goto 54, 3) := by decide +kernel
theorem dX6_factor_52 : decode cX6_factor 52 = .ok (.iload_n 2, 1) := by decide +kernel
theorem dX6_factor_53 : decode cX6_factor 53 = .ok (.bipush 40, 2) := by decide +kernel
theorem dX6_factor_55 : decode cX6_factor 55 = .ok (.if_icmp .eq 11, 3) := by decide +kernel
theorem dX6_factor_58 : decode cX6_factor 58 = .ok (.aload_n 0, 1) := by decide +kernel
theorem dX6_factor_59 : decode cX6_factor 59 = .ok (.iconst 1, 1) := by decide +kernel
theorem dX6_factor_60 : decode cX6_factor 60 = .ok (.invokevirtual 56, 3) := by decide +kernel
theorem dX6_factor_63 : decode cX6_factor 63 = .ok (.goto 40, 3) := by decide +kernel
theorem dX6_factor_66 : decode cX6_factor 66 = .ok (.iload_n 1, 1) := by decide +kernel
theorem dX6_factor_67 : decode cX6_factor 67 = .ok (.bipush 8, 2) := by decide +kernel
theorem dX6_factor_69 : decode cX6_factor 69 = .ok (.if_icmp .lt 11, 3) := by decide +kernel
theorem dX6_factor_72 : decode cX6_factor 72 = .ok (.aload_n 0, 1) := by decide +kernel
theorem dX6_factor_73 : decode cX6_factor 73 = .ok (.iconst 4, 1) := by decide +kernel
theorem dX6_factor_74 : decode cX6_factor 74 = .ok (.invokevirtual 56, 3) := by decide +kernel
theorem dX6_factor_77 : decode cX6_factor 77 = .ok (.goto 26, 3) := by decide +kernel
theorem dX6_factor_80 : decode cX6_factor 80 = .ok (.aload_n 0, 1) := by decide +kernel
theorem dX6_factor_81 : decode cX6_factor 81 = .ok (.dup, 1) := by decide +kernel
theorem dX6_factor_82 : decode cX6_factor 82 = .ok (.getfield 19, 3) := by decide +kernel
theorem dX6_factor_85 : decode cX6_factor 85 = .ok (.iconst 1, 1) := by decide +kernel
theorem dX6_factor_86 : decode cX6_factor 86 = .ok (.iadd, 1) := by decide +kernel
theorem dX6_factor_87 : decode cX6_factor 87 = .ok (.putfield 19, 3) := by decide +kernel
theorem dX6_factor_90 : decode cX6_factor 90 = .ok (.aload_n 0, 1) := by decide +kernel
theorem dX6_factor_91 : decode cX6_factor 91 = .ok (.iload_n 1, 1) := by decide +kernel
theorem dX6_factor_92 : decode cX6_factor 92 = .ok (.iconst 1, 1) := by decide +kernel
theorem dX6_factor_93 : decode cX6_factor 93 = .ok (.iadd, 1) := by decide +kernel
theorem dX6_factor_94 : decode cX6_factor 94 = .ok (.invokevirtual 92, 3) := by decide +kernel
theorem dX6_factor_97 : decode cX6_factor 97 = .ok (.aload_n 0, 1) := by decide +kernel
theorem dX6_factor_98 : decode cX6_factor 98 = .ok (.bipush 41, 2) := by decide +kernel
theorem dX6_factor_100 : decode cX6_factor 100 = .ok (.invokevirtual 95, 3) := by decide +kernel
theorem dX6_factor_103 : decode cX6_factor 103 = .ok (.return_, 1) := by decide +kernel
theorem dX6_number_0 : decode cX6_number 0 = .ok (.iconst 0, 1) := by decide +kernel
theorem dX6_number_1 : decode cX6_number 1 = .ok (.istore_n 1, 1) := by decide +kernel
theorem dX6_number_2 : decode cX6_number 2 = .ok (.iconst 0, 1) := by decide +kernel
theorem dX6_number_3 : decode cX6_number 3 = .ok (.istore_n 2, 1) := by decide +kernel
theorem dX6_number_4 : decode cX6_number 4 = .ok (.iload_n 2, 1) := by decide +kernel
theorem dX6_number_5 : decode cX6_number 5 = .ok (.iconst 3, 1) := by decide +kernel
theorem dX6_number_6 : decode cX6_number 6 = .ok (.if_icmp .ge 42, 3) := by decide +kernel
theorem dX6_number_9 : decode cX6_number 9 = .ok (.aload_n 0, 1) := by decide +kernel
theorem dX6_number_10 : decode cX6_number 10 = .ok (.invokevirtual 74, 3) := by decide +kernel
theorem dX6_number_13 : decode cX6_number 13 = .ok (.invokestatic 107, 3) := by decide +kernel
theorem dX6_number_16 : decode cX6_number 16 = .ok (.ifCond .eq 32, 3) := by decide +kernel
theorem dX6_number_19 : decode cX6_number 19 = .ok (.bipush 10, 2) := by decide +kernel
theorem dX6_number_21 : decode cX6_number 21 = .ok (.iload_n 1, 1) := by decide +kernel
theorem dX6_number_22 : decode cX6_number 22 = .ok (.imul, 1) := by decide +kernel
theorem dX6_number_23 : decode cX6_number 23 = .ok (.aload_n 0, 1) := by decide +kernel
theorem dX6_number_24 : decode cX6_number 24 = .ok (.invokevirtual 74, 3) := by decide +kernel
theorem dX6_number_27 : decode cX6_number 27 = .ok (.iadd, 1) := by decide +kernel
theorem dX6_number_28 : decode cX6_number 28 = .ok (.bipush 48, 2) := by decide +kernel
theorem dX6_number_30 : decode cX6_number 30 = .ok (.isub, 1) := by decide +kernel
theorem dX6_number_31 : decode cX6_number 31 = .ok (.istore_n 1, 1) := by decide +kernel
theorem dX6_number_32 : decode cX6_number 32 = .ok (.aload_n 0, 1) := by decide +kernel
theorem dX6_number_33 : decode cX6_number 33 = .ok (.dup, 1) := by decide +kernel
theorem dX6_number_34 : decode cX6_number 34 = .ok (.getfield 19, 3) := by decide +kernel
theorem dX6_number_37 : decode cX6_number 37 = .ok (.iconst 1, 1) := by decide +kernel
theorem dX6_number_38 : decode cX6_number 38 = .ok (.iadd, 1) := by decide +kernel
theorem dX6_number_39 : decode cX6_number 39 = .ok (.putfield 19, 3) := by decide +kernel
theorem dX6_number_42 : decode cX6_number 42 = .ok (.iinc 2 1, 3) := by decide +kernel
theorem dX6_number_45 : decode cX6_number 45 = .ok (.goto (-41), 3) := by decide +kernel
theorem dX6_number_48 : decode cX6_number 48 = .ok (.aload_n 0, 1) := by decide +kernel
theorem dX6_number_49 : decode cX6_number 49 = .ok (.invokevirtual 74, 3) := by decide +kernel
theorem dX6_number_52 : decode cX6_number 52 = .ok (.invokestatic 107, 3) := by decide +kernel
theorem dX6_number_55 : decode cX6_number 55 = .ok (.ifCond .eq 8, 3) := by decide +kernel
theorem dX6_number_58 : decode cX6_number 58 = .ok (.aload_n 0, 1) := by decide +kernel
theorem dX6_number_59 : decode cX6_number 59 = .ok (.iconst 2, 1) := by decide +kernel
theorem dX6_number_60 : decode cX6_number 60 = .ok (.invokevirtual 56, 3) := by decide +kernel
theorem dX6_number_63 : decode cX6_number 63 = .ok (.aload_n 0, 1) := by decide +kernel
theorem dX6_number_64 : decode cX6_number 64 = .ok (.sipush 256, 3) := by decide +kernel
theorem dX6_number_67 : decode cX6_number 67 = .ok (.iload_n 1, 1) := by decide +kernel
theorem dX6_number_68 : decode cX6_number 68 = .ok (.iadd, 1) := by decide +kernel
theorem dX6_number_69 : decode cX6_number 69 = .ok (.invokevirtual 85, 3) := by decide +kernel
theorem dX6_number_72 : decode cX6_number 72 = .ok (.return_, 1) := by decide +kernel
theorem dX6_isDigit_0 : decode cX6_isDigit 0 = .ok (.iload_n 0, 1) := by decide +kernel
theorem dX6_isDigit_1 : decode cX6_isDigit 1 = .ok (.bipush 48, 2) := by decide +kernel
theorem dX6_isDigit_3 : decode cX6_isDigit 3 = .ok (.if_icmp .lt 13, 3) := by decide +kernel
theorem dX6_isDigit_6 : decode cX6_isDigit 6 = .ok (.iload_n 0, 1) := by decide +kernel
theorem dX6_isDigit_7 : decode cX6_isDigit 7 = .ok (.bipush 57, 2) := by decide +kernel
theorem dX6_isDigit_9 : decode cX6_isDigit 9 = .ok (.if_icmp .gt 7, 3) := by decide +kernel
theorem dX6_isDigit_12 : decode cX6_isDigit 12 = .ok (.iconst 1, 1) := by decide +kernel
theorem dX6_isDigit_13 : decode cX6_isDigit 13 = .ok (.goto 4, 3) := by decide +kernel
theorem dX6_isDigit_16 : decode cX6_isDigit 16 = .ok (.iconst 0, 1) := by decide +kernel
theorem dX6_isDigit_17 : decode cX6_isDigit 17 = .ok (.ireturn, 1) := by decide +kernel
theorem dX6_isLetterOfStep_0 : decode cX6_isLetterOfStep 0 = .ok (.iload_n 0, 1) := by decide +kernel
theorem dX6_isLetterOfStep_1 : decode cX6_isLetterOfStep 1 = .ok (.tableswitch 145 91 122 #[143, 145, 145, 145, 145, 145, 145, 145, 145, 143, 145, 143, 145, 143, 145, 145, 145, 145, 145, 145, 145, 143, 145, 143, 143, 143, 143, 145, 143, 143, 143, 143], 143) := by decide +kernel
theorem dX6_isLetterOfStep_144 : decode cX6_isLetterOfStep 144 = .ok (.iconst 1, 1) := by decide +kernel
theorem dX6_isLetterOfStep_145 : decode cX6_isLetterOfStep 145 = .ok (.ireturn, 1) := by decide +kernel
theorem dX6_isLetterOfStep_146 : decode cX6_isLetterOfStep 146 = .ok (.iconst 0, 1) := by decide +kernel
theorem dX6_isLetterOfStep_147 : decode cX6_isLetterOfStep 147 = .ok (.ireturn, 1) := by decide +kernel
theorem dX6_isLetterOfFactor_0 : decode cX6_isLetterOfFactor 0 = .ok (.iload_n 0, 1) := by decide +kernel
theorem dX6_isLetterOfFactor_1 : decode cX6_isLetterOfFactor 1 = .ok (.tableswitch 97 103 122 #[95, 97, 95, 97, 95, 95, 97, 97, 97, 97, 97, 97, 97, 97, 97, 97, 97, 95, 95, 95], 95) := by decide +kernel
theorem dX6_isLetterOfFactor_96 : decode cX6_isLetterOfFactor 96 = .ok (.iconst 1, 1) := by decide +kernel
theorem dX6_isLetterOfFactor_97 : decode cX6_isLetterOfFactor 97 = .ok (.ireturn, 1) := by decide +kernel
theorem dX6_isLetterOfFactor_98 : decode cX6_isLetterOfFactor 98 = .ok (.iconst 0, 1) := by decide +kernel
theorem dX6_isLetterOfFactor_99 : decode cX6_isLetterOfFactor 99 = .ok (.ireturn, 1) := by decide +kernel
theorem dX7_init_0 : decode cX7_init 0 = .ok (.aload_n 0, 1) := by decide +kernel
theorem dX7_init_1 : decode cX7_init 1 = .ok (.invokespecial 1, 3) := by decide +kernel
theorem dX7_init_4 : decode cX7_init 4 = .ok (.aload_n 0, 1) := by decide +kernel
theorem dX7_init_5 : decode cX7_init 5 = .ok (.aload_n 1, 1) := by decide +kernel
theorem dX7_init_6 : decode cX7_init 6 = .ok (.putfield 7, 3) := by decide +kernel
theorem dX7_init_9 : decode cX7_init 9 = .ok (.aload_n 0, 1) := by decide +kernel
theorem dX7_init_10 : decode cX7_init 10 = .ok (.iload_n 2, 1) := by decide +kernel
theorem dX7_init_11 : decode cX7_init 11 = .ok (.putfield 13, 3) := by decide +kernel
theorem dX7_init_14 : decode cX7_init 14 = .ok (.return_, 1) := by decide +kernel
theorem dX8_init_0 : decode cX8_init 0 = .ok (.aload_n 0, 1) := by decide +kernel
theorem dX8_init_1 : decode cX8_init 1 = .ok (.invokespecial 1, 3) := by decide +kernel
theorem dX8_init_4 : decode cX8_init 4 = .ok (.aload_n 0, 1) := by decide +kernel
theorem dX8_init_5 : decode cX8_init 5 = .ok (.bipush 48, 2) := by decide +kernel
theorem dX8_init_7 : decode cX8_init 7 = .ok (.newarray .int, 2) := by decide +kernel
theorem dX8_init_9 : decode cX8_init 9 = .ok (.putfield 9, 3) := by decide +kernel
theorem dX8_init_12 : decode cX8_init 12 = .ok (.aload_n 0, 1) := by decide +kernel
theorem dX8_init_13 : decode cX8_init 13 = .ok (.iconst 0, 1) := by decide +kernel
theorem dX8_init_14 : decode cX8_init 14 = .ok (.putfield 13, 3) := by decide +kernel
theorem dX8_init_17 : decode cX8_init 17 = .ok (.aload_n 0, 1) := by decide +kernel
theorem dX8_init_18 : decode cX8_init 18 = .ok (.bipush 6, 2) := by decide +kernel
theorem dX8_init_20 : decode cX8_init 20 = .ok (.anewarray 17, 3) := by decide +kernel
theorem dX8_init_23 : decode cX8_init 23 = .ok (.putfield 19, 3) := by decide +kernel
theorem dX8_init_26 : decode cX8_init 26 = .ok (.aload_n 0, 1) := by decide +kernel
theorem dX8_init_27 : decode cX8_init 27 = .ok (.iconst 0, 1) := by decide +kernel
theorem dX8_init_28 : decode cX8_init 28 = .ok (.putfield 23, 3) := by decide +kernel
theorem dX8_init_31 : decode cX8_init 31 = .ok (.aload_n 0, 1) := by decide +kernel
theorem dX8_init_32 : decode cX8_init 32 = .ok (.bipush 10, 2) := by decide +kernel
theorem dX8_init_34 : decode cX8_init 34 = .ok (.anewarray 26, 3) := by decide +kernel
theorem dX8_init_37 : decode cX8_init 37 = .ok (.putfield 28, 3) := by decide +kernel
theorem dX8_init_40 : decode cX8_init 40 = .ok (.aload_n 0, 1) := by decide +kernel
theorem dX8_init_41 : decode cX8_init 41 = .ok (.iconst 0, 1) := by decide +kernel
theorem dX8_init_42 : decode cX8_init 42 = .ok (.putfield 32, 3) := by decide +kernel
theorem dX8_init_45 : decode cX8_init 45 = .ok (.aload_n 0, 1) := by decide +kernel
theorem dX8_init_46 : decode cX8_init 46 = .ok (.bipush 120, 2) := by decide +kernel
theorem dX8_init_48 : decode cX8_init 48 = .ok (.newarray .int, 2) := by decide +kernel
theorem dX8_init_50 : decode cX8_init 50 = .ok (.putfield 35, 3) := by decide +kernel
theorem dX8_init_53 : decode cX8_init 53 = .ok (.aload_n 0, 1) := by decide +kernel
theorem dX8_init_54 : decode cX8_init 54 = .ok (.iconst 0, 1) := by decide +kernel
theorem dX8_init_55 : decode cX8_init 55 = .ok (.putfield 38, 3) := by decide +kernel
theorem dX8_init_58 : decode cX8_init 58 = .ok (.aload_n 0, 1) := by decide +kernel
theorem dX8_init_59 : decode cX8_init 59 = .ok (.bipush 48, 2) := by decide +kernel
theorem dX8_init_61 : decode cX8_init 61 = .ok (.newarray .int, 2) := by decide +kernel
theorem dX8_init_63 : decode cX8_init 63 = .ok (.putfield 41, 3) := by decide +kernel
theorem dX8_init_66 : decode cX8_init 66 = .ok (.aload_n 0, 1) := by decide +kernel
theorem dX8_init_67 : decode cX8_init 67 = .ok (.new 44, 3) := by decide +kernel
theorem dX8_init_70 : decode cX8_init 70 = .ok (.dup, 1) := by decide +kernel
theorem dX8_init_71 : decode cX8_init 71 = .ok (.invokespecial 46, 3) := by decide +kernel
theorem dX8_init_74 : decode cX8_init 74 = .ok (.putfield 47, 3) := by decide +kernel
theorem dX8_init_77 : decode cX8_init 77 = .ok (.aload_n 0, 1) := by decide +kernel
theorem dX8_init_78 : decode cX8_init 78 = .ok (.new 51, 3) := by decide +kernel
theorem dX8_init_81 : decode cX8_init 81 = .ok (.dup, 1) := by decide +kernel
theorem dX8_init_82 : decode cX8_init 82 = .ok (.invokespecial 53, 3) := by decide +kernel
theorem dX8_init_85 : decode cX8_init 85 = .ok (.putfield 54, 3) := by decide +kernel
theorem dX8_init_88 : decode cX8_init 88 = .ok (.aload_n 0, 1) := by decide +kernel
theorem dX8_init_89 : decode cX8_init 89 = .ok (.new 58, 3) := by decide +kernel
theorem dX8_init_92 : decode cX8_init 92 = .ok (.dup, 1) := by decide +kernel
theorem dX8_init_93 : decode cX8_init 93 = .ok (.invokespecial 60, 3) := by decide +kernel
theorem dX8_init_96 : decode cX8_init 96 = .ok (.putfield 61, 3) := by decide +kernel
theorem dX8_init_99 : decode cX8_init 99 = .ok (.aload_n 0, 1) := by decide +kernel
theorem dX8_init_100 : decode cX8_init 100 = .ok (.new 58, 3) := by decide +kernel
theorem dX8_init_103 : decode cX8_init 103 = .ok (.dup, 1) := by decide +kernel
theorem dX8_init_104 : decode cX8_init 104 = .ok (.invokespecial 60, 3) := by decide +kernel
theorem dX8_init_107 : decode cX8_init 107 = .ok (.putfield 65, 3) := by decide +kernel
theorem dX8_init_110 : decode cX8_init 110 = .ok (.aload_n 0, 1) := by decide +kernel
theorem dX8_init_111 : decode cX8_init 111 = .ok (.new 68, 3) := by decide +kernel
theorem dX8_init_114 : decode cX8_init 114 = .ok (.dup, 1) := by decide +kernel
theorem dX8_init_115 : decode cX8_init 115 = .ok (.invokespecial 70, 3) := by decide +kernel
theorem dX8_init_118 : decode cX8_init 118 = .ok (.putfield 71, 3) := by decide +kernel
theorem dX8_init_121 : decode cX8_init 121 = .ok (.aload_n 0, 1) := by decide +kernel
theorem dX8_init_122 : decode cX8_init 122 = .ok (.new 75, 3) := by decide +kernel
theorem dX8_init_125 : decode cX8_init 125 = .ok (.dup, 1) := by decide +kernel
theorem dX8_init_126 : decode cX8_init 126 = .ok (.invokespecial 77, 3) := by decide +kernel
theorem dX8_init_129 : decode cX8_init 129 = .ok (.putfield 78, 3) := by decide +kernel
theorem dX8_init_132 : decode cX8_init 132 = .ok (.aload_n 0, 1) := by decide +kernel
theorem dX8_init_133 : decode cX8_init 133 = .ok (.aconst_null, 1) := by decide +kernel
theorem dX8_init_134 : decode cX8_init 134 = .ok (.putfield 82, 3) := by decide +kernel
theorem dX8_init_137 : decode cX8_init 137 = .ok (.return_, 1) := by decide +kernel
section
variable {d : Nat} {M : gM} {Z : Option Value → gM → Prop} {a0 a1 a2 a3 a4 a5 a6 a7 a8 a9 a10 a11 a12 : Option Value} {v s0 s1 s2 s3 s4 s5 s6 s7 s8 s9 s10 s11 : Value} {x y w : Int32} {o b u1 u2 : Nat}
/-! 70: X6_blame (I)V -/
theorem gd70 {pc : Nat} {r : Except _ _} (h : decode cX6_blame pc = r) : decode (gby 70) pc = r := h
theorem z70_0 : Run d 70 0 [some (.ref o), a1] [] M 0 0 Z ↔ Run d 70 1 [some (.ref o), a1] [.ref o] M 0 0 Z := R_local (gd70 dX6_blame_0) rfl rfl rfl
theorem z70_1 : Run d 70 1 [a0, a1] [.ref o] M 0 0 Z ↔ gObj M o 6 ∧ Run d 70 4 [a0, a1] [.int (M.1 o 6)] M 0 0 Z := R_getI (gd70 dX6_blame_1) rfl gf_6_31 rfl
theorem z70_4 : Run d 70 4 [a0, a1] [.int x] M 0 0 Z ↔ (¬ x = 0 → Run d 70 20 [a0, a1] [] M 0 0 Z) ∧ (¬ (¬ x = 0) → Run d 70 7 [a0, a1] [] M 0 0 Z) := R_if (gd70 dX6_blame_4) (show gTgt 4 16 = some 20 by decide) gIf_ne
theorem z70_7 : Run d 70 7 [some (.ref o), a1] [] M 0 0 Z ↔ Run d 70 8 [some (.ref o), a1] [.ref o] M 0 0 Z := R_local (gd70 dX6_blame_7) rfl rfl rfl
theorem z70_8 : Run d 70 8 [a0, some (.int x)] [s0] M 0 0 Z ↔ Run d 70 9 [a0, some (.int x)] [.int x, s0] M 0 0 Z := R_local (gd70 dX6_blame_8) rfl rfl rfl
theorem z70_9 : Run d 70 9 [a0, a1] [.int x, .ref o] M 0 0 Z ↔ gObj M o 6 ∧ Run d 70 12 [a0, a1] [] (gsI M o 6 x) 0 0 Z := R_putI (gd70 dX6_blame_9) rfl gf_6_31 (Or.inl rfl) rfl
theorem z70_12 : Run d 70 12 [some (.ref o), a1] [] M 0 0 Z ↔ Run d 70 13 [some (.ref o), a1] [.ref o] M 0 0 Z := R_local (gd70 dX6_blame_12) rfl rfl rfl
theorem z70_13 : Run d 70 13 [some (.ref o), a1] [s0] M 0 0 Z ↔ Run d 70 14 [some (.ref o), a1] [.ref o, s0] M 0 0 Z := R_local (gd70 dX6_blame_13) rfl rfl rfl
theorem z70_14 : Run d 70 14 [a0, a1] [.ref o, s0] M 0 0 Z ↔ gObj M o 6 ∧ Run d 70 17 [a0, a1] [.int (M.1 o 2), s0] M 0 0 Z := R_getI (gd70 dX6_blame_14) rfl gf_6_19 rfl
theorem z70_17 : Run d 70 17 [a0, a1] [.int x, .ref o] M 0 0 Z ↔ gObj M o 6 ∧ Run d 70 20 [a0, a1] [] (gsI M o 7 x) 0 0 Z := R_putI (gd70 dX6_blame_17) rfl gf_6_34 (Or.inl rfl) rfl
theorem z70_20 : Run d 70 20 [a0, a1] [] M 0 0 Z ↔ Z none M := R_vret (gd70 dX6_blame_20) rfl
theorem e70 : Call (d + 1) 70 [s0, s1] M Z ↔ Run d 70 0 [some s0, some s1] [] M 0 0 Z := Call_iff (Nat.lt_of_lt_of_le (Nat.lt_succ_self 70) (Nat.le_of_ble_eq_true rfl)) (Nat.le_of_ble_eq_true rfl)
/-! 71: X6_put (I)V -/
theorem gd71 {pc : Nat} {r : Except _ _} (h : decode cX6_put pc = r) : decode (gby 71) pc = r := h
theorem z71_0 : Run d 71 0 [some (.ref o), a1] [] M 0 0 Z ↔ Run d 71 1 [some (.ref o), a1] [.ref o] M 0 0 Z := R_local (gd71 dX6_put_0) rfl rfl rfl
theorem z71_1 : Run d 71 1 [a0, a1] [.ref o] M 0 0 Z ↔ gObj M o 6 ∧ Run d 71 4 [a0, a1] [.int (M.1 o 6)] M 0 0 Z := R_getI (gd71 dX6_put_1) rfl gf_6_31 rfl
theorem z71_4 : Run d 71 4 [a0, a1] [.int x] M 0 0 Z ↔ (¬ x = 0 → Run d 71 42 [a0, a1] [] M 0 0 Z) ∧ (¬ (¬ x = 0) → Run d 71 7 [a0, a1] [] M 0 0 Z) := R_if (gd71 dX6_put_4) (show gTgt 4 38 = some 42 by decide) gIf_ne
theorem z71_7 : Run d 71 7 [some (.ref o), a1] [] M 0 0 Z ↔ Run d 71 8 [some (.ref o), a1] [.ref o] M 0 0 Z := R_local (gd71 dX6_put_7) rfl rfl rfl
theorem z71_8 : Run d 71 8 [a0, a1] [.ref o] M 0 0 Z ↔ gObj M o 6 ∧ Run d 71 11 [a0, a1] [.int (M.1 o 4)] M 0 0 Z := R_getI (gd71 dX6_put_8) rfl gf_6_25 rfl
theorem z71_11 : Run d 71 11 [some (.ref o), a1] [s0] M 0 0 Z ↔ Run d 71 12 [some (.ref o), a1] [.ref o, s0] M 0 0 Z := R_local (gd71 dX6_put_11) rfl rfl rfl
theorem z71_12 : Run d 71 12 [a0, a1] [.ref o, s0] M 0 0 Z ↔ gObj M o 6 ∧ Run d 71 15 [a0, a1] [va_rf (M.2.1 o 3), s0] M 0 0 Z := R_getR (gd71 dX6_put_12) rfl gf_6_22 rfl
theorem z71_15 : Run d 71 15 [a0, a1] [.ref o, s0] M 0 0 Z ↔ (gTy M o).isSome = true ∧ Run d 71 16 [a0, a1] [.int (nI (gLen M o)), s0] M 0 0 Z := R_alen (gd71 dX6_put_15)
theorem z71_16 : Run d 71 16 [a0, a1] [s1, s0] M 0 0 Z ↔ Call d 110 [s0, s1] M (fun r M1 => Run d 71 19 [a0, a1] (r.toList ++ []) M1 0 0 Z) := R_call (gd71 dX6_put_16) rfl rfl rfl rfl rfl rfl gc_6_70 rfl (by decide) (Nat.le_of_ble_eq_true rfl) (Nat.le_of_ble_eq_true rfl) rfl rfl rfl (Nat.le_of_ble_eq_true rfl) (Nat.le_of_ble_eq_true rfl)
theorem z71_19 : Run d 71 19 [a0, a1] [.int x] M 0 0 Z ↔ (x = 0 → Run d 71 42 [a0, a1] [] M 0 0 Z) ∧ (¬ (x = 0) → Run d 71 22 [a0, a1] [] M 0 0 Z) := R_if (gd71 dX6_put_19) (show gTgt 19 23 = some 42 by decide) gIf_eq
theorem z71_22 : Run d 71 22 [some (.ref o), a1] [] M 0 0 Z ↔ Run d 71 23 [some (.ref o), a1] [.ref o] M 0 0 Z := R_local (gd71 dX6_put_22) rfl rfl rfl
theorem z71_23 : Run d 71 23 [a0, a1] [.ref o] M 0 0 Z ↔ gObj M o 6 ∧ Run d 71 26 [a0, a1] [va_rf (M.2.1 o 3)] M 0 0 Z := R_getR (gd71 dX6_put_23) rfl gf_6_22 rfl
theorem z71_26 : Run d 71 26 [some (.ref o), a1] [s0] M 0 0 Z ↔ Run d 71 27 [some (.ref o), a1] [.ref o, s0] M 0 0 Z := R_local (gd71 dX6_put_26) rfl rfl rfl
theorem z71_27 : Run d 71 27 [a0, a1] [.ref o, s0] M 0 0 Z ↔ gObj M o 6 ∧ Run d 71 30 [a0, a1] [.int (M.1 o 4), s0] M 0 0 Z := R_getI (gd71 dX6_put_27) rfl gf_6_25 rfl
theorem z71_30 : Run d 71 30 [a0, some (.int x)] [s1, s0] M 0 0 Z ↔ Run d 71 31 [a0, some (.int x)] [.int x, s1, s0] M 0 0 Z := R_local (gd71 dX6_put_30) rfl rfl rfl
theorem z71_31 : Run d 71 31 [a0, a1] [.int y, .int x, .ref o] M 0 0 Z ↔ gAr M o 0 ∧ gIn x (gLen M o) = true ∧ Run d 71 32 [a0, a1] [] (gsI M o x.toNatClampNeg y) 0 0 Z := R_iast (gd71 dX6_put_31)
theorem z71_32 : Run d 71 32 [some (.ref o), a1] [] M 0 0 Z ↔ Run d 71 33 [some (.ref o), a1] [.ref o] M 0 0 Z := R_local (gd71 dX6_put_32) rfl rfl rfl
theorem z71_33 : Run d 71 33 [a0, a1] [.ref o] M 0 0 Z ↔ Run d 71 34 [a0, a1] [.ref o, .ref o] M 0 0 Z := R_arith (gd71 dX6_put_33) rfl
theorem z71_34 : Run d 71 34 [a0, a1] [.ref o, s0] M 0 0 Z ↔ gObj M o 6 ∧ Run d 71 37 [a0, a1] [.int (M.1 o 4), s0] M 0 0 Z := R_getI (gd71 dX6_put_34) rfl gf_6_25 rfl
theorem z71_37 : Run d 71 37 [a0, a1] [s1, s0] M 0 0 Z ↔ Run d 71 38 [a0, a1] [.int 1, s1, s0] M 0 0 Z := R_iconst (gd71 dX6_put_37) (by decide)
theorem z71_38 : Run d 71 38 [a0, a1] [.int y, .int x, s0] M 0 0 Z ↔ Run d 71 39 [a0, a1] [.int (x + y), s0] M 0 0 Z := R_arith (gd71 dX6_put_38) rfl
theorem z71_39 : Run d 71 39 [a0, a1] [.int x, .ref o] M 0 0 Z ↔ gObj M o 6 ∧ Run d 71 42 [a0, a1] [] (gsI M o 4 x) 0 0 Z := R_putI (gd71 dX6_put_39) rfl gf_6_25 (Or.inl rfl) rfl
theorem z71_42 : Run d 71 42 [a0, a1] [] M 0 0 Z ↔ Z none M := R_vret (gd71 dX6_put_42) rfl
theorem e71 : Call (d + 1) 71 [s0, s1] M Z ↔ Run d 71 0 [some s0, some s1] [] M 0 0 Z := Call_iff (Nat.lt_of_lt_of_le (Nat.lt_succ_self 71) (Nat.le_of_ble_eq_true rfl)) (Nat.le_of_ble_eq_true rfl)
/-! 72: X6_pass (I)V -/
theorem gd72 {pc : Nat} {r : Except _ _} (h : decode cX6_pass pc = r) : decode (gby 72) pc = r := h
theorem z72_0 : Run d 72 0 [some (.ref o), a1] [] M 0 0 Z ↔ Run d 72 1 [some (.ref o), a1] [.ref o] M 0 0 Z := R_local (gd72 dX6_pass_0) rfl rfl rfl
theorem z72_1 : Run d 72 1 [a0, a1] [.ref b] M 0 0 Z ↔ gObj M b 6 ∧ Call d 69 [.ref b] M (fun r M1 => Run d 72 4 [a0, a1] (r.toList ++ []) M1 0 0 Z) := R_callV (gd72 dX6_pass_1) rfl rfl rfl rfl rfl rfl gc_6_74 rfl rfl (Nat.le_of_ble_eq_true rfl) (Nat.le_of_ble_eq_true rfl) rfl rfl (Nat.le_of_ble_eq_true rfl) (Nat.le_of_ble_eq_true rfl)
theorem z72_4 : Run d 72 4 [a0, some (.int x)] [s0] M 0 0 Z ↔ Run d 72 5 [a0, some (.int x)] [.int x, s0] M 0 0 Z := R_local (gd72 dX6_pass_4) rfl rfl rfl
theorem z72_5 : Run d 72 5 [a0, a1] [.int y, .int x] M 0 0 Z ↔ (¬ x = y → Run d 72 21 [a0, a1] [] M 0 0 Z) ∧ (¬ (¬ x = y) → Run d 72 8 [a0, a1] [] M 0 0 Z) := R_icmp (gd72 dX6_pass_5) (show gTgt 5 16 = some 21 by decide) gIf_ne
theorem z72_8 : Run d 72 8 [some (.ref o), a1] [] M 0 0 Z ↔ Run d 72 9 [some (.ref o), a1] [.ref o] M 0 0 Z := R_local (gd72 dX6_pass_8) rfl rfl rfl
theorem z72_9 : Run d 72 9 [a0, a1] [.ref o] M 0 0 Z ↔ Run d 72 10 [a0, a1] [.ref o, .ref o] M 0 0 Z := R_arith (gd72 dX6_pass_9) rfl
theorem z72_10 : Run d 72 10 [a0, a1] [.ref o, s0] M 0 0 Z ↔ gObj M o 6 ∧ Run d 72 13 [a0, a1] [.int (M.1 o 2), s0] M 0 0 Z := R_getI (gd72 dX6_pass_10) rfl gf_6_19 rfl
theorem z72_13 : Run d 72 13 [a0, a1] [s1, s0] M 0 0 Z ↔ Run d 72 14 [a0, a1] [.int 1, s1, s0] M 0 0 Z := R_iconst (gd72 dX6_pass_13) (by decide)
theorem z72_14 : Run d 72 14 [a0, a1] [.int y, .int x, s0] M 0 0 Z ↔ Run d 72 15 [a0, a1] [.int (x + y), s0] M 0 0 Z := R_arith (gd72 dX6_pass_14) rfl
theorem z72_15 : Run d 72 15 [a0, a1] [.int x, .ref o] M 0 0 Z ↔ gObj M o 6 ∧ Run d 72 18 [a0, a1] [] (gsI M o 2 x) 0 0 Z := R_putI (gd72 dX6_pass_15) rfl gf_6_19 (Or.inl rfl) rfl
theorem z72_18 : Run d 72 18 [a0, a1] [] M 0 0 Z ↔ Run d 72 26 [a0, a1] [] M 0 0 Z := R_goto (gd72 dX6_pass_18) (show gTgt 18 8 = some 26 by decide)
theorem z72_21 : Run d 72 21 [some (.ref o), a1] [] M 0 0 Z ↔ Run d 72 22 [some (.ref o), a1] [.ref o] M 0 0 Z := R_local (gd72 dX6_pass_21) rfl rfl rfl
theorem z72_22 : Run d 72 22 [a0, a1] [s0] M 0 0 Z ↔ Run d 72 23 [a0, a1] [.int 1, s0] M 0 0 Z := R_iconst (gd72 dX6_pass_22) (by decide)
theorem z72_23 : Run d 72 23 [a0, a1] [s1, .ref b] M 0 0 Z ↔ gObj M b 6 ∧ Call d 70 [.ref b, s1] M (fun r M1 => Run d 72 26 [a0, a1] (r.toList ++ []) M1 0 0 Z) := R_callV (gd72 dX6_pass_23) rfl rfl rfl rfl rfl rfl gc_6_56 rfl rfl (Nat.le_of_ble_eq_true rfl) (Nat.le_of_ble_eq_true rfl) rfl rfl (Nat.le_of_ble_eq_true rfl) (Nat.le_of_ble_eq_true rfl)
theorem z72_26 : Run d 72 26 [a0, a1] [] M 0 0 Z ↔ Z none M := R_vret (gd72 dX6_pass_26) rfl
theorem e72 : Call (d + 1) 72 [s0, s1] M Z ↔ Run d 72 0 [some s0, some s1] [] M 0 0 Z := Call_iff (Nat.lt_of_lt_of_le (Nat.lt_succ_self 72) (Nat.le_of_ble_eq_true rfl)) (Nat.le_of_ble_eq_true rfl)
/-! 73: X6_steps (I)V -/
theorem gd73 {pc : Nat} {r : Except _ _} (h : decode cX6_steps pc = r) : decode (gby 73) pc = r := h
theorem z73_0 : Run d 73 0 [some (.ref o), a1, a2, a3] [] M 0 0 Z ↔ Run d 73 1 [some (.ref o), a1, a2, a3] [.ref o] M 0 0 Z := R_local (gd73 dX6_steps_0) rfl rfl rfl
theorem z73_1 : Run d 73 1 [a0, a1, a2, a3] [.ref o] M 0 0 Z ↔ gObj M o 6 ∧ Run d 73 4 [a0, a1, a2, a3] [.int (M.1 o 6)] M 0 0 Z := R_getI (gd73 dX6_steps_1) rfl gf_6_31 rfl
theorem z73_4 : Run d 73 4 [a0, a1, a2, a3] [.int x] M 0 0 Z ↔ (¬ x = 0 → Run d 73 11 [a0, a1, a2, a3] [] M 0 0 Z) ∧ (¬ (¬ x = 0) → Run d 73 7 [a0, a1, a2, a3] [] M 0 0 Z) := R_if (gd73 dX6_steps_4) (show gTgt 4 7 = some 11 by decide) gIf_ne
theorem z73_7 : Run d 73 7 [a0, a1, a2, a3] [] M 0 0 Z ↔ Run d 73 8 [a0, a1, a2, a3] [.int 1] M 0 0 Z := R_iconst (gd73 dX6_steps_7) (by decide)
theorem z73_8 : Run d 73 8 [a0, a1, a2, a3] [s0] M 0 0 Z ↔ Run d 73 12 [a0, a1, a2, a3] [s0] M 0 0 Z := R_goto (gd73 dX6_steps_8) (show gTgt 8 4 = some 12 by decide)
theorem z73_11 : Run d 73 11 [a0, a1, a2, a3] [] M 0 0 Z ↔ Run d 73 12 [a0, a1, a2, a3] [.int 0] M 0 0 Z := R_iconst (gd73 dX6_steps_11) (by decide)
theorem z73_12 : Run d 73 12 [a0, a1, a2, a3] [.int x] M 0 0 Z ↔ Run d 73 13 [a0, a1, some (.int x), a3] [] M 0 0 Z := R_local (gd73 dX6_steps_12) rfl rfl rfl
theorem z73_13 : Run d 73 13 [a0, a1, a2, a3] [] M 0 0 Z ↔ Run d 73 14 [a0, a1, a2, a3] [.int 0] M 0 0 Z := R_iconst (gd73 dX6_steps_13) (by decide)
theorem z73_14 : Run d 73 14 [a0, a1, a2, a3] [.int x] M 0 0 Z ↔ Run d 73 15 [a0, a1, a2, some (.int x)] [] M 0 0 Z := R_local (gd73 dX6_steps_14) rfl rfl rfl
theorem z73_15 : Run d 73 15 [a0, a1, some (.int x), a3] [] M 0 0 Z ↔ Run d 73 16 [a0, a1, some (.int x), a3] [.int x] M 0 0 Z := R_local (gd73 dX6_steps_15) rfl rfl rfl
theorem z73_16 : Run d 73 16 [a0, a1, a2, a3] [.int x] M 0 0 Z ↔ (x = 0 → Run d 73 72 [a0, a1, a2, a3] [] M 0 0 Z) ∧ (¬ (x = 0) → Run d 73 19 [a0, a1, a2, a3] [] M 0 0 Z) := R_if (gd73 dX6_steps_16) (show gTgt 16 56 = some 72 by decide) gIf_eq
theorem z73_19 : Run d 73 19 [a0, a1, a2, some (.int x)] [] M 0 0 Z ↔ Run d 73 20 [a0, a1, a2, some (.int x)] [.int x] M 0 0 Z := R_local (gd73 dX6_steps_19) rfl rfl rfl
theorem z73_20 : Run d 73 20 [a0, a1, a2, a3] [s0] M 0 0 Z ↔ Run d 73 22 [a0, a1, a2, a3] [.int 120, s0] M 0 0 Z := R_bipush (gd73 dX6_steps_20) (by decide)
theorem z73_22 : Run d 73 22 [a0, a1, a2, a3] [.int y, .int x] M 0 0 Z ↔ (y < x → Run d 73 72 [a0, a1, a2, a3] [] M 0 0 Z) ∧ (¬ (y < x) → Run d 73 25 [a0, a1, a2, a3] [] M 0 0 Z) := R_icmp (gd73 dX6_steps_22) (show gTgt 22 50 = some 72 by decide) gIf_gt
theorem z73_25 : Run d 73 25 [some (.ref o), a1, a2, a3] [] M 0 0 Z ↔ Run d 73 26 [some (.ref o), a1, a2, a3] [.ref o] M 0 0 Z := R_local (gd73 dX6_steps_25) rfl rfl rfl
theorem z73_26 : Run d 73 26 [a0, some (.int x), a2, a3] [s0] M 0 0 Z ↔ Run d 73 27 [a0, some (.int x), a2, a3] [.int x, s0] M 0 0 Z := R_local (gd73 dX6_steps_26) rfl rfl rfl
theorem z73_27 : Run d 73 27 [a0, a1, a2, a3] [s1, .ref b] M 0 0 Z ↔ gObj M b 6 ∧ Call d 74 [.ref b, s1] M (fun r M1 => Run d 73 30 [a0, a1, a2, a3] (r.toList ++ []) M1 0 0 Z) := R_callV (gd73 dX6_steps_27) rfl rfl rfl rfl rfl rfl gc_6_78 rfl rfl (Nat.le_of_ble_eq_true rfl) (Nat.le_of_ble_eq_true rfl) rfl rfl (Nat.le_of_ble_eq_true rfl) (Nat.le_of_ble_eq_true rfl)
theorem z73_30 : Run d 73 30 [some (.ref o), a1, a2, a3] [] M 0 0 Z ↔ Run d 73 31 [some (.ref o), a1, a2, a3] [.ref o] M 0 0 Z := R_local (gd73 dX6_steps_30) rfl rfl rfl
theorem z73_31 : Run d 73 31 [a0, a1, a2, a3] [.ref o] M 0 0 Z ↔ gObj M o 6 ∧ Run d 73 34 [a0, a1, a2, a3] [.int (M.1 o 6)] M 0 0 Z := R_getI (gd73 dX6_steps_31) rfl gf_6_31 rfl
theorem z73_34 : Run d 73 34 [a0, a1, a2, a3] [.int x] M 0 0 Z ↔ (¬ x = 0 → Run d 73 50 [a0, a1, a2, a3] [] M 0 0 Z) ∧ (¬ (¬ x = 0) → Run d 73 37 [a0, a1, a2, a3] [] M 0 0 Z) := R_if (gd73 dX6_steps_34) (show gTgt 34 16 = some 50 by decide) gIf_ne
theorem z73_37 : Run d 73 37 [some (.ref o), a1, a2, a3] [] M 0 0 Z ↔ Run d 73 38 [some (.ref o), a1, a2, a3] [.ref o] M 0 0 Z := R_local (gd73 dX6_steps_37) rfl rfl rfl
theorem z73_38 : Run d 73 38 [a0, a1, a2, a3] [.ref b] M 0 0 Z ↔ gObj M b 6 ∧ Call d 69 [.ref b] M (fun r M1 => Run d 73 41 [a0, a1, a2, a3] (r.toList ++ []) M1 0 0 Z) := R_callV (gd73 dX6_steps_38) rfl rfl rfl rfl rfl rfl gc_6_74 rfl rfl (Nat.le_of_ble_eq_true rfl) (Nat.le_of_ble_eq_true rfl) rfl rfl (Nat.le_of_ble_eq_true rfl) (Nat.le_of_ble_eq_true rfl)
theorem z73_41 : Run d 73 41 [a0, a1, a2, a3] [s0] M 0 0 Z ↔ Run d 73 43 [a0, a1, a2, a3] [.int 59, s0] M 0 0 Z := R_bipush (gd73 dX6_steps_41) (by decide)
theorem z73_43 : Run d 73 43 [a0, a1, a2, a3] [.int y, .int x] M 0 0 Z ↔ (¬ x = y → Run d 73 50 [a0, a1, a2, a3] [] M 0 0 Z) ∧ (¬ (¬ x = y) → Run d 73 46 [a0, a1, a2, a3] [] M 0 0 Z) := R_icmp (gd73 dX6_steps_43) (show gTgt 43 7 = some 50 by decide) gIf_ne
theorem z73_46 : Run d 73 46 [a0, a1, a2, a3] [] M 0 0 Z ↔ Run d 73 47 [a0, a1, a2, a3] [.int 1] M 0 0 Z := R_iconst (gd73 dX6_steps_46) (by decide)
theorem z73_47 : Run d 73 47 [a0, a1, a2, a3] [s0] M 0 0 Z ↔ Run d 73 51 [a0, a1, a2, a3] [s0] M 0 0 Z := R_goto (gd73 dX6_steps_47) (show gTgt 47 4 = some 51 by decide)
theorem z73_50 : Run d 73 50 [a0, a1, a2, a3] [] M 0 0 Z ↔ Run d 73 51 [a0, a1, a2, a3] [.int 0] M 0 0 Z := R_iconst (gd73 dX6_steps_50) (by decide)
theorem z73_51 : Run d 73 51 [a0, a1, a2, a3] [.int x] M 0 0 Z ↔ Run d 73 52 [a0, a1, some (.int x), a3] [] M 0 0 Z := R_local (gd73 dX6_steps_51) rfl rfl rfl
theorem z73_52 : Run d 73 52 [a0, a1, some (.int x), a3] [] M 0 0 Z ↔ Run d 73 53 [a0, a1, some (.int x), a3] [.int x] M 0 0 Z := R_local (gd73 dX6_steps_52) rfl rfl rfl
theorem z73_53 : Run d 73 53 [a0, a1, a2, a3] [.int x] M 0 0 Z ↔ (x = 0 → Run d 73 66 [a0, a1, a2, a3] [] M 0 0 Z) ∧ (¬ (x = 0) → Run d 73 56 [a0, a1, a2, a3] [] M 0 0 Z) := R_if (gd73 dX6_steps_53) (show gTgt 53 13 = some 66 by decide) gIf_eq
theorem z73_56 : Run d 73 56 [some (.ref o), a1, a2, a3] [] M 0 0 Z ↔ Run d 73 57 [some (.ref o), a1, a2, a3] [.ref o] M 0 0 Z := R_local (gd73 dX6_steps_56) rfl rfl rfl
theorem z73_57 : Run d 73 57 [a0, a1, a2, a3] [.ref o] M 0 0 Z ↔ Run d 73 58 [a0, a1, a2, a3] [.ref o, .ref o] M 0 0 Z := R_arith (gd73 dX6_steps_57) rfl
theorem z73_58 : Run d 73 58 [a0, a1, a2, a3] [.ref o, s0] M 0 0 Z ↔ gObj M o 6 ∧ Run d 73 61 [a0, a1, a2, a3] [.int (M.1 o 2), s0] M 0 0 Z := R_getI (gd73 dX6_steps_58) rfl gf_6_19 rfl
theorem z73_61 : Run d 73 61 [a0, a1, a2, a3] [s1, s0] M 0 0 Z ↔ Run d 73 62 [a0, a1, a2, a3] [.int 1, s1, s0] M 0 0 Z := R_iconst (gd73 dX6_steps_61) (by decide)
theorem z73_62 : Run d 73 62 [a0, a1, a2, a3] [.int y, .int x, s0] M 0 0 Z ↔ Run d 73 63 [a0, a1, a2, a3] [.int (x + y), s0] M 0 0 Z := R_arith (gd73 dX6_steps_62) rfl
theorem z73_63 : Run d 73 63 [a0, a1, a2, a3] [.int x, .ref o] M 0 0 Z ↔ gObj M o 6 ∧ Run d 73 66 [a0, a1, a2, a3] [] (gsI M o 2 x) 0 0 Z := R_putI (gd73 dX6_steps_63) rfl gf_6_19 (Or.inl rfl) rfl
theorem z73_66 : Run d 73 66 [a0, a1, a2, some (.int x)] [] M 0 0 Z ↔ Run d 73 69 [a0, a1, a2, some (.int (x + 1))] [] M 0 0 Z := R_iinc (gd73 dX6_steps_66) (by decide) rfl rfl
theorem z73_69 : Run d 73 69 [a0, a1, a2, a3] [] M 0 0 Z ↔ Run d 73 15 [a0, a1, a2, a3] [] M 0 0 Z := R_goto (gd73 dX6_steps_69) (show gTgt 69 (-54) = some 15 by decide)
theorem z73_72 : Run d 73 72 [a0, a1, a2, a3] [] M 0 0 Z ↔ Z none M := R_vret (gd73 dX6_steps_72) rfl
theorem e73 : Call (d + 1) 73 [s0, s1] M Z ↔ Run d 73 0 [some s0, some s1, none, none] [] M 0 0 Z := Call_iff (Nat.lt_of_lt_of_le (Nat.lt_succ_self 73) (Nat.le_of_ble_eq_true rfl)) (Nat.le_of_ble_eq_true rfl)
/-! 74: X6_step (I)V -/
theorem gd74 {pc : Nat} {r : Except _ _} (h : decode cX6_step pc = r) : decode (gby 74) pc = r := h
theorem z74_0 : Run d 74 0 [some (.ref o), a1, a2] [] M 0 0 Z ↔ Run d 74 1 [some (.ref o), a1, a2] [.ref o] M 0 0 Z := R_local (gd74 dX6_step_0) rfl rfl rfl
theorem z74_1 : Run d 74 1 [a0, a1, a2] [.ref b] M 0 0 Z ↔ gObj M b 6 ∧ Call d 69 [.ref b] M (fun r M1 => Run d 74 4 [a0, a1, a2] (r.toList ++ []) M1 0 0 Z) := R_callV (gd74 dX6_step_1) rfl rfl rfl rfl rfl rfl gc_6_74 rfl rfl (Nat.le_of_ble_eq_true rfl) (Nat.le_of_ble_eq_true rfl) rfl rfl (Nat.le_of_ble_eq_true rfl) (Nat.le_of_ble_eq_true rfl)
theorem z74_4 : Run d 74 4 [a0, a1, a2] [.int x] M 0 0 Z ↔ Run d 74 5 [a0, a1, some (.int x)] [] M 0 0 Z := R_local (gd74 dX6_step_4) rfl rfl rfl
theorem z74_5 : Run d 74 5 [a0, a1, some (.int x)] [] M 0 0 Z ↔ Run d 74 6 [a0, a1, some (.int x)] [.int x] M 0 0 Z := R_local (gd74 dX6_step_5) rfl rfl rfl
theorem z74_6 : Run d 74 6 [a0, a1, a2] [s0] M 0 0 Z ↔ Call d 82 [s0] M (fun r M1 => Run d 74 9 [a0, a1, a2] (r.toList ++ []) M1 0 0 Z) := R_call (gd74 dX6_step_6) rfl rfl rfl rfl rfl rfl gc_6_81 rfl (by decide) (Nat.le_of_ble_eq_true rfl) (Nat.le_of_ble_eq_true rfl) rfl rfl rfl (Nat.le_of_ble_eq_true rfl) (Nat.le_of_ble_eq_true rfl)
theorem z74_9 : Run d 74 9 [a0, a1, a2] [.int x] M 0 0 Z ↔ (¬ x = 0 → Run d 74 20 [a0, a1, a2] [] M 0 0 Z) ∧ (¬ (¬ x = 0) → Run d 74 12 [a0, a1, a2] [] M 0 0 Z) := R_if (gd74 dX6_step_9) (show gTgt 9 11 = some 20 by decide) gIf_ne
theorem z74_12 : Run d 74 12 [some (.ref o), a1, a2] [] M 0 0 Z ↔ Run d 74 13 [some (.ref o), a1, a2] [.ref o] M 0 0 Z := R_local (gd74 dX6_step_12) rfl rfl rfl
theorem z74_13 : Run d 74 13 [a0, a1, a2] [s0] M 0 0 Z ↔ Run d 74 14 [a0, a1, a2] [.int 1, s0] M 0 0 Z := R_iconst (gd74 dX6_step_13) (by decide)
theorem z74_14 : Run d 74 14 [a0, a1, a2] [s1, .ref b] M 0 0 Z ↔ gObj M b 6 ∧ Call d 70 [.ref b, s1] M (fun r M1 => Run d 74 17 [a0, a1, a2] (r.toList ++ []) M1 0 0 Z) := R_callV (gd74 dX6_step_14) rfl rfl rfl rfl rfl rfl gc_6_56 rfl rfl (Nat.le_of_ble_eq_true rfl) (Nat.le_of_ble_eq_true rfl) rfl rfl (Nat.le_of_ble_eq_true rfl) (Nat.le_of_ble_eq_true rfl)
theorem z74_17 : Run d 74 17 [a0, a1, a2] [] M 0 0 Z ↔ Run d 74 88 [a0, a1, a2] [] M 0 0 Z := R_goto (gd74 dX6_step_17) (show gTgt 17 71 = some 88 by decide)
theorem z74_20 : Run d 74 20 [a0, a1, some (.int x)] [] M 0 0 Z ↔ Run d 74 21 [a0, a1, some (.int x)] [.int x] M 0 0 Z := R_local (gd74 dX6_step_20) rfl rfl rfl
theorem z74_21 : Run d 74 21 [a0, a1, a2] [s0] M 0 0 Z ↔ Run d 74 23 [a0, a1, a2] [.int 91, s0] M 0 0 Z := R_bipush (gd74 dX6_step_21) (by decide)
theorem z74_23 : Run d 74 23 [a0, a1, a2] [.int y, .int x] M 0 0 Z ↔ (¬ x = y → Run d 74 39 [a0, a1, a2] [] M 0 0 Z) ∧ (¬ (¬ x = y) → Run d 74 26 [a0, a1, a2] [] M 0 0 Z) := R_icmp (gd74 dX6_step_23) (show gTgt 23 16 = some 39 by decide) gIf_ne
theorem z74_26 : Run d 74 26 [a0, some (.int x), a2] [] M 0 0 Z ↔ Run d 74 27 [a0, some (.int x), a2] [.int x] M 0 0 Z := R_local (gd74 dX6_step_26) rfl rfl rfl
theorem z74_27 : Run d 74 27 [a0, a1, a2] [s0] M 0 0 Z ↔ Run d 74 28 [a0, a1, a2] [.int 3, s0] M 0 0 Z := R_iconst (gd74 dX6_step_27) (by decide)
theorem z74_28 : Run d 74 28 [a0, a1, a2] [.int y, .int x] M 0 0 Z ↔ (x < y → Run d 74 39 [a0, a1, a2] [] M 0 0 Z) ∧ (¬ (x < y) → Run d 74 31 [a0, a1, a2] [] M 0 0 Z) := R_icmp (gd74 dX6_step_28) (show gTgt 28 11 = some 39 by decide) gIf_lt
theorem z74_31 : Run d 74 31 [some (.ref o), a1, a2] [] M 0 0 Z ↔ Run d 74 32 [some (.ref o), a1, a2] [.ref o] M 0 0 Z := R_local (gd74 dX6_step_31) rfl rfl rfl
theorem z74_32 : Run d 74 32 [a0, a1, a2] [s0] M 0 0 Z ↔ Run d 74 33 [a0, a1, a2] [.int 3, s0] M 0 0 Z := R_iconst (gd74 dX6_step_32) (by decide)
theorem z74_33 : Run d 74 33 [a0, a1, a2] [s1, .ref b] M 0 0 Z ↔ gObj M b 6 ∧ Call d 70 [.ref b, s1] M (fun r M1 => Run d 74 36 [a0, a1, a2] (r.toList ++ []) M1 0 0 Z) := R_callV (gd74 dX6_step_33) rfl rfl rfl rfl rfl rfl gc_6_56 rfl rfl (Nat.le_of_ble_eq_true rfl) (Nat.le_of_ble_eq_true rfl) rfl rfl (Nat.le_of_ble_eq_true rfl) (Nat.le_of_ble_eq_true rfl)
theorem z74_36 : Run d 74 36 [a0, a1, a2] [] M 0 0 Z ↔ Run d 74 88 [a0, a1, a2] [] M 0 0 Z := R_goto (gd74 dX6_step_36) (show gTgt 36 52 = some 88 by decide)
theorem z74_39 : Run d 74 39 [some (.ref o), a1, a2] [] M 0 0 Z ↔ Run d 74 40 [some (.ref o), a1, a2] [.ref o] M 0 0 Z := R_local (gd74 dX6_step_39) rfl rfl rfl
theorem z74_40 : Run d 74 40 [a0, a1, a2] [.ref o] M 0 0 Z ↔ gObj M o 6 ∧ Run d 74 43 [a0, a1, a2] [.int (M.1 o 5)] M 0 0 Z := R_getI (gd74 dX6_step_40) rfl gf_6_28 rfl
theorem z74_43 : Run d 74 43 [a0, a1, a2] [s0] M 0 0 Z ↔ Run d 74 45 [a0, a1, a2] [.int 40, s0] M 0 0 Z := R_bipush (gd74 dX6_step_43) (by decide)
theorem z74_45 : Run d 74 45 [a0, a1, a2] [.int y, .int x] M 0 0 Z ↔ (x < y → Run d 74 56 [a0, a1, a2] [] M 0 0 Z) ∧ (¬ (x < y) → Run d 74 48 [a0, a1, a2] [] M 0 0 Z) := R_icmp (gd74 dX6_step_45) (show gTgt 45 11 = some 56 by decide) gIf_lt
theorem z74_48 : Run d 74 48 [some (.ref o), a1, a2] [] M 0 0 Z ↔ Run d 74 49 [some (.ref o), a1, a2] [.ref o] M 0 0 Z := R_local (gd74 dX6_step_48) rfl rfl rfl
theorem z74_49 : Run d 74 49 [a0, a1, a2] [s0] M 0 0 Z ↔ Run d 74 50 [a0, a1, a2] [.int 5, s0] M 0 0 Z := R_iconst (gd74 dX6_step_49) (by decide)
theorem z74_50 : Run d 74 50 [a0, a1, a2] [s1, .ref b] M 0 0 Z ↔ gObj M b 6 ∧ Call d 70 [.ref b, s1] M (fun r M1 => Run d 74 53 [a0, a1, a2] (r.toList ++ []) M1 0 0 Z) := R_callV (gd74 dX6_step_50) rfl rfl rfl rfl rfl rfl gc_6_56 rfl rfl (Nat.le_of_ble_eq_true rfl) (Nat.le_of_ble_eq_true rfl) rfl rfl (Nat.le_of_ble_eq_true rfl) (Nat.le_of_ble_eq_true rfl)
theorem z74_53 : Run d 74 53 [a0, a1, a2] [] M 0 0 Z ↔ Run d 74 88 [a0, a1, a2] [] M 0 0 Z := R_goto (gd74 dX6_step_53) (show gTgt 53 35 = some 88 by decide)
theorem z74_56 : Run d 74 56 [some (.ref o), a1, a2] [] M 0 0 Z ↔ Run d 74 57 [some (.ref o), a1, a2] [.ref o] M 0 0 Z := R_local (gd74 dX6_step_56) rfl rfl rfl
theorem z74_57 : Run d 74 57 [a0, a1, a2] [.ref o] M 0 0 Z ↔ Run d 74 58 [a0, a1, a2] [.ref o, .ref o] M 0 0 Z := R_arith (gd74 dX6_step_57) rfl
theorem z74_58 : Run d 74 58 [a0, a1, a2] [.ref o, s0] M 0 0 Z ↔ gObj M o 6 ∧ Run d 74 61 [a0, a1, a2] [.int (M.1 o 5), s0] M 0 0 Z := R_getI (gd74 dX6_step_58) rfl gf_6_28 rfl
theorem z74_61 : Run d 74 61 [a0, a1, a2] [s1, s0] M 0 0 Z ↔ Run d 74 62 [a0, a1, a2] [.int 1, s1, s0] M 0 0 Z := R_iconst (gd74 dX6_step_61) (by decide)
theorem z74_62 : Run d 74 62 [a0, a1, a2] [.int y, .int x, s0] M 0 0 Z ↔ Run d 74 63 [a0, a1, a2] [.int (x + y), s0] M 0 0 Z := R_arith (gd74 dX6_step_62) rfl
theorem z74_63 : Run d 74 63 [a0, a1, a2] [.int x, .ref o] M 0 0 Z ↔ gObj M o 6 ∧ Run d 74 66 [a0, a1, a2] [] (gsI M o 5 x) 0 0 Z := R_putI (gd74 dX6_step_63) rfl gf_6_28 (Or.inl rfl) rfl
theorem z74_66 : Run d 74 66 [some (.ref o), a1, a2] [] M 0 0 Z ↔ Run d 74 67 [some (.ref o), a1, a2] [.ref o] M 0 0 Z := R_local (gd74 dX6_step_66) rfl rfl rfl
theorem z74_67 : Run d 74 67 [a0, a1, a2] [.ref o] M 0 0 Z ↔ Run d 74 68 [a0, a1, a2] [.ref o, .ref o] M 0 0 Z := R_arith (gd74 dX6_step_67) rfl
theorem z74_68 : Run d 74 68 [a0, a1, a2] [.ref o, s0] M 0 0 Z ↔ gObj M o 6 ∧ Run d 74 71 [a0, a1, a2] [.int (M.1 o 2), s0] M 0 0 Z := R_getI (gd74 dX6_step_68) rfl gf_6_19 rfl
theorem z74_71 : Run d 74 71 [a0, a1, a2] [s1, s0] M 0 0 Z ↔ Run d 74 72 [a0, a1, a2] [.int 1, s1, s0] M 0 0 Z := R_iconst (gd74 dX6_step_71) (by decide)
theorem z74_72 : Run d 74 72 [a0, a1, a2] [.int y, .int x, s0] M 0 0 Z ↔ Run d 74 73 [a0, a1, a2] [.int (x + y), s0] M 0 0 Z := R_arith (gd74 dX6_step_72) rfl
theorem z74_73 : Run d 74 73 [a0, a1, a2] [.int x, .ref o] M 0 0 Z ↔ gObj M o 6 ∧ Run d 74 76 [a0, a1, a2] [] (gsI M o 2 x) 0 0 Z := R_putI (gd74 dX6_step_73) rfl gf_6_19 (Or.inl rfl) rfl
theorem z74_76 : Run d 74 76 [some (.ref o), a1, a2] [] M 0 0 Z ↔ Run d 74 77 [some (.ref o), a1, a2] [.ref o] M 0 0 Z := R_local (gd74 dX6_step_76) rfl rfl rfl
theorem z74_77 : Run d 74 77 [a0, a1, a2] [s0] M 0 0 Z ↔ Run d 74 79 [a0, a1, a2] [.int 59, s0] M 0 0 Z := R_bipush (gd74 dX6_step_77) (by decide)
theorem z74_79 : Run d 74 79 [a0, a1, a2] [s1, .ref b] M 0 0 Z ↔ gObj M b 6 ∧ Call d 71 [.ref b, s1] M (fun r M1 => Run d 74 82 [a0, a1, a2] (r.toList ++ []) M1 0 0 Z) := R_callV (gd74 dX6_step_79) rfl rfl rfl rfl rfl rfl gc_6_85 rfl rfl (Nat.le_of_ble_eq_true rfl) (Nat.le_of_ble_eq_true rfl) rfl rfl (Nat.le_of_ble_eq_true rfl) (Nat.le_of_ble_eq_true rfl)
theorem z74_82 : Run d 74 82 [some (.ref o), a1, a2] [] M 0 0 Z ↔ Run d 74 83 [some (.ref o), a1, a2] [.ref o] M 0 0 Z := R_local (gd74 dX6_step_82) rfl rfl rfl
theorem z74_83 : Run d 74 83 [a0, a1, some (.int x)] [s0] M 0 0 Z ↔ Run d 74 84 [a0, a1, some (.int x)] [.int x, s0] M 0 0 Z := R_local (gd74 dX6_step_83) rfl rfl rfl
theorem z74_84 : Run d 74 84 [a0, some (.int x), a2] [s1, s0] M 0 0 Z ↔ Run d 74 85 [a0, some (.int x), a2] [.int x, s1, s0] M 0 0 Z := R_local (gd74 dX6_step_84) rfl rfl rfl
theorem z74_85 : Run d 74 85 [a0, a1, a2] [s2, s1, .ref b] M 0 0 Z ↔ gObj M b 6 ∧ Call d 75 [.ref b, s1, s2] M (fun r M1 => Run d 74 88 [a0, a1, a2] (r.toList ++ []) M1 0 0 Z) := R_callV (gd74 dX6_step_85) rfl rfl rfl rfl rfl rfl gc_6_88 rfl rfl (Nat.le_of_ble_eq_true rfl) (Nat.le_of_ble_eq_true rfl) rfl rfl (Nat.le_of_ble_eq_true rfl) (Nat.le_of_ble_eq_true rfl)
theorem z74_88 : Run d 74 88 [a0, a1, a2] [] M 0 0 Z ↔ Z none M := R_vret (gd74 dX6_step_88) rfl
theorem e74 : Call (d + 1) 74 [s0, s1] M Z ↔ Run d 74 0 [some s0, some s1, none] [] M 0 0 Z := Call_iff (Nat.lt_of_lt_of_le (Nat.lt_succ_self 74) (Nat.le_of_ble_eq_true rfl)) (Nat.le_of_ble_eq_true rfl)
/-! 75: X6_restOfStep (II)V -/
theorem gd75 {pc : Nat} {r : Except _ _} (h : decode cX6_restOfStep pc = r) : decode (gby 75) pc = r := h
theorem z75_0 : Run d 75 0 [a0, some (.int x), a2] [] M 0 0 Z ↔ Run d 75 1 [a0, some (.int x), a2] [.int x] M 0 0 Z := R_local (gd75 dX6_restOfStep_0) rfl rfl rfl
theorem z75_1 : Run d 75 1 [a0, a1, a2] [.int x] M 0 0 Z ↔ (x = 91 → Run d 75 204 [a0, a1, a2] [] M 0 0 Z) ∧ (¬ x = 91 → ((x = 100 → Run d 75 144 [a0, a1, a2] [] M 0 0 Z) ∧ (¬ x = 100 → ((x = 104 → Run d 75 144 [a0, a1, a2] [] M 0 0 Z) ∧ (¬ x = 104 → ((x = 112 → Run d 75 157 [a0, a1, a2] [] M 0 0 Z) ∧ (¬ x = 112 → ((x = 117 → Run d 75 144 [a0, a1, a2] [] M 0 0 Z) ∧ (¬ x = 117 → ((x = 119 → Run d 75 144 [a0, a1, a2] [] M 0 0 Z) ∧ (¬ x = 119 → ((x = 120 → Run d 75 181 [a0, a1, a2] [] M 0 0 Z) ∧ (¬ x = 120 → ((x = 121 → Run d 75 181 [a0, a1, a2] [] M 0 0 Z) ∧ (¬ x = 121 → ((x = 122 → Run d 75 181 [a0, a1, a2] [] M 0 0 Z) ∧ (¬ x = 122 → (Run d 75 212 [a0, a1, a2] [] M 0 0 Z)))))))))))))))))) := R_table (tbl := [(91, 204), (100, 144), (104, 144), (112, 157), (117, 144), (119, 144), (120, 181), (121, 181), (122, 181)]) (dt := 212) (gd75 dX6_restOfStep_1) (by decide) (by decide) (by decide)
theorem z75_144 : Run d 75 144 [some (.ref o), a1, a2] [] M 0 0 Z ↔ Run d 75 145 [some (.ref o), a1, a2] [.ref o] M 0 0 Z := R_local (gd75 dX6_restOfStep_144) rfl rfl rfl
theorem z75_145 : Run d 75 145 [a0, a1, a2] [s0] M 0 0 Z ↔ Run d 75 146 [a0, a1, a2] [.int 0, s0] M 0 0 Z := R_iconst (gd75 dX6_restOfStep_145) (by decide)
theorem z75_146 : Run d 75 146 [a0, a1, a2] [s1, .ref b] M 0 0 Z ↔ gObj M b 6 ∧ Call d 77 [.ref b, s1] M (fun r M1 => Run d 75 149 [a0, a1, a2] (r.toList ++ []) M1 0 0 Z) := R_callV (gd75 dX6_restOfStep_146) rfl rfl rfl rfl rfl rfl gc_6_92 rfl rfl (Nat.le_of_ble_eq_true rfl) (Nat.le_of_ble_eq_true rfl) rfl rfl (Nat.le_of_ble_eq_true rfl) (Nat.le_of_ble_eq_true rfl)
theorem z75_149 : Run d 75 149 [some (.ref o), a1, a2] [] M 0 0 Z ↔ Run d 75 150 [some (.ref o), a1, a2] [.ref o] M 0 0 Z := R_local (gd75 dX6_restOfStep_149) rfl rfl rfl
theorem z75_150 : Run d 75 150 [a0, some (.int x), a2] [s0] M 0 0 Z ↔ Run d 75 151 [a0, some (.int x), a2] [.int x, s0] M 0 0 Z := R_local (gd75 dX6_restOfStep_150) rfl rfl rfl
theorem z75_151 : Run d 75 151 [a0, a1, a2] [s1, .ref b] M 0 0 Z ↔ gObj M b 6 ∧ Call d 71 [.ref b, s1] M (fun r M1 => Run d 75 154 [a0, a1, a2] (r.toList ++ []) M1 0 0 Z) := R_callV (gd75 dX6_restOfStep_151) rfl rfl rfl rfl rfl rfl gc_6_85 rfl rfl (Nat.le_of_ble_eq_true rfl) (Nat.le_of_ble_eq_true rfl) rfl rfl (Nat.le_of_ble_eq_true rfl) (Nat.le_of_ble_eq_true rfl)
theorem z75_154 : Run d 75 154 [a0, a1, a2] [] M 0 0 Z ↔ Run d 75 217 [a0, a1, a2] [] M 0 0 Z := R_goto (gd75 dX6_restOfStep_154) (show gTgt 154 63 = some 217 by decide)
theorem z75_157 : Run d 75 157 [some (.ref o), a1, a2] [] M 0 0 Z ↔ Run d 75 158 [some (.ref o), a1, a2] [.ref o] M 0 0 Z := R_local (gd75 dX6_restOfStep_157) rfl rfl rfl
theorem z75_158 : Run d 75 158 [a0, a1, a2] [s0] M 0 0 Z ↔ Run d 75 159 [a0, a1, a2] [.int 0, s0] M 0 0 Z := R_iconst (gd75 dX6_restOfStep_158) (by decide)
theorem z75_159 : Run d 75 159 [a0, a1, a2] [s1, .ref b] M 0 0 Z ↔ gObj M b 6 ∧ Call d 77 [.ref b, s1] M (fun r M1 => Run d 75 162 [a0, a1, a2] (r.toList ++ []) M1 0 0 Z) := R_callV (gd75 dX6_restOfStep_159) rfl rfl rfl rfl rfl rfl gc_6_92 rfl rfl (Nat.le_of_ble_eq_true rfl) (Nat.le_of_ble_eq_true rfl) rfl rfl (Nat.le_of_ble_eq_true rfl) (Nat.le_of_ble_eq_true rfl)
theorem z75_162 : Run d 75 162 [some (.ref o), a1, a2] [] M 0 0 Z ↔ Run d 75 163 [some (.ref o), a1, a2] [.ref o] M 0 0 Z := R_local (gd75 dX6_restOfStep_162) rfl rfl rfl
theorem z75_163 : Run d 75 163 [a0, a1, a2] [s0] M 0 0 Z ↔ Run d 75 165 [a0, a1, a2] [.int 46, s0] M 0 0 Z := R_bipush (gd75 dX6_restOfStep_163) (by decide)
theorem z75_165 : Run d 75 165 [a0, a1, a2] [s1, .ref b] M 0 0 Z ↔ gObj M b 6 ∧ Call d 72 [.ref b, s1] M (fun r M1 => Run d 75 168 [a0, a1, a2] (r.toList ++ []) M1 0 0 Z) := R_callV (gd75 dX6_restOfStep_165) rfl rfl rfl rfl rfl rfl gc_6_95 rfl rfl (Nat.le_of_ble_eq_true rfl) (Nat.le_of_ble_eq_true rfl) rfl rfl (Nat.le_of_ble_eq_true rfl) (Nat.le_of_ble_eq_true rfl)
theorem z75_168 : Run d 75 168 [some (.ref o), a1, a2] [] M 0 0 Z ↔ Run d 75 169 [some (.ref o), a1, a2] [.ref o] M 0 0 Z := R_local (gd75 dX6_restOfStep_168) rfl rfl rfl
theorem z75_169 : Run d 75 169 [a0, a1, a2] [s0] M 0 0 Z ↔ Run d 75 170 [a0, a1, a2] [.int 0, s0] M 0 0 Z := R_iconst (gd75 dX6_restOfStep_169) (by decide)
theorem z75_170 : Run d 75 170 [a0, a1, a2] [s1, .ref b] M 0 0 Z ↔ gObj M b 6 ∧ Call d 77 [.ref b, s1] M (fun r M1 => Run d 75 173 [a0, a1, a2] (r.toList ++ []) M1 0 0 Z) := R_callV (gd75 dX6_restOfStep_170) rfl rfl rfl rfl rfl rfl gc_6_92 rfl rfl (Nat.le_of_ble_eq_true rfl) (Nat.le_of_ble_eq_true rfl) rfl rfl (Nat.le_of_ble_eq_true rfl) (Nat.le_of_ble_eq_true rfl)
theorem z75_173 : Run d 75 173 [some (.ref o), a1, a2] [] M 0 0 Z ↔ Run d 75 174 [some (.ref o), a1, a2] [.ref o] M 0 0 Z := R_local (gd75 dX6_restOfStep_173) rfl rfl rfl
theorem z75_174 : Run d 75 174 [a0, some (.int x), a2] [s0] M 0 0 Z ↔ Run d 75 175 [a0, some (.int x), a2] [.int x, s0] M 0 0 Z := R_local (gd75 dX6_restOfStep_174) rfl rfl rfl
theorem z75_175 : Run d 75 175 [a0, a1, a2] [s1, .ref b] M 0 0 Z ↔ gObj M b 6 ∧ Call d 71 [.ref b, s1] M (fun r M1 => Run d 75 178 [a0, a1, a2] (r.toList ++ []) M1 0 0 Z) := R_callV (gd75 dX6_restOfStep_175) rfl rfl rfl rfl rfl rfl gc_6_85 rfl rfl (Nat.le_of_ble_eq_true rfl) (Nat.le_of_ble_eq_true rfl) rfl rfl (Nat.le_of_ble_eq_true rfl) (Nat.le_of_ble_eq_true rfl)
theorem z75_178 : Run d 75 178 [a0, a1, a2] [] M 0 0 Z ↔ Run d 75 217 [a0, a1, a2] [] M 0 0 Z := R_goto (gd75 dX6_restOfStep_178) (show gTgt 178 39 = some 217 by decide)
theorem z75_181 : Run d 75 181 [some (.ref o), a1, a2] [] M 0 0 Z ↔ Run d 75 182 [some (.ref o), a1, a2] [.ref o] M 0 0 Z := R_local (gd75 dX6_restOfStep_181) rfl rfl rfl
theorem z75_182 : Run d 75 182 [a0, a1, a2] [s0] M 0 0 Z ↔ Run d 75 184 [a0, a1, a2] [.int 61, s0] M 0 0 Z := R_bipush (gd75 dX6_restOfStep_182) (by decide)
theorem z75_184 : Run d 75 184 [a0, a1, a2] [s1, .ref b] M 0 0 Z ↔ gObj M b 6 ∧ Call d 72 [.ref b, s1] M (fun r M1 => Run d 75 187 [a0, a1, a2] (r.toList ++ []) M1 0 0 Z) := R_callV (gd75 dX6_restOfStep_184) rfl rfl rfl rfl rfl rfl gc_6_95 rfl rfl (Nat.le_of_ble_eq_true rfl) (Nat.le_of_ble_eq_true rfl) rfl rfl (Nat.le_of_ble_eq_true rfl) (Nat.le_of_ble_eq_true rfl)
theorem z75_187 : Run d 75 187 [some (.ref o), a1, a2] [] M 0 0 Z ↔ Run d 75 188 [some (.ref o), a1, a2] [.ref o] M 0 0 Z := R_local (gd75 dX6_restOfStep_187) rfl rfl rfl
theorem z75_188 : Run d 75 188 [a0, a1, a2] [s0] M 0 0 Z ↔ Run d 75 189 [a0, a1, a2] [.int 0, s0] M 0 0 Z := R_iconst (gd75 dX6_restOfStep_188) (by decide)
theorem z75_189 : Run d 75 189 [a0, a1, a2] [s1, .ref b] M 0 0 Z ↔ gObj M b 6 ∧ Call d 77 [.ref b, s1] M (fun r M1 => Run d 75 192 [a0, a1, a2] (r.toList ++ []) M1 0 0 Z) := R_callV (gd75 dX6_restOfStep_189) rfl rfl rfl rfl rfl rfl gc_6_92 rfl rfl (Nat.le_of_ble_eq_true rfl) (Nat.le_of_ble_eq_true rfl) rfl rfl (Nat.le_of_ble_eq_true rfl) (Nat.le_of_ble_eq_true rfl)
theorem z75_192 : Run d 75 192 [some (.ref o), a1, a2] [] M 0 0 Z ↔ Run d 75 193 [some (.ref o), a1, a2] [.ref o] M 0 0 Z := R_local (gd75 dX6_restOfStep_192) rfl rfl rfl
theorem z75_193 : Run d 75 193 [a0, some (.int x), a2] [s0] M 0 0 Z ↔ Run d 75 194 [a0, some (.int x), a2] [.int x, s0] M 0 0 Z := R_local (gd75 dX6_restOfStep_193) rfl rfl rfl
theorem z75_194 : Run d 75 194 [a0, a1, a2] [s1, s0] M 0 0 Z ↔ Run d 75 197 [a0, a1, a2] [.int 128, s1, s0] M 0 0 Z := R_sipush (gd75 dX6_restOfStep_194) (by decide)
theorem z75_197 : Run d 75 197 [a0, a1, a2] [.int y, .int x, s0] M 0 0 Z ↔ Run d 75 198 [a0, a1, a2] [.int (x + y), s0] M 0 0 Z := R_arith (gd75 dX6_restOfStep_197) rfl
theorem z75_198 : Run d 75 198 [a0, a1, a2] [s1, .ref b] M 0 0 Z ↔ gObj M b 6 ∧ Call d 71 [.ref b, s1] M (fun r M1 => Run d 75 201 [a0, a1, a2] (r.toList ++ []) M1 0 0 Z) := R_callV (gd75 dX6_restOfStep_198) rfl rfl rfl rfl rfl rfl gc_6_85 rfl rfl (Nat.le_of_ble_eq_true rfl) (Nat.le_of_ble_eq_true rfl) rfl rfl (Nat.le_of_ble_eq_true rfl) (Nat.le_of_ble_eq_true rfl)
theorem z75_201 : Run d 75 201 [a0, a1, a2] [] M 0 0 Z ↔ Run d 75 217 [a0, a1, a2] [] M 0 0 Z := R_goto (gd75 dX6_restOfStep_201) (show gTgt 201 16 = some 217 by decide)
theorem z75_204 : Run d 75 204 [some (.ref o), a1, a2] [] M 0 0 Z ↔ Run d 75 205 [some (.ref o), a1, a2] [.ref o] M 0 0 Z := R_local (gd75 dX6_restOfStep_204) rfl rfl rfl
theorem z75_205 : Run d 75 205 [a0, a1, some (.int x)] [s0] M 0 0 Z ↔ Run d 75 206 [a0, a1, some (.int x)] [.int x, s0] M 0 0 Z := R_local (gd75 dX6_restOfStep_205) rfl rfl rfl
theorem z75_206 : Run d 75 206 [a0, a1, a2] [s1, .ref b] M 0 0 Z ↔ gObj M b 6 ∧ Call d 76 [.ref b, s1] M (fun r M1 => Run d 75 209 [a0, a1, a2] (r.toList ++ []) M1 0 0 Z) := R_callV (gd75 dX6_restOfStep_206) rfl rfl rfl rfl rfl rfl gc_6_98 rfl rfl (Nat.le_of_ble_eq_true rfl) (Nat.le_of_ble_eq_true rfl) rfl rfl (Nat.le_of_ble_eq_true rfl) (Nat.le_of_ble_eq_true rfl)
theorem z75_209 : Run d 75 209 [a0, a1, a2] [] M 0 0 Z ↔ Run d 75 217 [a0, a1, a2] [] M 0 0 Z := R_goto (gd75 dX6_restOfStep_209) (show gTgt 209 8 = some 217 by decide)
theorem z75_212 : Run d 75 212 [some (.ref o), a1, a2] [] M 0 0 Z ↔ Run d 75 213 [some (.ref o), a1, a2] [.ref o] M 0 0 Z := R_local (gd75 dX6_restOfStep_212) rfl rfl rfl
theorem z75_213 : Run d 75 213 [a0, some (.int x), a2] [s0] M 0 0 Z ↔ Run d 75 214 [a0, some (.int x), a2] [.int x, s0] M 0 0 Z := R_local (gd75 dX6_restOfStep_213) rfl rfl rfl
theorem z75_214 : Run d 75 214 [a0, a1, a2] [s1, .ref b] M 0 0 Z ↔ gObj M b 6 ∧ Call d 71 [.ref b, s1] M (fun r M1 => Run d 75 217 [a0, a1, a2] (r.toList ++ []) M1 0 0 Z) := R_callV (gd75 dX6_restOfStep_214) rfl rfl rfl rfl rfl rfl gc_6_85 rfl rfl (Nat.le_of_ble_eq_true rfl) (Nat.le_of_ble_eq_true rfl) rfl rfl (Nat.le_of_ble_eq_true rfl) (Nat.le_of_ble_eq_true rfl)
theorem z75_217 : Run d 75 217 [a0, a1, a2] [] M 0 0 Z ↔ Z none M := R_vret (gd75 dX6_restOfStep_217) rfl
theorem e75 : Call (d + 1) 75 [s0, s1, s2] M Z ↔ Run d 75 0 [some s0, some s1, some s2] [] M 0 0 Z := Call_iff (Nat.lt_of_lt_of_le (Nat.lt_succ_self 75) (Nat.le_of_ble_eq_true rfl)) (Nat.le_of_ble_eq_true rfl)
/-! 76: X6_restOfRow (I)V -/
theorem gd76 {pc : Nat} {r : Except _ _} (h : decode cX6_restOfRow pc = r) : decode (gby 76) pc = r := h
theorem z76_0 : Run d 76 0 [some (.ref o), a1, a2] [] M 0 0 Z ↔ Run d 76 1 [some (.ref o), a1, a2] [.ref o] M 0 0 Z := R_local (gd76 dX6_restOfRow_0) rfl rfl rfl
theorem z76_1 : Run d 76 1 [a0, a1, a2] [s0] M 0 0 Z ↔ Run d 76 2 [a0, a1, a2] [.int 0, s0] M 0 0 Z := R_iconst (gd76 dX6_restOfRow_1) (by decide)
theorem z76_2 : Run d 76 2 [a0, a1, a2] [s1, .ref b] M 0 0 Z ↔ gObj M b 6 ∧ Call d 77 [.ref b, s1] M (fun r M1 => Run d 76 5 [a0, a1, a2] (r.toList ++ []) M1 0 0 Z) := R_callV (gd76 dX6_restOfRow_2) rfl rfl rfl rfl rfl rfl gc_6_92 rfl rfl (Nat.le_of_ble_eq_true rfl) (Nat.le_of_ble_eq_true rfl) rfl rfl (Nat.le_of_ble_eq_true rfl) (Nat.le_of_ble_eq_true rfl)
theorem z76_5 : Run d 76 5 [some (.ref o), a1, a2] [] M 0 0 Z ↔ Run d 76 6 [some (.ref o), a1, a2] [.ref o] M 0 0 Z := R_local (gd76 dX6_restOfRow_5) rfl rfl rfl
theorem z76_6 : Run d 76 6 [a0, a1, a2] [s0] M 0 0 Z ↔ Run d 76 8 [a0, a1, a2] [.int 58, s0] M 0 0 Z := R_bipush (gd76 dX6_restOfRow_6) (by decide)
theorem z76_8 : Run d 76 8 [a0, a1, a2] [s1, .ref b] M 0 0 Z ↔ gObj M b 6 ∧ Call d 72 [.ref b, s1] M (fun r M1 => Run d 76 11 [a0, a1, a2] (r.toList ++ []) M1 0 0 Z) := R_callV (gd76 dX6_restOfRow_8) rfl rfl rfl rfl rfl rfl gc_6_95 rfl rfl (Nat.le_of_ble_eq_true rfl) (Nat.le_of_ble_eq_true rfl) rfl rfl (Nat.le_of_ble_eq_true rfl) (Nat.le_of_ble_eq_true rfl)
theorem z76_11 : Run d 76 11 [some (.ref o), a1, a2] [] M 0 0 Z ↔ Run d 76 12 [some (.ref o), a1, a2] [.ref o] M 0 0 Z := R_local (gd76 dX6_restOfRow_11) rfl rfl rfl
theorem z76_12 : Run d 76 12 [a0, a1, a2] [s0] M 0 0 Z ↔ Run d 76 14 [a0, a1, a2] [.int 91, s0] M 0 0 Z := R_bipush (gd76 dX6_restOfRow_12) (by decide)
theorem z76_14 : Run d 76 14 [a0, a1, a2] [s1, .ref b] M 0 0 Z ↔ gObj M b 6 ∧ Call d 71 [.ref b, s1] M (fun r M1 => Run d 76 17 [a0, a1, a2] (r.toList ++ []) M1 0 0 Z) := R_callV (gd76 dX6_restOfRow_14) rfl rfl rfl rfl rfl rfl gc_6_85 rfl rfl (Nat.le_of_ble_eq_true rfl) (Nat.le_of_ble_eq_true rfl) rfl rfl (Nat.le_of_ble_eq_true rfl) (Nat.le_of_ble_eq_true rfl)
theorem z76_17 : Run d 76 17 [some (.ref o), a1, a2] [] M 0 0 Z ↔ Run d 76 18 [some (.ref o), a1, a2] [.ref o] M 0 0 Z := R_local (gd76 dX6_restOfRow_17) rfl rfl rfl
theorem z76_18 : Run d 76 18 [a0, a1, a2] [.ref o] M 0 0 Z ↔ gObj M o 6 ∧ Run d 76 21 [a0, a1, a2] [.int (M.1 o 4)] M 0 0 Z := R_getI (gd76 dX6_restOfRow_18) rfl gf_6_25 rfl
theorem z76_21 : Run d 76 21 [a0, a1, a2] [.int x] M 0 0 Z ↔ Run d 76 22 [a0, a1, some (.int x)] [] M 0 0 Z := R_local (gd76 dX6_restOfRow_21) rfl rfl rfl
theorem z76_22 : Run d 76 22 [some (.ref o), a1, a2] [] M 0 0 Z ↔ Run d 76 23 [some (.ref o), a1, a2] [.ref o] M 0 0 Z := R_local (gd76 dX6_restOfRow_22) rfl rfl rfl
theorem z76_23 : Run d 76 23 [a0, a1, a2] [s0] M 0 0 Z ↔ Run d 76 24 [a0, a1, a2] [.int 0, s0] M 0 0 Z := R_iconst (gd76 dX6_restOfRow_23) (by decide)
theorem z76_24 : Run d 76 24 [a0, a1, a2] [s1, .ref b] M 0 0 Z ↔ gObj M b 6 ∧ Call d 71 [.ref b, s1] M (fun r M1 => Run d 76 27 [a0, a1, a2] (r.toList ++ []) M1 0 0 Z) := R_callV (gd76 dX6_restOfRow_24) rfl rfl rfl rfl rfl rfl gc_6_85 rfl rfl (Nat.le_of_ble_eq_true rfl) (Nat.le_of_ble_eq_true rfl) rfl rfl (Nat.le_of_ble_eq_true rfl) (Nat.le_of_ble_eq_true rfl)
theorem z76_27 : Run d 76 27 [some (.ref o), a1, a2] [] M 0 0 Z ↔ Run d 76 28 [some (.ref o), a1, a2] [.ref o] M 0 0 Z := R_local (gd76 dX6_restOfRow_27) rfl rfl rfl
theorem z76_28 : Run d 76 28 [a0, some (.int x), a2] [s0] M 0 0 Z ↔ Run d 76 29 [a0, some (.int x), a2] [.int x, s0] M 0 0 Z := R_local (gd76 dX6_restOfRow_28) rfl rfl rfl
theorem z76_29 : Run d 76 29 [a0, a1, a2] [s1, s0] M 0 0 Z ↔ Run d 76 30 [a0, a1, a2] [.int 1, s1, s0] M 0 0 Z := R_iconst (gd76 dX6_restOfRow_29) (by decide)
theorem z76_30 : Run d 76 30 [a0, a1, a2] [.int y, .int x, s0] M 0 0 Z ↔ Run d 76 31 [a0, a1, a2] [.int (x + y), s0] M 0 0 Z := R_arith (gd76 dX6_restOfRow_30) rfl
theorem z76_31 : Run d 76 31 [a0, a1, a2] [s1, .ref b] M 0 0 Z ↔ gObj M b 6 ∧ Call d 73 [.ref b, s1] M (fun r M1 => Run d 76 34 [a0, a1, a2] (r.toList ++ []) M1 0 0 Z) := R_callV (gd76 dX6_restOfRow_31) rfl rfl rfl rfl rfl rfl gc_6_52 rfl rfl (Nat.le_of_ble_eq_true rfl) (Nat.le_of_ble_eq_true rfl) rfl rfl (Nat.le_of_ble_eq_true rfl) (Nat.le_of_ble_eq_true rfl)
theorem z76_34 : Run d 76 34 [some (.ref o), a1, a2] [] M 0 0 Z ↔ Run d 76 35 [some (.ref o), a1, a2] [.ref o] M 0 0 Z := R_local (gd76 dX6_restOfRow_34) rfl rfl rfl
theorem z76_35 : Run d 76 35 [a0, a1, a2] [s0] M 0 0 Z ↔ Run d 76 37 [a0, a1, a2] [.int 93, s0] M 0 0 Z := R_bipush (gd76 dX6_restOfRow_35) (by decide)
theorem z76_37 : Run d 76 37 [a0, a1, a2] [s1, .ref b] M 0 0 Z ↔ gObj M b 6 ∧ Call d 72 [.ref b, s1] M (fun r M1 => Run d 76 40 [a0, a1, a2] (r.toList ++ []) M1 0 0 Z) := R_callV (gd76 dX6_restOfRow_37) rfl rfl rfl rfl rfl rfl gc_6_95 rfl rfl (Nat.le_of_ble_eq_true rfl) (Nat.le_of_ble_eq_true rfl) rfl rfl (Nat.le_of_ble_eq_true rfl) (Nat.le_of_ble_eq_true rfl)
theorem z76_40 : Run d 76 40 [some (.ref o), a1, a2] [] M 0 0 Z ↔ Run d 76 41 [some (.ref o), a1, a2] [.ref o] M 0 0 Z := R_local (gd76 dX6_restOfRow_40) rfl rfl rfl
theorem z76_41 : Run d 76 41 [a0, a1, a2] [s0] M 0 0 Z ↔ Run d 76 43 [a0, a1, a2] [.int 93, s0] M 0 0 Z := R_bipush (gd76 dX6_restOfRow_41) (by decide)
theorem z76_43 : Run d 76 43 [a0, a1, a2] [s1, .ref b] M 0 0 Z ↔ gObj M b 6 ∧ Call d 71 [.ref b, s1] M (fun r M1 => Run d 76 46 [a0, a1, a2] (r.toList ++ []) M1 0 0 Z) := R_callV (gd76 dX6_restOfRow_43) rfl rfl rfl rfl rfl rfl gc_6_85 rfl rfl (Nat.le_of_ble_eq_true rfl) (Nat.le_of_ble_eq_true rfl) rfl rfl (Nat.le_of_ble_eq_true rfl) (Nat.le_of_ble_eq_true rfl)
theorem z76_46 : Run d 76 46 [some (.ref o), a1, a2] [] M 0 0 Z ↔ Run d 76 47 [some (.ref o), a1, a2] [.ref o] M 0 0 Z := R_local (gd76 dX6_restOfRow_46) rfl rfl rfl
theorem z76_47 : Run d 76 47 [a0, a1, a2] [.ref o] M 0 0 Z ↔ gObj M o 6 ∧ Run d 76 50 [a0, a1, a2] [.int (M.1 o 6)] M 0 0 Z := R_getI (gd76 dX6_restOfRow_47) rfl gf_6_31 rfl
theorem z76_50 : Run d 76 50 [a0, a1, a2] [.int x] M 0 0 Z ↔ (¬ x = 0 → Run d 76 75 [a0, a1, a2] [] M 0 0 Z) ∧ (¬ (¬ x = 0) → Run d 76 53 [a0, a1, a2] [] M 0 0 Z) := R_if (gd76 dX6_restOfRow_50) (show gTgt 50 25 = some 75 by decide) gIf_ne
theorem z76_53 : Run d 76 53 [a0, a1, some (.int x)] [] M 0 0 Z ↔ Run d 76 54 [a0, a1, some (.int x)] [.int x] M 0 0 Z := R_local (gd76 dX6_restOfRow_53) rfl rfl rfl
theorem z76_54 : Run d 76 54 [some (.ref o), a1, a2] [s0] M 0 0 Z ↔ Run d 76 55 [some (.ref o), a1, a2] [.ref o, s0] M 0 0 Z := R_local (gd76 dX6_restOfRow_54) rfl rfl rfl
theorem z76_55 : Run d 76 55 [a0, a1, a2] [.ref o, s0] M 0 0 Z ↔ gObj M o 6 ∧ Run d 76 58 [a0, a1, a2] [va_rf (M.2.1 o 3), s0] M 0 0 Z := R_getR (gd76 dX6_restOfRow_55) rfl gf_6_22 rfl
theorem z76_58 : Run d 76 58 [a0, a1, a2] [.ref o, s0] M 0 0 Z ↔ (gTy M o).isSome = true ∧ Run d 76 59 [a0, a1, a2] [.int (nI (gLen M o)), s0] M 0 0 Z := R_alen (gd76 dX6_restOfRow_58)
theorem z76_59 : Run d 76 59 [a0, a1, a2] [s1, s0] M 0 0 Z ↔ Call d 110 [s0, s1] M (fun r M1 => Run d 76 62 [a0, a1, a2] (r.toList ++ []) M1 0 0 Z) := R_call (gd76 dX6_restOfRow_59) rfl rfl rfl rfl rfl rfl gc_6_70 rfl (by decide) (Nat.le_of_ble_eq_true rfl) (Nat.le_of_ble_eq_true rfl) rfl rfl rfl (Nat.le_of_ble_eq_true rfl) (Nat.le_of_ble_eq_true rfl)
theorem z76_62 : Run d 76 62 [a0, a1, a2] [.int x] M 0 0 Z ↔ (x = 0 → Run d 76 75 [a0, a1, a2] [] M 0 0 Z) ∧ (¬ (x = 0) → Run d 76 65 [a0, a1, a2] [] M 0 0 Z) := R_if (gd76 dX6_restOfRow_62) (show gTgt 62 13 = some 75 by decide) gIf_eq
theorem z76_65 : Run d 76 65 [some (.ref o), a1, a2] [] M 0 0 Z ↔ Run d 76 66 [some (.ref o), a1, a2] [.ref o] M 0 0 Z := R_local (gd76 dX6_restOfRow_65) rfl rfl rfl
theorem z76_66 : Run d 76 66 [a0, a1, a2] [.ref o] M 0 0 Z ↔ gObj M o 6 ∧ Run d 76 69 [a0, a1, a2] [va_rf (M.2.1 o 3)] M 0 0 Z := R_getR (gd76 dX6_restOfRow_66) rfl gf_6_22 rfl
theorem z76_69 : Run d 76 69 [a0, a1, some (.int x)] [s0] M 0 0 Z ↔ Run d 76 70 [a0, a1, some (.int x)] [.int x, s0] M 0 0 Z := R_local (gd76 dX6_restOfRow_69) rfl rfl rfl
theorem z76_70 : Run d 76 70 [some (.ref o), a1, a2] [s1, s0] M 0 0 Z ↔ Run d 76 71 [some (.ref o), a1, a2] [.ref o, s1, s0] M 0 0 Z := R_local (gd76 dX6_restOfRow_70) rfl rfl rfl
theorem z76_71 : Run d 76 71 [a0, a1, a2] [.ref o, s1, s0] M 0 0 Z ↔ gObj M o 6 ∧ Run d 76 74 [a0, a1, a2] [.int (M.1 o 4), s1, s0] M 0 0 Z := R_getI (gd76 dX6_restOfRow_71) rfl gf_6_25 rfl
theorem z76_74 : Run d 76 74 [a0, a1, a2] [.int y, .int x, .ref o] M 0 0 Z ↔ gAr M o 0 ∧ gIn x (gLen M o) = true ∧ Run d 76 75 [a0, a1, a2] [] (gsI M o x.toNatClampNeg y) 0 0 Z := R_iast (gd76 dX6_restOfRow_74)
theorem z76_75 : Run d 76 75 [a0, a1, a2] [] M 0 0 Z ↔ Z none M := R_vret (gd76 dX6_restOfRow_75) rfl
theorem e76 : Call (d + 1) 76 [s0, s1] M Z ↔ Run d 76 0 [some s0, some s1, none] [] M 0 0 Z := Call_iff (Nat.lt_of_lt_of_le (Nat.lt_succ_self 76) (Nat.le_of_ble_eq_true rfl)) (Nat.le_of_ble_eq_true rfl)
/-! 77: X6_sum (I)V -/
theorem gd77 {pc : Nat} {r : Except _ _} (h : decode cX6_sum pc = r) : decode (gby 77) pc = r := h
theorem z77_0 : Run d 77 0 [some (.ref o), a1, a2, a3] [] M 0 0 Z ↔ Run d 77 1 [some (.ref o), a1, a2, a3] [.ref o] M 0 0 Z := R_local (gd77 dX6_sum_0) rfl rfl rfl
theorem z77_1 : Run d 77 1 [a0, some (.int x), a2, a3] [s0] M 0 0 Z ↔ Run d 77 2 [a0, some (.int x), a2, a3] [.int x, s0] M 0 0 Z := R_local (gd77 dX6_sum_1) rfl rfl rfl
theorem z77_2 : Run d 77 2 [a0, a1, a2, a3] [s1, .ref b] M 0 0 Z ↔ gObj M b 6 ∧ Call d 78 [.ref b, s1] M (fun r M1 => Run d 77 5 [a0, a1, a2, a3] (r.toList ++ []) M1 0 0 Z) := R_callV (gd77 dX6_sum_2) rfl rfl rfl rfl rfl rfl gc_6_101 rfl rfl (Nat.le_of_ble_eq_true rfl) (Nat.le_of_ble_eq_true rfl) rfl rfl (Nat.le_of_ble_eq_true rfl) (Nat.le_of_ble_eq_true rfl)
theorem z77_5 : Run d 77 5 [a0, a1, a2, a3] [] M 0 0 Z ↔ Run d 77 6 [a0, a1, a2, a3] [.int 0] M 0 0 Z := R_iconst (gd77 dX6_sum_5) (by decide)
theorem z77_6 : Run d 77 6 [a0, a1, a2, a3] [.int x] M 0 0 Z ↔ Run d 77 7 [a0, a1, some (.int x), a3] [] M 0 0 Z := R_local (gd77 dX6_sum_6) rfl rfl rfl
theorem z77_7 : Run d 77 7 [a0, a1, some (.int x), a3] [] M 0 0 Z ↔ Run d 77 8 [a0, a1, some (.int x), a3] [.int x] M 0 0 Z := R_local (gd77 dX6_sum_7) rfl rfl rfl
theorem z77_8 : Run d 77 8 [a0, a1, a2, a3] [s0] M 0 0 Z ↔ Run d 77 10 [a0, a1, a2, a3] [.int 120, s0] M 0 0 Z := R_bipush (gd77 dX6_sum_8) (by decide)
theorem z77_10 : Run d 77 10 [a0, a1, a2, a3] [.int y, .int x] M 0 0 Z ↔ (y ≤ x → Run d 77 69 [a0, a1, a2, a3] [] M 0 0 Z) ∧ (¬ (y ≤ x) → Run d 77 13 [a0, a1, a2, a3] [] M 0 0 Z) := R_icmp (gd77 dX6_sum_10) (show gTgt 10 59 = some 69 by decide) gIf_ge
theorem z77_13 : Run d 77 13 [some (.ref o), a1, a2, a3] [] M 0 0 Z ↔ Run d 77 14 [some (.ref o), a1, a2, a3] [.ref o] M 0 0 Z := R_local (gd77 dX6_sum_13) rfl rfl rfl
theorem z77_14 : Run d 77 14 [a0, a1, a2, a3] [.ref o] M 0 0 Z ↔ gObj M o 6 ∧ Run d 77 17 [a0, a1, a2, a3] [.int (M.1 o 6)] M 0 0 Z := R_getI (gd77 dX6_sum_14) rfl gf_6_31 rfl
theorem z77_17 : Run d 77 17 [a0, a1, a2, a3] [.int x] M 0 0 Z ↔ (¬ x = 0 → Run d 77 69 [a0, a1, a2, a3] [] M 0 0 Z) ∧ (¬ (¬ x = 0) → Run d 77 20 [a0, a1, a2, a3] [] M 0 0 Z) := R_if (gd77 dX6_sum_17) (show gTgt 17 52 = some 69 by decide) gIf_ne
theorem z77_20 : Run d 77 20 [some (.ref o), a1, a2, a3] [] M 0 0 Z ↔ Run d 77 21 [some (.ref o), a1, a2, a3] [.ref o] M 0 0 Z := R_local (gd77 dX6_sum_20) rfl rfl rfl
theorem z77_21 : Run d 77 21 [a0, a1, a2, a3] [.ref b] M 0 0 Z ↔ gObj M b 6 ∧ Call d 69 [.ref b] M (fun r M1 => Run d 77 24 [a0, a1, a2, a3] (r.toList ++ []) M1 0 0 Z) := R_callV (gd77 dX6_sum_21) rfl rfl rfl rfl rfl rfl gc_6_74 rfl rfl (Nat.le_of_ble_eq_true rfl) (Nat.le_of_ble_eq_true rfl) rfl rfl (Nat.le_of_ble_eq_true rfl) (Nat.le_of_ble_eq_true rfl)
theorem z77_24 : Run d 77 24 [a0, a1, a2, a3] [s0] M 0 0 Z ↔ Run d 77 26 [a0, a1, a2, a3] [.int 43, s0] M 0 0 Z := R_bipush (gd77 dX6_sum_24) (by decide)
theorem z77_26 : Run d 77 26 [a0, a1, a2, a3] [.int y, .int x] M 0 0 Z ↔ (x = y → Run d 77 38 [a0, a1, a2, a3] [] M 0 0 Z) ∧ (¬ (x = y) → Run d 77 29 [a0, a1, a2, a3] [] M 0 0 Z) := R_icmp (gd77 dX6_sum_26) (show gTgt 26 12 = some 38 by decide) gIf_eq
theorem z77_29 : Run d 77 29 [some (.ref o), a1, a2, a3] [] M 0 0 Z ↔ Run d 77 30 [some (.ref o), a1, a2, a3] [.ref o] M 0 0 Z := R_local (gd77 dX6_sum_29) rfl rfl rfl
theorem z77_30 : Run d 77 30 [a0, a1, a2, a3] [.ref b] M 0 0 Z ↔ gObj M b 6 ∧ Call d 69 [.ref b] M (fun r M1 => Run d 77 33 [a0, a1, a2, a3] (r.toList ++ []) M1 0 0 Z) := R_callV (gd77 dX6_sum_30) rfl rfl rfl rfl rfl rfl gc_6_74 rfl rfl (Nat.le_of_ble_eq_true rfl) (Nat.le_of_ble_eq_true rfl) rfl rfl (Nat.le_of_ble_eq_true rfl) (Nat.le_of_ble_eq_true rfl)
theorem z77_33 : Run d 77 33 [a0, a1, a2, a3] [s0] M 0 0 Z ↔ Run d 77 35 [a0, a1, a2, a3] [.int 45, s0] M 0 0 Z := R_bipush (gd77 dX6_sum_33) (by decide)
theorem z77_35 : Run d 77 35 [a0, a1, a2, a3] [.int y, .int x] M 0 0 Z ↔ (¬ x = y → Run d 77 69 [a0, a1, a2, a3] [] M 0 0 Z) ∧ (¬ (¬ x = y) → Run d 77 38 [a0, a1, a2, a3] [] M 0 0 Z) := R_icmp (gd77 dX6_sum_35) (show gTgt 35 34 = some 69 by decide) gIf_ne
theorem z77_38 : Run d 77 38 [some (.ref o), a1, a2, a3] [] M 0 0 Z ↔ Run d 77 39 [some (.ref o), a1, a2, a3] [.ref o] M 0 0 Z := R_local (gd77 dX6_sum_38) rfl rfl rfl
theorem z77_39 : Run d 77 39 [a0, a1, a2, a3] [.ref b] M 0 0 Z ↔ gObj M b 6 ∧ Call d 69 [.ref b] M (fun r M1 => Run d 77 42 [a0, a1, a2, a3] (r.toList ++ []) M1 0 0 Z) := R_callV (gd77 dX6_sum_39) rfl rfl rfl rfl rfl rfl gc_6_74 rfl rfl (Nat.le_of_ble_eq_true rfl) (Nat.le_of_ble_eq_true rfl) rfl rfl (Nat.le_of_ble_eq_true rfl) (Nat.le_of_ble_eq_true rfl)
theorem z77_42 : Run d 77 42 [a0, a1, a2, a3] [.int x] M 0 0 Z ↔ Run d 77 43 [a0, a1, a2, some (.int x)] [] M 0 0 Z := R_local (gd77 dX6_sum_42) rfl rfl rfl
theorem z77_43 : Run d 77 43 [some (.ref o), a1, a2, a3] [] M 0 0 Z ↔ Run d 77 44 [some (.ref o), a1, a2, a3] [.ref o] M 0 0 Z := R_local (gd77 dX6_sum_43) rfl rfl rfl
theorem z77_44 : Run d 77 44 [a0, a1, a2, a3] [.ref o] M 0 0 Z ↔ Run d 77 45 [a0, a1, a2, a3] [.ref o, .ref o] M 0 0 Z := R_arith (gd77 dX6_sum_44) rfl
theorem z77_45 : Run d 77 45 [a0, a1, a2, a3] [.ref o, s0] M 0 0 Z ↔ gObj M o 6 ∧ Run d 77 48 [a0, a1, a2, a3] [.int (M.1 o 2), s0] M 0 0 Z := R_getI (gd77 dX6_sum_45) rfl gf_6_19 rfl
theorem z77_48 : Run d 77 48 [a0, a1, a2, a3] [s1, s0] M 0 0 Z ↔ Run d 77 49 [a0, a1, a2, a3] [.int 1, s1, s0] M 0 0 Z := R_iconst (gd77 dX6_sum_48) (by decide)
theorem z77_49 : Run d 77 49 [a0, a1, a2, a3] [.int y, .int x, s0] M 0 0 Z ↔ Run d 77 50 [a0, a1, a2, a3] [.int (x + y), s0] M 0 0 Z := R_arith (gd77 dX6_sum_49) rfl
theorem z77_50 : Run d 77 50 [a0, a1, a2, a3] [.int x, .ref o] M 0 0 Z ↔ gObj M o 6 ∧ Run d 77 53 [a0, a1, a2, a3] [] (gsI M o 2 x) 0 0 Z := R_putI (gd77 dX6_sum_50) rfl gf_6_19 (Or.inl rfl) rfl
theorem z77_53 : Run d 77 53 [some (.ref o), a1, a2, a3] [] M 0 0 Z ↔ Run d 77 54 [some (.ref o), a1, a2, a3] [.ref o] M 0 0 Z := R_local (gd77 dX6_sum_53) rfl rfl rfl
theorem z77_54 : Run d 77 54 [a0, some (.int x), a2, a3] [s0] M 0 0 Z ↔ Run d 77 55 [a0, some (.int x), a2, a3] [.int x, s0] M 0 0 Z := R_local (gd77 dX6_sum_54) rfl rfl rfl
theorem z77_55 : Run d 77 55 [a0, a1, a2, a3] [s1, .ref b] M 0 0 Z ↔ gObj M b 6 ∧ Call d 78 [.ref b, s1] M (fun r M1 => Run d 77 58 [a0, a1, a2, a3] (r.toList ++ []) M1 0 0 Z) := R_callV (gd77 dX6_sum_55) rfl rfl rfl rfl rfl rfl gc_6_101 rfl rfl (Nat.le_of_ble_eq_true rfl) (Nat.le_of_ble_eq_true rfl) rfl rfl (Nat.le_of_ble_eq_true rfl) (Nat.le_of_ble_eq_true rfl)
theorem z77_58 : Run d 77 58 [some (.ref o), a1, a2, a3] [] M 0 0 Z ↔ Run d 77 59 [some (.ref o), a1, a2, a3] [.ref o] M 0 0 Z := R_local (gd77 dX6_sum_58) rfl rfl rfl
theorem z77_59 : Run d 77 59 [a0, a1, a2, some (.int x)] [s0] M 0 0 Z ↔ Run d 77 60 [a0, a1, a2, some (.int x)] [.int x, s0] M 0 0 Z := R_local (gd77 dX6_sum_59) rfl rfl rfl
theorem z77_60 : Run d 77 60 [a0, a1, a2, a3] [s1, .ref b] M 0 0 Z ↔ gObj M b 6 ∧ Call d 71 [.ref b, s1] M (fun r M1 => Run d 77 63 [a0, a1, a2, a3] (r.toList ++ []) M1 0 0 Z) := R_callV (gd77 dX6_sum_60) rfl rfl rfl rfl rfl rfl gc_6_85 rfl rfl (Nat.le_of_ble_eq_true rfl) (Nat.le_of_ble_eq_true rfl) rfl rfl (Nat.le_of_ble_eq_true rfl) (Nat.le_of_ble_eq_true rfl)
theorem z77_63 : Run d 77 63 [a0, a1, some (.int x), a3] [] M 0 0 Z ↔ Run d 77 66 [a0, a1, some (.int (x + 1)), a3] [] M 0 0 Z := R_iinc (gd77 dX6_sum_63) (by decide) rfl rfl
theorem z77_66 : Run d 77 66 [a0, a1, a2, a3] [] M 0 0 Z ↔ Run d 77 7 [a0, a1, a2, a3] [] M 0 0 Z := R_goto (gd77 dX6_sum_66) (show gTgt 66 (-59) = some 7 by decide)
theorem z77_69 : Run d 77 69 [a0, a1, a2, a3] [] M 0 0 Z ↔ Z none M := R_vret (gd77 dX6_sum_69) rfl
theorem e77 : Call (d + 1) 77 [s0, s1] M Z ↔ Run d 77 0 [some s0, some s1, none, none] [] M 0 0 Z := Call_iff (Nat.lt_of_lt_of_le (Nat.lt_succ_self 77) (Nat.le_of_ble_eq_true rfl)) (Nat.le_of_ble_eq_true rfl)
/-! 78: X6_product (I)V -/
theorem gd78 {pc : Nat} {r : Except _ _} (h : decode cX6_product pc = r) : decode (gby 78) pc = r := h
theorem z78_0 : Run d 78 0 [some (.ref o), a1, a2, a3] [] M 0 0 Z ↔ Run d 78 1 [some (.ref o), a1, a2, a3] [.ref o] M 0 0 Z := R_local (gd78 dX6_product_0) rfl rfl rfl
theorem z78_1 : Run d 78 1 [a0, some (.int x), a2, a3] [s0] M 0 0 Z ↔ Run d 78 2 [a0, some (.int x), a2, a3] [.int x, s0] M 0 0 Z := R_local (gd78 dX6_product_1) rfl rfl rfl
theorem z78_2 : Run d 78 2 [a0, a1, a2, a3] [s1, .ref b] M 0 0 Z ↔ gObj M b 6 ∧ Call d 79 [.ref b, s1] M (fun r M1 => Run d 78 5 [a0, a1, a2, a3] (r.toList ++ []) M1 0 0 Z) := R_callV (gd78 dX6_product_2) rfl rfl rfl rfl rfl rfl gc_6_104 rfl rfl (Nat.le_of_ble_eq_true rfl) (Nat.le_of_ble_eq_true rfl) rfl rfl (Nat.le_of_ble_eq_true rfl) (Nat.le_of_ble_eq_true rfl)
theorem z78_5 : Run d 78 5 [a0, a1, a2, a3] [] M 0 0 Z ↔ Run d 78 6 [a0, a1, a2, a3] [.int 0] M 0 0 Z := R_iconst (gd78 dX6_product_5) (by decide)
theorem z78_6 : Run d 78 6 [a0, a1, a2, a3] [.int x] M 0 0 Z ↔ Run d 78 7 [a0, a1, some (.int x), a3] [] M 0 0 Z := R_local (gd78 dX6_product_6) rfl rfl rfl
theorem z78_7 : Run d 78 7 [a0, a1, some (.int x), a3] [] M 0 0 Z ↔ Run d 78 8 [a0, a1, some (.int x), a3] [.int x] M 0 0 Z := R_local (gd78 dX6_product_7) rfl rfl rfl
theorem z78_8 : Run d 78 8 [a0, a1, a2, a3] [s0] M 0 0 Z ↔ Run d 78 10 [a0, a1, a2, a3] [.int 120, s0] M 0 0 Z := R_bipush (gd78 dX6_product_8) (by decide)
theorem z78_10 : Run d 78 10 [a0, a1, a2, a3] [.int y, .int x] M 0 0 Z ↔ (y ≤ x → Run d 78 69 [a0, a1, a2, a3] [] M 0 0 Z) ∧ (¬ (y ≤ x) → Run d 78 13 [a0, a1, a2, a3] [] M 0 0 Z) := R_icmp (gd78 dX6_product_10) (show gTgt 10 59 = some 69 by decide) gIf_ge
theorem z78_13 : Run d 78 13 [some (.ref o), a1, a2, a3] [] M 0 0 Z ↔ Run d 78 14 [some (.ref o), a1, a2, a3] [.ref o] M 0 0 Z := R_local (gd78 dX6_product_13) rfl rfl rfl
theorem z78_14 : Run d 78 14 [a0, a1, a2, a3] [.ref o] M 0 0 Z ↔ gObj M o 6 ∧ Run d 78 17 [a0, a1, a2, a3] [.int (M.1 o 6)] M 0 0 Z := R_getI (gd78 dX6_product_14) rfl gf_6_31 rfl
theorem z78_17 : Run d 78 17 [a0, a1, a2, a3] [.int x] M 0 0 Z ↔ (¬ x = 0 → Run d 78 69 [a0, a1, a2, a3] [] M 0 0 Z) ∧ (¬ (¬ x = 0) → Run d 78 20 [a0, a1, a2, a3] [] M 0 0 Z) := R_if (gd78 dX6_product_17) (show gTgt 17 52 = some 69 by decide) gIf_ne
theorem z78_20 : Run d 78 20 [some (.ref o), a1, a2, a3] [] M 0 0 Z ↔ Run d 78 21 [some (.ref o), a1, a2, a3] [.ref o] M 0 0 Z := R_local (gd78 dX6_product_20) rfl rfl rfl
theorem z78_21 : Run d 78 21 [a0, a1, a2, a3] [.ref b] M 0 0 Z ↔ gObj M b 6 ∧ Call d 69 [.ref b] M (fun r M1 => Run d 78 24 [a0, a1, a2, a3] (r.toList ++ []) M1 0 0 Z) := R_callV (gd78 dX6_product_21) rfl rfl rfl rfl rfl rfl gc_6_74 rfl rfl (Nat.le_of_ble_eq_true rfl) (Nat.le_of_ble_eq_true rfl) rfl rfl (Nat.le_of_ble_eq_true rfl) (Nat.le_of_ble_eq_true rfl)
theorem z78_24 : Run d 78 24 [a0, a1, a2, a3] [s0] M 0 0 Z ↔ Run d 78 26 [a0, a1, a2, a3] [.int 42, s0] M 0 0 Z := R_bipush (gd78 dX6_product_24) (by decide)
theorem z78_26 : Run d 78 26 [a0, a1, a2, a3] [.int y, .int x] M 0 0 Z ↔ (x = y → Run d 78 38 [a0, a1, a2, a3] [] M 0 0 Z) ∧ (¬ (x = y) → Run d 78 29 [a0, a1, a2, a3] [] M 0 0 Z) := R_icmp (gd78 dX6_product_26) (show gTgt 26 12 = some 38 by decide) gIf_eq
theorem z78_29 : Run d 78 29 [some (.ref o), a1, a2, a3] [] M 0 0 Z ↔ Run d 78 30 [some (.ref o), a1, a2, a3] [.ref o] M 0 0 Z := R_local (gd78 dX6_product_29) rfl rfl rfl
theorem z78_30 : Run d 78 30 [a0, a1, a2, a3] [.ref b] M 0 0 Z ↔ gObj M b 6 ∧ Call d 69 [.ref b] M (fun r M1 => Run d 78 33 [a0, a1, a2, a3] (r.toList ++ []) M1 0 0 Z) := R_callV (gd78 dX6_product_30) rfl rfl rfl rfl rfl rfl gc_6_74 rfl rfl (Nat.le_of_ble_eq_true rfl) (Nat.le_of_ble_eq_true rfl) rfl rfl (Nat.le_of_ble_eq_true rfl) (Nat.le_of_ble_eq_true rfl)
theorem z78_33 : Run d 78 33 [a0, a1, a2, a3] [s0] M 0 0 Z ↔ Run d 78 35 [a0, a1, a2, a3] [.int 47, s0] M 0 0 Z := R_bipush (gd78 dX6_product_33) (by decide)
theorem z78_35 : Run d 78 35 [a0, a1, a2, a3] [.int y, .int x] M 0 0 Z ↔ (¬ x = y → Run d 78 69 [a0, a1, a2, a3] [] M 0 0 Z) ∧ (¬ (¬ x = y) → Run d 78 38 [a0, a1, a2, a3] [] M 0 0 Z) := R_icmp (gd78 dX6_product_35) (show gTgt 35 34 = some 69 by decide) gIf_ne
theorem z78_38 : Run d 78 38 [some (.ref o), a1, a2, a3] [] M 0 0 Z ↔ Run d 78 39 [some (.ref o), a1, a2, a3] [.ref o] M 0 0 Z := R_local (gd78 dX6_product_38) rfl rfl rfl
theorem z78_39 : Run d 78 39 [a0, a1, a2, a3] [.ref b] M 0 0 Z ↔ gObj M b 6 ∧ Call d 69 [.ref b] M (fun r M1 => Run d 78 42 [a0, a1, a2, a3] (r.toList ++ []) M1 0 0 Z) := R_callV (gd78 dX6_product_39) rfl rfl rfl rfl rfl rfl gc_6_74 rfl rfl (Nat.le_of_ble_eq_true rfl) (Nat.le_of_ble_eq_true rfl) rfl rfl (Nat.le_of_ble_eq_true rfl) (Nat.le_of_ble_eq_true rfl)
theorem z78_42 : Run d 78 42 [a0, a1, a2, a3] [.int x] M 0 0 Z ↔ Run d 78 43 [a0, a1, a2, some (.int x)] [] M 0 0 Z := R_local (gd78 dX6_product_42) rfl rfl rfl
theorem z78_43 : Run d 78 43 [some (.ref o), a1, a2, a3] [] M 0 0 Z ↔ Run d 78 44 [some (.ref o), a1, a2, a3] [.ref o] M 0 0 Z := R_local (gd78 dX6_product_43) rfl rfl rfl
theorem z78_44 : Run d 78 44 [a0, a1, a2, a3] [.ref o] M 0 0 Z ↔ Run d 78 45 [a0, a1, a2, a3] [.ref o, .ref o] M 0 0 Z := R_arith (gd78 dX6_product_44) rfl
theorem z78_45 : Run d 78 45 [a0, a1, a2, a3] [.ref o, s0] M 0 0 Z ↔ gObj M o 6 ∧ Run d 78 48 [a0, a1, a2, a3] [.int (M.1 o 2), s0] M 0 0 Z := R_getI (gd78 dX6_product_45) rfl gf_6_19 rfl
theorem z78_48 : Run d 78 48 [a0, a1, a2, a3] [s1, s0] M 0 0 Z ↔ Run d 78 49 [a0, a1, a2, a3] [.int 1, s1, s0] M 0 0 Z := R_iconst (gd78 dX6_product_48) (by decide)
theorem z78_49 : Run d 78 49 [a0, a1, a2, a3] [.int y, .int x, s0] M 0 0 Z ↔ Run d 78 50 [a0, a1, a2, a3] [.int (x + y), s0] M 0 0 Z := R_arith (gd78 dX6_product_49) rfl
theorem z78_50 : Run d 78 50 [a0, a1, a2, a3] [.int x, .ref o] M 0 0 Z ↔ gObj M o 6 ∧ Run d 78 53 [a0, a1, a2, a3] [] (gsI M o 2 x) 0 0 Z := R_putI (gd78 dX6_product_50) rfl gf_6_19 (Or.inl rfl) rfl
theorem z78_53 : Run d 78 53 [some (.ref o), a1, a2, a3] [] M 0 0 Z ↔ Run d 78 54 [some (.ref o), a1, a2, a3] [.ref o] M 0 0 Z := R_local (gd78 dX6_product_53) rfl rfl rfl
theorem z78_54 : Run d 78 54 [a0, some (.int x), a2, a3] [s0] M 0 0 Z ↔ Run d 78 55 [a0, some (.int x), a2, a3] [.int x, s0] M 0 0 Z := R_local (gd78 dX6_product_54) rfl rfl rfl
theorem z78_55 : Run d 78 55 [a0, a1, a2, a3] [s1, .ref b] M 0 0 Z ↔ gObj M b 6 ∧ Call d 79 [.ref b, s1] M (fun r M1 => Run d 78 58 [a0, a1, a2, a3] (r.toList ++ []) M1 0 0 Z) := R_callV (gd78 dX6_product_55) rfl rfl rfl rfl rfl rfl gc_6_104 rfl rfl (Nat.le_of_ble_eq_true rfl) (Nat.le_of_ble_eq_true rfl) rfl rfl (Nat.le_of_ble_eq_true rfl) (Nat.le_of_ble_eq_true rfl)
theorem z78_58 : Run d 78 58 [some (.ref o), a1, a2, a3] [] M 0 0 Z ↔ Run d 78 59 [some (.ref o), a1, a2, a3] [.ref o] M 0 0 Z := R_local (gd78 dX6_product_58) rfl rfl rfl
theorem z78_59 : Run d 78 59 [a0, a1, a2, some (.int x)] [s0] M 0 0 Z ↔ Run d 78 60 [a0, a1, a2, some (.int x)] [.int x, s0] M 0 0 Z := R_local (gd78 dX6_product_59) rfl rfl rfl
theorem z78_60 : Run d 78 60 [a0, a1, a2, a3] [s1, .ref b] M 0 0 Z ↔ gObj M b 6 ∧ Call d 71 [.ref b, s1] M (fun r M1 => Run d 78 63 [a0, a1, a2, a3] (r.toList ++ []) M1 0 0 Z) := R_callV (gd78 dX6_product_60) rfl rfl rfl rfl rfl rfl gc_6_85 rfl rfl (Nat.le_of_ble_eq_true rfl) (Nat.le_of_ble_eq_true rfl) rfl rfl (Nat.le_of_ble_eq_true rfl) (Nat.le_of_ble_eq_true rfl)
theorem z78_63 : Run d 78 63 [a0, a1, some (.int x), a3] [] M 0 0 Z ↔ Run d 78 66 [a0, a1, some (.int (x + 1)), a3] [] M 0 0 Z := R_iinc (gd78 dX6_product_63) (by decide) rfl rfl
theorem z78_66 : Run d 78 66 [a0, a1, a2, a3] [] M 0 0 Z ↔ Run d 78 7 [a0, a1, a2, a3] [] M 0 0 Z := R_goto (gd78 dX6_product_66) (show gTgt 66 (-59) = some 7 by decide)
theorem z78_69 : Run d 78 69 [a0, a1, a2, a3] [] M 0 0 Z ↔ Z none M := R_vret (gd78 dX6_product_69) rfl
theorem e78 : Call (d + 1) 78 [s0, s1] M Z ↔ Run d 78 0 [some s0, some s1, none, none] [] M 0 0 Z := Call_iff (Nat.lt_of_lt_of_le (Nat.lt_succ_self 78) (Nat.le_of_ble_eq_true rfl)) (Nat.le_of_ble_eq_true rfl)
/-! 79: X6_factor (I)V -/
theorem gd79 {pc : Nat} {r : Except _ _} (h : decode cX6_factor pc = r) : decode (gby 79) pc = r := h
theorem z79_0 : Run d 79 0 [some (.ref o), a1, a2] [] M 0 0 Z ↔ Run d 79 1 [some (.ref o), a1, a2] [.ref o] M 0 0 Z := R_local (gd79 dX6_factor_0) rfl rfl rfl
theorem z79_1 : Run d 79 1 [a0, a1, a2] [.ref b] M 0 0 Z ↔ gObj M b 6 ∧ Call d 69 [.ref b] M (fun r M1 => Run d 79 4 [a0, a1, a2] (r.toList ++ []) M1 0 0 Z) := R_callV (gd79 dX6_factor_1) rfl rfl rfl rfl rfl rfl gc_6_74 rfl rfl (Nat.le_of_ble_eq_true rfl) (Nat.le_of_ble_eq_true rfl) rfl rfl (Nat.le_of_ble_eq_true rfl) (Nat.le_of_ble_eq_true rfl)
theorem z79_4 : Run d 79 4 [a0, a1, a2] [.int x] M 0 0 Z ↔ Run d 79 5 [a0, a1, some (.int x)] [] M 0 0 Z := R_local (gd79 dX6_factor_4) rfl rfl rfl
theorem z79_5 : Run d 79 5 [some (.ref o), a1, a2] [] M 0 0 Z ↔ Run d 79 6 [some (.ref o), a1, a2] [.ref o] M 0 0 Z := R_local (gd79 dX6_factor_5) rfl rfl rfl
theorem z79_6 : Run d 79 6 [a0, a1, a2] [.ref o] M 0 0 Z ↔ gObj M o 6 ∧ Run d 79 9 [a0, a1, a2] [.int (M.1 o 6)] M 0 0 Z := R_getI (gd79 dX6_factor_6) rfl gf_6_31 rfl
theorem z79_9 : Run d 79 9 [a0, a1, a2] [.int x] M 0 0 Z ↔ (x = 0 → Run d 79 13 [a0, a1, a2] [] M 0 0 Z) ∧ (¬ (x = 0) → Run d 79 12 [a0, a1, a2] [] M 0 0 Z) := R_if (gd79 dX6_factor_9) (show gTgt 9 4 = some 13 by decide) gIf_eq
theorem z79_12 : Run d 79 12 [a0, a1, a2] [] M 0 0 Z ↔ Z none M := R_vret (gd79 dX6_factor_12) rfl
theorem z79_13 : Run d 79 13 [a0, a1, some (.int x)] [] M 0 0 Z ↔ Run d 79 14 [a0, a1, some (.int x)] [.int x] M 0 0 Z := R_local (gd79 dX6_factor_13) rfl rfl rfl
theorem z79_14 : Run d 79 14 [a0, a1, a2] [s0] M 0 0 Z ↔ Call d 81 [s0] M (fun r M1 => Run d 79 17 [a0, a1, a2] (r.toList ++ []) M1 0 0 Z) := R_call (gd79 dX6_factor_14) rfl rfl rfl rfl rfl rfl gc_6_107 rfl (by decide) (Nat.le_of_ble_eq_true rfl) (Nat.le_of_ble_eq_true rfl) rfl rfl rfl (Nat.le_of_ble_eq_true rfl) (Nat.le_of_ble_eq_true rfl)
theorem z79_17 : Run d 79 17 [a0, a1, a2] [.int x] M 0 0 Z ↔ (x = 0 → Run d 79 27 [a0, a1, a2] [] M 0 0 Z) ∧ (¬ (x = 0) → Run d 79 20 [a0, a1, a2] [] M 0 0 Z) := R_if (gd79 dX6_factor_17) (show gTgt 17 10 = some 27 by decide) gIf_eq
theorem z79_20 : Run d 79 20 [some (.ref o), a1, a2] [] M 0 0 Z ↔ Run d 79 21 [some (.ref o), a1, a2] [.ref o] M 0 0 Z := R_local (gd79 dX6_factor_20) rfl rfl rfl
theorem z79_21 : Run d 79 21 [a0, a1, a2] [.ref b] M 0 0 Z ↔ gObj M b 6 ∧ Call d 80 [.ref b] M (fun r M1 => Run d 79 24 [a0, a1, a2] (r.toList ++ []) M1 0 0 Z) := R_callV (gd79 dX6_factor_21) rfl rfl rfl rfl rfl rfl gc_6_110 rfl rfl (Nat.le_of_ble_eq_true rfl) (Nat.le_of_ble_eq_true rfl) rfl rfl (Nat.le_of_ble_eq_true rfl) (Nat.le_of_ble_eq_true rfl)
theorem z79_24 : Run d 79 24 [a0, a1, a2] [] M 0 0 Z ↔ Run d 79 103 [a0, a1, a2] [] M 0 0 Z := R_goto (gd79 dX6_factor_24) (show gTgt 24 79 = some 103 by decide)
theorem z79_27 : Run d 79 27 [a0, a1, some (.int x)] [] M 0 0 Z ↔ Run d 79 28 [a0, a1, some (.int x)] [.int x] M 0 0 Z := R_local (gd79 dX6_factor_27) rfl rfl rfl
theorem z79_28 : Run d 79 28 [a0, a1, a2] [s0] M 0 0 Z ↔ Call d 83 [s0] M (fun r M1 => Run d 79 31 [a0, a1, a2] (r.toList ++ []) M1 0 0 Z) := R_call (gd79 dX6_factor_28) rfl rfl rfl rfl rfl rfl gc_6_113 rfl (by decide) (Nat.le_of_ble_eq_true rfl) (Nat.le_of_ble_eq_true rfl) rfl rfl rfl (Nat.le_of_ble_eq_true rfl) (Nat.le_of_ble_eq_true rfl)
theorem z79_31 : Run d 79 31 [a0, a1, a2] [.int x] M 0 0 Z ↔ (x = 0 → Run d 79 52 [a0, a1, a2] [] M 0 0 Z) ∧ (¬ (x = 0) → Run d 79 34 [a0, a1, a2] [] M 0 0 Z) := R_if (gd79 dX6_factor_31) (show gTgt 31 21 = some 52 by decide) gIf_eq
theorem z79_34 : Run d 79 34 [some (.ref o), a1, a2] [] M 0 0 Z ↔ Run d 79 35 [some (.ref o), a1, a2] [.ref o] M 0 0 Z := R_local (gd79 dX6_factor_34) rfl rfl rfl
theorem z79_35 : Run d 79 35 [a0, a1, some (.int x)] [s0] M 0 0 Z ↔ Run d 79 36 [a0, a1, some (.int x)] [.int x, s0] M 0 0 Z := R_local (gd79 dX6_factor_35) rfl rfl rfl
theorem z79_36 : Run d 79 36 [a0, a1, a2] [s1, .ref b] M 0 0 Z ↔ gObj M b 6 ∧ Call d 71 [.ref b, s1] M (fun r M1 => Run d 79 39 [a0, a1, a2] (r.toList ++ []) M1 0 0 Z) := R_callV (gd79 dX6_factor_36) rfl rfl rfl rfl rfl rfl gc_6_85 rfl rfl (Nat.le_of_ble_eq_true rfl) (Nat.le_of_ble_eq_true rfl) rfl rfl (Nat.le_of_ble_eq_true rfl) (Nat.le_of_ble_eq_true rfl)
theorem z79_39 : Run d 79 39 [some (.ref o), a1, a2] [] M 0 0 Z ↔ Run d 79 40 [some (.ref o), a1, a2] [.ref o] M 0 0 Z := R_local (gd79 dX6_factor_39) rfl rfl rfl
theorem z79_40 : Run d 79 40 [a0, a1, a2] [.ref o] M 0 0 Z ↔ Run d 79 41 [a0, a1, a2] [.ref o, .ref o] M 0 0 Z := R_arith (gd79 dX6_factor_40) rfl
theorem z79_41 : Run d 79 41 [a0, a1, a2] [.ref o, s0] M 0 0 Z ↔ gObj M o 6 ∧ Run d 79 44 [a0, a1, a2] [.int (M.1 o 2), s0] M 0 0 Z := R_getI (gd79 dX6_factor_41) rfl gf_6_19 rfl
theorem z79_44 : Run d 79 44 [a0, a1, a2] [s1, s0] M 0 0 Z ↔ Run d 79 45 [a0, a1, a2] [.int 1, s1, s0] M 0 0 Z := R_iconst (gd79 dX6_factor_44) (by decide)
theorem z79_45 : Run d 79 45 [a0, a1, a2] [.int y, .int x, s0] M 0 0 Z ↔ Run d 79 46 [a0, a1, a2] [.int (x + y), s0] M 0 0 Z := R_arith (gd79 dX6_factor_45) rfl
theorem z79_46 : Run d 79 46 [a0, a1, a2] [.int x, .ref o] M 0 0 Z ↔ gObj M o 6 ∧ Run d 79 49 [a0, a1, a2] [] (gsI M o 2 x) 0 0 Z := R_putI (gd79 dX6_factor_46) rfl gf_6_19 (Or.inl rfl) rfl
theorem z79_49 : Run d 79 49 [a0, a1, a2] [] M 0 0 Z ↔ Run d 79 103 [a0, a1, a2] [] M 0 0 Z := R_goto (gd79 dX6_factor_49) (show gTgt 49 54 = some 103 by decide)
theorem z79_52 : Run d 79 52 [a0, a1, some (.int x)] [] M 0 0 Z ↔ Run d 79 53 [a0, a1, some (.int x)] [.int x] M 0 0 Z := R_local (gd79 dX6_factor_52) rfl rfl rfl
theorem z79_53 : Run d 79 53 [a0, a1, a2] [s0] M 0 0 Z ↔ Run d 79 55 [a0, a1, a2] [.int 40, s0] M 0 0 Z := R_bipush (gd79 dX6_factor_53) (by decide)
theorem z79_55 : Run d 79 55 [a0, a1, a2] [.int y, .int x] M 0 0 Z ↔ (x = y → Run d 79 66 [a0, a1, a2] [] M 0 0 Z) ∧ (¬ (x = y) → Run d 79 58 [a0, a1, a2] [] M 0 0 Z) := R_icmp (gd79 dX6_factor_55) (show gTgt 55 11 = some 66 by decide) gIf_eq
theorem z79_58 : Run d 79 58 [some (.ref o), a1, a2] [] M 0 0 Z ↔ Run d 79 59 [some (.ref o), a1, a2] [.ref o] M 0 0 Z := R_local (gd79 dX6_factor_58) rfl rfl rfl
theorem z79_59 : Run d 79 59 [a0, a1, a2] [s0] M 0 0 Z ↔ Run d 79 60 [a0, a1, a2] [.int 1, s0] M 0 0 Z := R_iconst (gd79 dX6_factor_59) (by decide)
theorem z79_60 : Run d 79 60 [a0, a1, a2] [s1, .ref b] M 0 0 Z ↔ gObj M b 6 ∧ Call d 70 [.ref b, s1] M (fun r M1 => Run d 79 63 [a0, a1, a2] (r.toList ++ []) M1 0 0 Z) := R_callV (gd79 dX6_factor_60) rfl rfl rfl rfl rfl rfl gc_6_56 rfl rfl (Nat.le_of_ble_eq_true rfl) (Nat.le_of_ble_eq_true rfl) rfl rfl (Nat.le_of_ble_eq_true rfl) (Nat.le_of_ble_eq_true rfl)
theorem z79_63 : Run d 79 63 [a0, a1, a2] [] M 0 0 Z ↔ Run d 79 103 [a0, a1, a2] [] M 0 0 Z := R_goto (gd79 dX6_factor_63) (show gTgt 63 40 = some 103 by decide)
theorem z79_66 : Run d 79 66 [a0, some (.int x), a2] [] M 0 0 Z ↔ Run d 79 67 [a0, some (.int x), a2] [.int x] M 0 0 Z := R_local (gd79 dX6_factor_66) rfl rfl rfl
theorem z79_67 : Run d 79 67 [a0, a1, a2] [s0] M 0 0 Z ↔ Run d 79 69 [a0, a1, a2] [.int 8, s0] M 0 0 Z := R_bipush (gd79 dX6_factor_67) (by decide)
theorem z79_69 : Run d 79 69 [a0, a1, a2] [.int y, .int x] M 0 0 Z ↔ (x < y → Run d 79 80 [a0, a1, a2] [] M 0 0 Z) ∧ (¬ (x < y) → Run d 79 72 [a0, a1, a2] [] M 0 0 Z) := R_icmp (gd79 dX6_factor_69) (show gTgt 69 11 = some 80 by decide) gIf_lt
theorem z79_72 : Run d 79 72 [some (.ref o), a1, a2] [] M 0 0 Z ↔ Run d 79 73 [some (.ref o), a1, a2] [.ref o] M 0 0 Z := R_local (gd79 dX6_factor_72) rfl rfl rfl
theorem z79_73 : Run d 79 73 [a0, a1, a2] [s0] M 0 0 Z ↔ Run d 79 74 [a0, a1, a2] [.int 4, s0] M 0 0 Z := R_iconst (gd79 dX6_factor_73) (by decide)
theorem z79_74 : Run d 79 74 [a0, a1, a2] [s1, .ref b] M 0 0 Z ↔ gObj M b 6 ∧ Call d 70 [.ref b, s1] M (fun r M1 => Run d 79 77 [a0, a1, a2] (r.toList ++ []) M1 0 0 Z) := R_callV (gd79 dX6_factor_74) rfl rfl rfl rfl rfl rfl gc_6_56 rfl rfl (Nat.le_of_ble_eq_true rfl) (Nat.le_of_ble_eq_true rfl) rfl rfl (Nat.le_of_ble_eq_true rfl) (Nat.le_of_ble_eq_true rfl)
theorem z79_77 : Run d 79 77 [a0, a1, a2] [] M 0 0 Z ↔ Run d 79 103 [a0, a1, a2] [] M 0 0 Z := R_goto (gd79 dX6_factor_77) (show gTgt 77 26 = some 103 by decide)
theorem z79_80 : Run d 79 80 [some (.ref o), a1, a2] [] M 0 0 Z ↔ Run d 79 81 [some (.ref o), a1, a2] [.ref o] M 0 0 Z := R_local (gd79 dX6_factor_80) rfl rfl rfl
theorem z79_81 : Run d 79 81 [a0, a1, a2] [.ref o] M 0 0 Z ↔ Run d 79 82 [a0, a1, a2] [.ref o, .ref o] M 0 0 Z := R_arith (gd79 dX6_factor_81) rfl
theorem z79_82 : Run d 79 82 [a0, a1, a2] [.ref o, s0] M 0 0 Z ↔ gObj M o 6 ∧ Run d 79 85 [a0, a1, a2] [.int (M.1 o 2), s0] M 0 0 Z := R_getI (gd79 dX6_factor_82) rfl gf_6_19 rfl
theorem z79_85 : Run d 79 85 [a0, a1, a2] [s1, s0] M 0 0 Z ↔ Run d 79 86 [a0, a1, a2] [.int 1, s1, s0] M 0 0 Z := R_iconst (gd79 dX6_factor_85) (by decide)
theorem z79_86 : Run d 79 86 [a0, a1, a2] [.int y, .int x, s0] M 0 0 Z ↔ Run d 79 87 [a0, a1, a2] [.int (x + y), s0] M 0 0 Z := R_arith (gd79 dX6_factor_86) rfl
theorem z79_87 : Run d 79 87 [a0, a1, a2] [.int x, .ref o] M 0 0 Z ↔ gObj M o 6 ∧ Run d 79 90 [a0, a1, a2] [] (gsI M o 2 x) 0 0 Z := R_putI (gd79 dX6_factor_87) rfl gf_6_19 (Or.inl rfl) rfl
theorem z79_90 : Run d 79 90 [some (.ref o), a1, a2] [] M 0 0 Z ↔ Run d 79 91 [some (.ref o), a1, a2] [.ref o] M 0 0 Z := R_local (gd79 dX6_factor_90) rfl rfl rfl
theorem z79_91 : Run d 79 91 [a0, some (.int x), a2] [s0] M 0 0 Z ↔ Run d 79 92 [a0, some (.int x), a2] [.int x, s0] M 0 0 Z := R_local (gd79 dX6_factor_91) rfl rfl rfl
theorem z79_92 : Run d 79 92 [a0, a1, a2] [s1, s0] M 0 0 Z ↔ Run d 79 93 [a0, a1, a2] [.int 1, s1, s0] M 0 0 Z := R_iconst (gd79 dX6_factor_92) (by decide)
theorem z79_93 : Run d 79 93 [a0, a1, a2] [.int y, .int x, s0] M 0 0 Z ↔ Run d 79 94 [a0, a1, a2] [.int (x + y), s0] M 0 0 Z := R_arith (gd79 dX6_factor_93) rfl
theorem z79_94 : Run d 79 94 [a0, a1, a2] [s1, .ref b] M 0 0 Z ↔ gObj M b 6 ∧ Call d 77 [.ref b, s1] M (fun r M1 => Run d 79 97 [a0, a1, a2] (r.toList ++ []) M1 0 0 Z) := R_callV (gd79 dX6_factor_94) rfl rfl rfl rfl rfl rfl gc_6_92 rfl rfl (Nat.le_of_ble_eq_true rfl) (Nat.le_of_ble_eq_true rfl) rfl rfl (Nat.le_of_ble_eq_true rfl) (Nat.le_of_ble_eq_true rfl)
theorem z79_97 : Run d 79 97 [some (.ref o), a1, a2] [] M 0 0 Z ↔ Run d 79 98 [some (.ref o), a1, a2] [.ref o] M 0 0 Z := R_local (gd79 dX6_factor_97) rfl rfl rfl
theorem z79_98 : Run d 79 98 [a0, a1, a2] [s0] M 0 0 Z ↔ Run d 79 100 [a0, a1, a2] [.int 41, s0] M 0 0 Z := R_bipush (gd79 dX6_factor_98) (by decide)
theorem z79_100 : Run d 79 100 [a0, a1, a2] [s1, .ref b] M 0 0 Z ↔ gObj M b 6 ∧ Call d 72 [.ref b, s1] M (fun r M1 => Run d 79 103 [a0, a1, a2] (r.toList ++ []) M1 0 0 Z) := R_callV (gd79 dX6_factor_100) rfl rfl rfl rfl rfl rfl gc_6_95 rfl rfl (Nat.le_of_ble_eq_true rfl) (Nat.le_of_ble_eq_true rfl) rfl rfl (Nat.le_of_ble_eq_true rfl) (Nat.le_of_ble_eq_true rfl)
theorem z79_103 : Run d 79 103 [a0, a1, a2] [] M 0 0 Z ↔ Z none M := R_vret (gd79 dX6_factor_103) rfl
theorem e79 : Call (d + 1) 79 [s0, s1] M Z ↔ Run d 79 0 [some s0, some s1, none] [] M 0 0 Z := Call_iff (Nat.lt_of_lt_of_le (Nat.lt_succ_self 79) (Nat.le_of_ble_eq_true rfl)) (Nat.le_of_ble_eq_true rfl)
/-! 80: X6_number ()V -/
theorem gd80 {pc : Nat} {r : Except _ _} (h : decode cX6_number pc = r) : decode (gby 80) pc = r := h
theorem z80_0 : Run d 80 0 [a0, a1, a2] [] M 0 0 Z ↔ Run d 80 1 [a0, a1, a2] [.int 0] M 0 0 Z := R_iconst (gd80 dX6_number_0) (by decide)
theorem z80_1 : Run d 80 1 [a0, a1, a2] [.int x] M 0 0 Z ↔ Run d 80 2 [a0, some (.int x), a2] [] M 0 0 Z := R_local (gd80 dX6_number_1) rfl rfl rfl
theorem z80_2 : Run d 80 2 [a0, a1, a2] [] M 0 0 Z ↔ Run d 80 3 [a0, a1, a2] [.int 0] M 0 0 Z := R_iconst (gd80 dX6_number_2) (by decide)
theorem z80_3 : Run d 80 3 [a0, a1, a2] [.int x] M 0 0 Z ↔ Run d 80 4 [a0, a1, some (.int x)] [] M 0 0 Z := R_local (gd80 dX6_number_3) rfl rfl rfl
theorem z80_4 : Run d 80 4 [a0, a1, some (.int x)] [] M 0 0 Z ↔ Run d 80 5 [a0, a1, some (.int x)] [.int x] M 0 0 Z := R_local (gd80 dX6_number_4) rfl rfl rfl
theorem z80_5 : Run d 80 5 [a0, a1, a2] [s0] M 0 0 Z ↔ Run d 80 6 [a0, a1, a2] [.int 3, s0] M 0 0 Z := R_iconst (gd80 dX6_number_5) (by decide)
theorem z80_6 : Run d 80 6 [a0, a1, a2] [.int y, .int x] M 0 0 Z ↔ (y ≤ x → Run d 80 48 [a0, a1, a2] [] M 0 0 Z) ∧ (¬ (y ≤ x) → Run d 80 9 [a0, a1, a2] [] M 0 0 Z) := R_icmp (gd80 dX6_number_6) (show gTgt 6 42 = some 48 by decide) gIf_ge
theorem z80_9 : Run d 80 9 [some (.ref o), a1, a2] [] M 0 0 Z ↔ Run d 80 10 [some (.ref o), a1, a2] [.ref o] M 0 0 Z := R_local (gd80 dX6_number_9) rfl rfl rfl
theorem z80_10 : Run d 80 10 [a0, a1, a2] [.ref b] M 0 0 Z ↔ gObj M b 6 ∧ Call d 69 [.ref b] M (fun r M1 => Run d 80 13 [a0, a1, a2] (r.toList ++ []) M1 0 0 Z) := R_callV (gd80 dX6_number_10) rfl rfl rfl rfl rfl rfl gc_6_74 rfl rfl (Nat.le_of_ble_eq_true rfl) (Nat.le_of_ble_eq_true rfl) rfl rfl (Nat.le_of_ble_eq_true rfl) (Nat.le_of_ble_eq_true rfl)
theorem z80_13 : Run d 80 13 [a0, a1, a2] [s0] M 0 0 Z ↔ Call d 81 [s0] M (fun r M1 => Run d 80 16 [a0, a1, a2] (r.toList ++ []) M1 0 0 Z) := R_call (gd80 dX6_number_13) rfl rfl rfl rfl rfl rfl gc_6_107 rfl (by decide) (Nat.le_of_ble_eq_true rfl) (Nat.le_of_ble_eq_true rfl) rfl rfl rfl (Nat.le_of_ble_eq_true rfl) (Nat.le_of_ble_eq_true rfl)
theorem z80_16 : Run d 80 16 [a0, a1, a2] [.int x] M 0 0 Z ↔ (x = 0 → Run d 80 48 [a0, a1, a2] [] M 0 0 Z) ∧ (¬ (x = 0) → Run d 80 19 [a0, a1, a2] [] M 0 0 Z) := R_if (gd80 dX6_number_16) (show gTgt 16 32 = some 48 by decide) gIf_eq
theorem z80_19 : Run d 80 19 [a0, a1, a2] [] M 0 0 Z ↔ Run d 80 21 [a0, a1, a2] [.int 10] M 0 0 Z := R_bipush (gd80 dX6_number_19) (by decide)
theorem z80_21 : Run d 80 21 [a0, some (.int x), a2] [s0] M 0 0 Z ↔ Run d 80 22 [a0, some (.int x), a2] [.int x, s0] M 0 0 Z := R_local (gd80 dX6_number_21) rfl rfl rfl
theorem z80_22 : Run d 80 22 [a0, a1, a2] [.int y, .int x] M 0 0 Z ↔ Run d 80 23 [a0, a1, a2] [.int (x * y)] M 0 0 Z := R_arith (gd80 dX6_number_22) rfl
theorem z80_23 : Run d 80 23 [some (.ref o), a1, a2] [s0] M 0 0 Z ↔ Run d 80 24 [some (.ref o), a1, a2] [.ref o, s0] M 0 0 Z := R_local (gd80 dX6_number_23) rfl rfl rfl
theorem z80_24 : Run d 80 24 [a0, a1, a2] [.ref b, s0] M 0 0 Z ↔ gObj M b 6 ∧ Call d 69 [.ref b] M (fun r M1 => Run d 80 27 [a0, a1, a2] (r.toList ++ [s0]) M1 0 0 Z) := R_callV (gd80 dX6_number_24) rfl rfl rfl rfl rfl rfl gc_6_74 rfl rfl (Nat.le_of_ble_eq_true rfl) (Nat.le_of_ble_eq_true rfl) rfl rfl (Nat.le_of_ble_eq_true rfl) (Nat.le_of_ble_eq_true rfl)
theorem z80_27 : Run d 80 27 [a0, a1, a2] [.int y, .int x] M 0 0 Z ↔ Run d 80 28 [a0, a1, a2] [.int (x + y)] M 0 0 Z := R_arith (gd80 dX6_number_27) rfl
theorem z80_28 : Run d 80 28 [a0, a1, a2] [s0] M 0 0 Z ↔ Run d 80 30 [a0, a1, a2] [.int 48, s0] M 0 0 Z := R_bipush (gd80 dX6_number_28) (by decide)
theorem z80_30 : Run d 80 30 [a0, a1, a2] [.int y, .int x] M 0 0 Z ↔ Run d 80 31 [a0, a1, a2] [.int (x - y)] M 0 0 Z := R_arith (gd80 dX6_number_30) rfl
theorem z80_31 : Run d 80 31 [a0, a1, a2] [.int x] M 0 0 Z ↔ Run d 80 32 [a0, some (.int x), a2] [] M 0 0 Z := R_local (gd80 dX6_number_31) rfl rfl rfl
theorem z80_32 : Run d 80 32 [some (.ref o), a1, a2] [] M 0 0 Z ↔ Run d 80 33 [some (.ref o), a1, a2] [.ref o] M 0 0 Z := R_local (gd80 dX6_number_32) rfl rfl rfl
theorem z80_33 : Run d 80 33 [a0, a1, a2] [.ref o] M 0 0 Z ↔ Run d 80 34 [a0, a1, a2] [.ref o, .ref o] M 0 0 Z := R_arith (gd80 dX6_number_33) rfl
theorem z80_34 : Run d 80 34 [a0, a1, a2] [.ref o, s0] M 0 0 Z ↔ gObj M o 6 ∧ Run d 80 37 [a0, a1, a2] [.int (M.1 o 2), s0] M 0 0 Z := R_getI (gd80 dX6_number_34) rfl gf_6_19 rfl
theorem z80_37 : Run d 80 37 [a0, a1, a2] [s1, s0] M 0 0 Z ↔ Run d 80 38 [a0, a1, a2] [.int 1, s1, s0] M 0 0 Z := R_iconst (gd80 dX6_number_37) (by decide)
theorem z80_38 : Run d 80 38 [a0, a1, a2] [.int y, .int x, s0] M 0 0 Z ↔ Run d 80 39 [a0, a1, a2] [.int (x + y), s0] M 0 0 Z := R_arith (gd80 dX6_number_38) rfl
theorem z80_39 : Run d 80 39 [a0, a1, a2] [.int x, .ref o] M 0 0 Z ↔ gObj M o 6 ∧ Run d 80 42 [a0, a1, a2] [] (gsI M o 2 x) 0 0 Z := R_putI (gd80 dX6_number_39) rfl gf_6_19 (Or.inl rfl) rfl
theorem z80_42 : Run d 80 42 [a0, a1, some (.int x)] [] M 0 0 Z ↔ Run d 80 45 [a0, a1, some (.int (x + 1))] [] M 0 0 Z := R_iinc (gd80 dX6_number_42) (by decide) rfl rfl
theorem z80_45 : Run d 80 45 [a0, a1, a2] [] M 0 0 Z ↔ Run d 80 4 [a0, a1, a2] [] M 0 0 Z := R_goto (gd80 dX6_number_45) (show gTgt 45 (-41) = some 4 by decide)
theorem z80_48 : Run d 80 48 [some (.ref o), a1, a2] [] M 0 0 Z ↔ Run d 80 49 [some (.ref o), a1, a2] [.ref o] M 0 0 Z := R_local (gd80 dX6_number_48) rfl rfl rfl
theorem z80_49 : Run d 80 49 [a0, a1, a2] [.ref b] M 0 0 Z ↔ gObj M b 6 ∧ Call d 69 [.ref b] M (fun r M1 => Run d 80 52 [a0, a1, a2] (r.toList ++ []) M1 0 0 Z) := R_callV (gd80 dX6_number_49) rfl rfl rfl rfl rfl rfl gc_6_74 rfl rfl (Nat.le_of_ble_eq_true rfl) (Nat.le_of_ble_eq_true rfl) rfl rfl (Nat.le_of_ble_eq_true rfl) (Nat.le_of_ble_eq_true rfl)
theorem z80_52 : Run d 80 52 [a0, a1, a2] [s0] M 0 0 Z ↔ Call d 81 [s0] M (fun r M1 => Run d 80 55 [a0, a1, a2] (r.toList ++ []) M1 0 0 Z) := R_call (gd80 dX6_number_52) rfl rfl rfl rfl rfl rfl gc_6_107 rfl (by decide) (Nat.le_of_ble_eq_true rfl) (Nat.le_of_ble_eq_true rfl) rfl rfl rfl (Nat.le_of_ble_eq_true rfl) (Nat.le_of_ble_eq_true rfl)
theorem z80_55 : Run d 80 55 [a0, a1, a2] [.int x] M 0 0 Z ↔ (x = 0 → Run d 80 63 [a0, a1, a2] [] M 0 0 Z) ∧ (¬ (x = 0) → Run d 80 58 [a0, a1, a2] [] M 0 0 Z) := R_if (gd80 dX6_number_55) (show gTgt 55 8 = some 63 by decide) gIf_eq
theorem z80_58 : Run d 80 58 [some (.ref o), a1, a2] [] M 0 0 Z ↔ Run d 80 59 [some (.ref o), a1, a2] [.ref o] M 0 0 Z := R_local (gd80 dX6_number_58) rfl rfl rfl
theorem z80_59 : Run d 80 59 [a0, a1, a2] [s0] M 0 0 Z ↔ Run d 80 60 [a0, a1, a2] [.int 2, s0] M 0 0 Z := R_iconst (gd80 dX6_number_59) (by decide)
theorem z80_60 : Run d 80 60 [a0, a1, a2] [s1, .ref b] M 0 0 Z ↔ gObj M b 6 ∧ Call d 70 [.ref b, s1] M (fun r M1 => Run d 80 63 [a0, a1, a2] (r.toList ++ []) M1 0 0 Z) := R_callV (gd80 dX6_number_60) rfl rfl rfl rfl rfl rfl gc_6_56 rfl rfl (Nat.le_of_ble_eq_true rfl) (Nat.le_of_ble_eq_true rfl) rfl rfl (Nat.le_of_ble_eq_true rfl) (Nat.le_of_ble_eq_true rfl)
theorem z80_63 : Run d 80 63 [some (.ref o), a1, a2] [] M 0 0 Z ↔ Run d 80 64 [some (.ref o), a1, a2] [.ref o] M 0 0 Z := R_local (gd80 dX6_number_63) rfl rfl rfl
theorem z80_64 : Run d 80 64 [a0, a1, a2] [s0] M 0 0 Z ↔ Run d 80 67 [a0, a1, a2] [.int 256, s0] M 0 0 Z := R_sipush (gd80 dX6_number_64) (by decide)
theorem z80_67 : Run d 80 67 [a0, some (.int x), a2] [s1, s0] M 0 0 Z ↔ Run d 80 68 [a0, some (.int x), a2] [.int x, s1, s0] M 0 0 Z := R_local (gd80 dX6_number_67) rfl rfl rfl
theorem z80_68 : Run d 80 68 [a0, a1, a2] [.int y, .int x, s0] M 0 0 Z ↔ Run d 80 69 [a0, a1, a2] [.int (x + y), s0] M 0 0 Z := R_arith (gd80 dX6_number_68) rfl
theorem z80_69 : Run d 80 69 [a0, a1, a2] [s1, .ref b] M 0 0 Z ↔ gObj M b 6 ∧ Call d 71 [.ref b, s1] M (fun r M1 => Run d 80 72 [a0, a1, a2] (r.toList ++ []) M1 0 0 Z) := R_callV (gd80 dX6_number_69) rfl rfl rfl rfl rfl rfl gc_6_85 rfl rfl (Nat.le_of_ble_eq_true rfl) (Nat.le_of_ble_eq_true rfl) rfl rfl (Nat.le_of_ble_eq_true rfl) (Nat.le_of_ble_eq_true rfl)
theorem z80_72 : Run d 80 72 [a0, a1, a2] [] M 0 0 Z ↔ Z none M := R_vret (gd80 dX6_number_72) rfl
theorem e80 : Call (d + 1) 80 [s0] M Z ↔ Run d 80 0 [some s0, none, none] [] M 0 0 Z := Call_iff (Nat.lt_of_lt_of_le (Nat.lt_succ_self 80) (Nat.le_of_ble_eq_true rfl)) (Nat.le_of_ble_eq_true rfl)
/-! 81: X6_isDigit (I)Z -/
theorem gd81 {pc : Nat} {r : Except _ _} (h : decode cX6_isDigit pc = r) : decode (gby 81) pc = r := h
theorem z81_0 : Run d 81 0 [some (.int x)] [] M 0 0 Z ↔ Run d 81 1 [some (.int x)] [.int x] M 0 0 Z := R_local (gd81 dX6_isDigit_0) rfl rfl rfl
theorem z81_1 : Run d 81 1 [a0] [s0] M 0 0 Z ↔ Run d 81 3 [a0] [.int 48, s0] M 0 0 Z := R_bipush (gd81 dX6_isDigit_1) (by decide)
theorem z81_3 : Run d 81 3 [a0] [.int y, .int x] M 0 0 Z ↔ (x < y → Run d 81 16 [a0] [] M 0 0 Z) ∧ (¬ (x < y) → Run d 81 6 [a0] [] M 0 0 Z) := R_icmp (gd81 dX6_isDigit_3) (show gTgt 3 13 = some 16 by decide) gIf_lt
theorem z81_6 : Run d 81 6 [some (.int x)] [] M 0 0 Z ↔ Run d 81 7 [some (.int x)] [.int x] M 0 0 Z := R_local (gd81 dX6_isDigit_6) rfl rfl rfl
theorem z81_7 : Run d 81 7 [a0] [s0] M 0 0 Z ↔ Run d 81 9 [a0] [.int 57, s0] M 0 0 Z := R_bipush (gd81 dX6_isDigit_7) (by decide)
theorem z81_9 : Run d 81 9 [a0] [.int y, .int x] M 0 0 Z ↔ (y < x → Run d 81 16 [a0] [] M 0 0 Z) ∧ (¬ (y < x) → Run d 81 12 [a0] [] M 0 0 Z) := R_icmp (gd81 dX6_isDigit_9) (show gTgt 9 7 = some 16 by decide) gIf_gt
theorem z81_12 : Run d 81 12 [a0] [] M 0 0 Z ↔ Run d 81 13 [a0] [.int 1] M 0 0 Z := R_iconst (gd81 dX6_isDigit_12) (by decide)
theorem z81_13 : Run d 81 13 [a0] [s0] M 0 0 Z ↔ Run d 81 17 [a0] [s0] M 0 0 Z := R_goto (gd81 dX6_isDigit_13) (show gTgt 13 4 = some 17 by decide)
theorem z81_16 : Run d 81 16 [a0] [] M 0 0 Z ↔ Run d 81 17 [a0] [.int 0] M 0 0 Z := R_iconst (gd81 dX6_isDigit_16) (by decide)
theorem z81_17 : Run d 81 17 [a0] [.int x] M 0 0 Z ↔ (x = 0 ∨ x = 1) ∧ Z (some (.int x)) M := R_iretZ (gd81 dX6_isDigit_17) rfl
theorem e81 : Call (d + 1) 81 [s0] M Z ↔ Run d 81 0 [some s0] [] M 0 0 Z := Call_iff (Nat.lt_of_lt_of_le (Nat.lt_succ_self 81) (Nat.le_of_ble_eq_true rfl)) (Nat.le_of_ble_eq_true rfl)
/-! 82: X6_isLetterOfStep (I)Z -/
theorem gd82 {pc : Nat} {r : Except _ _} (h : decode cX6_isLetterOfStep pc = r) : decode (gby 82) pc = r := h
theorem z82_0 : Run d 82 0 [some (.int x)] [] M 0 0 Z ↔ Run d 82 1 [some (.int x)] [.int x] M 0 0 Z := R_local (gd82 dX6_isLetterOfStep_0) rfl rfl rfl
theorem z82_1 : Run d 82 1 [a0] [.int x] M 0 0 Z ↔ (x = 91 → Run d 82 144 [a0] [] M 0 0 Z) ∧ (¬ x = 91 → ((x = 100 → Run d 82 144 [a0] [] M 0 0 Z) ∧ (¬ x = 100 → ((x = 102 → Run d 82 144 [a0] [] M 0 0 Z) ∧ (¬ x = 102 → ((x = 104 → Run d 82 144 [a0] [] M 0 0 Z) ∧ (¬ x = 104 → ((x = 112 → Run d 82 144 [a0] [] M 0 0 Z) ∧ (¬ x = 112 → ((x = 114 → Run d 82 144 [a0] [] M 0 0 Z) ∧ (¬ x = 114 → ((x = 115 → Run d 82 144 [a0] [] M 0 0 Z) ∧ (¬ x = 115 → ((x = 116 → Run d 82 144 [a0] [] M 0 0 Z) ∧ (¬ x = 116 → ((x = 117 → Run d 82 144 [a0] [] M 0 0 Z) ∧ (¬ x = 117 → ((x = 119 → Run d 82 144 [a0] [] M 0 0 Z) ∧ (¬ x = 119 → ((x = 120 → Run d 82 144 [a0] [] M 0 0 Z) ∧ (¬ x = 120 → ((x = 121 → Run d 82 144 [a0] [] M 0 0 Z) ∧ (¬ x = 121 → ((x = 122 → Run d 82 144 [a0] [] M 0 0 Z) ∧ (¬ x = 122 → (Run d 82 146 [a0] [] M 0 0 Z)))))))))))))))))))))))))) := R_table (tbl := [(91, 144), (100, 144), (102, 144), (104, 144), (112, 144), (114, 144), (115, 144), (116, 144), (117, 144), (119, 144), (120, 144), (121, 144), (122, 144)]) (dt := 146) (gd82 dX6_isLetterOfStep_1) (by decide) (by decide) (by decide)
theorem z82_144 : Run d 82 144 [a0] [] M 0 0 Z ↔ Run d 82 145 [a0] [.int 1] M 0 0 Z := R_iconst (gd82 dX6_isLetterOfStep_144) (by decide)
theorem z82_145 : Run d 82 145 [a0] [.int x] M 0 0 Z ↔ (x = 0 ∨ x = 1) ∧ Z (some (.int x)) M := R_iretZ (gd82 dX6_isLetterOfStep_145) rfl
theorem z82_146 : Run d 82 146 [a0] [] M 0 0 Z ↔ Run d 82 147 [a0] [.int 0] M 0 0 Z := R_iconst (gd82 dX6_isLetterOfStep_146) (by decide)
theorem z82_147 : Run d 82 147 [a0] [.int x] M 0 0 Z ↔ (x = 0 ∨ x = 1) ∧ Z (some (.int x)) M := R_iretZ (gd82 dX6_isLetterOfStep_147) rfl
theorem e82 : Call (d + 1) 82 [s0] M Z ↔ Run d 82 0 [some s0] [] M 0 0 Z := Call_iff (Nat.lt_of_lt_of_le (Nat.lt_succ_self 82) (Nat.le_of_ble_eq_true rfl)) (Nat.le_of_ble_eq_true rfl)
/-! 83: X6_isLetterOfFactor (I)Z -/
theorem gd83 {pc : Nat} {r : Except _ _} (h : decode cX6_isLetterOfFactor pc = r) : decode (gby 83) pc = r := h
theorem z83_0 : Run d 83 0 [some (.int x)] [] M 0 0 Z ↔ Run d 83 1 [some (.int x)] [.int x] M 0 0 Z := R_local (gd83 dX6_isLetterOfFactor_0) rfl rfl rfl
theorem z83_1 : Run d 83 1 [a0] [.int x] M 0 0 Z ↔ (x = 103 → Run d 83 96 [a0] [] M 0 0 Z) ∧ (¬ x = 103 → ((x = 105 → Run d 83 96 [a0] [] M 0 0 Z) ∧ (¬ x = 105 → ((x = 107 → Run d 83 96 [a0] [] M 0 0 Z) ∧ (¬ x = 107 → ((x = 108 → Run d 83 96 [a0] [] M 0 0 Z) ∧ (¬ x = 108 → ((x = 120 → Run d 83 96 [a0] [] M 0 0 Z) ∧ (¬ x = 120 → ((x = 121 → Run d 83 96 [a0] [] M 0 0 Z) ∧ (¬ x = 121 → ((x = 122 → Run d 83 96 [a0] [] M 0 0 Z) ∧ (¬ x = 122 → (Run d 83 98 [a0] [] M 0 0 Z)))))))))))))) := R_table (tbl := [(103, 96), (105, 96), (107, 96), (108, 96), (120, 96), (121, 96), (122, 96)]) (dt := 98) (gd83 dX6_isLetterOfFactor_1) (by decide) (by decide) (by decide)
theorem z83_96 : Run d 83 96 [a0] [] M 0 0 Z ↔ Run d 83 97 [a0] [.int 1] M 0 0 Z := R_iconst (gd83 dX6_isLetterOfFactor_96) (by decide)
theorem z83_97 : Run d 83 97 [a0] [.int x] M 0 0 Z ↔ (x = 0 ∨ x = 1) ∧ Z (some (.int x)) M := R_iretZ (gd83 dX6_isLetterOfFactor_97) rfl
theorem z83_98 : Run d 83 98 [a0] [] M 0 0 Z ↔ Run d 83 99 [a0] [.int 0] M 0 0 Z := R_iconst (gd83 dX6_isLetterOfFactor_98) (by decide)
theorem z83_99 : Run d 83 99 [a0] [.int x] M 0 0 Z ↔ (x = 0 ∨ x = 1) ∧ Z (some (.int x)) M := R_iretZ (gd83 dX6_isLetterOfFactor_99) rfl
theorem e83 : Call (d + 1) 83 [s0] M Z ↔ Run d 83 0 [some s0] [] M 0 0 Z := Call_iff (Nat.lt_of_lt_of_le (Nat.lt_succ_self 83) (Nat.le_of_ble_eq_true rfl)) (Nat.le_of_ble_eq_true rfl)
/-! 84: X7_init ([II)V -/
theorem gd84 {pc : Nat} {r : Except _ _} (h : decode cX7_init pc = r) : decode (gby 84) pc = r := h
theorem z84_0 : Run d 84 0 [some (.ref o), a1, a2] [] M 0 0 Z ↔ Run d 84 1 [some (.ref o), a1, a2] [.ref o] M 0 0 Z := R_local (gd84 dX7_init_0) rfl rfl rfl
theorem z84_1 : Run d 84 1 [a0, a1, a2] [.ref o] M 0 0 Z ↔ Run d 84 4 [a0, a1, a2] [] M 0 0 Z := R_prim (gd84 dX7_init_1) rfl rfl rfl rfl rfl rfl gc_7_1 rfl (by decide) rfl (Nat.le_of_ble_eq_true rfl)
theorem z84_4 : Run d 84 4 [some (.ref o), a1, a2] [] M 0 0 Z ↔ Run d 84 5 [some (.ref o), a1, a2] [.ref o] M 0 0 Z := R_local (gd84 dX7_init_4) rfl rfl rfl
theorem z84_5 : Run d 84 5 [a0, some (.ref o), a2] [s0] M 0 0 Z ↔ Run d 84 6 [a0, some (.ref o), a2] [.ref o, s0] M 0 0 Z := R_local (gd84 dX7_init_5) rfl rfl rfl
theorem z84_5n : Run d 84 5 [a0, some .null, a2] [s0] M 0 0 Z ↔ Run d 84 6 [a0, some .null, a2] [.null, s0] M 0 0 Z := R_local (gd84 dX7_init_5) rfl rfl rfl
theorem z84_6 : Run d 84 6 [a0, a1, a2] [v, .ref o] M 0 0 Z ↔ gObj M o 7 ∧ gisRef v = true ∧ Run d 84 9 [a0, a1, a2] [] (gsR M o 0 (gU v)) 0 0 Z := R_putR (gd84 dX7_init_6) rfl gf_7_7 (Or.inr ⟨rfl, rfl⟩) rfl
theorem z84_9 : Run d 84 9 [some (.ref o), a1, a2] [] M 0 0 Z ↔ Run d 84 10 [some (.ref o), a1, a2] [.ref o] M 0 0 Z := R_local (gd84 dX7_init_9) rfl rfl rfl
theorem z84_10 : Run d 84 10 [a0, a1, some (.int x)] [s0] M 0 0 Z ↔ Run d 84 11 [a0, a1, some (.int x)] [.int x, s0] M 0 0 Z := R_local (gd84 dX7_init_10) rfl rfl rfl
theorem z84_11 : Run d 84 11 [a0, a1, a2] [.int x, .ref o] M 0 0 Z ↔ gObj M o 7 ∧ Run d 84 14 [a0, a1, a2] [] (gsI M o 1 x) 0 0 Z := R_putI (gd84 dX7_init_11) rfl gf_7_13 (Or.inr ⟨rfl, rfl⟩) rfl
theorem z84_14 : Run d 84 14 [a0, a1, a2] [] M 0 0 Z ↔ Z none M := R_vret (gd84 dX7_init_14) rfl
theorem e84 : Call (d + 1) 84 [s0, s1, s2] M Z ↔ Run d 84 0 [some s0, some s1, some s2] [] M 0 0 Z := Call_iff (Nat.lt_of_lt_of_le (Nat.lt_succ_self 84) (Nat.le_of_ble_eq_true rfl)) (Nat.le_of_ble_eq_true rfl)
/-! 85: X8_init ()V -/
theorem gd85 {pc : Nat} {r : Except _ _} (h : decode cX8_init pc = r) : decode (gby 85) pc = r := h
theorem z85_0 : Run d 85 0 [some (.ref o)] [] M 0 0 Z ↔ Run d 85 1 [some (.ref o)] [.ref o] M 0 0 Z := R_local (gd85 dX8_init_0) rfl rfl rfl
theorem z85_1 : Run d 85 1 [a0] [.ref o] M 0 0 Z ↔ Run d 85 4 [a0] [] M 0 0 Z := R_prim (gd85 dX8_init_1) rfl rfl rfl rfl rfl rfl gc_8_1 rfl (by decide) rfl (Nat.le_of_ble_eq_true rfl)
theorem z85_4 : Run d 85 4 [some (.ref o)] [] M 0 0 Z ↔ Run d 85 5 [some (.ref o)] [.ref o] M 0 0 Z := R_local (gd85 dX8_init_4) rfl rfl rfl
theorem z85_5 : Run d 85 5 [a0] [s0] M 0 0 Z ↔ Run d 85 7 [a0] [.int 48, s0] M 0 0 Z := R_bipush (gd85 dX8_init_5) (by decide)
theorem z85_7 : Run d 85 7 [a0] [.int 48, s0] M 0 0 Z ↔ Run d 85 9 [a0] [.ref M.2.2.length, s0] (gNew M (.inr (0, 48))) 1 48 Z := R_newa2 (gd85 dX8_init_7) (t := 0) (by decide) (n := 48) (by decide) (by decide)
theorem z85_9 : Run d 85 9 [a0] [v, .ref o] M 1 48 Z ↔ gObj M o 8 ∧ gisRef v = true ∧ Run d 85 12 [a0] [] (gsR M o 0 (gU v)) 1 48 Z := R_putR (gd85 dX8_init_9) rfl gf_8_9 (Or.inr ⟨rfl, rfl⟩) rfl
theorem z85_12 : Run d 85 12 [some (.ref o)] [] M 1 48 Z ↔ Run d 85 13 [some (.ref o)] [.ref o] M 1 48 Z := R_local (gd85 dX8_init_12) rfl rfl rfl
theorem z85_13 : Run d 85 13 [a0] [s0] M 1 48 Z ↔ Run d 85 14 [a0] [.int 0, s0] M 1 48 Z := R_iconst (gd85 dX8_init_13) (by decide)
theorem z85_14 : Run d 85 14 [a0] [.int x, .ref o] M 1 48 Z ↔ gObj M o 8 ∧ Run d 85 17 [a0] [] (gsI M o 1 x) 1 48 Z := R_putI (gd85 dX8_init_14) rfl gf_8_13 (Or.inl rfl) rfl
theorem z85_17 : Run d 85 17 [some (.ref o)] [] M 1 48 Z ↔ Run d 85 18 [some (.ref o)] [.ref o] M 1 48 Z := R_local (gd85 dX8_init_17) rfl rfl rfl
theorem z85_18 : Run d 85 18 [a0] [s0] M 1 48 Z ↔ Run d 85 20 [a0] [.int 6, s0] M 1 48 Z := R_bipush (gd85 dX8_init_18) (by decide)
theorem z85_20 : Run d 85 20 [a0] [.int 6, s0] M 1 48 Z ↔ Run d 85 23 [a0] [.ref M.2.2.length, s0] (gNew M (.inr (3, 6))) 2 54 Z := R_anew2 (gd85 dX8_init_20) rfl (by decide) (n := 6) (by decide) (by decide)
theorem z85_23 : Run d 85 23 [a0] [v, .ref o] M 2 54 Z ↔ gObj M o 8 ∧ gisRef v = true ∧ Run d 85 26 [a0] [] (gsR M o 2 (gU v)) 2 54 Z := R_putR (gd85 dX8_init_23) rfl gf_8_19 (Or.inr ⟨rfl, rfl⟩) rfl
theorem z85_26 : Run d 85 26 [some (.ref o)] [] M 2 54 Z ↔ Run d 85 27 [some (.ref o)] [.ref o] M 2 54 Z := R_local (gd85 dX8_init_26) rfl rfl rfl
theorem z85_27 : Run d 85 27 [a0] [s0] M 2 54 Z ↔ Run d 85 28 [a0] [.int 0, s0] M 2 54 Z := R_iconst (gd85 dX8_init_27) (by decide)
theorem z85_28 : Run d 85 28 [a0] [.int x, .ref o] M 2 54 Z ↔ gObj M o 8 ∧ Run d 85 31 [a0] [] (gsI M o 3 x) 2 54 Z := R_putI (gd85 dX8_init_28) rfl gf_8_23 (Or.inl rfl) rfl
theorem z85_31 : Run d 85 31 [some (.ref o)] [] M 2 54 Z ↔ Run d 85 32 [some (.ref o)] [.ref o] M 2 54 Z := R_local (gd85 dX8_init_31) rfl rfl rfl
theorem z85_32 : Run d 85 32 [a0] [s0] M 2 54 Z ↔ Run d 85 34 [a0] [.int 10, s0] M 2 54 Z := R_bipush (gd85 dX8_init_32) (by decide)
theorem z85_34 : Run d 85 34 [a0] [.int 10, s0] M 2 54 Z ↔ Run d 85 37 [a0] [.ref M.2.2.length, s0] (gNew M (.inr (4, 10))) 3 64 Z := R_anew2 (gd85 dX8_init_34) rfl (by decide) (n := 10) (by decide) (by decide)
theorem z85_37 : Run d 85 37 [a0] [v, .ref o] M 3 64 Z ↔ gObj M o 8 ∧ gisRef v = true ∧ Run d 85 40 [a0] [] (gsR M o 4 (gU v)) 3 64 Z := R_putR (gd85 dX8_init_37) rfl gf_8_28 (Or.inr ⟨rfl, rfl⟩) rfl
theorem z85_40 : Run d 85 40 [some (.ref o)] [] M 3 64 Z ↔ Run d 85 41 [some (.ref o)] [.ref o] M 3 64 Z := R_local (gd85 dX8_init_40) rfl rfl rfl
theorem z85_41 : Run d 85 41 [a0] [s0] M 3 64 Z ↔ Run d 85 42 [a0] [.int 0, s0] M 3 64 Z := R_iconst (gd85 dX8_init_41) (by decide)
theorem z85_42 : Run d 85 42 [a0] [.int x, .ref o] M 3 64 Z ↔ gObj M o 8 ∧ Run d 85 45 [a0] [] (gsI M o 5 x) 3 64 Z := R_putI (gd85 dX8_init_42) rfl gf_8_32 (Or.inl rfl) rfl
theorem z85_45 : Run d 85 45 [some (.ref o)] [] M 3 64 Z ↔ Run d 85 46 [some (.ref o)] [.ref o] M 3 64 Z := R_local (gd85 dX8_init_45) rfl rfl rfl
theorem z85_46 : Run d 85 46 [a0] [s0] M 3 64 Z ↔ Run d 85 48 [a0] [.int 120, s0] M 3 64 Z := R_bipush (gd85 dX8_init_46) (by decide)
theorem z85_48 : Run d 85 48 [a0] [.int 120, s0] M 3 64 Z ↔ Run d 85 50 [a0] [.ref M.2.2.length, s0] (gNew M (.inr (0, 120))) 4 184 Z := R_newa2 (gd85 dX8_init_48) (t := 0) (by decide) (n := 120) (by decide) (by decide)
theorem z85_50 : Run d 85 50 [a0] [v, .ref o] M 4 184 Z ↔ gObj M o 8 ∧ gisRef v = true ∧ Run d 85 53 [a0] [] (gsR M o 6 (gU v)) 4 184 Z := R_putR (gd85 dX8_init_50) rfl gf_8_35 (Or.inr ⟨rfl, rfl⟩) rfl
theorem z85_53 : Run d 85 53 [some (.ref o)] [] M 4 184 Z ↔ Run d 85 54 [some (.ref o)] [.ref o] M 4 184 Z := R_local (gd85 dX8_init_53) rfl rfl rfl
theorem z85_54 : Run d 85 54 [a0] [s0] M 4 184 Z ↔ Run d 85 55 [a0] [.int 0, s0] M 4 184 Z := R_iconst (gd85 dX8_init_54) (by decide)
theorem z85_55 : Run d 85 55 [a0] [.int x, .ref o] M 4 184 Z ↔ gObj M o 8 ∧ Run d 85 58 [a0] [] (gsI M o 7 x) 4 184 Z := R_putI (gd85 dX8_init_55) rfl gf_8_38 (Or.inl rfl) rfl
theorem z85_58 : Run d 85 58 [some (.ref o)] [] M 4 184 Z ↔ Run d 85 59 [some (.ref o)] [.ref o] M 4 184 Z := R_local (gd85 dX8_init_58) rfl rfl rfl
theorem z85_59 : Run d 85 59 [a0] [s0] M 4 184 Z ↔ Run d 85 61 [a0] [.int 48, s0] M 4 184 Z := R_bipush (gd85 dX8_init_59) (by decide)
theorem z85_61 : Run d 85 61 [a0] [.int 48, s0] M 4 184 Z ↔ Run d 85 63 [a0] [.ref M.2.2.length, s0] (gNew M (.inr (0, 48))) 5 232 Z := R_newa2 (gd85 dX8_init_61) (t := 0) (by decide) (n := 48) (by decide) (by decide)
theorem z85_63 : Run d 85 63 [a0] [v, .ref o] M 5 232 Z ↔ gObj M o 8 ∧ gisRef v = true ∧ Run d 85 66 [a0] [] (gsR M o 8 (gU v)) 5 232 Z := R_putR (gd85 dX8_init_63) rfl gf_8_41 (Or.inr ⟨rfl, rfl⟩) rfl
theorem z85_66 : Run d 85 66 [some (.ref o)] [] M 5 232 Z ↔ Run d 85 67 [some (.ref o)] [.ref o] M 5 232 Z := R_local (gd85 dX8_init_66) rfl rfl rfl
theorem z85_67 : Run d 85 67 [a0] [s0] M 5 232 Z ↔ Run d 85 70 [a0] [.ref M.2.2.length, s0] (gNew M (.inl 6)) 6 240 Z := R_new2 (gd85 dX8_init_67) rfl (ci := 6) rfl rfl (by decide)
theorem z85_70 : Run d 85 70 [a0] [.ref o, s0] M 6 240 Z ↔ Run d 85 71 [a0] [.ref o, .ref o, s0] M 6 240 Z := R_arith (gd85 dX8_init_70) rfl
theorem z85_71 : Run d 85 71 [a0] [.ref b, s1, s0] M 6 240 Z ↔ Call d 67 [.ref b] M (fun r M1 => Run d 85 74 [a0] (r.toList ++ [s1, s0]) M1 8 608 Z) := R_call (gd85 dX8_init_71) rfl rfl rfl rfl rfl rfl gc_8_46 rfl (by decide) (Nat.le_of_ble_eq_true rfl) (Nat.le_of_ble_eq_true rfl) rfl rfl rfl (Nat.le_of_ble_eq_true rfl) (Nat.le_of_ble_eq_true rfl)
theorem z85_74 : Run d 85 74 [a0] [v, .ref o] M 8 608 Z ↔ gObj M o 8 ∧ gisRef v = true ∧ Run d 85 77 [a0] [] (gsR M o 9 (gU v)) 8 608 Z := R_putR (gd85 dX8_init_74) rfl gf_8_47 (Or.inr ⟨rfl, rfl⟩) rfl
theorem z85_77 : Run d 85 77 [some (.ref o)] [] M 8 608 Z ↔ Run d 85 78 [some (.ref o)] [.ref o] M 8 608 Z := R_local (gd85 dX8_init_77) rfl rfl rfl
theorem z85_78 : Run d 85 78 [a0] [s0] M 8 608 Z ↔ Run d 85 81 [a0] [.ref M.2.2.length, s0] (gNew M (.inl 2)) 9 618 Z := R_new2 (gd85 dX8_init_78) rfl (ci := 2) rfl rfl (by decide)
theorem z85_81 : Run d 85 81 [a0] [.ref o, s0] M 9 618 Z ↔ Run d 85 82 [a0] [.ref o, .ref o, s0] M 9 618 Z := R_arith (gd85 dX8_init_81) rfl
theorem z85_82 : Run d 85 82 [a0] [.ref b, s1, s0] M 9 618 Z ↔ Call d 18 [.ref b] M (fun r M1 => Run d 85 85 [a0] (r.toList ++ [s1, s0]) M1 14 659 Z) := R_call (gd85 dX8_init_82) rfl rfl rfl rfl rfl rfl gc_8_53 rfl (by decide) (Nat.le_of_ble_eq_true rfl) (Nat.le_of_ble_eq_true rfl) rfl rfl rfl (Nat.le_of_ble_eq_true rfl) (Nat.le_of_ble_eq_true rfl)
theorem z85_85 : Run d 85 85 [a0] [v, .ref o] M 14 659 Z ↔ gObj M o 8 ∧ gisRef v = true ∧ Run d 85 88 [a0] [] (gsR M o 10 (gU v)) 14 659 Z := R_putR (gd85 dX8_init_85) rfl gf_8_54 (Or.inr ⟨rfl, rfl⟩) rfl
theorem z85_88 : Run d 85 88 [some (.ref o)] [] M 14 659 Z ↔ Run d 85 89 [some (.ref o)] [.ref o] M 14 659 Z := R_local (gd85 dX8_init_88) rfl rfl rfl
theorem z85_89 : Run d 85 89 [a0] [s0] M 14 659 Z ↔ Run d 85 92 [a0] [.ref M.2.2.length, s0] (gNew M (.inl 1)) 15 675 Z := R_new2 (gd85 dX8_init_89) rfl (ci := 1) rfl rfl (by decide)
theorem z85_92 : Run d 85 92 [a0] [.ref o, s0] M 15 675 Z ↔ Run d 85 93 [a0] [.ref o, .ref o, s0] M 15 675 Z := R_arith (gd85 dX8_init_92) rfl
theorem z85_93 : Run d 85 93 [a0] [.ref b, s1, s0] M 15 675 Z ↔ Call d 3 [.ref b] M (fun r M1 => Run d 85 96 [a0] (r.toList ++ [s1, s0]) M1 25 3892 Z) := R_call (gd85 dX8_init_93) rfl rfl rfl rfl rfl rfl gc_8_60 rfl (by decide) (Nat.le_of_ble_eq_true rfl) (Nat.le_of_ble_eq_true rfl) rfl rfl rfl (Nat.le_of_ble_eq_true rfl) (Nat.le_of_ble_eq_true rfl)
theorem z85_96 : Run d 85 96 [a0] [v, .ref o] M 25 3892 Z ↔ gObj M o 8 ∧ gisRef v = true ∧ Run d 85 99 [a0] [] (gsR M o 11 (gU v)) 25 3892 Z := R_putR (gd85 dX8_init_96) rfl gf_8_61 (Or.inr ⟨rfl, rfl⟩) rfl
theorem z85_99 : Run d 85 99 [some (.ref o)] [] M 25 3892 Z ↔ Run d 85 100 [some (.ref o)] [.ref o] M 25 3892 Z := R_local (gd85 dX8_init_99) rfl rfl rfl
theorem z85_100 : Run d 85 100 [a0] [s0] M 25 3892 Z ↔ Run d 85 103 [a0] [.ref M.2.2.length, s0] (gNew M (.inl 1)) 26 3908 Z := R_new2 (gd85 dX8_init_100) rfl (ci := 1) rfl rfl (by decide)
theorem z85_103 : Run d 85 103 [a0] [.ref o, s0] M 26 3908 Z ↔ Run d 85 104 [a0] [.ref o, .ref o, s0] M 26 3908 Z := R_arith (gd85 dX8_init_103) rfl
theorem z85_104 : Run d 85 104 [a0] [.ref b, s1, s0] M 26 3908 Z ↔ Call d 3 [.ref b] M (fun r M1 => Run d 85 107 [a0] (r.toList ++ [s1, s0]) M1 36 7125 Z) := R_call (gd85 dX8_init_104) rfl rfl rfl rfl rfl rfl gc_8_60 rfl (by decide) (Nat.le_of_ble_eq_true rfl) (Nat.le_of_ble_eq_true rfl) rfl rfl rfl (Nat.le_of_ble_eq_true rfl) (Nat.le_of_ble_eq_true rfl)
theorem z85_107 : Run d 85 107 [a0] [v, .ref o] M 36 7125 Z ↔ gObj M o 8 ∧ gisRef v = true ∧ Run d 85 110 [a0] [] (gsR M o 12 (gU v)) 36 7125 Z := R_putR (gd85 dX8_init_107) rfl gf_8_65 (Or.inr ⟨rfl, rfl⟩) rfl
theorem z85_110 : Run d 85 110 [some (.ref o)] [] M 36 7125 Z ↔ Run d 85 111 [some (.ref o)] [.ref o] M 36 7125 Z := R_local (gd85 dX8_init_110) rfl rfl rfl
theorem z85_111 : Run d 85 111 [a0] [s0] M 36 7125 Z ↔ Run d 85 114 [a0] [.ref M.2.2.length, s0] (gNew M (.inl 3)) 37 7131 Z := R_new2 (gd85 dX8_init_111) rfl (ci := 3) rfl rfl (by decide)
theorem z85_114 : Run d 85 114 [a0] [.ref o, s0] M 37 7131 Z ↔ Run d 85 115 [a0] [.ref o, .ref o, s0] M 37 7131 Z := R_arith (gd85 dX8_init_114) rfl
theorem z85_115 : Run d 85 115 [a0] [.ref b, s1, s0] M 37 7131 Z ↔ Call d 30 [.ref b] M (fun r M1 => Run d 85 118 [a0] (r.toList ++ [s1, s0]) M1 41 8043 Z) := R_call (gd85 dX8_init_115) rfl rfl rfl rfl rfl rfl gc_8_70 rfl (by decide) (Nat.le_of_ble_eq_true rfl) (Nat.le_of_ble_eq_true rfl) rfl rfl rfl (Nat.le_of_ble_eq_true rfl) (Nat.le_of_ble_eq_true rfl)
theorem z85_118 : Run d 85 118 [a0] [v, .ref o] M 41 8043 Z ↔ gObj M o 8 ∧ gisRef v = true ∧ Run d 85 121 [a0] [] (gsR M o 13 (gU v)) 41 8043 Z := R_putR (gd85 dX8_init_118) rfl gf_8_71 (Or.inr ⟨rfl, rfl⟩) rfl
theorem z85_121 : Run d 85 121 [some (.ref o)] [] M 41 8043 Z ↔ Run d 85 122 [some (.ref o)] [.ref o] M 41 8043 Z := R_local (gd85 dX8_init_121) rfl rfl rfl
theorem z85_122 : Run d 85 122 [a0] [s0] M 41 8043 Z ↔ Run d 85 125 [a0] [.ref M.2.2.length, s0] (gNew M (.inl 5)) 42 8053 Z := R_new2 (gd85 dX8_init_122) rfl (ci := 5) rfl rfl (by decide)
theorem z85_125 : Run d 85 125 [a0] [.ref o, s0] M 42 8053 Z ↔ Run d 85 126 [a0] [.ref o, .ref o, s0] M 42 8053 Z := R_arith (gd85 dX8_init_125) rfl
theorem z85_126 : Run d 85 126 [a0] [.ref b, s1, s0] M 42 8053 Z ↔ Call d 57 [.ref b] M (fun r M1 => Run d 85 129 [a0] (r.toList ++ [s1, s0]) M1 48 8445 Z) := R_call (gd85 dX8_init_126) rfl rfl rfl rfl rfl rfl gc_8_77 rfl (by decide) (Nat.le_of_ble_eq_true rfl) (Nat.le_of_ble_eq_true rfl) rfl rfl rfl (Nat.le_of_ble_eq_true rfl) (Nat.le_of_ble_eq_true rfl)
theorem z85_129 : Run d 85 129 [a0] [v, .ref o] M 48 8445 Z ↔ gObj M o 8 ∧ gisRef v = true ∧ Run d 85 132 [a0] [] (gsR M o 14 (gU v)) 48 8445 Z := R_putR (gd85 dX8_init_129) rfl gf_8_78 (Or.inr ⟨rfl, rfl⟩) rfl
theorem z85_132 : Run d 85 132 [some (.ref o)] [] M 48 8445 Z ↔ Run d 85 133 [some (.ref o)] [.ref o] M 48 8445 Z := R_local (gd85 dX8_init_132) rfl rfl rfl
theorem z85_133 : Run d 85 133 [a0] [s0] M 48 8445 Z ↔ Run d 85 134 [a0] [.null, s0] M 48 8445 Z := R_arith (gd85 dX8_init_133) rfl
theorem z85_134 : Run d 85 134 [a0] [v, .ref o] M 48 8445 Z ↔ gObj M o 8 ∧ gisRef v = true ∧ Run d 85 137 [a0] [] (gsR M o 15 (gU v)) 48 8445 Z := R_putR (gd85 dX8_init_134) rfl gf_8_82 (Or.inl rfl) rfl
theorem z85_137 : Run d 85 137 [a0] [] M 48 8445 Z ↔ Z none M := R_vret (gd85 dX8_init_137) rfl
theorem e85 : Call (d + 1) 85 [s0] M Z ↔ Run d 85 0 [some s0] [] M 0 0 Z := Call_iff (Nat.lt_of_lt_of_le (Nat.lt_succ_self 85) (Nat.le_of_ble_eq_true rfl)) (Nat.le_of_ble_eq_true rfl)
end
