theorem dX10_acts_0 : decode cX10_acts 0 = .ok (.iconst 3, 1) := by decide +kernel
theorem dX10_acts_1 : decode cX10_acts 1 = .ok (.aload_n 0, 1) := by decide +kernel
theorem dX10_acts_2 : decode cX10_acts 2 = .ok (.getfield 34, 3) := by decide +kernel
theorem dX10_acts_5 : decode cX10_acts 5 = .ok (.bipush 7, 2) := by decide +kernel
theorem dX10_acts_7 : decode cX10_acts 7 = .ok (.iaload, 1) := by decide +kernel
theorem dX10_acts_8 : decode cX10_acts 8 = .ok (.imul, 1) := by decide +kernel
theorem dX10_acts_9 : decode cX10_acts 9 = .ok (.istore 4, 2) := by decide +kernel
theorem dX10_acts_11 : decode cX10_acts 11 = .ok (.aload_n 0, 1) := by decide +kernel
theorem dX10_acts_12 : decode cX10_acts 12 = .ok (.getfield 43, 3) := by decide +kernel
theorem dX10_acts_15 : decode cX10_acts 15 = .ok (.iload 4, 2) := by decide +kernel
theorem dX10_acts_17 : decode cX10_acts 17 = .ok (.iload_n 1, 1) := by decide +kernel
theorem dX10_acts_18 : decode cX10_acts 18 = .ok (.iastore, 1) := by decide +kernel
theorem dX10_acts_19 : decode cX10_acts 19 = .ok (.aload_n 0, 1) := by decide +kernel
theorem dX10_acts_20 : decode cX10_acts 20 = .ok (.getfield 43, 3) := by decide +kernel
theorem dX10_acts_23 : decode cX10_acts 23 = .ok (.iload 4, 2) := by decide +kernel
theorem dX10_acts_25 : decode cX10_acts 25 = .ok (.iconst 1, 1) := by decide +kernel
theorem dX10_acts_26 : decode cX10_acts 26 = .ok (.iadd, 1) := by decide +kernel
theorem dX10_acts_27 : decode cX10_acts 27 = .ok (.iload_n 2, 1) := by decide +kernel
theorem dX10_acts_28 : decode cX10_acts 28 = .ok (.iastore, 1) := by decide +kernel
theorem dX10_acts_29 : decode cX10_acts 29 = .ok (.aload_n 0, 1) := by decide +kernel
theorem dX10_acts_30 : decode cX10_acts 30 = .ok (.getfield 43, 3) := by decide +kernel
theorem dX10_acts_33 : decode cX10_acts 33 = .ok (.iload 4, 2) := by decide +kernel
theorem dX10_acts_35 : decode cX10_acts 35 = .ok (.iconst 2, 1) := by decide +kernel
theorem dX10_acts_36 : decode cX10_acts 36 = .ok (.iadd, 1) := by decide +kernel
theorem dX10_acts_37 : decode cX10_acts 37 = .ok (.iload_n 3, 1) := by decide +kernel
theorem dX10_acts_38 : decode cX10_acts 38 = .ok (.iastore, 1) := by decide +kernel
theorem dX10_acts_39 : decode cX10_acts 39 = .ok (.aload_n 0, 1) := by decide +kernel
theorem dX10_acts_40 : decode cX10_acts 40 = .ok (.getfield 34, 3) := by decide +kernel
theorem dX10_acts_43 : decode cX10_acts 43 = .ok (.bipush 7, 2) := by decide +kernel
theorem dX10_acts_45 : decode cX10_acts 45 = .ok (.dup2, 1) := by decide +kernel
theorem dX10_acts_46 : decode cX10_acts 46 = .ok (.iaload, 1) := by decide +kernel
theorem dX10_acts_47 : decode cX10_acts 47 = .ok (.iconst 1, 1) := by decide +kernel
theorem dX10_acts_48 : decode cX10_acts 48 = .ok (.iadd, 1) := by decide +kernel
theorem dX10_acts_49 : decode cX10_acts 49 = .ok (.iastore, 1) := by decide +kernel
theorem dX10_acts_50 : decode cX10_acts 50 = .ok (.return_, 1) := by decide +kernel
theorem dX10_anew_0 : decode cX10_anew 0 = .ok (.aload_n 0, 1) := by decide +kernel
theorem dX10_anew_1 : decode cX10_anew 1 = .ok (.iconst 0, 1) := by decide +kernel
theorem dX10_anew_2 : decode cX10_anew 2 = .ok (.putfield 92, 3) := by decide +kernel
theorem dX10_anew_5 : decode cX10_anew 5 = .ok (.aload_n 0, 1) := by decide +kernel
theorem dX10_anew_6 : decode cX10_anew 6 = .ok (.invokevirtual 270, 3) := by decide +kernel
theorem dX10_anew_9 : decode cX10_anew 9 = .ok (.ifCond .ne 6, 3) := by decide +kernel
theorem dX10_anew_12 : decode cX10_anew 12 = .ok (.bipush (-2), 2) := by decide +kernel
theorem dX10_anew_14 : decode cX10_anew 14 = .ok (.ireturn, 1) := by decide +kernel
theorem dX10_anew_15 : decode cX10_anew 15 = .ok (.aload_n 0, 1) := by decide +kernel
theorem dX10_anew_16 : decode cX10_anew 16 = .ok (.getfield 34, 3) := by decide +kernel
theorem dX10_anew_19 : decode cX10_anew 19 = .ok (.bipush 7, 2) := by decide +kernel
theorem dX10_anew_21 : decode cX10_anew 21 = .ok (.iaload, 1) := by decide +kernel
theorem dX10_anew_22 : decode cX10_anew 22 = .ok (.istore_n 1, 1) := by decide +kernel
theorem dX10_anew_23 : decode cX10_anew 23 = .ok (.aload_n 0, 1) := by decide +kernel
theorem dX10_anew_24 : decode cX10_anew 24 = .ok (.getfield 34, 3) := by decide +kernel
theorem dX10_anew_27 : decode cX10_anew 27 = .ok (.bipush 7, 2) := by decide +kernel
theorem dX10_anew_29 : decode cX10_anew 29 = .ok (.iconst 0, 1) := by decide +kernel
theorem dX10_anew_30 : decode cX10_anew 30 = .ok (.iastore, 1) := by decide +kernel
theorem dX10_anew_31 : decode cX10_anew 31 = .ok (.iload_n 1, 1) := by decide +kernel
theorem dX10_anew_32 : decode cX10_anew 32 = .ok (.ireturn, 1) := by decide +kernel
theorem dX10_back_0 : decode cX10_back 0 = .ok (.aload_n 0, 1) := by decide +kernel
theorem dX10_back_1 : decode cX10_back 1 = .ok (.iconst 0, 1) := by decide +kernel
theorem dX10_back_2 : decode cX10_back 2 = .ok (.putfield 92, 3) := by decide +kernel
theorem dX10_back_5 : decode cX10_back 5 = .ok (.iload_n 1, 1) := by decide +kernel
theorem dX10_back_6 : decode cX10_back 6 = .ok (.i2l, 1) := by decide +kernel
theorem dX10_back_7 : decode cX10_back 7 = .ok (.lconst 0, 1) := by decide +kernel
theorem dX10_back_8 : decode cX10_back 8 = .ok (.ldc2_w 326, 3) := by decide +kernel
theorem dX10_back_11 : decode cX10_back 11 = .ok (.invokestatic 97, 3) := by decide +kernel
theorem dX10_back_14 : decode cX10_back 14 = .ok (.ifCond .ne 6, 3) := by decide +kernel
theorem dX10_back_17 : decode cX10_back 17 = .ok (.bipush (-2), 2) := by decide +kernel
theorem dX10_back_19 : decode cX10_back 19 = .ok (.ireturn, 1) := by decide +kernel
theorem dX10_back_20 : decode cX10_back 20 = .ok (.aload_n 0, 1) := by decide +kernel
theorem dX10_back_21 : decode cX10_back 21 = .ok (.getfield 46, 3) := by decide +kernel
theorem dX10_back_24 : decode cX10_back 24 = .ok (.iload_n 1, 1) := by decide +kernel
theorem dX10_back_25 : decode cX10_back 25 = .ok (.baload, 1) := by decide +kernel
theorem dX10_back_26 : decode cX10_back 26 = .ok (.ifCond .ne 6, 3) := by decide +kernel
theorem dX10_back_29 : decode cX10_back 29 = .ok (.bipush (-6), 2) := by decide +kernel
theorem dX10_back_31 : decode cX10_back 31 = .ok (.ireturn, 1) := by decide +kernel
theorem dX10_back_32 : decode cX10_back 32 = .ok (.aload_n 0, 1) := by decide +kernel
theorem dX10_back_33 : decode cX10_back 33 = .ok (.iconst 1, 1) := by decide +kernel
theorem dX10_back_34 : decode cX10_back 34 = .ok (.iload_n 1, 1) := by decide +kernel
theorem dX10_back_35 : decode cX10_back 35 = .ok (.iadd, 1) := by decide +kernel
theorem dX10_back_36 : decode cX10_back 36 = .ok (.iconst 0, 1) := by decide +kernel
theorem dX10_back_37 : decode cX10_back 37 = .ok (.invokevirtual 249, 3) := by decide +kernel
theorem dX10_back_40 : decode cX10_back 40 = .ok (.iconst 0, 1) := by decide +kernel
theorem dX10_back_41 : decode cX10_back 41 = .ok (.ireturn, 1) := by decide +kernel
theorem dX10_copyLand_0 : decode cX10_copyLand 0 = .ok (.aload_n 0, 1) := by decide +kernel
theorem dX10_copyLand_1 : decode cX10_copyLand 1 = .ok (.getfield 31, 3) := by decide +kernel
theorem dX10_copyLand_4 : decode cX10_copyLand 4 = .ok (.iconst 1, 1) := by decide +kernel
theorem dX10_copyLand_5 : decode cX10_copyLand 5 = .ok (.iload_n 1, 1) := by decide +kernel
theorem dX10_copyLand_6 : decode cX10_copyLand 6 = .ok (.iload_n 2, 1) := by decide +kernel
theorem dX10_copyLand_7 : decode cX10_copyLand 7 = .ok (.invokestatic 252, 3) := by decide +kernel
theorem dX10_copyLand_10 : decode cX10_copyLand 10 = .ok (.aload_n 0, 1) := by decide +kernel
theorem dX10_copyLand_11 : decode cX10_copyLand 11 = .ok (.getfield 34, 3) := by decide +kernel
theorem dX10_copyLand_14 : decode cX10_copyLand 14 = .ok (.bipush 9, 2) := by decide +kernel
theorem dX10_copyLand_16 : decode cX10_copyLand 16 = .ok (.iload_n 1, 1) := by decide +kernel
theorem dX10_copyLand_17 : decode cX10_copyLand 17 = .ok (.iload_n 2, 1) := by decide +kernel
theorem dX10_copyLand_18 : decode cX10_copyLand 18 = .ok (.invokestatic 252, 3) := by decide +kernel
theorem dX10_copyLand_21 : decode cX10_copyLand 21 = .ok (.aload_n 0, 1) := by decide +kernel
theorem dX10_copyLand_22 : decode cX10_copyLand 22 = .ok (.getfield 37, 3) := by decide +kernel
theorem dX10_copyLand_25 : decode cX10_copyLand 25 = .ok (.bipush 12, 2) := by decide +kernel
theorem dX10_copyLand_27 : decode cX10_copyLand 27 = .ok (.iload_n 1, 1) := by decide +kernel
theorem dX10_copyLand_28 : decode cX10_copyLand 28 = .ok (.iload_n 2, 1) := by decide +kernel
theorem dX10_copyLand_29 : decode cX10_copyLand 29 = .ok (.invokestatic 252, 3) := by decide +kernel
theorem dX10_copyLand_32 : decode cX10_copyLand 32 = .ok (.aload_n 0, 1) := by decide +kernel
theorem dX10_copyLand_33 : decode cX10_copyLand 33 = .ok (.getfield 40, 3) := by decide +kernel
theorem dX10_copyLand_36 : decode cX10_copyLand 36 = .ok (.bipush 18, 2) := by decide +kernel
theorem dX10_copyLand_38 : decode cX10_copyLand 38 = .ok (.iload_n 1, 1) := by decide +kernel
theorem dX10_copyLand_39 : decode cX10_copyLand 39 = .ok (.iload_n 2, 1) := by decide +kernel
theorem dX10_copyLand_40 : decode cX10_copyLand 40 = .ok (.invokestatic 252, 3) := by decide +kernel
theorem dX10_copyLand_43 : decode cX10_copyLand 43 = .ok (.aload_n 0, 1) := by decide +kernel
theorem dX10_copyLand_44 : decode cX10_copyLand 44 = .ok (.getfield 43, 3) := by decide +kernel
theorem dX10_copyLand_47 : decode cX10_copyLand 47 = .ok (.bipush 120, 2) := by decide +kernel
theorem dX10_copyLand_49 : decode cX10_copyLand 49 = .ok (.iload_n 1, 1) := by decide +kernel
theorem dX10_copyLand_50 : decode cX10_copyLand 50 = .ok (.iload_n 2, 1) := by decide +kernel
theorem dX10_copyLand_51 : decode cX10_copyLand 51 = .ok (.invokestatic 252, 3) := by decide +kernel
theorem dX10_copyLand_54 : decode cX10_copyLand 54 = .ok (.return_, 1) := by decide +kernel
theorem dX10_copyRow_0 : decode cX10_copyRow 0 = .ok (.iconst 0, 1) := by decide +kernel
theorem dX10_copyRow_1 : decode cX10_copyRow 1 = .ok (.istore 4, 2) := by decide +kernel
theorem dX10_copyRow_3 : decode cX10_copyRow 3 = .ok (.iload 4, 2) := by decide +kernel
theorem dX10_copyRow_5 : decode cX10_copyRow 5 = .ok (.iload_n 1, 1) := by decide +kernel
theorem dX10_copyRow_6 : decode cX10_copyRow 6 = .ok (.if_icmp .ge 25, 3) := by decide +kernel
theorem dX10_copyRow_9 : decode cX10_copyRow 9 = .ok (.aload_n 0, 1) := by decide +kernel
theorem dX10_copyRow_10 : decode cX10_copyRow 10 = .ok (.iload_n 1, 1) := by decide +kernel
theorem dX10_copyRow_11 : decode cX10_copyRow 11 = .ok (.iload_n 3, 1) := by decide +kernel
theorem dX10_copyRow_12 : decode cX10_copyRow 12 = .ok (.imul, 1) := by decide +kernel
theorem dX10_copyRow_13 : decode cX10_copyRow 13 = .ok (.iload 4, 2) := by decide +kernel
theorem dX10_copyRow_15 : decode cX10_copyRow 15 = .ok (.iadd, 1) := by decide +kernel
theorem dX10_copyRow_16 : decode cX10_copyRow 16 = .ok (.aload_n 0, 1) := by decide +kernel
theorem dX10_copyRow_17 : decode cX10_copyRow 17 = .ok (.iload_n 1, 1) := by decide +kernel
theorem dX10_copyRow_18 : decode cX10_copyRow 18 = .ok (.iload_n 2, 1) := by decide +kernel
theorem dX10_copyRow_19 : decode cX10_copyRow 19 = .ok (.imul, 1) := by decide +kernel
theorem dX10_copyRow_20 : decode cX10_copyRow 20 = .ok (.iload 4, 2) := by decide +kernel
theorem dX10_copyRow_22 : decode cX10_copyRow 22 = .ok (.iadd, 1) := by decide +kernel
theorem dX10_copyRow_23 : decode cX10_copyRow 23 = .ok (.iaload, 1) := by decide +kernel
theorem dX10_copyRow_24 : decode cX10_copyRow 24 = .ok (.iastore, 1) := by decide +kernel
theorem dX10_copyRow_25 : decode cX10_copyRow 25 = .ok (.iinc 4 1, 3) := by decide +kernel
theorem dX10_copyRow_28 : decode cX10_copyRow 28 = .ok (.goto (-25), 3) := by decide +kernel
theorem dX10_copyRow_31 : decode cX10_copyRow 31 = .ok (.return_, 1) := by decide +kernel
theorem dX10_image_0 : decode cX10_image 0 = .ok (.aload_n 0, 1) := by decide +kernel
theorem dX10_image_1 : decode cX10_image 1 = .ok (.iconst 0, 1) := by decide +kernel
theorem dX10_image_2 : decode cX10_image 2 = .ok (.putfield 92, 3) := by decide +kernel
theorem dX10_image_5 : decode cX10_image 5 = .ok (.iload_n 1, 1) := by decide +kernel
theorem dX10_image_6 : decode cX10_image 6 = .ok (.i2l, 1) := by decide +kernel
theorem dX10_image_7 : decode cX10_image 7 = .ok (.lconst 0, 1) := by decide +kernel
theorem dX10_image_8 : decode cX10_image 8 = .ok (.ldc2_w 326, 3) := by decide +kernel
theorem dX10_image_11 : decode cX10_image 11 = .ok (.invokestatic 97, 3) := by decide +kernel
theorem dX10_image_14 : decode cX10_image 14 = .ok (.ifCond .ne 6, 3) := by decide +kernel
theorem dX10_image_17 : decode cX10_image 17 = .ok (.bipush (-2), 2) := by decide +kernel
theorem dX10_image_19 : decode cX10_image 19 = .ok (.ireturn, 1) := by decide +kernel
theorem dX10_image_20 : decode cX10_image 20 = .ok (.aload_n 0, 1) := by decide +kernel
theorem dX10_image_21 : decode cX10_image 21 = .ok (.iconst 0, 1) := by decide +kernel
theorem dX10_image_22 : decode cX10_image 22 = .ok (.iconst 1, 1) := by decide +kernel
theorem dX10_image_23 : decode cX10_image 23 = .ok (.iload_n 1, 1) := by decide +kernel
theorem dX10_image_24 : decode cX10_image 24 = .ok (.iadd, 1) := by decide +kernel
theorem dX10_image_25 : decode cX10_image 25 = .ok (.invokevirtual 249, 3) := by decide +kernel
theorem dX10_image_28 : decode cX10_image 28 = .ok (.aload_n 0, 1) := by decide +kernel
theorem dX10_image_29 : decode cX10_image 29 = .ok (.getfield 46, 3) := by decide +kernel
theorem dX10_image_32 : decode cX10_image 32 = .ok (.iload_n 1, 1) := by decide +kernel
theorem dX10_image_33 : decode cX10_image 33 = .ok (.iconst 1, 1) := by decide +kernel
theorem dX10_image_34 : decode cX10_image 34 = .ok (.bastore, 1) := by decide +kernel
theorem dX10_image_35 : decode cX10_image 35 = .ok (.iconst 0, 1) := by decide +kernel
theorem dX10_image_36 : decode cX10_image 36 = .ok (.ireturn, 1) := by decide +kernel
theorem dX10_light_0 : decode cX10_light 0 = .ok (.aload_n 0, 1) := by decide +kernel
theorem dX10_light_1 : decode cX10_light 1 = .ok (.iconst 0, 1) := by decide +kernel
theorem dX10_light_2 : decode cX10_light 2 = .ok (.putfield 92, 3) := by decide +kernel
theorem dX10_light_5 : decode cX10_light 5 = .ok (.aload_n 0, 1) := by decide +kernel
theorem dX10_light_6 : decode cX10_light 6 = .ok (.iload_n 1, 1) := by decide +kernel
theorem dX10_light_7 : decode cX10_light 7 = .ok (.i2l, 1) := by decide +kernel
theorem dX10_light_8 : decode cX10_light 8 = .ok (.invokevirtual 340, 3) := by decide +kernel
theorem dX10_light_11 : decode cX10_light 11 = .ok (.ifCond .eq 10, 3) := by decide +kernel
theorem dX10_light_14 : decode cX10_light 14 = .ok (.iload_n 2, 1) := by decide +kernel
theorem dX10_light_15 : decode cX10_light 15 = .ok (.invokestatic 419, 3) := by decide +kernel
theorem dX10_light_18 : decode cX10_light 18 = .ok (.ifCond .ne 6, 3) := by decide +kernel
theorem dX10_light_21 : decode cX10_light 21 = .ok (.bipush (-2), 2) := by decide +kernel
theorem dX10_light_23 : decode cX10_light 23 = .ok (.ireturn, 1) := by decide +kernel
theorem dX10_light_24 : decode cX10_light 24 = .ok (.aload_n 0, 1) := by decide +kernel
theorem dX10_light_25 : decode cX10_light 25 = .ok (.getfield 34, 3) := by decide +kernel
theorem dX10_light_28 : decode cX10_light 28 = .ok (.bipush 7, 2) := by decide +kernel
theorem dX10_light_30 : decode cX10_light 30 = .ok (.iaload, 1) := by decide +kernel
theorem dX10_light_31 : decode cX10_light 31 = .ok (.bipush 40, 2) := by decide +kernel
theorem dX10_light_33 : decode cX10_light 33 = .ok (.if_icmp .ne 6, 3) := by decide +kernel
theorem dX10_light_36 : decode cX10_light 36 = .ok (.bipush (-5), 2) := by decide +kernel
theorem dX10_light_38 : decode cX10_light 38 = .ok (.ireturn, 1) := by decide +kernel
theorem dX10_light_39 : decode cX10_light 39 = .ok (.aload_n 0, 1) := by decide +kernel
theorem dX10_light_40 : decode cX10_light 40 = .ok (.invokevirtual 308, 3) := by decide +kernel
theorem dX10_light_43 : decode cX10_light 43 = .ok (.aload_n 0, 1) := by decide +kernel
theorem dX10_light_44 : decode cX10_light 44 = .ok (.iconst 0, 1) := by decide +kernel
theorem dX10_light_45 : decode cX10_light 45 = .ok (.iload_n 1, 1) := by decide +kernel
theorem dX10_light_46 : decode cX10_light 46 = .ok (.iload_n 2, 1) := by decide +kernel
theorem dX10_light_47 : decode cX10_light 47 = .ok (.invokevirtual 506, 3) := by decide +kernel
theorem dX10_light_50 : decode cX10_light 50 = .ok (.aload_n 0, 1) := by decide +kernel
theorem dX10_light_51 : decode cX10_light 51 = .ok (.getfield 273, 3) := by decide +kernel
theorem dX10_light_54 : decode cX10_light 54 = .ok (.iload_n 1, 1) := by decide +kernel
theorem dX10_light_55 : decode cX10_light 55 = .ok (.invokestatic 282, 3) := by decide +kernel
theorem dX10_light_58 : decode cX10_light 58 = .ok (.ifCond .eq 7, 3) := by decide +kernel
theorem dX10_light_61 : decode cX10_light 61 = .ok (.iconst 1, 1) := by decide +kernel
theorem dX10_light_62 : decode cX10_light 62 = .ok (.goto 4, 3) := by decide +kernel
theorem dX10_light_65 : decode cX10_light 65 = .ok (.iconst 0, 1) := by decide +kernel
theorem dX10_light_66 : decode cX10_light 66 = .ok (.ireturn, 1) := by decide +kernel
theorem dX10_rate_0 : decode cX10_rate 0 = .ok (.aload_n 0, 1) := by decide +kernel
theorem dX10_rate_1 : decode cX10_rate 1 = .ok (.iconst 0, 1) := by decide +kernel
theorem dX10_rate_2 : decode cX10_rate 2 = .ok (.putfield 92, 3) := by decide +kernel
theorem dX10_rate_5 : decode cX10_rate 5 = .ok (.aload_n 0, 1) := by decide +kernel
theorem dX10_rate_6 : decode cX10_rate 6 = .ok (.iload_n 1, 1) := by decide +kernel
theorem dX10_rate_7 : decode cX10_rate 7 = .ok (.i2l, 1) := by decide +kernel
theorem dX10_rate_8 : decode cX10_rate 8 = .ok (.invokevirtual 265, 3) := by decide +kernel
theorem dX10_rate_11 : decode cX10_rate 11 = .ok (.ifCond .eq 15, 3) := by decide +kernel
theorem dX10_rate_14 : decode cX10_rate 14 = .ok (.iload_n 2, 1) := by decide +kernel
theorem dX10_rate_15 : decode cX10_rate 15 = .ok (.i2l, 1) := by decide +kernel
theorem dX10_rate_16 : decode cX10_rate 16 = .ok (.lconst 0, 1) := by decide +kernel
theorem dX10_rate_17 : decode cX10_rate 17 = .ok (.ldc2_w 509, 3) := by decide +kernel
theorem dX10_rate_20 : decode cX10_rate 20 = .ok (.invokestatic 97, 3) := by decide +kernel
theorem dX10_rate_23 : decode cX10_rate 23 = .ok (.ifCond .ne 6, 3) := by decide +kernel
theorem dX10_rate_26 : decode cX10_rate 26 = .ok (.bipush (-2), 2) := by decide +kernel
theorem dX10_rate_28 : decode cX10_rate 28 = .ok (.ireturn, 1) := by decide +kernel
theorem dX10_rate_29 : decode cX10_rate 29 = .ok (.aload_n 0, 1) := by decide +kernel
theorem dX10_rate_30 : decode cX10_rate 30 = .ok (.getfield 34, 3) := by decide +kernel
theorem dX10_rate_33 : decode cX10_rate 33 = .ok (.bipush 7, 2) := by decide +kernel
theorem dX10_rate_35 : decode cX10_rate 35 = .ok (.iaload, 1) := by decide +kernel
theorem dX10_rate_36 : decode cX10_rate 36 = .ok (.ifCond .le 6, 3) := by decide +kernel
theorem dX10_rate_39 : decode cX10_rate 39 = .ok (.bipush (-5), 2) := by decide +kernel
theorem dX10_rate_41 : decode cX10_rate 41 = .ok (.ireturn, 1) := by decide +kernel
theorem dX10_rate_42 : decode cX10_rate 42 = .ok (.aload_n 0, 1) := by decide +kernel
theorem dX10_rate_43 : decode cX10_rate 43 = .ok (.iload_n 1, 1) := by decide +kernel
theorem dX10_rate_44 : decode cX10_rate 44 = .ok (.invokevirtual 320, 3) := by decide +kernel
theorem dX10_rate_47 : decode cX10_rate 47 = .ok (.istore_n 3, 1) := by decide +kernel
theorem dX10_rate_48 : decode cX10_rate 48 = .ok (.aload_n 0, 1) := by decide +kernel
theorem dX10_rate_49 : decode cX10_rate 49 = .ok (.getfield 40, 3) := by decide +kernel
theorem dX10_rate_52 : decode cX10_rate 52 = .ok (.iconst 3, 1) := by decide +kernel
theorem dX10_rate_53 : decode cX10_rate 53 = .ok (.iload_n 1, 1) := by decide +kernel
theorem dX10_rate_54 : decode cX10_rate 54 = .ok (.imul, 1) := by decide +kernel
theorem dX10_rate_55 : decode cX10_rate 55 = .ok (.iconst 2, 1) := by decide +kernel
theorem dX10_rate_56 : decode cX10_rate 56 = .ok (.iadd, 1) := by decide +kernel
theorem dX10_rate_57 : decode cX10_rate 57 = .ok (.iload_n 2, 1) := by decide +kernel
theorem dX10_rate_58 : decode cX10_rate 58 = .ok (.iastore, 1) := by decide +kernel
theorem dX10_rate_59 : decode cX10_rate 59 = .ok (.iload_n 3, 1) := by decide +kernel
theorem dX10_rate_60 : decode cX10_rate 60 = .ok (.ireturn, 1) := by decide +kernel
theorem dX10_turn_0 : decode cX10_turn 0 = .ok (.aload_n 0, 1) := by decide +kernel
theorem dX10_turn_1 : decode cX10_turn 1 = .ok (.iconst 0, 1) := by decide +kernel
theorem dX10_turn_2 : decode cX10_turn 2 = .ok (.putfield 92, 3) := by decide +kernel
theorem dX10_turn_5 : decode cX10_turn 5 = .ok (.aload_n 0, 1) := by decide +kernel
theorem dX10_turn_6 : decode cX10_turn 6 = .ok (.iload_n 1, 1) := by decide +kernel
theorem dX10_turn_7 : decode cX10_turn 7 = .ok (.i2l, 1) := by decide +kernel
theorem dX10_turn_8 : decode cX10_turn 8 = .ok (.invokevirtual 323, 3) := by decide +kernel
theorem dX10_turn_11 : decode cX10_turn 11 = .ok (.ifCond .eq 15, 3) := by decide +kernel
theorem dX10_turn_14 : decode cX10_turn 14 = .ok (.iload_n 2, 1) := by decide +kernel
theorem dX10_turn_15 : decode cX10_turn 15 = .ok (.i2l, 1) := by decide +kernel
theorem dX10_turn_16 : decode cX10_turn 16 = .ok (.lconst 0, 1) := by decide +kernel
theorem dX10_turn_17 : decode cX10_turn 17 = .ok (.ldc2_w 95, 3) := by decide +kernel
theorem dX10_turn_20 : decode cX10_turn 20 = .ok (.invokestatic 97, 3) := by decide +kernel
theorem dX10_turn_23 : decode cX10_turn 23 = .ok (.ifCond .ne 6, 3) := by decide +kernel
theorem dX10_turn_26 : decode cX10_turn 26 = .ok (.bipush (-2), 2) := by decide +kernel
theorem dX10_turn_28 : decode cX10_turn 28 = .ok (.ireturn, 1) := by decide +kernel
theorem dX10_turn_29 : decode cX10_turn 29 = .ok (.aload_n 0, 1) := by decide +kernel
theorem dX10_turn_30 : decode cX10_turn 30 = .ok (.getfield 34, 3) := by decide +kernel
theorem dX10_turn_33 : decode cX10_turn 33 = .ok (.bipush 7, 2) := by decide +kernel
theorem dX10_turn_35 : decode cX10_turn 35 = .ok (.iaload, 1) := by decide +kernel
theorem dX10_turn_36 : decode cX10_turn 36 = .ok (.bipush 40, 2) := by decide +kernel
theorem dX10_turn_38 : decode cX10_turn 38 = .ok (.if_icmp .ne 6, 3) := by decide +kernel
theorem dX10_turn_41 : decode cX10_turn 41 = .ok (.bipush (-5), 2) := by decide +kernel
theorem dX10_turn_43 : decode cX10_turn 43 = .ok (.ireturn, 1) := by decide +kernel
theorem dX10_turn_44 : decode cX10_turn 44 = .ok (.aload_n 0, 1) := by decide +kernel
theorem dX10_turn_45 : decode cX10_turn 45 = .ok (.invokevirtual 308, 3) := by decide +kernel
theorem dX10_turn_48 : decode cX10_turn 48 = .ok (.aload_n 0, 1) := by decide +kernel
theorem dX10_turn_49 : decode cX10_turn 49 = .ok (.iconst 1, 1) := by decide +kernel
theorem dX10_turn_50 : decode cX10_turn 50 = .ok (.iload_n 1, 1) := by decide +kernel
theorem dX10_turn_51 : decode cX10_turn 51 = .ok (.iload_n 2, 1) := by decide +kernel
theorem dX10_turn_52 : decode cX10_turn 52 = .ok (.invokevirtual 506, 3) := by decide +kernel
theorem dX10_turn_55 : decode cX10_turn 55 = .ok (.aload_n 0, 1) := by decide +kernel
theorem dX10_turn_56 : decode cX10_turn 56 = .ok (.getfield 50, 3) := by decide +kernel
theorem dX10_turn_59 : decode cX10_turn 59 = .ok (.iload_n 1, 1) := by decide +kernel
theorem dX10_turn_60 : decode cX10_turn 60 = .ok (.iaload, 1) := by decide +kernel
theorem dX10_turn_61 : decode cX10_turn 61 = .ok (.ireturn, 1) := by decide +kernel
theorem dX10_undo_0 : decode cX10_undo 0 = .ok (.aload_n 0, 1) := by decide +kernel
theorem dX10_undo_1 : decode cX10_undo 1 = .ok (.iconst 0, 1) := by decide +kernel
theorem dX10_undo_2 : decode cX10_undo 2 = .ok (.putfield 92, 3) := by decide +kernel
theorem dX10_undo_5 : decode cX10_undo 5 = .ok (.aload_n 0, 1) := by decide +kernel
theorem dX10_undo_6 : decode cX10_undo 6 = .ok (.invokevirtual 270, 3) := by decide +kernel
theorem dX10_undo_9 : decode cX10_undo 9 = .ok (.ifCond .ne 6, 3) := by decide +kernel
theorem dX10_undo_12 : decode cX10_undo 12 = .ok (.bipush (-2), 2) := by decide +kernel
theorem dX10_undo_14 : decode cX10_undo 14 = .ok (.ireturn, 1) := by decide +kernel
theorem dX10_undo_15 : decode cX10_undo 15 = .ok (.aload_n 0, 1) := by decide +kernel
theorem dX10_undo_16 : decode cX10_undo 16 = .ok (.getfield 34, 3) := by decide +kernel
theorem dX10_undo_19 : decode cX10_undo 19 = .ok (.bipush 7, 2) := by decide +kernel
theorem dX10_undo_21 : decode cX10_undo 21 = .ok (.iaload, 1) := by decide +kernel
theorem dX10_undo_22 : decode cX10_undo 22 = .ok (.ifCond .ne 6, 3) := by decide +kernel
theorem dX10_undo_25 : decode cX10_undo 25 = .ok (.bipush (-5), 2) := by decide +kernel
theorem dX10_undo_27 : decode cX10_undo 27 = .ok (.ireturn, 1) := by decide +kernel
theorem dX10_undo_28 : decode cX10_undo 28 = .ok (.aload_n 0, 1) := by decide +kernel
theorem dX10_undo_29 : decode cX10_undo 29 = .ok (.getfield 34, 3) := by decide +kernel
theorem dX10_undo_32 : decode cX10_undo 32 = .ok (.bipush 7, 2) := by decide +kernel
theorem dX10_undo_34 : decode cX10_undo 34 = .ok (.dup2, 1) := by decide +kernel
theorem dX10_undo_35 : decode cX10_undo 35 = .ok (.iaload, 1) := by decide +kernel
theorem dX10_undo_36 : decode cX10_undo 36 = .ok (.iconst 1, 1) := by decide +kernel
theorem dX10_undo_37 : decode cX10_undo 37 = .ok (.isub, 1) := by decide +kernel
theorem dX10_undo_38 : decode cX10_undo 38 = .ok (.iastore, 1) := by decide +kernel
theorem dX10_undo_39 : decode cX10_undo 39 = .ok (.aload_n 0, 1) := by decide +kernel
theorem dX10_undo_40 : decode cX10_undo 40 = .ok (.getfield 34, 3) := by decide +kernel
theorem dX10_undo_43 : decode cX10_undo 43 = .ok (.bipush 7, 2) := by decide +kernel
theorem dX10_undo_45 : decode cX10_undo 45 = .ok (.iaload, 1) := by decide +kernel
theorem dX10_undo_46 : decode cX10_undo 46 = .ok (.ireturn, 1) := by decide +kernel
theorem wd1029 : Cond.static yX10_copyRow ∈ gW := gm (tm_7 138 (by decide +kernel)) rfl
theorem wd1030 : Cond.code yX10_copyRow cX10_copyRow 5 none ∈ gW := gm (tm_7 139 (by decide +kernel)) rfl
theorem wd1031 : Cond.methodLink RX10 252 yX10_copyRow ∈ gW := gm (tm_7 137 (by decide +kernel)) rfl
theorem wd1032 : Cond.instanceMethod yX10_copyLand ∈ gW := gm (tm_7 135 (by decide +kernel)) rfl
theorem wd1033 : Cond.selects RX10 yX10_copyLand yX10_copyLand ∈ gW := gm (gmP 38 (by decide +kernel)) rfl
theorem wd1034 : Cond.code yX10_copyLand cX10_copyLand 3 none ∈ gW := gm (tm_7 136 (by decide +kernel)) rfl
theorem wd1035 : Cond.methodLink RX10 249 yX10_copyLand ∈ gW := gm (tm_7 133 (by decide +kernel)) rfl
theorem wd1036 : Cond.fieldLink RX10 46 "GooseSharesModel" "isKept" "[Z" ∈ gW := gm (tm_6 104 (by decide +kernel)) rfl
theorem wd1037 : Cond.instanceMethod yX10_acts ∈ gW := gm (tm_9 137 (by decide +kernel)) rfl
theorem wd1038 : Cond.selects RX10 yX10_acts yX10_acts ∈ gW := gm (gmP 93 (by decide +kernel)) rfl
theorem wd1039 : Cond.code yX10_acts cX10_acts 5 none ∈ gW := gm (tm_9 138 (by decide +kernel)) rfl
theorem wd1040 : Cond.methodLink RX10 506 yX10_acts ∈ gW := gm (tm_9 135 (by decide +kernel)) rfl
theorem wd1041 : Cond.constantLong RX10 509 (99 : Int64) ∈ gW := gm (tm_9 155 (by decide +kernel)) rfl
theorem my_X10_copyRow : gWS RX10 yX10_copyRow cX10_copyRow 5 none 4 := ⟨⟨wd1029, wd742, wd1030⟩, ⟨rfl, by decide +kernel, by decide +kernel, by decide +kernel⟩⟩
theorem my_X10_copyLand : gWV RX10 yX10_copyLand cX10_copyLand 3 none 2 := ⟨⟨wd1032, wd1033, wd742, wd1034⟩, ⟨rfl, by decide +kernel, by decide +kernel, by decide +kernel⟩⟩
theorem my_X10_acts : gWV RX10 yX10_acts cX10_acts 5 none 3 := ⟨⟨wd1037, wd1038, wd742, wd1039⟩, ⟨rfl, by decide +kernel, by decide +kernel, by decide +kernel⟩⟩
