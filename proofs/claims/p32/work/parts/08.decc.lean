theorem dL_land_1 : q_d cL_land 1 2 (.iload_n 1) 1 := ⟨by decide +kernel, rfl⟩
theorem dL_land_2 : q_d cL_land 2 3 (.iload_n 2) 1 := ⟨by decide +kernel, rfl⟩
theorem dL_land_3 : q_d cL_land 3 6 (.invokevirtual 79) 3 := ⟨by decide +kernel, rfl⟩
theorem dL_land_6 : q_d cL_land 6 7 (.ireturn) 1 := ⟨by decide +kernel, rfl⟩
theorem dL_land_7 : q_d cL_land 7 8 (.astore_n 3) 1 := ⟨by decide +kernel, rfl⟩
theorem dL_land_8 : q_d cL_land 8 10 (.ldc 42) 2 := ⟨by decide +kernel, rfl⟩
theorem dL_land_10 : q_d cL_land 10 11 (.ireturn) 1 := ⟨by decide +kernel, rfl⟩
theorem dL_land_11 : q_d cL_land 11 12 (.astore_n 3) 1 := ⟨by decide +kernel, rfl⟩
theorem dL_land_12 : q_d cL_land 12 14 (.ldc 35) 2 := ⟨by decide +kernel, rfl⟩
theorem dL_land_14 : q_d cL_land 14 15 (.ireturn) 1 := ⟨by decide +kernel, rfl⟩
theorem dL_purse_0 : q_d cL_purse 0 1 (.aload_n 0) 1 := ⟨by decide +kernel, rfl⟩
theorem dL_purse_1 : q_d cL_purse 1 2 (.iload_n 1) 1 := ⟨by decide +kernel, rfl⟩
theorem dL_purse_2 : q_d cL_purse 2 3 (.iload_n 2) 1 := ⟨by decide +kernel, rfl⟩
theorem dL_purse_3 : q_d cL_purse 3 6 (.invokevirtual 82) 3 := ⟨by decide +kernel, rfl⟩
theorem dL_purse_6 : q_d cL_purse 6 7 (.lreturn) 1 := ⟨by decide +kernel, rfl⟩
theorem dL_purse_7 : q_d cL_purse 7 8 (.astore_n 3) 1 := ⟨by decide +kernel, rfl⟩
theorem dL_purse_8 : q_d cL_purse 8 11 (.ldc2_w 69) 3 := ⟨by decide +kernel, rfl⟩
theorem dL_purse_11 : q_d cL_purse 11 12 (.lreturn) 1 := ⟨by decide +kernel, rfl⟩
theorem dL_purse_12 : q_d cL_purse 12 13 (.astore_n 3) 1 := ⟨by decide +kernel, rfl⟩
theorem dL_purse_13 : q_d cL_purse 13 16 (.ldc2_w 86) 3 := ⟨by decide +kernel, rfl⟩
theorem dL_purse_16 : q_d cL_purse 16 17 (.lreturn) 1 := ⟨by decide +kernel, rfl⟩
theorem dL_letter_0 : q_d cL_letter 0 1 (.aload_n 0) 1 := ⟨by decide +kernel, rfl⟩
theorem dL_letter_1 : q_d cL_letter 1 2 (.iload_n 1) 1 := ⟨by decide +kernel, rfl⟩
theorem dL_letter_2 : q_d cL_letter 2 3 (.iload_n 2) 1 := ⟨by decide +kernel, rfl⟩
theorem dL_letter_3 : q_d cL_letter 3 6 (.invokevirtual 88) 3 := ⟨by decide +kernel, rfl⟩
theorem dL_letter_6 : q_d cL_letter 6 7 (.ireturn) 1 := ⟨by decide +kernel, rfl⟩
theorem dL_letter_7 : q_d cL_letter 7 8 (.astore_n 3) 1 := ⟨by decide +kernel, rfl⟩
theorem dL_letter_8 : q_d cL_letter 8 10 (.ldc 42) 2 := ⟨by decide +kernel, rfl⟩
theorem dL_letter_10 : q_d cL_letter 10 11 (.ireturn) 1 := ⟨by decide +kernel, rfl⟩
theorem dL_pays_0 : q_d cL_pays 0 1 (.aload_n 0) 1 := ⟨by decide +kernel, rfl⟩
theorem dL_pays_1 : q_d cL_pays 1 2 (.iload_n 1) 1 := ⟨by decide +kernel, rfl⟩
theorem dL_pays_2 : q_d cL_pays 2 5 (.invokevirtual 91) 3 := ⟨by decide +kernel, rfl⟩
theorem dL_pays_5 : q_d cL_pays 5 6 (.ireturn) 1 := ⟨by decide +kernel, rfl⟩
theorem dL_pays_6 : q_d cL_pays 6 7 (.astore_n 2) 1 := ⟨by decide +kernel, rfl⟩
theorem dL_pays_7 : q_d cL_pays 7 9 (.ldc 35) 2 := ⟨by decide +kernel, rfl⟩
theorem dL_pays_9 : q_d cL_pays 9 10 (.ireturn) 1 := ⟨by decide +kernel, rfl⟩
theorem dL_account_0 : q_d cL_account 0 1 (.aload_n 0) 1 := ⟨by decide +kernel, rfl⟩
theorem dL_account_1 : q_d cL_account 1 2 (.iload_n 1) 1 := ⟨by decide +kernel, rfl⟩
theorem dL_account_2 : q_d cL_account 2 3 (.iload_n 2) 1 := ⟨by decide +kernel, rfl⟩
theorem dL_account_3 : q_d cL_account 3 6 (.invokevirtual 94) 3 := ⟨by decide +kernel, rfl⟩
theorem dL_account_6 : q_d cL_account 6 7 (.ireturn) 1 := ⟨by decide +kernel, rfl⟩
theorem dL_account_7 : q_d cL_account 7 8 (.astore_n 3) 1 := ⟨by decide +kernel, rfl⟩
theorem dL_account_8 : q_d cL_account 8 10 (.ldc 42) 2 := ⟨by decide +kernel, rfl⟩
theorem dL_account_10 : q_d cL_account 10 11 (.ireturn) 1 := ⟨by decide +kernel, rfl⟩
theorem dL_account_11 : q_d cL_account 11 12 (.astore_n 3) 1 := ⟨by decide +kernel, rfl⟩
theorem dL_account_12 : q_d cL_account 12 14 (.ldc 35) 2 := ⟨by decide +kernel, rfl⟩
theorem dL_account_14 : q_d cL_account 14 15 (.ireturn) 1 := ⟨by decide +kernel, rfl⟩
theorem dL_sleep_0 : q_d cL_sleep 0 1 (.aload_n 0) 1 := ⟨by decide +kernel, rfl⟩
theorem dL_sleep_1 : q_d cL_sleep 1 2 (.iload_n 1) 1 := ⟨by decide +kernel, rfl⟩
theorem dL_sleep_2 : q_d cL_sleep 2 5 (.invokevirtual 97) 3 := ⟨by decide +kernel, rfl⟩
theorem dL_sleep_5 : q_d cL_sleep 5 6 (.ireturn) 1 := ⟨by decide +kernel, rfl⟩
theorem dL_sleep_6 : q_d cL_sleep 6 7 (.astore_n 2) 1 := ⟨by decide +kernel, rfl⟩
theorem dL_sleep_7 : q_d cL_sleep 7 9 (.ldc 42) 2 := ⟨by decide +kernel, rfl⟩
theorem dL_sleep_9 : q_d cL_sleep 9 10 (.ireturn) 1 := ⟨by decide +kernel, rfl⟩
theorem dL_worth_0 : q_d cL_worth 0 1 (.aload_n 0) 1 := ⟨by decide +kernel, rfl⟩
theorem dL_worth_1 : q_d cL_worth 1 2 (.iload_n 1) 1 := ⟨by decide +kernel, rfl⟩
theorem dL_worth_2 : q_d cL_worth 2 3 (.iload_n 2) 1 := ⟨by decide +kernel, rfl⟩
theorem dL_worth_3 : q_d cL_worth 3 6 (.invokevirtual 103) 3 := ⟨by decide +kernel, rfl⟩
theorem dL_worth_6 : q_d cL_worth 6 7 (.lreturn) 1 := ⟨by decide +kernel, rfl⟩
theorem dL_worth_7 : q_d cL_worth 7 8 (.astore_n 3) 1 := ⟨by decide +kernel, rfl⟩
theorem dL_worth_8 : q_d cL_worth 8 11 (.ldc2_w 69) 3 := ⟨by decide +kernel, rfl⟩
theorem dL_worth_11 : q_d cL_worth 11 12 (.lreturn) 1 := ⟨by decide +kernel, rfl⟩
theorem dL_worth_12 : q_d cL_worth 12 13 (.astore_n 3) 1 := ⟨by decide +kernel, rfl⟩
theorem dL_worth_13 : q_d cL_worth 13 16 (.ldc2_w 86) 3 := ⟨by decide +kernel, rfl⟩
theorem dL_worth_16 : q_d cL_worth 16 17 (.lreturn) 1 := ⟨by decide +kernel, rfl⟩
theorem dL_row_0 : q_d cL_row 0 1 (.aload_n 0) 1 := ⟨by decide +kernel, rfl⟩
theorem dL_row_1 : q_d cL_row 1 2 (.iload_n 1) 1 := ⟨by decide +kernel, rfl⟩
theorem dL_row_2 : q_d cL_row 2 3 (.iload_n 2) 1 := ⟨by decide +kernel, rfl⟩
theorem dL_row_3 : q_d cL_row 3 6 (.invokevirtual 106) 3 := ⟨by decide +kernel, rfl⟩
theorem dL_row_6 : q_d cL_row 6 7 (.ireturn) 1 := ⟨by decide +kernel, rfl⟩
theorem dL_row_7 : q_d cL_row 7 8 (.astore_n 3) 1 := ⟨by decide +kernel, rfl⟩
theorem dL_row_8 : q_d cL_row 8 10 (.ldc 42) 2 := ⟨by decide +kernel, rfl⟩
theorem dL_row_10 : q_d cL_row 10 11 (.ireturn) 1 := ⟨by decide +kernel, rfl⟩
theorem dL_row_11 : q_d cL_row 11 12 (.astore_n 3) 1 := ⟨by decide +kernel, rfl⟩
theorem dL_row_12 : q_d cL_row 12 14 (.ldc 35) 2 := ⟨by decide +kernel, rfl⟩
theorem dL_row_14 : q_d cL_row 14 15 (.ireturn) 1 := ⟨by decide +kernel, rfl⟩
theorem dL_rescue_0 : q_d cL_rescue 0 1 (.aload_n 0) 1 := ⟨by decide +kernel, rfl⟩
theorem dL_rescue_1 : q_d cL_rescue 1 2 (.iload_n 1) 1 := ⟨by decide +kernel, rfl⟩
theorem dL_rescue_2 : q_d cL_rescue 2 3 (.iload_n 2) 1 := ⟨by decide +kernel, rfl⟩
theorem dL_rescue_3 : q_d cL_rescue 3 4 (.iload_n 3) 1 := ⟨by decide +kernel, rfl⟩
theorem dL_rescue_4 : q_d cL_rescue 4 7 (.invokevirtual 115) 3 := ⟨by decide +kernel, rfl⟩
theorem dL_rescue_7 : q_d cL_rescue 7 8 (.lreturn) 1 := ⟨by decide +kernel, rfl⟩
theorem dL_rescue_8 : q_d cL_rescue 8 10 (.astore 4) 2 := ⟨by decide +kernel, rfl⟩
theorem dL_rescue_10 : q_d cL_rescue 10 13 (.ldc2_w 86) 3 := ⟨by decide +kernel, rfl⟩
theorem dL_rescue_13 : q_d cL_rescue 13 14 (.lreturn) 1 := ⟨by decide +kernel, rfl⟩
theorem dL_books_0 : q_d cL_books 0 1 (.aload_n 0) 1 := ⟨by decide +kernel, rfl⟩
theorem dL_books_1 : q_d cL_books 1 2 (.iload_n 1) 1 := ⟨by decide +kernel, rfl⟩
theorem dL_books_2 : q_d cL_books 2 5 (.invokevirtual 119) 3 := ⟨by decide +kernel, rfl⟩
theorem dL_books_5 : q_d cL_books 5 6 (.lreturn) 1 := ⟨by decide +kernel, rfl⟩
theorem dL_books_6 : q_d cL_books 6 7 (.astore_n 2) 1 := ⟨by decide +kernel, rfl⟩
theorem dL_books_7 : q_d cL_books 7 10 (.ldc2_w 86) 3 := ⟨by decide +kernel, rfl⟩
theorem dL_books_10 : q_d cL_books 10 11 (.lreturn) 1 := ⟨by decide +kernel, rfl⟩
theorem dL_tell_0 : q_d cL_tell 0 1 (.iconst 0) 1 := ⟨by decide +kernel, rfl⟩
theorem dL_tell_1 : q_d cL_tell 1 2 (.istore_n 3) 1 := ⟨by decide +kernel, rfl⟩
theorem dL_tell_2 : q_d cL_tell 2 3 (.iload_n 3) 1 := ⟨by decide +kernel, rfl⟩
theorem dL_tell_3 : q_d cL_tell 3 4 (.aload_n 2) 1 := ⟨by decide +kernel, rfl⟩
theorem dL_tell_4 : q_d cL_tell 4 7 (.invokevirtual 122) 3 := ⟨by decide +kernel, rfl⟩
theorem dL_tell_7 : q_j cL_tell 7 10 27 (fun o => .if_icmp .ge o) := ⟨20, by decide +kernel, rfl, rfl⟩
theorem dL_tell_10 : q_d cL_tell 10 11 (.aload_n 0) 1 := ⟨by decide +kernel, rfl⟩
theorem dL_tell_11 : q_d cL_tell 11 12 (.aload_n 1) 1 := ⟨by decide +kernel, rfl⟩
theorem dL_tell_12 : q_d cL_tell 12 13 (.aload_n 2) 1 := ⟨by decide +kernel, rfl⟩
theorem dL_tell_13 : q_d cL_tell 13 14 (.iload_n 3) 1 := ⟨by decide +kernel, rfl⟩
theorem dL_tell_14 : q_d cL_tell 14 17 (.invokevirtual 128) 3 := ⟨by decide +kernel, rfl⟩
theorem dL_tell_17 : q_d cL_tell 17 18 (.i2l) 1 := ⟨by decide +kernel, rfl⟩
theorem dL_tell_18 : q_d cL_tell 18 21 (.invokestatic 26) 3 := ⟨by decide +kernel, rfl⟩
theorem dL_tell_21 : q_d cL_tell 21 24 (.iinc 3 1) 3 := ⟨by decide +kernel, rfl⟩
theorem dL_tell_24 : q_j cL_tell 24 27 2 (fun o => .goto o) := ⟨(-22), by decide +kernel, rfl, rfl⟩
theorem dL_tell_27 : q_d cL_tell 27 28 (.return_) 1 := ⟨by decide +kernel, rfl⟩
theorem dL_number_0 : q_d cL_number 0 1 (.aload_n 0) 1 := ⟨by decide +kernel, rfl⟩
theorem dL_number_1 : q_d cL_number 1 2 (.aload_n 1) 1 := ⟨by decide +kernel, rfl⟩
theorem dL_number_2 : q_d cL_number 2 4 (.ldc 132) 2 := ⟨by decide +kernel, rfl⟩
theorem dL_number_4 : q_d cL_number 4 7 (.invokestatic 134) 3 := ⟨by decide +kernel, rfl⟩
theorem dL_number_7 : q_d cL_number 7 8 (.aload_n 0) 1 := ⟨by decide +kernel, rfl⟩
theorem dL_number_8 : q_d cL_number 8 9 (.aload_n 1) 1 := ⟨by decide +kernel, rfl⟩
theorem dL_number_9 : q_d cL_number 9 10 (.iload_n 2) 1 := ⟨by decide +kernel, rfl⟩
theorem dL_number_10 : q_d cL_number 10 13 (.invokestatic 138) 3 := ⟨by decide +kernel, rfl⟩
theorem dL_number_13 : q_d cL_number 13 14 (.return_) 1 := ⟨by decide +kernel, rfl⟩
theorem dL_drawn_0 : q_d cL_drawn 0 3 (.new 142) 3 := ⟨by decide +kernel, rfl⟩
theorem dL_drawn_3 : q_d cL_drawn 3 4 (.dup) 1 := ⟨by decide +kernel, rfl⟩
theorem dL_drawn_4 : q_d cL_drawn 4 7 (.invokespecial 144) 3 := ⟨by decide +kernel, rfl⟩
theorem dL_drawn_7 : q_d cL_drawn 7 8 (.astore_n 3) 1 := ⟨by decide +kernel, rfl⟩
theorem dL_drawn_8 : q_d cL_drawn 8 9 (.aload_n 3) 1 := ⟨by decide +kernel, rfl⟩
theorem dL_drawn_9 : q_d cL_drawn 9 10 (.iconst 1) 1 := ⟨by decide +kernel, rfl⟩
theorem dL_drawn_10 : q_d cL_drawn 10 11 (.aload_n 2) 1 := ⟨by decide +kernel, rfl⟩
theorem dL_drawn_11 : q_d cL_drawn 11 12 (.iconst 3) 1 := ⟨by decide +kernel, rfl⟩
theorem dL_drawn_12 : q_d cL_drawn 12 15 (.invokevirtual 145) 3 := ⟨by decide +kernel, rfl⟩
theorem dL_drawn_15 : q_d cL_drawn 15 16 (.iadd) 1 := ⟨by decide +kernel, rfl⟩
theorem dL_drawn_16 : q_d cL_drawn 16 19 (.putfield 150) 3 := ⟨by decide +kernel, rfl⟩
theorem dL_drawn_19 : q_d cL_drawn 19 20 (.iconst 0) 1 := ⟨by decide +kernel, rfl⟩
theorem dL_drawn_20 : q_d cL_drawn 20 22 (.istore 4) 2 := ⟨by decide +kernel, rfl⟩
theorem dL_drawn_22 : q_d cL_drawn 22 24 (.iload 4) 2 := ⟨by decide +kernel, rfl⟩
theorem dL_drawn_24 : q_d cL_drawn 24 25 (.aload_n 3) 1 := ⟨by decide +kernel, rfl⟩
theorem dL_drawn_25 : q_d cL_drawn 25 28 (.getfield 150) 3 := ⟨by decide +kernel, rfl⟩
theorem dL_drawn_28 : q_j cL_drawn 28 31 164 (fun o => .if_icmp .ge o) := ⟨136, by decide +kernel, rfl, rfl⟩
theorem dL_drawn_31 : q_d cL_drawn 31 32 (.iconst 4) 1 := ⟨by decide +kernel, rfl⟩
theorem dL_drawn_32 : q_d cL_drawn 32 34 (.newarray .int) 2 := ⟨by decide +kernel, rfl⟩
theorem dL_drawn_34 : q_d cL_drawn 34 35 (.dup) 1 := ⟨by decide +kernel, rfl⟩
theorem dL_drawn_35 : q_d cL_drawn 35 36 (.iconst 0) 1 := ⟨by decide +kernel, rfl⟩
theorem dL_drawn_36 : q_d cL_drawn 36 37 (.aload_n 2) 1 := ⟨by decide +kernel, rfl⟩
theorem dL_drawn_37 : q_d cL_drawn 37 39 (.bipush 12) 2 := ⟨by decide +kernel, rfl⟩
theorem dL_drawn_39 : q_d cL_drawn 39 42 (.invokevirtual 145) 3 := ⟨by decide +kernel, rfl⟩
theorem dL_drawn_42 : q_d cL_drawn 42 43 (.iastore) 1 := ⟨by decide +kernel, rfl⟩
theorem dL_drawn_43 : q_d cL_drawn 43 44 (.dup) 1 := ⟨by decide +kernel, rfl⟩
theorem dL_drawn_44 : q_d cL_drawn 44 45 (.iconst 1) 1 := ⟨by decide +kernel, rfl⟩
theorem dL_drawn_45 : q_d cL_drawn 45 46 (.aload_n 2) 1 := ⟨by decide +kernel, rfl⟩
theorem dL_drawn_46 : q_d cL_drawn 46 47 (.iconst 3) 1 := ⟨by decide +kernel, rfl⟩
theorem dL_drawn_47 : q_d cL_drawn 47 50 (.invokevirtual 145) 3 := ⟨by decide +kernel, rfl⟩
theorem dL_drawn_50 : q_d cL_drawn 50 51 (.aload_n 2) 1 := ⟨by decide +kernel, rfl⟩
theorem dL_drawn_51 : q_d cL_drawn 51 54 (.sipush 3000) 3 := ⟨by decide +kernel, rfl⟩
theorem dL_drawn_54 : q_d cL_drawn 54 57 (.invokevirtual 145) 3 := ⟨by decide +kernel, rfl⟩
theorem dL_drawn_57 : q_d cL_drawn 57 58 (.imul) 1 := ⟨by decide +kernel, rfl⟩
theorem dL_drawn_58 : q_d cL_drawn 58 59 (.iastore) 1 := ⟨by decide +kernel, rfl⟩
theorem dL_drawn_59 : q_d cL_drawn 59 60 (.dup) 1 := ⟨by decide +kernel, rfl⟩
theorem dL_drawn_60 : q_d cL_drawn 60 61 (.iconst 2) 1 := ⟨by decide +kernel, rfl⟩
theorem dL_drawn_61 : q_d cL_drawn 61 62 (.aload_n 2) 1 := ⟨by decide +kernel, rfl⟩
theorem dL_drawn_62 : q_d cL_drawn 62 65 (.sipush 999) 3 := ⟨by decide +kernel, rfl⟩
theorem dL_drawn_65 : q_d cL_drawn 65 68 (.invokevirtual 145) 3 := ⟨by decide +kernel, rfl⟩
theorem dL_drawn_68 : q_d cL_drawn 68 69 (.iastore) 1 := ⟨by decide +kernel, rfl⟩
theorem dL_drawn_69 : q_d cL_drawn 69 70 (.dup) 1 := ⟨by decide +kernel, rfl⟩
theorem dL_drawn_70 : q_d cL_drawn 70 71 (.iconst 3) 1 := ⟨by decide +kernel, rfl⟩
theorem dL_drawn_71 : q_d cL_drawn 71 72 (.iconst 1) 1 := ⟨by decide +kernel, rfl⟩
theorem dL_drawn_72 : q_d cL_drawn 72 73 (.aload_n 2) 1 := ⟨by decide +kernel, rfl⟩
theorem dL_drawn_73 : q_d cL_drawn 73 74 (.iconst 3) 1 := ⟨by decide +kernel, rfl⟩
theorem dL_drawn_74 : q_d cL_drawn 74 77 (.invokevirtual 145) 3 := ⟨by decide +kernel, rfl⟩
theorem dL_drawn_77 : q_d cL_drawn 77 78 (.iadd) 1 := ⟨by decide +kernel, rfl⟩
theorem dL_drawn_78 : q_d cL_drawn 78 79 (.iastore) 1 := ⟨by decide +kernel, rfl⟩
theorem dL_drawn_79 : q_d cL_drawn 79 81 (.astore 5) 2 := ⟨by decide +kernel, rfl⟩
theorem dL_drawn_81 : q_d cL_drawn 81 82 (.aload_n 0) 1 := ⟨by decide +kernel, rfl⟩
theorem dL_drawn_82 : q_d cL_drawn 82 83 (.aload_n 1) 1 := ⟨by decide +kernel, rfl⟩
theorem dL_drawn_83 : q_d cL_drawn 83 85 (.iload 4) 2 := ⟨by decide +kernel, rfl⟩
theorem dL_drawn_85 : q_d cL_drawn 85 86 (.iconst 2) 1 := ⟨by decide +kernel, rfl⟩
theorem dL_drawn_86 : q_d cL_drawn 86 87 (.irem) 1 := ⟨by decide +kernel, rfl⟩
theorem dL_drawn_87 : q_j cL_drawn 87 90 95 (fun o => .ifCond .ne o) := ⟨8, by decide +kernel, rfl, rfl⟩
theorem dL_drawn_90 : q_d cL_drawn 90 92 (.ldc 154) 2 := ⟨by decide +kernel, rfl⟩
theorem dL_drawn_92 : q_j cL_drawn 92 95 97 (fun o => .goto o) := ⟨5, by decide +kernel, rfl, rfl⟩
theorem dL_drawn_95 : q_d cL_drawn 95 97 (.ldc 156) 2 := ⟨by decide +kernel, rfl⟩
theorem dL_drawn_97 : q_d cL_drawn 97 100 (.invokestatic 134) 3 := ⟨by decide +kernel, rfl⟩
theorem dL_drawn_100 : q_d cL_drawn 100 101 (.aload_n 0) 1 := ⟨by decide +kernel, rfl⟩
theorem dL_drawn_101 : q_d cL_drawn 101 102 (.aload_n 1) 1 := ⟨by decide +kernel, rfl⟩
theorem dL_drawn_102 : q_d cL_drawn 102 105 (.getstatic 158) 3 := ⟨by decide +kernel, rfl⟩
theorem dL_drawn_105 : q_d cL_drawn 105 107 (.iload 4) 2 := ⟨by decide +kernel, rfl⟩
theorem dL_drawn_107 : q_d cL_drawn 107 108 (.aaload) 1 := ⟨by decide +kernel, rfl⟩
theorem dL_drawn_108 : q_d cL_drawn 108 111 (.invokestatic 134) 3 := ⟨by decide +kernel, rfl⟩
theorem dL_drawn_111 : q_d cL_drawn 111 112 (.iconst 0) 1 := ⟨by decide +kernel, rfl⟩
theorem dL_drawn_112 : q_d cL_drawn 112 114 (.istore 6) 2 := ⟨by decide +kernel, rfl⟩
theorem dL_drawn_114 : q_d cL_drawn 114 116 (.iload 6) 2 := ⟨by decide +kernel, rfl⟩
theorem dL_drawn_116 : q_d cL_drawn 116 117 (.iconst 4) 1 := ⟨by decide +kernel, rfl⟩
theorem dL_drawn_117 : q_j cL_drawn 117 120 151 (fun o => .if_icmp .ge o) := ⟨34, by decide +kernel, rfl, rfl⟩
theorem dL_drawn_120 : q_d cL_drawn 120 121 (.aload_n 3) 1 := ⟨by decide +kernel, rfl⟩
theorem dL_drawn_121 : q_d cL_drawn 121 124 (.getfield 162) 3 := ⟨by decide +kernel, rfl⟩
theorem dL_drawn_124 : q_d cL_drawn 124 126 (.iload 4) 2 := ⟨by decide +kernel, rfl⟩
theorem dL_drawn_126 : q_d cL_drawn 126 127 (.aaload) 1 := ⟨by decide +kernel, rfl⟩
theorem dL_drawn_127 : q_d cL_drawn 127 129 (.iload 6) 2 := ⟨by decide +kernel, rfl⟩
theorem dL_drawn_129 : q_d cL_drawn 129 131 (.aload 5) 2 := ⟨by decide +kernel, rfl⟩
theorem dL_drawn_131 : q_d cL_drawn 131 133 (.iload 6) 2 := ⟨by decide +kernel, rfl⟩
theorem dL_drawn_133 : q_d cL_drawn 133 134 (.iaload) 1 := ⟨by decide +kernel, rfl⟩
theorem dL_drawn_134 : q_d cL_drawn 134 135 (.iastore) 1 := ⟨by decide +kernel, rfl⟩
theorem dL_drawn_135 : q_d cL_drawn 135 136 (.aload_n 0) 1 := ⟨by decide +kernel, rfl⟩
theorem dL_drawn_136 : q_d cL_drawn 136 137 (.aload_n 1) 1 := ⟨by decide +kernel, rfl⟩
theorem dL_drawn_137 : q_d cL_drawn 137 139 (.aload 5) 2 := ⟨by decide +kernel, rfl⟩
theorem dL_drawn_139 : q_d cL_drawn 139 141 (.iload 6) 2 := ⟨by decide +kernel, rfl⟩
theorem dL_drawn_141 : q_d cL_drawn 141 142 (.iaload) 1 := ⟨by decide +kernel, rfl⟩
theorem dL_drawn_142 : q_d cL_drawn 142 145 (.invokestatic 165) 3 := ⟨by decide +kernel, rfl⟩
theorem dL_drawn_145 : q_d cL_drawn 145 148 (.iinc 6 1) 3 := ⟨by decide +kernel, rfl⟩
theorem dL_drawn_148 : q_j cL_drawn 148 151 114 (fun o => .goto o) := ⟨(-34), by decide +kernel, rfl, rfl⟩
theorem dL_drawn_151 : q_d cL_drawn 151 152 (.aload_n 0) 1 := ⟨by decide +kernel, rfl⟩
theorem dL_drawn_152 : q_d cL_drawn 152 153 (.aload_n 1) 1 := ⟨by decide +kernel, rfl⟩
theorem dL_drawn_153 : q_d cL_drawn 153 155 (.ldc 168) 2 := ⟨by decide +kernel, rfl⟩
theorem dL_drawn_155 : q_d cL_drawn 155 158 (.invokestatic 134) 3 := ⟨by decide +kernel, rfl⟩
theorem dL_drawn_158 : q_d cL_drawn 158 161 (.iinc 4 1) 3 := ⟨by decide +kernel, rfl⟩
theorem dL_drawn_161 : q_j cL_drawn 161 164 22 (fun o => .goto o) := ⟨(-139), by decide +kernel, rfl, rfl⟩
theorem dL_drawn_164 : q_d cL_drawn 164 165 (.iconst 0) 1 := ⟨by decide +kernel, rfl⟩
theorem dL_drawn_165 : q_d cL_drawn 165 167 (.istore 4) 2 := ⟨by decide +kernel, rfl⟩
theorem dL_drawn_167 : q_d cL_drawn 167 168 (.iconst 0) 1 := ⟨by decide +kernel, rfl⟩
theorem dL_drawn_168 : q_d cL_drawn 168 170 (.istore 5) 2 := ⟨by decide +kernel, rfl⟩
theorem dL_drawn_170 : q_d cL_drawn 170 172 (.iload 5) 2 := ⟨by decide +kernel, rfl⟩
theorem dL_drawn_172 : q_d cL_drawn 172 173 (.iconst 5) 1 := ⟨by decide +kernel, rfl⟩
theorem dL_drawn_173 : q_j cL_drawn 173 176 480 (fun o => .if_icmp .ge o) := ⟨307, by decide +kernel, rfl, rfl⟩
theorem dL_drawn_176 : q_d cL_drawn 176 177 (.iconst 0) 1 := ⟨by decide +kernel, rfl⟩
theorem dL_drawn_177 : q_d cL_drawn 177 179 (.istore 6) 2 := ⟨by decide +kernel, rfl⟩
theorem dL_drawn_179 : q_d cL_drawn 179 181 (.iload 6) 2 := ⟨by decide +kernel, rfl⟩
theorem dL_drawn_181 : q_d cL_drawn 181 182 (.aload_n 3) 1 := ⟨by decide +kernel, rfl⟩
theorem dL_drawn_182 : q_d cL_drawn 182 185 (.getfield 150) 3 := ⟨by decide +kernel, rfl⟩
theorem dL_drawn_185 : q_j cL_drawn 185 188 415 (fun o => .if_icmp .ge o) := ⟨230, by decide +kernel, rfl, rfl⟩
theorem dL_drawn_188 : q_d cL_drawn 188 189 (.aload_n 2) 1 := ⟨by decide +kernel, rfl⟩
theorem dL_drawn_189 : q_d cL_drawn 189 190 (.iconst 3) 1 := ⟨by decide +kernel, rfl⟩
theorem dL_drawn_190 : q_d cL_drawn 190 193 (.invokevirtual 145) 3 := ⟨by decide +kernel, rfl⟩
theorem dL_drawn_193 : q_j cL_drawn 193 196 409 (fun o => .ifCond .eq o) := ⟨216, by decide +kernel, rfl, rfl⟩
theorem dL_drawn_196 : q_d cL_drawn 196 198 (.iload 4) 2 := ⟨by decide +kernel, rfl⟩
theorem dL_drawn_198 : q_d cL_drawn 198 199 (.iconst 4) 1 := ⟨by decide +kernel, rfl⟩
theorem dL_drawn_199 : q_j cL_drawn 199 202 205 (fun o => .if_icmp .ne o) := ⟨6, by decide +kernel, rfl, rfl⟩
theorem dL_drawn_202 : q_j cL_drawn 202 205 409 (fun o => .goto o) := ⟨207, by decide +kernel, rfl, rfl⟩
theorem dL_drawn_205 : q_d cL_drawn 205 208 (.iinc 4 1) 3 := ⟨by decide +kernel, rfl⟩
theorem dL_drawn_208 : q_d cL_drawn 208 209 (.iconst 4) 1 := ⟨by decide +kernel, rfl⟩
theorem dL_drawn_209 : q_d cL_drawn 209 211 (.newarray .int) 2 := ⟨by decide +kernel, rfl⟩
theorem dL_drawn_211 : q_d cL_drawn 211 212 (.dup) 1 := ⟨by decide +kernel, rfl⟩
theorem dL_drawn_212 : q_d cL_drawn 212 213 (.iconst 0) 1 := ⟨by decide +kernel, rfl⟩
theorem dL_drawn_213 : q_d cL_drawn 213 214 (.aload_n 2) 1 := ⟨by decide +kernel, rfl⟩
theorem dL_drawn_214 : q_d cL_drawn 214 216 (.bipush 14) 2 := ⟨by decide +kernel, rfl⟩
theorem dL_drawn_216 : q_d cL_drawn 216 219 (.invokevirtual 145) 3 := ⟨by decide +kernel, rfl⟩
theorem dL_drawn_219 : q_d cL_drawn 219 220 (.iastore) 1 := ⟨by decide +kernel, rfl⟩
theorem dL_drawn_220 : q_d cL_drawn 220 221 (.dup) 1 := ⟨by decide +kernel, rfl⟩
theorem dL_drawn_221 : q_d cL_drawn 221 222 (.iconst 1) 1 := ⟨by decide +kernel, rfl⟩
theorem dL_drawn_222 : q_d cL_drawn 222 223 (.aload_n 2) 1 := ⟨by decide +kernel, rfl⟩
theorem dL_drawn_223 : q_d cL_drawn 223 224 (.iconst 4) 1 := ⟨by decide +kernel, rfl⟩
theorem dL_drawn_224 : q_d cL_drawn 224 227 (.invokevirtual 145) 3 := ⟨by decide +kernel, rfl⟩
theorem dL_drawn_227 : q_d cL_drawn 227 228 (.iastore) 1 := ⟨by decide +kernel, rfl⟩
theorem dL_drawn_228 : q_d cL_drawn 228 229 (.dup) 1 := ⟨by decide +kernel, rfl⟩
theorem dL_drawn_229 : q_d cL_drawn 229 230 (.iconst 2) 1 := ⟨by decide +kernel, rfl⟩
theorem dL_drawn_230 : q_d cL_drawn 230 231 (.aload_n 2) 1 := ⟨by decide +kernel, rfl⟩
theorem dL_drawn_231 : q_d cL_drawn 231 232 (.iconst 3) 1 := ⟨by decide +kernel, rfl⟩
theorem dL_drawn_232 : q_d cL_drawn 232 235 (.invokevirtual 145) 3 := ⟨by decide +kernel, rfl⟩
theorem dL_drawn_235 : q_j cL_drawn 235 238 249 (fun o => .ifCond .ne o) := ⟨14, by decide +kernel, rfl, rfl⟩
theorem dL_drawn_238 : q_d cL_drawn 238 239 (.iconst 1) 1 := ⟨by decide +kernel, rfl⟩
theorem dL_drawn_239 : q_d cL_drawn 239 240 (.aload_n 2) 1 := ⟨by decide +kernel, rfl⟩
theorem dL_drawn_240 : q_d cL_drawn 240 242 (.bipush 9) 2 := ⟨by decide +kernel, rfl⟩
theorem dL_drawn_242 : q_d cL_drawn 242 245 (.invokevirtual 145) 3 := ⟨by decide +kernel, rfl⟩
theorem dL_drawn_245 : q_d cL_drawn 245 246 (.iadd) 1 := ⟨by decide +kernel, rfl⟩
theorem dL_drawn_246 : q_j cL_drawn 246 249 250 (fun o => .goto o) := ⟨4, by decide +kernel, rfl, rfl⟩
theorem dL_drawn_249 : q_d cL_drawn 249 250 (.iconst 0) 1 := ⟨by decide +kernel, rfl⟩
theorem dL_drawn_250 : q_d cL_drawn 250 251 (.iastore) 1 := ⟨by decide +kernel, rfl⟩
theorem dL_drawn_251 : q_d cL_drawn 251 252 (.dup) 1 := ⟨by decide +kernel, rfl⟩
theorem dL_drawn_252 : q_d cL_drawn 252 253 (.iconst 3) 1 := ⟨by decide +kernel, rfl⟩
theorem dL_drawn_253 : q_d cL_drawn 253 254 (.aload_n 2) 1 := ⟨by decide +kernel, rfl⟩
theorem dL_drawn_254 : q_d cL_drawn 254 255 (.iconst 2) 1 := ⟨by decide +kernel, rfl⟩
theorem dL_drawn_255 : q_d cL_drawn 255 258 (.invokevirtual 145) 3 := ⟨by decide +kernel, rfl⟩
theorem dL_drawn_258 : q_d cL_drawn 258 259 (.aload_n 2) 1 := ⟨by decide +kernel, rfl⟩
theorem dL_drawn_259 : q_d cL_drawn 259 262 (.sipush 30000) 3 := ⟨by decide +kernel, rfl⟩
theorem dL_drawn_262 : q_d cL_drawn 262 265 (.invokevirtual 145) 3 := ⟨by decide +kernel, rfl⟩
theorem dL_drawn_265 : q_d cL_drawn 265 266 (.imul) 1 := ⟨by decide +kernel, rfl⟩
theorem dL_drawn_266 : q_d cL_drawn 266 267 (.iastore) 1 := ⟨by decide +kernel, rfl⟩
theorem dL_drawn_267 : q_d cL_drawn 267 269 (.astore 7) 2 := ⟨by decide +kernel, rfl⟩
theorem dL_drawn_269 : q_d cL_drawn 269 270 (.aload_n 3) 1 := ⟨by decide +kernel, rfl⟩
theorem dL_drawn_270 : q_d cL_drawn 270 273 (.getfield 170) 3 := ⟨by decide +kernel, rfl⟩
theorem dL_drawn_273 : q_d cL_drawn 273 275 (.iload 5) 2 := ⟨by decide +kernel, rfl⟩
theorem dL_drawn_275 : q_d cL_drawn 275 276 (.aaload) 1 := ⟨by decide +kernel, rfl⟩
theorem dL_drawn_276 : q_d cL_drawn 276 278 (.iload 6) 2 := ⟨by decide +kernel, rfl⟩
theorem dL_drawn_278 : q_d cL_drawn 278 280 (.aload 7) 2 := ⟨by decide +kernel, rfl⟩
theorem dL_drawn_280 : q_d cL_drawn 280 281 (.aastore) 1 := ⟨by decide +kernel, rfl⟩
theorem dL_drawn_281 : q_d cL_drawn 281 282 (.aload_n 0) 1 := ⟨by decide +kernel, rfl⟩
theorem dL_drawn_282 : q_d cL_drawn 282 283 (.aload_n 1) 1 := ⟨by decide +kernel, rfl⟩
theorem dL_drawn_283 : q_d cL_drawn 283 285 (.ldc 173) 2 := ⟨by decide +kernel, rfl⟩
theorem dL_drawn_285 : q_d cL_drawn 285 288 (.invokestatic 134) 3 := ⟨by decide +kernel, rfl⟩
theorem dL_drawn_288 : q_d cL_drawn 288 289 (.aload_n 0) 1 := ⟨by decide +kernel, rfl⟩
theorem dL_drawn_289 : q_d cL_drawn 289 290 (.aload_n 1) 1 := ⟨by decide +kernel, rfl⟩
theorem dL_drawn_290 : q_d cL_drawn 290 293 (.getstatic 175) 3 := ⟨by decide +kernel, rfl⟩
theorem dL_drawn_293 : q_d cL_drawn 293 295 (.iload 5) 2 := ⟨by decide +kernel, rfl⟩
theorem dL_drawn_295 : q_d cL_drawn 295 296 (.aaload) 1 := ⟨by decide +kernel, rfl⟩
theorem dL_drawn_296 : q_d cL_drawn 296 299 (.invokestatic 134) 3 := ⟨by decide +kernel, rfl⟩
theorem dL_drawn_299 : q_d cL_drawn 299 300 (.aload_n 0) 1 := ⟨by decide +kernel, rfl⟩
theorem dL_drawn_300 : q_d cL_drawn 300 301 (.aload_n 1) 1 := ⟨by decide +kernel, rfl⟩
theorem dL_drawn_301 : q_d cL_drawn 301 303 (.ldc 132) 2 := ⟨by decide +kernel, rfl⟩
theorem dL_drawn_303 : q_d cL_drawn 303 306 (.invokestatic 134) 3 := ⟨by decide +kernel, rfl⟩
theorem dL_drawn_306 : q_d cL_drawn 306 307 (.aload_n 0) 1 := ⟨by decide +kernel, rfl⟩
theorem dL_drawn_307 : q_d cL_drawn 307 308 (.aload_n 1) 1 := ⟨by decide +kernel, rfl⟩
theorem dL_drawn_308 : q_d cL_drawn 308 311 (.getstatic 158) 3 := ⟨by decide +kernel, rfl⟩
theorem dL_drawn_311 : q_d cL_drawn 311 313 (.iload 6) 2 := ⟨by decide +kernel, rfl⟩
theorem dL_drawn_313 : q_d cL_drawn 313 314 (.aaload) 1 := ⟨by decide +kernel, rfl⟩
theorem dL_drawn_314 : q_d cL_drawn 314 317 (.invokestatic 134) 3 := ⟨by decide +kernel, rfl⟩
theorem dL_drawn_317 : q_d cL_drawn 317 318 (.aload_n 0) 1 := ⟨by decide +kernel, rfl⟩
theorem dL_drawn_318 : q_d cL_drawn 318 319 (.aload_n 1) 1 := ⟨by decide +kernel, rfl⟩
theorem dL_drawn_319 : q_d cL_drawn 319 321 (.aload 7) 2 := ⟨by decide +kernel, rfl⟩
theorem dL_drawn_321 : q_d cL_drawn 321 322 (.iconst 0) 1 := ⟨by decide +kernel, rfl⟩
theorem dL_drawn_322 : q_d cL_drawn 322 323 (.iaload) 1 := ⟨by decide +kernel, rfl⟩
theorem dL_drawn_323 : q_d cL_drawn 323 326 (.invokestatic 165) 3 := ⟨by decide +kernel, rfl⟩
theorem dL_drawn_326 : q_d cL_drawn 326 328 (.aload 7) 2 := ⟨by decide +kernel, rfl⟩
theorem dL_drawn_328 : q_d cL_drawn 328 329 (.iconst 1) 1 := ⟨by decide +kernel, rfl⟩
theorem dL_drawn_329 : q_d cL_drawn 329 330 (.iaload) 1 := ⟨by decide +kernel, rfl⟩
theorem dL_drawn_330 : q_j cL_drawn 330 333 349 (fun o => .ifCond .le o) := ⟨19, by decide +kernel, rfl, rfl⟩
theorem dL_drawn_333 : q_d cL_drawn 333 334 (.aload_n 0) 1 := ⟨by decide +kernel, rfl⟩
theorem dL_drawn_334 : q_d cL_drawn 334 335 (.aload_n 1) 1 := ⟨by decide +kernel, rfl⟩
theorem dL_drawn_335 : q_d cL_drawn 335 337 (.ldc 178) 2 := ⟨by decide +kernel, rfl⟩
theorem dL_drawn_337 : q_d cL_drawn 337 340 (.invokestatic 134) 3 := ⟨by decide +kernel, rfl⟩
theorem dL_drawn_340 : q_d cL_drawn 340 341 (.aload_n 0) 1 := ⟨by decide +kernel, rfl⟩
theorem dL_drawn_341 : q_d cL_drawn 341 342 (.aload_n 1) 1 := ⟨by decide +kernel, rfl⟩
theorem dL_drawn_342 : q_d cL_drawn 342 344 (.aload 7) 2 := ⟨by decide +kernel, rfl⟩
theorem dL_drawn_344 : q_d cL_drawn 344 345 (.iconst 1) 1 := ⟨by decide +kernel, rfl⟩
theorem dL_drawn_345 : q_d cL_drawn 345 346 (.iaload) 1 := ⟨by decide +kernel, rfl⟩
theorem dL_drawn_346 : q_d cL_drawn 346 349 (.invokestatic 138) 3 := ⟨by decide +kernel, rfl⟩
theorem dL_drawn_349 : q_d cL_drawn 349 351 (.aload 7) 2 := ⟨by decide +kernel, rfl⟩
theorem dL_drawn_351 : q_d cL_drawn 351 352 (.iconst 2) 1 := ⟨by decide +kernel, rfl⟩
theorem dL_drawn_352 : q_d cL_drawn 352 353 (.iaload) 1 := ⟨by decide +kernel, rfl⟩
theorem dL_drawn_353 : q_j cL_drawn 353 356 372 (fun o => .ifCond .le o) := ⟨19, by decide +kernel, rfl, rfl⟩
theorem dL_drawn_356 : q_d cL_drawn 356 357 (.aload_n 0) 1 := ⟨by decide +kernel, rfl⟩
theorem dL_drawn_357 : q_d cL_drawn 357 358 (.aload_n 1) 1 := ⟨by decide +kernel, rfl⟩
theorem dL_drawn_358 : q_d cL_drawn 358 360 (.ldc 180) 2 := ⟨by decide +kernel, rfl⟩
theorem dL_drawn_360 : q_d cL_drawn 360 363 (.invokestatic 134) 3 := ⟨by decide +kernel, rfl⟩
theorem dL_drawn_363 : q_d cL_drawn 363 364 (.aload_n 0) 1 := ⟨by decide +kernel, rfl⟩
theorem dL_drawn_364 : q_d cL_drawn 364 365 (.aload_n 1) 1 := ⟨by decide +kernel, rfl⟩
theorem dL_drawn_365 : q_d cL_drawn 365 367 (.aload 7) 2 := ⟨by decide +kernel, rfl⟩
theorem dL_drawn_367 : q_d cL_drawn 367 368 (.iconst 2) 1 := ⟨by decide +kernel, rfl⟩
theorem dL_drawn_368 : q_d cL_drawn 368 369 (.iaload) 1 := ⟨by decide +kernel, rfl⟩
theorem dL_drawn_369 : q_d cL_drawn 369 372 (.invokestatic 138) 3 := ⟨by decide +kernel, rfl⟩
theorem dL_drawn_372 : q_d cL_drawn 372 374 (.aload 7) 2 := ⟨by decide +kernel, rfl⟩
theorem dL_drawn_374 : q_d cL_drawn 374 375 (.iconst 3) 1 := ⟨by decide +kernel, rfl⟩
theorem dL_drawn_375 : q_d cL_drawn 375 376 (.iaload) 1 := ⟨by decide +kernel, rfl⟩
theorem dL_drawn_376 : q_j cL_drawn 376 379 402 (fun o => .ifCond .le o) := ⟨26, by decide +kernel, rfl, rfl⟩
theorem dL_drawn_379 : q_d cL_drawn 379 380 (.aload_n 0) 1 := ⟨by decide +kernel, rfl⟩
theorem dL_drawn_380 : q_d cL_drawn 380 381 (.aload_n 1) 1 := ⟨by decide +kernel, rfl⟩
theorem dL_drawn_381 : q_d cL_drawn 381 383 (.ldc 182) 2 := ⟨by decide +kernel, rfl⟩
theorem dL_drawn_383 : q_d cL_drawn 383 386 (.invokestatic 134) 3 := ⟨by decide +kernel, rfl⟩
theorem dL_drawn_386 : q_d cL_drawn 386 387 (.aload_n 0) 1 := ⟨by decide +kernel, rfl⟩
theorem dL_drawn_387 : q_d cL_drawn 387 388 (.aload_n 1) 1 := ⟨by decide +kernel, rfl⟩
theorem dL_drawn_388 : q_d cL_drawn 388 390 (.aload 7) 2 := ⟨by decide +kernel, rfl⟩
theorem dL_drawn_390 : q_d cL_drawn 390 391 (.iconst 3) 1 := ⟨by decide +kernel, rfl⟩
theorem dL_drawn_391 : q_d cL_drawn 391 392 (.iaload) 1 := ⟨by decide +kernel, rfl⟩
theorem dL_drawn_392 : q_d cL_drawn 392 395 (.invokestatic 165) 3 := ⟨by decide +kernel, rfl⟩
theorem dL_drawn_395 : q_d cL_drawn 395 396 (.aload_n 0) 1 := ⟨by decide +kernel, rfl⟩
theorem dL_drawn_396 : q_d cL_drawn 396 397 (.aload_n 1) 1 := ⟨by decide +kernel, rfl⟩
theorem dL_drawn_397 : q_d cL_drawn 397 399 (.ldc 184) 2 := ⟨by decide +kernel, rfl⟩
theorem dL_drawn_399 : q_d cL_drawn 399 402 (.invokestatic 134) 3 := ⟨by decide +kernel, rfl⟩
theorem dL_drawn_402 : q_d cL_drawn 402 403 (.aload_n 0) 1 := ⟨by decide +kernel, rfl⟩
theorem dL_drawn_403 : q_d cL_drawn 403 404 (.aload_n 1) 1 := ⟨by decide +kernel, rfl⟩
theorem dL_drawn_404 : q_d cL_drawn 404 406 (.ldc 168) 2 := ⟨by decide +kernel, rfl⟩
theorem dL_drawn_406 : q_d cL_drawn 406 409 (.invokestatic 134) 3 := ⟨by decide +kernel, rfl⟩
theorem dL_drawn_409 : q_d cL_drawn 409 412 (.iinc 6 1) 3 := ⟨by decide +kernel, rfl⟩
theorem dL_drawn_412 : q_j cL_drawn 412 415 179 (fun o => .goto o) := ⟨(-233), by decide +kernel, rfl, rfl⟩
theorem dL_drawn_415 : q_d cL_drawn 415 416 (.aload_n 2) 1 := ⟨by decide +kernel, rfl⟩
theorem dL_drawn_416 : q_d cL_drawn 416 417 (.iconst 2) 1 := ⟨by decide +kernel, rfl⟩
theorem dL_drawn_417 : q_d cL_drawn 417 420 (.invokevirtual 145) 3 := ⟨by decide +kernel, rfl⟩
theorem dL_drawn_420 : q_j cL_drawn 420 423 474 (fun o => .ifCond .ne o) := ⟨54, by decide +kernel, rfl, rfl⟩
theorem dL_drawn_423 : q_d cL_drawn 423 424 (.aload_n 3) 1 := ⟨by decide +kernel, rfl⟩
theorem dL_drawn_424 : q_d cL_drawn 424 427 (.getfield 186) 3 := ⟨by decide +kernel, rfl⟩
theorem dL_drawn_427 : q_d cL_drawn 427 429 (.iload 5) 2 := ⟨by decide +kernel, rfl⟩
theorem dL_drawn_429 : q_d cL_drawn 429 430 (.aload_n 2) 1 := ⟨by decide +kernel, rfl⟩
theorem dL_drawn_430 : q_d cL_drawn 430 433 (.sipush 1000) 3 := ⟨by decide +kernel, rfl⟩
theorem dL_drawn_433 : q_d cL_drawn 433 436 (.invokevirtual 145) 3 := ⟨by decide +kernel, rfl⟩
theorem dL_drawn_436 : q_d cL_drawn 436 437 (.iastore) 1 := ⟨by decide +kernel, rfl⟩
theorem dL_drawn_437 : q_d cL_drawn 437 438 (.aload_n 0) 1 := ⟨by decide +kernel, rfl⟩
theorem dL_drawn_438 : q_d cL_drawn 438 439 (.aload_n 1) 1 := ⟨by decide +kernel, rfl⟩
theorem dL_drawn_439 : q_d cL_drawn 439 441 (.ldc 189) 2 := ⟨by decide +kernel, rfl⟩
theorem dL_drawn_441 : q_d cL_drawn 441 444 (.invokestatic 134) 3 := ⟨by decide +kernel, rfl⟩
theorem dL_drawn_444 : q_d cL_drawn 444 445 (.aload_n 0) 1 := ⟨by decide +kernel, rfl⟩
theorem dL_drawn_445 : q_d cL_drawn 445 446 (.aload_n 1) 1 := ⟨by decide +kernel, rfl⟩
theorem dL_drawn_446 : q_d cL_drawn 446 449 (.getstatic 175) 3 := ⟨by decide +kernel, rfl⟩
theorem dL_drawn_449 : q_d cL_drawn 449 451 (.iload 5) 2 := ⟨by decide +kernel, rfl⟩
theorem dL_drawn_451 : q_d cL_drawn 451 452 (.aaload) 1 := ⟨by decide +kernel, rfl⟩
theorem dL_drawn_452 : q_d cL_drawn 452 455 (.invokestatic 134) 3 := ⟨by decide +kernel, rfl⟩
theorem dL_drawn_455 : q_d cL_drawn 455 456 (.aload_n 0) 1 := ⟨by decide +kernel, rfl⟩
theorem dL_drawn_456 : q_d cL_drawn 456 457 (.aload_n 1) 1 := ⟨by decide +kernel, rfl⟩
theorem dL_drawn_457 : q_d cL_drawn 457 458 (.aload_n 3) 1 := ⟨by decide +kernel, rfl⟩
theorem dL_drawn_458 : q_d cL_drawn 458 461 (.getfield 186) 3 := ⟨by decide +kernel, rfl⟩
theorem dL_drawn_461 : q_d cL_drawn 461 463 (.iload 5) 2 := ⟨by decide +kernel, rfl⟩
theorem dL_drawn_463 : q_d cL_drawn 463 464 (.iaload) 1 := ⟨by decide +kernel, rfl⟩
theorem dL_drawn_464 : q_d cL_drawn 464 467 (.invokestatic 165) 3 := ⟨by decide +kernel, rfl⟩
theorem dL_drawn_467 : q_d cL_drawn 467 468 (.aload_n 0) 1 := ⟨by decide +kernel, rfl⟩
theorem dL_drawn_468 : q_d cL_drawn 468 469 (.aload_n 1) 1 := ⟨by decide +kernel, rfl⟩
theorem dL_drawn_469 : q_d cL_drawn 469 471 (.ldc 168) 2 := ⟨by decide +kernel, rfl⟩
theorem dL_drawn_471 : q_d cL_drawn 471 474 (.invokestatic 134) 3 := ⟨by decide +kernel, rfl⟩
theorem dL_drawn_474 : q_d cL_drawn 474 477 (.iinc 5 1) 3 := ⟨by decide +kernel, rfl⟩
theorem dL_drawn_477 : q_j cL_drawn 477 480 170 (fun o => .goto o) := ⟨(-307), by decide +kernel, rfl, rfl⟩
theorem dL_drawn_480 : q_d cL_drawn 480 481 (.aload_n 2) 1 := ⟨by decide +kernel, rfl⟩
theorem dL_drawn_481 : q_d cL_drawn 481 482 (.iconst 2) 1 := ⟨by decide +kernel, rfl⟩
theorem dL_drawn_482 : q_d cL_drawn 482 485 (.invokevirtual 145) 3 := ⟨by decide +kernel, rfl⟩
theorem dL_drawn_485 : q_j cL_drawn 485 488 521 (fun o => .ifCond .ne o) := ⟨36, by decide +kernel, rfl, rfl⟩
theorem dL_drawn_488 : q_d cL_drawn 488 489 (.aload_n 3) 1 := ⟨by decide +kernel, rfl⟩
theorem dL_drawn_489 : q_d cL_drawn 489 490 (.aload_n 2) 1 := ⟨by decide +kernel, rfl⟩
theorem dL_drawn_490 : q_d cL_drawn 490 492 (.bipush 9) 2 := ⟨by decide +kernel, rfl⟩
theorem dL_drawn_492 : q_d cL_drawn 492 495 (.invokevirtual 145) 3 := ⟨by decide +kernel, rfl⟩
theorem dL_drawn_495 : q_d cL_drawn 495 498 (.putfield 191) 3 := ⟨by decide +kernel, rfl⟩
theorem dL_drawn_498 : q_d cL_drawn 498 499 (.aload_n 0) 1 := ⟨by decide +kernel, rfl⟩
theorem dL_drawn_499 : q_d cL_drawn 499 500 (.aload_n 1) 1 := ⟨by decide +kernel, rfl⟩
theorem dL_drawn_500 : q_d cL_drawn 500 502 (.ldc 194) 2 := ⟨by decide +kernel, rfl⟩
theorem dL_drawn_502 : q_d cL_drawn 502 505 (.invokestatic 134) 3 := ⟨by decide +kernel, rfl⟩
theorem dL_drawn_505 : q_d cL_drawn 505 506 (.aload_n 0) 1 := ⟨by decide +kernel, rfl⟩
theorem dL_drawn_506 : q_d cL_drawn 506 507 (.aload_n 1) 1 := ⟨by decide +kernel, rfl⟩
theorem dL_drawn_507 : q_d cL_drawn 507 508 (.aload_n 3) 1 := ⟨by decide +kernel, rfl⟩
theorem dL_drawn_508 : q_d cL_drawn 508 511 (.getfield 191) 3 := ⟨by decide +kernel, rfl⟩
theorem dL_drawn_511 : q_d cL_drawn 511 514 (.invokestatic 165) 3 := ⟨by decide +kernel, rfl⟩
theorem dL_drawn_514 : q_d cL_drawn 514 515 (.aload_n 0) 1 := ⟨by decide +kernel, rfl⟩
theorem dL_drawn_515 : q_d cL_drawn 515 516 (.aload_n 1) 1 := ⟨by decide +kernel, rfl⟩
theorem dL_drawn_516 : q_d cL_drawn 516 518 (.ldc 168) 2 := ⟨by decide +kernel, rfl⟩
theorem dL_drawn_518 : q_d cL_drawn 518 521 (.invokestatic 134) 3 := ⟨by decide +kernel, rfl⟩
theorem dL_drawn_521 : q_d cL_drawn 521 522 (.aload_n 2) 1 := ⟨by decide +kernel, rfl⟩
theorem dL_drawn_522 : q_d cL_drawn 522 523 (.iconst 2) 1 := ⟨by decide +kernel, rfl⟩
theorem dL_drawn_523 : q_d cL_drawn 523 526 (.invokevirtual 145) 3 := ⟨by decide +kernel, rfl⟩
theorem dL_drawn_526 : q_j cL_drawn 526 529 563 (fun o => .ifCond .ne o) := ⟨37, by decide +kernel, rfl, rfl⟩
theorem dL_drawn_529 : q_d cL_drawn 529 530 (.aload_n 3) 1 := ⟨by decide +kernel, rfl⟩
theorem dL_drawn_530 : q_d cL_drawn 530 531 (.aload_n 2) 1 := ⟨by decide +kernel, rfl⟩
theorem dL_drawn_531 : q_d cL_drawn 531 534 (.sipush 700) 3 := ⟨by decide +kernel, rfl⟩
theorem dL_drawn_534 : q_d cL_drawn 534 537 (.invokevirtual 145) 3 := ⟨by decide +kernel, rfl⟩
theorem dL_drawn_537 : q_d cL_drawn 537 540 (.putfield 195) 3 := ⟨by decide +kernel, rfl⟩
theorem dL_drawn_540 : q_d cL_drawn 540 541 (.aload_n 0) 1 := ⟨by decide +kernel, rfl⟩
theorem dL_drawn_541 : q_d cL_drawn 541 542 (.aload_n 1) 1 := ⟨by decide +kernel, rfl⟩
theorem dL_drawn_542 : q_d cL_drawn 542 544 (.ldc 197) 2 := ⟨by decide +kernel, rfl⟩
theorem dL_drawn_544 : q_d cL_drawn 544 547 (.invokestatic 134) 3 := ⟨by decide +kernel, rfl⟩
theorem dL_drawn_547 : q_d cL_drawn 547 548 (.aload_n 0) 1 := ⟨by decide +kernel, rfl⟩
theorem dL_drawn_548 : q_d cL_drawn 548 549 (.aload_n 1) 1 := ⟨by decide +kernel, rfl⟩
theorem dL_drawn_549 : q_d cL_drawn 549 550 (.aload_n 3) 1 := ⟨by decide +kernel, rfl⟩
theorem dL_drawn_550 : q_d cL_drawn 550 553 (.getfield 195) 3 := ⟨by decide +kernel, rfl⟩
theorem dL_drawn_553 : q_d cL_drawn 553 556 (.invokestatic 165) 3 := ⟨by decide +kernel, rfl⟩
theorem dL_drawn_556 : q_d cL_drawn 556 557 (.aload_n 0) 1 := ⟨by decide +kernel, rfl⟩
theorem dL_drawn_557 : q_d cL_drawn 557 558 (.aload_n 1) 1 := ⟨by decide +kernel, rfl⟩
theorem dL_drawn_558 : q_d cL_drawn 558 560 (.ldc 168) 2 := ⟨by decide +kernel, rfl⟩
theorem dL_drawn_560 : q_d cL_drawn 560 563 (.invokestatic 134) 3 := ⟨by decide +kernel, rfl⟩
theorem dL_drawn_563 : q_d cL_drawn 563 564 (.aload_n 2) 1 := ⟨by decide +kernel, rfl⟩
theorem dL_drawn_564 : q_d cL_drawn 564 565 (.iconst 2) 1 := ⟨by decide +kernel, rfl⟩
theorem dL_drawn_565 : q_d cL_drawn 565 568 (.invokevirtual 145) 3 := ⟨by decide +kernel, rfl⟩
theorem dL_drawn_568 : q_j cL_drawn 568 571 610 (fun o => .ifCond .ne o) := ⟨42, by decide +kernel, rfl, rfl⟩
theorem dL_drawn_571 : q_d cL_drawn 571 572 (.aload_n 3) 1 := ⟨by decide +kernel, rfl⟩
theorem dL_drawn_572 : q_d cL_drawn 572 573 (.aload_n 2) 1 := ⟨by decide +kernel, rfl⟩
theorem dL_drawn_573 : q_d cL_drawn 573 574 (.aload_n 3) 1 := ⟨by decide +kernel, rfl⟩
theorem dL_drawn_574 : q_d cL_drawn 574 577 (.getfield 150) 3 := ⟨by decide +kernel, rfl⟩
theorem dL_drawn_577 : q_d cL_drawn 577 580 (.invokevirtual 145) 3 := ⟨by decide +kernel, rfl⟩
theorem dL_drawn_580 : q_d cL_drawn 580 583 (.putfield 198) 3 := ⟨by decide +kernel, rfl⟩
theorem dL_drawn_583 : q_d cL_drawn 583 584 (.aload_n 0) 1 := ⟨by decide +kernel, rfl⟩
theorem dL_drawn_584 : q_d cL_drawn 584 585 (.aload_n 1) 1 := ⟨by decide +kernel, rfl⟩
theorem dL_drawn_585 : q_d cL_drawn 585 587 (.ldc 201) 2 := ⟨by decide +kernel, rfl⟩
theorem dL_drawn_587 : q_d cL_drawn 587 590 (.invokestatic 134) 3 := ⟨by decide +kernel, rfl⟩
theorem dL_drawn_590 : q_d cL_drawn 590 591 (.aload_n 0) 1 := ⟨by decide +kernel, rfl⟩
theorem dL_drawn_591 : q_d cL_drawn 591 592 (.aload_n 1) 1 := ⟨by decide +kernel, rfl⟩
theorem dL_drawn_592 : q_d cL_drawn 592 595 (.getstatic 158) 3 := ⟨by decide +kernel, rfl⟩
theorem dL_drawn_595 : q_d cL_drawn 595 596 (.aload_n 3) 1 := ⟨by decide +kernel, rfl⟩
theorem dL_drawn_596 : q_d cL_drawn 596 599 (.getfield 198) 3 := ⟨by decide +kernel, rfl⟩
theorem dL_drawn_599 : q_d cL_drawn 599 600 (.aaload) 1 := ⟨by decide +kernel, rfl⟩
theorem dL_drawn_600 : q_d cL_drawn 600 603 (.invokestatic 134) 3 := ⟨by decide +kernel, rfl⟩
theorem dL_drawn_603 : q_d cL_drawn 603 604 (.aload_n 0) 1 := ⟨by decide +kernel, rfl⟩
theorem dL_drawn_604 : q_d cL_drawn 604 605 (.aload_n 1) 1 := ⟨by decide +kernel, rfl⟩
theorem dL_drawn_605 : q_d cL_drawn 605 607 (.ldc 168) 2 := ⟨by decide +kernel, rfl⟩
theorem dL_drawn_607 : q_d cL_drawn 607 610 (.invokestatic 134) 3 := ⟨by decide +kernel, rfl⟩
theorem dL_drawn_610 : q_d cL_drawn 610 611 (.aload_n 2) 1 := ⟨by decide +kernel, rfl⟩
theorem dL_drawn_611 : q_d cL_drawn 611 612 (.iconst 2) 1 := ⟨by decide +kernel, rfl⟩
theorem dL_drawn_612 : q_d cL_drawn 612 615 (.invokevirtual 145) 3 := ⟨by decide +kernel, rfl⟩
theorem dL_drawn_615 : q_j cL_drawn 615 618 737 (fun o => .ifCond .ne o) := ⟨122, by decide +kernel, rfl, rfl⟩
theorem dL_drawn_618 : q_d cL_drawn 618 619 (.aload_n 2) 1 := ⟨by decide +kernel, rfl⟩
theorem dL_drawn_619 : q_d cL_drawn 619 620 (.iconst 3) 1 := ⟨by decide +kernel, rfl⟩
theorem dL_drawn_620 : q_d cL_drawn 620 623 (.invokevirtual 145) 3 := ⟨by decide +kernel, rfl⟩
theorem dL_drawn_623 : q_d cL_drawn 623 625 (.istore 5) 2 := ⟨by decide +kernel, rfl⟩
theorem dL_drawn_625 : q_d cL_drawn 625 626 (.aload_n 3) 1 := ⟨by decide +kernel, rfl⟩
theorem dL_drawn_626 : q_d cL_drawn 626 627 (.aload_n 2) 1 := ⟨by decide +kernel, rfl⟩
theorem dL_drawn_627 : q_d cL_drawn 627 628 (.iconst 2) 1 := ⟨by decide +kernel, rfl⟩
theorem dL_drawn_628 : q_d cL_drawn 628 631 (.invokevirtual 145) 3 := ⟨by decide +kernel, rfl⟩
theorem dL_drawn_631 : q_j cL_drawn 631 634 645 (fun o => .ifCond .ne o) := ⟨14, by decide +kernel, rfl, rfl⟩
theorem dL_drawn_634 : q_d cL_drawn 634 635 (.iconst 1) 1 := ⟨by decide +kernel, rfl⟩
theorem dL_drawn_635 : q_d cL_drawn 635 637 (.newarray .int) 2 := ⟨by decide +kernel, rfl⟩
theorem dL_drawn_637 : q_d cL_drawn 637 638 (.dup) 1 := ⟨by decide +kernel, rfl⟩
theorem dL_drawn_638 : q_d cL_drawn 638 639 (.iconst 0) 1 := ⟨by decide +kernel, rfl⟩
theorem dL_drawn_639 : q_d cL_drawn 639 641 (.iload 5) 2 := ⟨by decide +kernel, rfl⟩
theorem dL_drawn_641 : q_d cL_drawn 641 642 (.iastore) 1 := ⟨by decide +kernel, rfl⟩
theorem dL_drawn_642 : q_j cL_drawn 642 645 668 (fun o => .goto o) := ⟨26, by decide +kernel, rfl, rfl⟩
theorem dL_drawn_645 : q_d cL_drawn 645 646 (.iconst 2) 1 := ⟨by decide +kernel, rfl⟩
theorem dL_drawn_646 : q_d cL_drawn 646 648 (.newarray .int) 2 := ⟨by decide +kernel, rfl⟩
theorem dL_drawn_648 : q_d cL_drawn 648 649 (.dup) 1 := ⟨by decide +kernel, rfl⟩
theorem dL_drawn_649 : q_d cL_drawn 649 650 (.iconst 0) 1 := ⟨by decide +kernel, rfl⟩
theorem dL_drawn_650 : q_d cL_drawn 650 652 (.iload 5) 2 := ⟨by decide +kernel, rfl⟩
theorem dL_drawn_652 : q_d cL_drawn 652 653 (.iastore) 1 := ⟨by decide +kernel, rfl⟩
theorem dL_drawn_653 : q_d cL_drawn 653 654 (.dup) 1 := ⟨by decide +kernel, rfl⟩
theorem dL_drawn_654 : q_d cL_drawn 654 655 (.iconst 1) 1 := ⟨by decide +kernel, rfl⟩
theorem dL_drawn_655 : q_d cL_drawn 655 657 (.iload 5) 2 := ⟨by decide +kernel, rfl⟩
theorem dL_drawn_657 : q_d cL_drawn 657 658 (.iconst 1) 1 := ⟨by decide +kernel, rfl⟩
theorem dL_drawn_658 : q_d cL_drawn 658 659 (.iadd) 1 := ⟨by decide +kernel, rfl⟩
theorem dL_drawn_659 : q_d cL_drawn 659 660 (.aload_n 2) 1 := ⟨by decide +kernel, rfl⟩
theorem dL_drawn_660 : q_d cL_drawn 660 661 (.iconst 2) 1 := ⟨by decide +kernel, rfl⟩
theorem dL_drawn_661 : q_d cL_drawn 661 664 (.invokevirtual 145) 3 := ⟨by decide +kernel, rfl⟩
theorem dL_drawn_664 : q_d cL_drawn 664 665 (.iadd) 1 := ⟨by decide +kernel, rfl⟩
theorem dL_drawn_665 : q_d cL_drawn 665 666 (.iconst 3) 1 := ⟨by decide +kernel, rfl⟩
theorem dL_drawn_666 : q_d cL_drawn 666 667 (.irem) 1 := ⟨by decide +kernel, rfl⟩
theorem dL_drawn_667 : q_d cL_drawn 667 668 (.iastore) 1 := ⟨by decide +kernel, rfl⟩
theorem dL_drawn_668 : q_d cL_drawn 668 671 (.putfield 203) 3 := ⟨by decide +kernel, rfl⟩
theorem dL_drawn_671 : q_d cL_drawn 671 672 (.aload_n 0) 1 := ⟨by decide +kernel, rfl⟩
theorem dL_drawn_672 : q_d cL_drawn 672 673 (.aload_n 1) 1 := ⟨by decide +kernel, rfl⟩
theorem dL_drawn_673 : q_d cL_drawn 673 675 (.ldc 206) 2 := ⟨by decide +kernel, rfl⟩
theorem dL_drawn_675 : q_d cL_drawn 675 678 (.invokestatic 134) 3 := ⟨by decide +kernel, rfl⟩
theorem dL_drawn_678 : q_d cL_drawn 678 679 (.aload_n 3) 1 := ⟨by decide +kernel, rfl⟩
theorem dL_drawn_679 : q_d cL_drawn 679 682 (.getfield 203) 3 := ⟨by decide +kernel, rfl⟩
theorem dL_drawn_682 : q_d cL_drawn 682 684 (.astore 6) 2 := ⟨by decide +kernel, rfl⟩
theorem dL_drawn_684 : q_d cL_drawn 684 686 (.aload 6) 2 := ⟨by decide +kernel, rfl⟩
theorem dL_drawn_686 : q_d cL_drawn 686 687 (.arraylength) 1 := ⟨by decide +kernel, rfl⟩
theorem dL_drawn_687 : q_d cL_drawn 687 689 (.istore 7) 2 := ⟨by decide +kernel, rfl⟩
theorem dL_drawn_689 : q_d cL_drawn 689 690 (.iconst 0) 1 := ⟨by decide +kernel, rfl⟩
theorem dL_drawn_690 : q_d cL_drawn 690 692 (.istore 8) 2 := ⟨by decide +kernel, rfl⟩
theorem dL_drawn_692 : q_d cL_drawn 692 694 (.iload 8) 2 := ⟨by decide +kernel, rfl⟩
theorem dL_drawn_694 : q_d cL_drawn 694 696 (.iload 7) 2 := ⟨by decide +kernel, rfl⟩
theorem dL_drawn_696 : q_j cL_drawn 696 699 730 (fun o => .if_icmp .ge o) := ⟨34, by decide +kernel, rfl, rfl⟩
theorem dL_drawn_699 : q_d cL_drawn 699 701 (.aload 6) 2 := ⟨by decide +kernel, rfl⟩
theorem dL_drawn_701 : q_d cL_drawn 701 703 (.iload 8) 2 := ⟨by decide +kernel, rfl⟩
theorem dL_drawn_703 : q_d cL_drawn 703 704 (.iaload) 1 := ⟨by decide +kernel, rfl⟩
theorem dL_drawn_704 : q_d cL_drawn 704 706 (.istore 9) 2 := ⟨by decide +kernel, rfl⟩
theorem dL_drawn_706 : q_d cL_drawn 706 707 (.aload_n 0) 1 := ⟨by decide +kernel, rfl⟩
theorem dL_drawn_707 : q_d cL_drawn 707 708 (.aload_n 1) 1 := ⟨by decide +kernel, rfl⟩
theorem dL_drawn_708 : q_d cL_drawn 708 710 (.ldc 132) 2 := ⟨by decide +kernel, rfl⟩
theorem dL_drawn_710 : q_d cL_drawn 710 713 (.invokestatic 134) 3 := ⟨by decide +kernel, rfl⟩
theorem dL_drawn_713 : q_d cL_drawn 713 714 (.aload_n 0) 1 := ⟨by decide +kernel, rfl⟩
theorem dL_drawn_714 : q_d cL_drawn 714 715 (.aload_n 1) 1 := ⟨by decide +kernel, rfl⟩
theorem dL_drawn_715 : q_d cL_drawn 715 718 (.getstatic 207) 3 := ⟨by decide +kernel, rfl⟩
theorem dL_drawn_718 : q_d cL_drawn 718 720 (.iload 9) 2 := ⟨by decide +kernel, rfl⟩
theorem dL_drawn_720 : q_d cL_drawn 720 721 (.aaload) 1 := ⟨by decide +kernel, rfl⟩
theorem dL_drawn_721 : q_d cL_drawn 721 724 (.invokestatic 134) 3 := ⟨by decide +kernel, rfl⟩
theorem dL_drawn_724 : q_d cL_drawn 724 727 (.iinc 8 1) 3 := ⟨by decide +kernel, rfl⟩
theorem dL_drawn_727 : q_j cL_drawn 727 730 692 (fun o => .goto o) := ⟨(-35), by decide +kernel, rfl, rfl⟩
theorem dL_drawn_730 : q_d cL_drawn 730 731 (.aload_n 0) 1 := ⟨by decide +kernel, rfl⟩
theorem dL_drawn_731 : q_d cL_drawn 731 732 (.aload_n 1) 1 := ⟨by decide +kernel, rfl⟩
theorem dL_drawn_732 : q_d cL_drawn 732 734 (.ldc 168) 2 := ⟨by decide +kernel, rfl⟩
theorem dL_drawn_734 : q_d cL_drawn 734 737 (.invokestatic 134) 3 := ⟨by decide +kernel, rfl⟩
theorem dL_drawn_737 : q_d cL_drawn 737 738 (.aload_n 0) 1 := ⟨by decide +kernel, rfl⟩
theorem dL_drawn_738 : q_d cL_drawn 738 739 (.aload_n 1) 1 := ⟨by decide +kernel, rfl⟩
theorem dL_drawn_739 : q_d cL_drawn 739 742 (.invokestatic 210) 3 := ⟨by decide +kernel, rfl⟩
theorem dL_drawn_742 : q_d cL_drawn 742 743 (.aload_n 3) 1 := ⟨by decide +kernel, rfl⟩
theorem dL_drawn_743 : q_d cL_drawn 743 746 (.getfield 150) 3 := ⟨by decide +kernel, rfl⟩
theorem dL_drawn_746 : q_j cL_drawn 746 749 753 (fun o => .if_icmp .ne o) := ⟨7, by decide +kernel, rfl, rfl⟩
theorem dL_drawn_749 : q_d cL_drawn 749 750 (.aload_n 3) 1 := ⟨by decide +kernel, rfl⟩
theorem dL_drawn_750 : q_j cL_drawn 750 753 754 (fun o => .goto o) := ⟨4, by decide +kernel, rfl, rfl⟩
theorem dL_drawn_753 : q_d cL_drawn 753 754 (.aconst_null) 1 := ⟨by decide +kernel, rfl⟩
theorem dL_drawn_754 : q_d cL_drawn 754 755 (.areturn) 1 := ⟨by decide +kernel, rfl⟩
theorem dL_opens_0 : q_d cL_opens 0 3 (.new 214) 3 := ⟨by decide +kernel, rfl⟩
theorem dL_opens_3 : q_d cL_opens 3 4 (.dup) 1 := ⟨by decide +kernel, rfl⟩
theorem dL_opens_4 : q_d cL_opens 4 7 (.invokespecial 216) 3 := ⟨by decide +kernel, rfl⟩
theorem dL_opens_7 : q_d cL_opens 7 8 (.astore_n 3) 1 := ⟨by decide +kernel, rfl⟩
theorem dL_opens_8 : q_d cL_opens 8 9 (.aload_n 3) 1 := ⟨by decide +kernel, rfl⟩
theorem dL_opens_9 : q_d cL_opens 9 10 (.aload_n 2) 1 := ⟨by decide +kernel, rfl⟩
theorem dL_opens_10 : q_d cL_opens 10 11 (.iconst 3) 1 := ⟨by decide +kernel, rfl⟩
theorem dL_opens_11 : q_d cL_opens 11 14 (.invokevirtual 145) 3 := ⟨by decide +kernel, rfl⟩
theorem dL_opens_14 : q_d cL_opens 14 17 (.putfield 217) 3 := ⟨by decide +kernel, rfl⟩
theorem dL_opens_17 : q_d cL_opens 17 18 (.aload_n 3) 1 := ⟨by decide +kernel, rfl⟩
theorem dL_opens_18 : q_d cL_opens 18 19 (.aload_n 2) 1 := ⟨by decide +kernel, rfl⟩
theorem dL_opens_19 : q_d cL_opens 19 20 (.aload_n 1) 1 := ⟨by decide +kernel, rfl⟩
theorem dL_opens_20 : q_d cL_opens 20 23 (.getfield 150) 3 := ⟨by decide +kernel, rfl⟩
theorem dL_opens_23 : q_d cL_opens 23 24 (.iconst 1) 1 := ⟨by decide +kernel, rfl⟩
theorem dL_opens_24 : q_d cL_opens 24 25 (.iadd) 1 := ⟨by decide +kernel, rfl⟩
theorem dL_opens_25 : q_d cL_opens 25 28 (.invokevirtual 145) 3 := ⟨by decide +kernel, rfl⟩
theorem dL_opens_28 : q_d cL_opens 28 29 (.iconst 1) 1 := ⟨by decide +kernel, rfl⟩
theorem dL_opens_29 : q_d cL_opens 29 30 (.isub) 1 := ⟨by decide +kernel, rfl⟩
theorem dL_opens_30 : q_d cL_opens 30 33 (.putfield 220) 3 := ⟨by decide +kernel, rfl⟩
theorem dL_opens_33 : q_d cL_opens 33 34 (.aload_n 3) 1 := ⟨by decide +kernel, rfl⟩
theorem dL_opens_34 : q_d cL_opens 34 35 (.aload_n 2) 1 := ⟨by decide +kernel, rfl⟩
theorem dL_opens_35 : q_d cL_opens 35 36 (.aload_n 1) 1 := ⟨by decide +kernel, rfl⟩
theorem dL_opens_36 : q_d cL_opens 36 39 (.getfield 150) 3 := ⟨by decide +kernel, rfl⟩
theorem dL_opens_39 : q_d cL_opens 39 40 (.iconst 1) 1 := ⟨by decide +kernel, rfl⟩
theorem dL_opens_40 : q_d cL_opens 40 41 (.iadd) 1 := ⟨by decide +kernel, rfl⟩
theorem dL_opens_41 : q_d cL_opens 41 44 (.invokevirtual 145) 3 := ⟨by decide +kernel, rfl⟩
theorem dL_opens_44 : q_d cL_opens 44 45 (.iconst 1) 1 := ⟨by decide +kernel, rfl⟩
theorem dL_opens_45 : q_d cL_opens 45 46 (.isub) 1 := ⟨by decide +kernel, rfl⟩
theorem dL_opens_46 : q_d cL_opens 46 49 (.putfield 222) 3 := ⟨by decide +kernel, rfl⟩
theorem dL_opens_49 : q_d cL_opens 49 50 (.aload_n 3) 1 := ⟨by decide +kernel, rfl⟩
theorem dL_opens_50 : q_d cL_opens 50 51 (.aload_n 2) 1 := ⟨by decide +kernel, rfl⟩
theorem dL_opens_51 : q_d cL_opens 51 52 (.iconst 3) 1 := ⟨by decide +kernel, rfl⟩
theorem dL_opens_52 : q_d cL_opens 52 55 (.invokevirtual 145) 3 := ⟨by decide +kernel, rfl⟩
theorem dL_opens_55 : q_j cL_opens 55 58 73 (fun o => .ifCond .ne o) := ⟨18, by decide +kernel, rfl, rfl⟩
theorem dL_opens_58 : q_d cL_opens 58 61 (.ldc2_w 225) 3 := ⟨by decide +kernel, rfl⟩
theorem dL_opens_61 : q_d cL_opens 61 62 (.aload_n 2) 1 := ⟨by decide +kernel, rfl⟩
theorem dL_opens_62 : q_d cL_opens 62 65 (.sipush 30000) 3 := ⟨by decide +kernel, rfl⟩
theorem dL_opens_65 : q_d cL_opens 65 68 (.invokevirtual 145) 3 := ⟨by decide +kernel, rfl⟩
theorem dL_opens_68 : q_d cL_opens 68 69 (.i2l) 1 := ⟨by decide +kernel, rfl⟩
theorem dL_opens_69 : q_d cL_opens 69 70 (.lmul) 1 := ⟨by decide +kernel, rfl⟩
theorem dL_opens_70 : q_j cL_opens 70 73 81 (fun o => .goto o) := ⟨11, by decide +kernel, rfl, rfl⟩
theorem dL_opens_73 : q_d cL_opens 73 74 (.aload_n 2) 1 := ⟨by decide +kernel, rfl⟩
theorem dL_opens_74 : q_d cL_opens 74 77 (.sipush 9000) 3 := ⟨by decide +kernel, rfl⟩
theorem dL_opens_77 : q_d cL_opens 77 80 (.invokevirtual 145) 3 := ⟨by decide +kernel, rfl⟩
theorem dL_opens_80 : q_d cL_opens 80 81 (.i2l) 1 := ⟨by decide +kernel, rfl⟩
theorem dL_opens_81 : q_d cL_opens 81 84 (.putfield 227) 3 := ⟨by decide +kernel, rfl⟩
theorem dL_opens_84 : q_d cL_opens 84 85 (.aload_n 1) 1 := ⟨by decide +kernel, rfl⟩
theorem dL_opens_85 : q_d cL_opens 85 88 (.getfield 231) 3 := ⟨by decide +kernel, rfl⟩
theorem dL_opens_88 : q_d cL_opens 88 89 (.arraylength) 1 := ⟨by decide +kernel, rfl⟩
theorem dL_opens_89 : q_d cL_opens 89 91 (.istore 4) 2 := ⟨by decide +kernel, rfl⟩
theorem dL_opens_91 : q_d cL_opens 91 93 (.iload 4) 2 := ⟨by decide +kernel, rfl⟩
theorem dL_opens_93 : q_d cL_opens 93 94 (.iconst 1) 1 := ⟨by decide +kernel, rfl⟩
theorem dL_opens_94 : q_d cL_opens 94 95 (.iadd) 1 := ⟨by decide +kernel, rfl⟩
theorem dL_opens_95 : q_d cL_opens 95 98 (.anewarray 214) 3 := ⟨by decide +kernel, rfl⟩
theorem dL_opens_98 : q_d cL_opens 98 100 (.astore 5) 2 := ⟨by decide +kernel, rfl⟩
theorem dL_opens_100 : q_d cL_opens 100 101 (.iconst 0) 1 := ⟨by decide +kernel, rfl⟩
theorem dL_opens_101 : q_d cL_opens 101 103 (.istore 6) 2 := ⟨by decide +kernel, rfl⟩
theorem dL_opens_103 : q_d cL_opens 103 105 (.iload 6) 2 := ⟨by decide +kernel, rfl⟩
theorem dL_opens_105 : q_d cL_opens 105 107 (.iload 4) 2 := ⟨by decide +kernel, rfl⟩
theorem dL_opens_107 : q_j cL_opens 107 110 128 (fun o => .if_icmp .ge o) := ⟨21, by decide +kernel, rfl, rfl⟩
theorem dL_opens_110 : q_d cL_opens 110 112 (.aload 5) 2 := ⟨by decide +kernel, rfl⟩
theorem dL_opens_112 : q_d cL_opens 112 114 (.iload 6) 2 := ⟨by decide +kernel, rfl⟩
theorem dL_opens_114 : q_d cL_opens 114 115 (.aload_n 1) 1 := ⟨by decide +kernel, rfl⟩
theorem dL_opens_115 : q_d cL_opens 115 118 (.getfield 231) 3 := ⟨by decide +kernel, rfl⟩
theorem dL_opens_118 : q_d cL_opens 118 120 (.iload 6) 2 := ⟨by decide +kernel, rfl⟩
theorem dL_opens_120 : q_d cL_opens 120 121 (.aaload) 1 := ⟨by decide +kernel, rfl⟩
theorem dL_opens_121 : q_d cL_opens 121 122 (.aastore) 1 := ⟨by decide +kernel, rfl⟩
theorem dL_opens_122 : q_d cL_opens 122 125 (.iinc 6 1) 3 := ⟨by decide +kernel, rfl⟩
theorem dL_opens_125 : q_j cL_opens 125 128 103 (fun o => .goto o) := ⟨(-22), by decide +kernel, rfl, rfl⟩
theorem dL_opens_128 : q_d cL_opens 128 130 (.aload 5) 2 := ⟨by decide +kernel, rfl⟩
theorem dL_opens_130 : q_d cL_opens 130 132 (.iload 4) 2 := ⟨by decide +kernel, rfl⟩
theorem dL_opens_132 : q_d cL_opens 132 133 (.aload_n 3) 1 := ⟨by decide +kernel, rfl⟩
theorem dL_opens_133 : q_d cL_opens 133 134 (.aastore) 1 := ⟨by decide +kernel, rfl⟩
theorem dL_opens_134 : q_d cL_opens 134 135 (.aload_n 1) 1 := ⟨by decide +kernel, rfl⟩
theorem dL_opens_135 : q_d cL_opens 135 137 (.aload 5) 2 := ⟨by decide +kernel, rfl⟩
theorem dL_opens_137 : q_d cL_opens 137 140 (.putfield 231) 3 := ⟨by decide +kernel, rfl⟩
theorem dL_opens_140 : q_d cL_opens 140 141 (.aload_n 1) 1 := ⟨by decide +kernel, rfl⟩
theorem dL_opens_141 : q_d cL_opens 141 144 (.getfield 235) 3 := ⟨by decide +kernel, rfl⟩
theorem dL_opens_144 : q_d cL_opens 144 145 (.iconst 0) 1 := ⟨by decide +kernel, rfl⟩
theorem dL_opens_145 : q_d cL_opens 145 146 (.dup2) 1 := ⟨by decide +kernel, rfl⟩
theorem dL_opens_146 : q_d cL_opens 146 147 (.laload) 1 := ⟨by decide +kernel, rfl⟩
theorem dL_opens_147 : q_d cL_opens 147 148 (.aload_n 3) 1 := ⟨by decide +kernel, rfl⟩
theorem dL_opens_148 : q_d cL_opens 148 151 (.getfield 227) 3 := ⟨by decide +kernel, rfl⟩
theorem dL_opens_151 : q_d cL_opens 151 152 (.ladd) 1 := ⟨by decide +kernel, rfl⟩
theorem dL_opens_152 : q_d cL_opens 152 153 (.lastore) 1 := ⟨by decide +kernel, rfl⟩
theorem dL_opens_153 : q_d cL_opens 153 154 (.aload_n 0) 1 := ⟨by decide +kernel, rfl⟩
theorem dL_opens_154 : q_d cL_opens 154 155 (.aload_n 3) 1 := ⟨by decide +kernel, rfl⟩
theorem dL_opens_155 : q_d cL_opens 155 158 (.getfield 217) 3 := ⟨by decide +kernel, rfl⟩
theorem dL_opens_158 : q_d cL_opens 158 159 (.aload_n 3) 1 := ⟨by decide +kernel, rfl⟩
theorem dL_opens_159 : q_d cL_opens 159 162 (.getfield 220) 3 := ⟨by decide +kernel, rfl⟩
theorem dL_opens_162 : q_d cL_opens 162 163 (.aload_n 3) 1 := ⟨by decide +kernel, rfl⟩
theorem dL_opens_163 : q_d cL_opens 163 166 (.getfield 222) 3 := ⟨by decide +kernel, rfl⟩
theorem dL_opens_166 : q_d cL_opens 166 167 (.aload_n 3) 1 := ⟨by decide +kernel, rfl⟩
theorem dL_opens_167 : q_d cL_opens 167 170 (.getfield 227) 3 := ⟨by decide +kernel, rfl⟩
theorem dL_opens_170 : q_d cL_opens 170 171 (.l2i) 1 := ⟨by decide +kernel, rfl⟩
theorem dL_opens_171 : q_d cL_opens 171 174 (.invokestatic 238) 3 := ⟨by decide +kernel, rfl⟩
theorem dL_opens_174 : q_d cL_opens 174 176 (.iload 4) 2 := ⟨by decide +kernel, rfl⟩
theorem dL_opens_176 : q_j cL_opens 176 179 183 (fun o => .if_icmp .ne o) := ⟨7, by decide +kernel, rfl, rfl⟩
theorem dL_opens_179 : q_d cL_opens 179 180 (.iconst 1) 1 := ⟨by decide +kernel, rfl⟩
theorem dL_opens_180 : q_j cL_opens 180 183 184 (fun o => .goto o) := ⟨4, by decide +kernel, rfl, rfl⟩
theorem dL_opens_183 : q_d cL_opens 183 184 (.iconst 0) 1 := ⟨by decide +kernel, rfl⟩
theorem dL_opens_184 : q_d cL_opens 184 185 (.ireturn) 1 := ⟨by decide +kernel, rfl⟩
theorem dL_isAs_0 : q_d cL_isAs 0 1 (.aload_n 0) 1 := ⟨by decide +kernel, rfl⟩
theorem dL_isAs_1 : q_d cL_isAs 1 2 (.iconst 0) 1 := ⟨by decide +kernel, rfl⟩
theorem dL_isAs_2 : q_d cL_isAs 2 5 (.invokestatic 241) 3 := ⟨by decide +kernel, rfl⟩
theorem dL_isAs_5 : q_d cL_isAs 5 6 (.aload_n 1) 1 := ⟨by decide +kernel, rfl⟩
theorem dL_isAs_6 : q_d cL_isAs 6 9 (.getfield 150) 3 := ⟨by decide +kernel, rfl⟩
theorem dL_isAs_9 : q_j cL_isAs 9 12 100 (fun o => .if_icmp .ne o) := ⟨91, by decide +kernel, rfl, rfl⟩
theorem dL_isAs_12 : q_d cL_isAs 12 13 (.aload_n 0) 1 := ⟨by decide +kernel, rfl⟩
theorem dL_isAs_13 : q_d cL_isAs 13 14 (.iconst 1) 1 := ⟨by decide +kernel, rfl⟩
theorem dL_isAs_14 : q_d cL_isAs 14 17 (.invokestatic 241) 3 := ⟨by decide +kernel, rfl⟩
theorem dL_isAs_17 : q_d cL_isAs 17 18 (.aload_n 1) 1 := ⟨by decide +kernel, rfl⟩
theorem dL_isAs_18 : q_d cL_isAs 18 21 (.getfield 231) 3 := ⟨by decide +kernel, rfl⟩
theorem dL_isAs_21 : q_d cL_isAs 21 22 (.arraylength) 1 := ⟨by decide +kernel, rfl⟩
theorem dL_isAs_22 : q_j cL_isAs 22 25 100 (fun o => .if_icmp .ne o) := ⟨78, by decide +kernel, rfl, rfl⟩
theorem dL_isAs_25 : q_d cL_isAs 25 26 (.aload_n 0) 1 := ⟨by decide +kernel, rfl⟩
theorem dL_isAs_26 : q_d cL_isAs 26 27 (.iconst 2) 1 := ⟨by decide +kernel, rfl⟩
theorem dL_isAs_27 : q_d cL_isAs 27 30 (.invokestatic 241) 3 := ⟨by decide +kernel, rfl⟩
theorem dL_isAs_30 : q_d cL_isAs 30 31 (.aload_n 1) 1 := ⟨by decide +kernel, rfl⟩
theorem dL_isAs_31 : q_d cL_isAs 31 34 (.getfield 243) 3 := ⟨by decide +kernel, rfl⟩
theorem dL_isAs_34 : q_j cL_isAs 34 37 100 (fun o => .if_icmp .ne o) := ⟨66, by decide +kernel, rfl, rfl⟩
theorem dL_isAs_37 : q_d cL_isAs 37 38 (.aload_n 0) 1 := ⟨by decide +kernel, rfl⟩
theorem dL_isAs_38 : q_d cL_isAs 38 39 (.iconst 3) 1 := ⟨by decide +kernel, rfl⟩
theorem dL_isAs_39 : q_d cL_isAs 39 42 (.invokestatic 241) 3 := ⟨by decide +kernel, rfl⟩
theorem dL_isAs_42 : q_d cL_isAs 42 43 (.aload_n 1) 1 := ⟨by decide +kernel, rfl⟩
theorem dL_isAs_43 : q_d cL_isAs 43 46 (.getfield 191) 3 := ⟨by decide +kernel, rfl⟩
theorem dL_isAs_46 : q_j cL_isAs 46 49 100 (fun o => .if_icmp .ne o) := ⟨54, by decide +kernel, rfl, rfl⟩
theorem dL_isAs_49 : q_d cL_isAs 49 50 (.aload_n 0) 1 := ⟨by decide +kernel, rfl⟩
theorem dL_isAs_50 : q_d cL_isAs 50 51 (.iconst 4) 1 := ⟨by decide +kernel, rfl⟩
theorem dL_isAs_51 : q_d cL_isAs 51 54 (.invokestatic 241) 3 := ⟨by decide +kernel, rfl⟩
theorem dL_isAs_54 : q_d cL_isAs 54 55 (.aload_n 1) 1 := ⟨by decide +kernel, rfl⟩
theorem dL_isAs_55 : q_d cL_isAs 55 58 (.getfield 195) 3 := ⟨by decide +kernel, rfl⟩
theorem dL_isAs_58 : q_j cL_isAs 58 61 100 (fun o => .if_icmp .ne o) := ⟨42, by decide +kernel, rfl, rfl⟩
theorem dL_isAs_61 : q_d cL_isAs 61 62 (.aload_n 0) 1 := ⟨by decide +kernel, rfl⟩
theorem dL_isAs_62 : q_d cL_isAs 62 63 (.iconst 5) 1 := ⟨by decide +kernel, rfl⟩
theorem dL_isAs_63 : q_d cL_isAs 63 66 (.invokestatic 241) 3 := ⟨by decide +kernel, rfl⟩
theorem dL_isAs_66 : q_d cL_isAs 66 67 (.aload_n 1) 1 := ⟨by decide +kernel, rfl⟩
theorem dL_isAs_67 : q_d cL_isAs 67 70 (.getfield 198) 3 := ⟨by decide +kernel, rfl⟩
theorem dL_isAs_70 : q_j cL_isAs 70 73 100 (fun o => .if_icmp .ne o) := ⟨30, by decide +kernel, rfl, rfl⟩
theorem dL_isAs_73 : q_d cL_isAs 73 74 (.aload_n 0) 1 := ⟨by decide +kernel, rfl⟩
theorem dL_isAs_74 : q_d cL_isAs 74 76 (.bipush 6) 2 := ⟨by decide +kernel, rfl⟩
theorem dL_isAs_76 : q_d cL_isAs 76 79 (.invokestatic 241) 3 := ⟨by decide +kernel, rfl⟩
theorem dL_isAs_79 : q_d cL_isAs 79 80 (.aload_n 1) 1 := ⟨by decide +kernel, rfl⟩
theorem dL_isAs_80 : q_d cL_isAs 80 83 (.getfield 246) 3 := ⟨by decide +kernel, rfl⟩
theorem dL_isAs_83 : q_d cL_isAs 83 84 (.arraylength) 1 := ⟨by decide +kernel, rfl⟩
theorem dL_isAs_84 : q_j cL_isAs 84 87 100 (fun o => .if_icmp .ne o) := ⟨16, by decide +kernel, rfl, rfl⟩
theorem dL_isAs_87 : q_d cL_isAs 87 88 (.aload_n 0) 1 := ⟨by decide +kernel, rfl⟩
theorem dL_isAs_88 : q_d cL_isAs 88 90 (.bipush 7) 2 := ⟨by decide +kernel, rfl⟩
theorem dL_isAs_90 : q_d cL_isAs 90 93 (.invokestatic 241) 3 := ⟨by decide +kernel, rfl⟩
theorem dL_isAs_93 : q_d cL_isAs 93 94 (.aload_n 1) 1 := ⟨by decide +kernel, rfl⟩
theorem dL_isAs_94 : q_d cL_isAs 94 97 (.getfield 249) 3 := ⟨by decide +kernel, rfl⟩
theorem dL_isAs_97 : q_j cL_isAs 97 100 102 (fun o => .if_icmp .eq o) := ⟨5, by decide +kernel, rfl, rfl⟩
theorem dL_isAs_100 : q_d cL_isAs 100 101 (.iconst 0) 1 := ⟨by decide +kernel, rfl⟩
theorem dL_isAs_101 : q_d cL_isAs 101 102 (.ireturn) 1 := ⟨by decide +kernel, rfl⟩
theorem dL_isAs_102 : q_d cL_isAs 102 103 (.lconst 0) 1 := ⟨by decide +kernel, rfl⟩
theorem dL_isAs_103 : q_d cL_isAs 103 104 (.lstore_n 2) 1 := ⟨by decide +kernel, rfl⟩
theorem dL_isAs_104 : q_d cL_isAs 104 105 (.lconst 0) 1 := ⟨by decide +kernel, rfl⟩
theorem dL_isAs_105 : q_d cL_isAs 105 107 (.lstore 4) 2 := ⟨by decide +kernel, rfl⟩
theorem dL_isAs_107 : q_d cL_isAs 107 108 (.lconst 0) 1 := ⟨by decide +kernel, rfl⟩
theorem dL_isAs_108 : q_d cL_isAs 108 110 (.lstore 6) 2 := ⟨by decide +kernel, rfl⟩
theorem dL_isAs_110 : q_d cL_isAs 110 111 (.iconst 0) 1 := ⟨by decide +kernel, rfl⟩
theorem dL_isAs_111 : q_d cL_isAs 111 113 (.istore 8) 2 := ⟨by decide +kernel, rfl⟩
theorem dL_isAs_113 : q_d cL_isAs 113 115 (.iload 8) 2 := ⟨by decide +kernel, rfl⟩
theorem dL_isAs_115 : q_d cL_isAs 115 116 (.aload_n 1) 1 := ⟨by decide +kernel, rfl⟩
theorem dL_isAs_116 : q_d cL_isAs 116 119 (.getfield 231) 3 := ⟨by decide +kernel, rfl⟩
theorem dL_isAs_119 : q_d cL_isAs 119 120 (.arraylength) 1 := ⟨by decide +kernel, rfl⟩
theorem dL_isAs_120 : q_j cL_isAs 120 123 474 (fun o => .if_icmp .ge o) := ⟨354, by decide +kernel, rfl, rfl⟩
theorem dL_isAs_123 : q_d cL_isAs 123 124 (.aload_n 1) 1 := ⟨by decide +kernel, rfl⟩
theorem dL_isAs_124 : q_d cL_isAs 124 127 (.getfield 231) 3 := ⟨by decide +kernel, rfl⟩
theorem dL_isAs_127 : q_d cL_isAs 127 129 (.iload 8) 2 := ⟨by decide +kernel, rfl⟩
theorem dL_isAs_129 : q_d cL_isAs 129 130 (.aaload) 1 := ⟨by decide +kernel, rfl⟩
theorem dL_isAs_130 : q_d cL_isAs 130 132 (.astore 9) 2 := ⟨by decide +kernel, rfl⟩
theorem dL_isAs_132 : q_d cL_isAs 132 134 (.aload 9) 2 := ⟨by decide +kernel, rfl⟩
theorem dL_isAs_134 : q_d cL_isAs 134 137 (.invokevirtual 252) 3 := ⟨by decide +kernel, rfl⟩
theorem dL_isAs_137 : q_j cL_isAs 137 140 149 (fun o => .ifCond .eq o) := ⟨12, by decide +kernel, rfl, rfl⟩
theorem dL_isAs_140 : q_d cL_isAs 140 141 (.aload_n 1) 1 := ⟨by decide +kernel, rfl⟩
theorem dL_isAs_141 : q_d cL_isAs 141 143 (.aload 9) 2 := ⟨by decide +kernel, rfl⟩
theorem dL_isAs_143 : q_d cL_isAs 143 146 (.invokevirtual 256) 3 := ⟨by decide +kernel, rfl⟩
theorem dL_isAs_146 : q_j cL_isAs 146 149 167 (fun o => .goto o) := ⟨21, by decide +kernel, rfl, rfl⟩
theorem dL_isAs_149 : q_d cL_isAs 149 151 (.aload 9) 2 := ⟨by decide +kernel, rfl⟩
theorem dL_isAs_151 : q_d cL_isAs 151 154 (.getfield 260) 3 := ⟨by decide +kernel, rfl⟩
theorem dL_isAs_154 : q_d cL_isAs 154 155 (.iconst 2) 1 := ⟨by decide +kernel, rfl⟩
theorem dL_isAs_155 : q_j cL_isAs 155 158 166 (fun o => .if_icmp .ne o) := ⟨11, by decide +kernel, rfl, rfl⟩
theorem dL_isAs_158 : q_d cL_isAs 158 160 (.aload 9) 2 := ⟨by decide +kernel, rfl⟩
theorem dL_isAs_160 : q_d cL_isAs 160 163 (.getfield 263) 3 := ⟨by decide +kernel, rfl⟩
theorem dL_isAs_163 : q_j cL_isAs 163 166 167 (fun o => .goto o) := ⟨4, by decide +kernel, rfl, rfl⟩
theorem dL_isAs_166 : q_d cL_isAs 166 167 (.iconst (-1)) 1 := ⟨by decide +kernel, rfl⟩
theorem dL_isAs_167 : q_d cL_isAs 167 169 (.istore 10) 2 := ⟨by decide +kernel, rfl⟩
theorem dL_isAs_169 : q_d cL_isAs 169 170 (.aload_n 0) 1 := ⟨by decide +kernel, rfl⟩
theorem dL_isAs_170 : q_d cL_isAs 170 172 (.iload 8) 2 := ⟨by decide +kernel, rfl⟩
theorem dL_isAs_172 : q_d cL_isAs 172 173 (.iconst 0) 1 := ⟨by decide +kernel, rfl⟩
theorem dL_isAs_173 : q_d cL_isAs 173 176 (.invokestatic 266) 3 := ⟨by decide +kernel, rfl⟩
theorem dL_isAs_176 : q_d cL_isAs 176 178 (.aload 9) 2 := ⟨by decide +kernel, rfl⟩
theorem dL_isAs_178 : q_d cL_isAs 178 181 (.getfield 217) 3 := ⟨by decide +kernel, rfl⟩
theorem dL_isAs_181 : q_j cL_isAs 181 184 346 (fun o => .if_icmp .ne o) := ⟨165, by decide +kernel, rfl, rfl⟩
theorem dL_isAs_184 : q_d cL_isAs 184 185 (.aload_n 0) 1 := ⟨by decide +kernel, rfl⟩
theorem dL_isAs_185 : q_d cL_isAs 185 187 (.iload 8) 2 := ⟨by decide +kernel, rfl⟩
theorem dL_isAs_187 : q_d cL_isAs 187 188 (.iconst 1) 1 := ⟨by decide +kernel, rfl⟩
theorem dL_isAs_188 : q_d cL_isAs 188 191 (.invokestatic 266) 3 := ⟨by decide +kernel, rfl⟩
theorem dL_isAs_191 : q_d cL_isAs 191 193 (.aload 9) 2 := ⟨by decide +kernel, rfl⟩
theorem dL_isAs_193 : q_d cL_isAs 193 196 (.getfield 220) 3 := ⟨by decide +kernel, rfl⟩
theorem dL_isAs_196 : q_j cL_isAs 196 199 346 (fun o => .if_icmp .ne o) := ⟨150, by decide +kernel, rfl, rfl⟩
theorem dL_isAs_199 : q_d cL_isAs 199 200 (.aload_n 0) 1 := ⟨by decide +kernel, rfl⟩
theorem dL_isAs_200 : q_d cL_isAs 200 202 (.iload 8) 2 := ⟨by decide +kernel, rfl⟩
theorem dL_isAs_202 : q_d cL_isAs 202 203 (.iconst 2) 1 := ⟨by decide +kernel, rfl⟩
theorem dL_isAs_203 : q_d cL_isAs 203 206 (.invokestatic 266) 3 := ⟨by decide +kernel, rfl⟩
theorem dL_isAs_206 : q_d cL_isAs 206 208 (.aload 9) 2 := ⟨by decide +kernel, rfl⟩
theorem dL_isAs_208 : q_d cL_isAs 208 211 (.getfield 222) 3 := ⟨by decide +kernel, rfl⟩
theorem dL_isAs_211 : q_j cL_isAs 211 214 346 (fun o => .if_icmp .ne o) := ⟨135, by decide +kernel, rfl, rfl⟩
theorem dL_isAs_214 : q_d cL_isAs 214 215 (.aload_n 0) 1 := ⟨by decide +kernel, rfl⟩
theorem dL_isAs_215 : q_d cL_isAs 215 217 (.iload 8) 2 := ⟨by decide +kernel, rfl⟩
theorem dL_isAs_217 : q_d cL_isAs 217 218 (.iconst 3) 1 := ⟨by decide +kernel, rfl⟩
theorem dL_isAs_218 : q_d cL_isAs 218 221 (.invokestatic 266) 3 := ⟨by decide +kernel, rfl⟩
theorem dL_isAs_221 : q_d cL_isAs 221 222 (.i2l) 1 := ⟨by decide +kernel, rfl⟩
theorem dL_isAs_222 : q_d cL_isAs 222 224 (.aload 9) 2 := ⟨by decide +kernel, rfl⟩
theorem dL_isAs_224 : q_d cL_isAs 224 227 (.getfield 227) 3 := ⟨by decide +kernel, rfl⟩
theorem dL_isAs_227 : q_d cL_isAs 227 228 (.lcmp) 1 := ⟨by decide +kernel, rfl⟩
theorem dL_isAs_228 : q_j cL_isAs 228 231 346 (fun o => .ifCond .ne o) := ⟨118, by decide +kernel, rfl, rfl⟩
theorem dL_isAs_231 : q_d cL_isAs 231 232 (.aload_n 0) 1 := ⟨by decide +kernel, rfl⟩
theorem dL_isAs_232 : q_d cL_isAs 232 234 (.iload 8) 2 := ⟨by decide +kernel, rfl⟩
theorem dL_isAs_234 : q_d cL_isAs 234 235 (.iconst 4) 1 := ⟨by decide +kernel, rfl⟩
theorem dL_isAs_235 : q_d cL_isAs 235 238 (.invokestatic 266) 3 := ⟨by decide +kernel, rfl⟩
theorem dL_isAs_238 : q_d cL_isAs 238 240 (.aload 9) 2 := ⟨by decide +kernel, rfl⟩
theorem dL_isAs_240 : q_d cL_isAs 240 243 (.getfield 260) 3 := ⟨by decide +kernel, rfl⟩
theorem dL_isAs_243 : q_j cL_isAs 243 246 346 (fun o => .if_icmp .ne o) := ⟨103, by decide +kernel, rfl, rfl⟩
theorem dL_isAs_246 : q_d cL_isAs 246 247 (.aload_n 0) 1 := ⟨by decide +kernel, rfl⟩
theorem dL_isAs_247 : q_d cL_isAs 247 249 (.iload 8) 2 := ⟨by decide +kernel, rfl⟩
theorem dL_isAs_249 : q_d cL_isAs 249 250 (.iconst 5) 1 := ⟨by decide +kernel, rfl⟩
theorem dL_isAs_250 : q_d cL_isAs 250 253 (.invokestatic 266) 3 := ⟨by decide +kernel, rfl⟩
theorem dL_isAs_253 : q_d cL_isAs 253 255 (.aload 9) 2 := ⟨by decide +kernel, rfl⟩
theorem dL_isAs_255 : q_d cL_isAs 255 258 (.getfield 269) 3 := ⟨by decide +kernel, rfl⟩
theorem dL_isAs_258 : q_j cL_isAs 258 261 346 (fun o => .if_icmp .ne o) := ⟨88, by decide +kernel, rfl, rfl⟩
theorem dL_isAs_261 : q_d cL_isAs 261 262 (.aload_n 0) 1 := ⟨by decide +kernel, rfl⟩
theorem dL_isAs_262 : q_d cL_isAs 262 264 (.iload 8) 2 := ⟨by decide +kernel, rfl⟩
theorem dL_isAs_264 : q_d cL_isAs 264 266 (.bipush 6) 2 := ⟨by decide +kernel, rfl⟩
theorem dL_isAs_266 : q_d cL_isAs 266 269 (.invokestatic 266) 3 := ⟨by decide +kernel, rfl⟩
theorem dL_isAs_269 : q_d cL_isAs 269 271 (.aload 9) 2 := ⟨by decide +kernel, rfl⟩
theorem dL_isAs_271 : q_d cL_isAs 271 274 (.getfield 272) 3 := ⟨by decide +kernel, rfl⟩
theorem dL_isAs_274 : q_j cL_isAs 274 277 346 (fun o => .if_icmp .ne o) := ⟨72, by decide +kernel, rfl, rfl⟩
theorem dL_isAs_277 : q_d cL_isAs 277 278 (.aload_n 0) 1 := ⟨by decide +kernel, rfl⟩
theorem dL_isAs_278 : q_d cL_isAs 278 280 (.iload 8) 2 := ⟨by decide +kernel, rfl⟩
theorem dL_isAs_280 : q_d cL_isAs 280 282 (.bipush 7) 2 := ⟨by decide +kernel, rfl⟩
theorem dL_isAs_282 : q_d cL_isAs 282 285 (.invokestatic 266) 3 := ⟨by decide +kernel, rfl⟩
theorem dL_isAs_285 : q_d cL_isAs 285 287 (.aload 9) 2 := ⟨by decide +kernel, rfl⟩
theorem dL_isAs_287 : q_d cL_isAs 287 290 (.getfield 275) 3 := ⟨by decide +kernel, rfl⟩
theorem dL_isAs_290 : q_j cL_isAs 290 293 346 (fun o => .if_icmp .ne o) := ⟨56, by decide +kernel, rfl, rfl⟩
theorem dL_isAs_293 : q_d cL_isAs 293 294 (.aload_n 0) 1 := ⟨by decide +kernel, rfl⟩
theorem dL_isAs_294 : q_d cL_isAs 294 296 (.iload 8) 2 := ⟨by decide +kernel, rfl⟩
theorem dL_isAs_296 : q_d cL_isAs 296 298 (.bipush 8) 2 := ⟨by decide +kernel, rfl⟩
theorem dL_isAs_298 : q_d cL_isAs 298 301 (.invokestatic 266) 3 := ⟨by decide +kernel, rfl⟩
theorem dL_isAs_301 : q_d cL_isAs 301 303 (.iload 10) 2 := ⟨by decide +kernel, rfl⟩
theorem dL_isAs_303 : q_j cL_isAs 303 306 346 (fun o => .if_icmp .ne o) := ⟨43, by decide +kernel, rfl, rfl⟩
theorem dL_isAs_306 : q_d cL_isAs 306 307 (.aload_n 0) 1 := ⟨by decide +kernel, rfl⟩
theorem dL_isAs_307 : q_d cL_isAs 307 309 (.iload 8) 2 := ⟨by decide +kernel, rfl⟩
theorem dL_isAs_309 : q_d cL_isAs 309 311 (.bipush 9) 2 := ⟨by decide +kernel, rfl⟩
theorem dL_isAs_311 : q_d cL_isAs 311 314 (.invokestatic 266) 3 := ⟨by decide +kernel, rfl⟩
theorem dL_isAs_314 : q_d cL_isAs 314 316 (.aload 9) 2 := ⟨by decide +kernel, rfl⟩
theorem dL_isAs_316 : q_d cL_isAs 316 319 (.getfield 277) 3 := ⟨by decide +kernel, rfl⟩
theorem dL_isAs_319 : q_j cL_isAs 319 322 346 (fun o => .if_icmp .ne o) := ⟨27, by decide +kernel, rfl, rfl⟩
theorem dL_isAs_322 : q_d cL_isAs 322 323 (.aload_n 0) 1 := ⟨by decide +kernel, rfl⟩
theorem dL_isAs_323 : q_d cL_isAs 323 325 (.iload 8) 2 := ⟨by decide +kernel, rfl⟩
theorem dL_isAs_325 : q_d cL_isAs 325 327 (.bipush 10) 2 := ⟨by decide +kernel, rfl⟩
theorem dL_isAs_327 : q_d cL_isAs 327 330 (.invokestatic 266) 3 := ⟨by decide +kernel, rfl⟩
theorem dL_isAs_330 : q_d cL_isAs 330 332 (.aload 9) 2 := ⟨by decide +kernel, rfl⟩
theorem dL_isAs_332 : q_d cL_isAs 332 335 (.getfield 280) 3 := ⟨by decide +kernel, rfl⟩
theorem dL_isAs_335 : q_j cL_isAs 335 338 342 (fun o => .ifCond .eq o) := ⟨7, by decide +kernel, rfl, rfl⟩
theorem dL_isAs_338 : q_d cL_isAs 338 339 (.iconst 1) 1 := ⟨by decide +kernel, rfl⟩
theorem dL_isAs_339 : q_j cL_isAs 339 342 343 (fun o => .goto o) := ⟨4, by decide +kernel, rfl, rfl⟩
theorem dL_isAs_342 : q_d cL_isAs 342 343 (.iconst 0) 1 := ⟨by decide +kernel, rfl⟩
theorem dL_isAs_343 : q_j cL_isAs 343 346 348 (fun o => .if_icmp .eq o) := ⟨5, by decide +kernel, rfl, rfl⟩
theorem dL_isAs_346 : q_d cL_isAs 346 347 (.iconst 0) 1 := ⟨by decide +kernel, rfl⟩
theorem dL_isAs_347 : q_d cL_isAs 347 348 (.ireturn) 1 := ⟨by decide +kernel, rfl⟩
theorem dL_isAs_348 : q_d cL_isAs 348 349 (.aload_n 0) 1 := ⟨by decide +kernel, rfl⟩
theorem dL_isAs_349 : q_d cL_isAs 349 351 (.iload 8) 2 := ⟨by decide +kernel, rfl⟩
theorem dL_isAs_351 : q_d cL_isAs 351 354 (.invokestatic 284) 3 := ⟨by decide +kernel, rfl⟩
theorem dL_isAs_354 : q_d cL_isAs 354 356 (.aload 9) 2 := ⟨by decide +kernel, rfl⟩
theorem dL_isAs_356 : q_d cL_isAs 356 359 (.invokevirtual 252) 3 := ⟨by decide +kernel, rfl⟩
theorem dL_isAs_359 : q_j cL_isAs 359 362 371 (fun o => .ifCond .eq o) := ⟨12, by decide +kernel, rfl, rfl⟩
theorem dL_isAs_362 : q_d cL_isAs 362 363 (.aload_n 1) 1 := ⟨by decide +kernel, rfl⟩
theorem dL_isAs_363 : q_d cL_isAs 363 365 (.aload 9) 2 := ⟨by decide +kernel, rfl⟩
theorem dL_isAs_365 : q_d cL_isAs 365 368 (.invokevirtual 286) 3 := ⟨by decide +kernel, rfl⟩
theorem dL_isAs_368 : q_j cL_isAs 368 371 372 (fun o => .goto o) := ⟨4, by decide +kernel, rfl, rfl⟩
theorem dL_isAs_371 : q_d cL_isAs 371 372 (.iconst (-1)) 1 := ⟨by decide +kernel, rfl⟩
theorem dL_isAs_372 : q_j cL_isAs 372 375 395 (fun o => .if_icmp .ne o) := ⟨23, by decide +kernel, rfl, rfl⟩
theorem dL_isAs_375 : q_d cL_isAs 375 376 (.aload_n 0) 1 := ⟨by decide +kernel, rfl⟩
theorem dL_isAs_376 : q_d cL_isAs 376 378 (.iload 8) 2 := ⟨by decide +kernel, rfl⟩
theorem dL_isAs_378 : q_d cL_isAs 378 380 (.bipush 7) 2 := ⟨by decide +kernel, rfl⟩
theorem dL_isAs_380 : q_d cL_isAs 380 383 (.invokestatic 289) 3 := ⟨by decide +kernel, rfl⟩
theorem dL_isAs_383 : q_d cL_isAs 383 384 (.aload_n 1) 1 := ⟨by decide +kernel, rfl⟩
theorem dL_isAs_384 : q_d cL_isAs 384 386 (.aload 9) 2 := ⟨by decide +kernel, rfl⟩
theorem dL_isAs_386 : q_d cL_isAs 386 388 (.bipush 7) 2 := ⟨by decide +kernel, rfl⟩
theorem dL_isAs_388 : q_d cL_isAs 388 391 (.invokevirtual 292) 3 := ⟨by decide +kernel, rfl⟩
theorem dL_isAs_391 : q_d cL_isAs 391 392 (.lcmp) 1 := ⟨by decide +kernel, rfl⟩
theorem dL_isAs_392 : q_j cL_isAs 392 395 397 (fun o => .ifCond .eq o) := ⟨5, by decide +kernel, rfl, rfl⟩
theorem dL_isAs_395 : q_d cL_isAs 395 396 (.iconst 0) 1 := ⟨by decide +kernel, rfl⟩
theorem dL_isAs_396 : q_d cL_isAs 396 397 (.ireturn) 1 := ⟨by decide +kernel, rfl⟩
theorem dL_isAs_397 : q_d cL_isAs 397 400 (.ldc2_w 295) 3 := ⟨by decide +kernel, rfl⟩
theorem dL_isAs_400 : q_d cL_isAs 400 403 (.ldc2_w 295) 3 := ⟨by decide +kernel, rfl⟩
theorem dL_isAs_403 : q_d cL_isAs 403 406 (.ldc2_w 295) 3 := ⟨by decide +kernel, rfl⟩
theorem dL_isAs_406 : q_d cL_isAs 406 407 (.lload_n 2) 1 := ⟨by decide +kernel, rfl⟩
theorem dL_isAs_407 : q_d cL_isAs 407 408 (.lmul) 1 := ⟨by decide +kernel, rfl⟩
theorem dL_isAs_408 : q_d cL_isAs 408 410 (.aload 9) 2 := ⟨by decide +kernel, rfl⟩
theorem dL_isAs_410 : q_d cL_isAs 410 413 (.getfield 227) 3 := ⟨by decide +kernel, rfl⟩
theorem dL_isAs_413 : q_d cL_isAs 413 414 (.ladd) 1 := ⟨by decide +kernel, rfl⟩
theorem dL_isAs_414 : q_d cL_isAs 414 415 (.lmul) 1 := ⟨by decide +kernel, rfl⟩
theorem dL_isAs_415 : q_d cL_isAs 415 417 (.aload 9) 2 := ⟨by decide +kernel, rfl⟩
theorem dL_isAs_417 : q_d cL_isAs 417 420 (.getfield 260) 3 := ⟨by decide +kernel, rfl⟩
theorem dL_isAs_420 : q_d cL_isAs 420 421 (.i2l) 1 := ⟨by decide +kernel, rfl⟩
theorem dL_isAs_421 : q_d cL_isAs 421 422 (.ladd) 1 := ⟨by decide +kernel, rfl⟩
theorem dL_isAs_422 : q_d cL_isAs 422 423 (.lmul) 1 := ⟨by decide +kernel, rfl⟩
theorem dL_isAs_423 : q_d cL_isAs 423 425 (.aload 9) 2 := ⟨by decide +kernel, rfl⟩
theorem dL_isAs_425 : q_d cL_isAs 425 428 (.getfield 272) 3 := ⟨by decide +kernel, rfl⟩
theorem dL_isAs_428 : q_d cL_isAs 428 429 (.i2l) 1 := ⟨by decide +kernel, rfl⟩
theorem dL_isAs_429 : q_d cL_isAs 429 430 (.ladd) 1 := ⟨by decide +kernel, rfl⟩
theorem dL_isAs_430 : q_d cL_isAs 430 431 (.lstore_n 2) 1 := ⟨by decide +kernel, rfl⟩
theorem dL_isAs_431 : q_d cL_isAs 431 433 (.aload 9) 2 := ⟨by decide +kernel, rfl⟩
theorem dL_isAs_433 : q_d cL_isAs 433 436 (.invokevirtual 252) 3 := ⟨by decide +kernel, rfl⟩
theorem dL_isAs_436 : q_j cL_isAs 436 439 449 (fun o => .ifCond .eq o) := ⟨13, by decide +kernel, rfl, rfl⟩
theorem dL_isAs_439 : q_d cL_isAs 439 441 (.lload 4) 2 := ⟨by decide +kernel, rfl⟩
theorem dL_isAs_441 : q_d cL_isAs 441 443 (.aload 9) 2 := ⟨by decide +kernel, rfl⟩
theorem dL_isAs_443 : q_d cL_isAs 443 446 (.getfield 227) 3 := ⟨by decide +kernel, rfl⟩
theorem dL_isAs_446 : q_d cL_isAs 446 447 (.ladd) 1 := ⟨by decide +kernel, rfl⟩
theorem dL_isAs_447 : q_d cL_isAs 447 449 (.lstore 4) 2 := ⟨by decide +kernel, rfl⟩
theorem dL_isAs_449 : q_d cL_isAs 449 451 (.aload 9) 2 := ⟨by decide +kernel, rfl⟩
theorem dL_isAs_451 : q_d cL_isAs 451 454 (.getfield 260) 3 := ⟨by decide +kernel, rfl⟩
theorem dL_isAs_454 : q_d cL_isAs 454 455 (.iconst 2) 1 := ⟨by decide +kernel, rfl⟩
theorem dL_isAs_455 : q_j cL_isAs 455 458 468 (fun o => .if_icmp .ne o) := ⟨13, by decide +kernel, rfl, rfl⟩
theorem dL_isAs_458 : q_d cL_isAs 458 460 (.lload 6) 2 := ⟨by decide +kernel, rfl⟩
theorem dL_isAs_460 : q_d cL_isAs 460 462 (.aload 9) 2 := ⟨by decide +kernel, rfl⟩
theorem dL_isAs_462 : q_d cL_isAs 462 465 (.getfield 227) 3 := ⟨by decide +kernel, rfl⟩
theorem dL_isAs_465 : q_d cL_isAs 465 466 (.ladd) 1 := ⟨by decide +kernel, rfl⟩
theorem dL_isAs_466 : q_d cL_isAs 466 468 (.lstore 6) 2 := ⟨by decide +kernel, rfl⟩
theorem dL_isAs_468 : q_d cL_isAs 468 471 (.iinc 8 1) 3 := ⟨by decide +kernel, rfl⟩
theorem dL_isAs_471 : q_j cL_isAs 471 474 113 (fun o => .goto o) := ⟨(-358), by decide +kernel, rfl, rfl⟩
theorem dL_isAs_474 : q_d cL_isAs 474 475 (.iconst 0) 1 := ⟨by decide +kernel, rfl⟩
theorem dL_isAs_475 : q_d cL_isAs 475 477 (.istore 8) 2 := ⟨by decide +kernel, rfl⟩
theorem dL_isAs_477 : q_d cL_isAs 477 479 (.iload 8) 2 := ⟨by decide +kernel, rfl⟩
theorem dL_isAs_479 : q_d cL_isAs 479 480 (.aload_n 1) 1 := ⟨by decide +kernel, rfl⟩
theorem dL_isAs_480 : q_d cL_isAs 480 483 (.getfield 150) 3 := ⟨by decide +kernel, rfl⟩
theorem dL_isAs_483 : q_j cL_isAs 483 486 835 (fun o => .if_icmp .ge o) := ⟨352, by decide +kernel, rfl, rfl⟩
theorem dL_isAs_486 : q_d cL_isAs 486 487 (.iconst 0) 1 := ⟨by decide +kernel, rfl⟩
theorem dL_isAs_487 : q_d cL_isAs 487 489 (.istore 9) 2 := ⟨by decide +kernel, rfl⟩
theorem dL_isAs_489 : q_d cL_isAs 489 490 (.iconst 0) 1 := ⟨by decide +kernel, rfl⟩
theorem dL_isAs_490 : q_d cL_isAs 490 492 (.istore 10) 2 := ⟨by decide +kernel, rfl⟩
theorem dL_isAs_492 : q_d cL_isAs 492 493 (.lconst 0) 1 := ⟨by decide +kernel, rfl⟩
theorem dL_isAs_493 : q_d cL_isAs 493 495 (.lstore 11) 2 := ⟨by decide +kernel, rfl⟩
theorem dL_isAs_495 : q_d cL_isAs 495 496 (.lconst 0) 1 := ⟨by decide +kernel, rfl⟩
theorem dL_isAs_496 : q_d cL_isAs 496 498 (.lstore 13) 2 := ⟨by decide +kernel, rfl⟩
theorem dL_isAs_498 : q_d cL_isAs 498 499 (.iconst 0) 1 := ⟨by decide +kernel, rfl⟩
theorem dL_isAs_499 : q_d cL_isAs 499 501 (.istore 15) 2 := ⟨by decide +kernel, rfl⟩
theorem dL_isAs_501 : q_d cL_isAs 501 503 (.iload 15) 2 := ⟨by decide +kernel, rfl⟩
theorem dL_isAs_503 : q_d cL_isAs 503 504 (.iconst 5) 1 := ⟨by decide +kernel, rfl⟩
theorem dL_isAs_504 : q_j cL_isAs 504 507 535 (fun o => .if_icmp .ge o) := ⟨31, by decide +kernel, rfl, rfl⟩
theorem dL_isAs_507 : q_d cL_isAs 507 508 (.aload_n 1) 1 := ⟨by decide +kernel, rfl⟩
theorem dL_isAs_508 : q_d cL_isAs 508 511 (.getfield 170) 3 := ⟨by decide +kernel, rfl⟩
theorem dL_isAs_511 : q_d cL_isAs 511 513 (.iload 15) 2 := ⟨by decide +kernel, rfl⟩
theorem dL_isAs_513 : q_d cL_isAs 513 514 (.aaload) 1 := ⟨by decide +kernel, rfl⟩
theorem dL_isAs_514 : q_d cL_isAs 514 516 (.iload 8) 2 := ⟨by decide +kernel, rfl⟩
theorem dL_isAs_516 : q_d cL_isAs 516 517 (.aaload) 1 := ⟨by decide +kernel, rfl⟩
theorem dL_isAs_517 : q_j cL_isAs 517 520 529 (fun o => .ifnull o) := ⟨12, by decide +kernel, rfl, rfl⟩
theorem dL_isAs_520 : q_d cL_isAs 520 522 (.iload 9) 2 := ⟨by decide +kernel, rfl⟩
theorem dL_isAs_522 : q_d cL_isAs 522 523 (.iconst 1) 1 := ⟨by decide +kernel, rfl⟩
theorem dL_isAs_523 : q_d cL_isAs 523 525 (.iload 15) 2 := ⟨by decide +kernel, rfl⟩
theorem dL_isAs_525 : q_d cL_isAs 525 526 (.ishl) 1 := ⟨by decide +kernel, rfl⟩
theorem dL_isAs_526 : q_d cL_isAs 526 527 (.ior) 1 := ⟨by decide +kernel, rfl⟩
theorem dL_isAs_527 : q_d cL_isAs 527 529 (.istore 9) 2 := ⟨by decide +kernel, rfl⟩
theorem dL_isAs_529 : q_d cL_isAs 529 532 (.iinc 15 1) 3 := ⟨by decide +kernel, rfl⟩
theorem dL_isAs_532 : q_j cL_isAs 532 535 501 (fun o => .goto o) := ⟨(-31), by decide +kernel, rfl, rfl⟩
theorem dL_isAs_535 : q_d cL_isAs 535 536 (.iconst 0) 1 := ⟨by decide +kernel, rfl⟩
theorem dL_isAs_536 : q_d cL_isAs 536 538 (.istore 15) 2 := ⟨by decide +kernel, rfl⟩
theorem dL_isAs_538 : q_d cL_isAs 538 540 (.iload 15) 2 := ⟨by decide +kernel, rfl⟩
theorem dL_isAs_540 : q_d cL_isAs 540 541 (.aload_n 1) 1 := ⟨by decide +kernel, rfl⟩
theorem dL_isAs_541 : q_d cL_isAs 541 544 (.getfield 231) 3 := ⟨by decide +kernel, rfl⟩
theorem dL_isAs_544 : q_d cL_isAs 544 545 (.arraylength) 1 := ⟨by decide +kernel, rfl⟩
theorem dL_isAs_545 : q_j cL_isAs 545 548 610 (fun o => .if_icmp .ge o) := ⟨65, by decide +kernel, rfl, rfl⟩
theorem dL_isAs_548 : q_d cL_isAs 548 549 (.aload_n 1) 1 := ⟨by decide +kernel, rfl⟩
theorem dL_isAs_549 : q_d cL_isAs 549 552 (.getfield 231) 3 := ⟨by decide +kernel, rfl⟩
theorem dL_isAs_552 : q_d cL_isAs 552 554 (.iload 15) 2 := ⟨by decide +kernel, rfl⟩
theorem dL_isAs_554 : q_d cL_isAs 554 555 (.aaload) 1 := ⟨by decide +kernel, rfl⟩
theorem dL_isAs_555 : q_d cL_isAs 555 558 (.getfield 260) 3 := ⟨by decide +kernel, rfl⟩
theorem dL_isAs_558 : q_d cL_isAs 558 559 (.iconst 2) 1 := ⟨by decide +kernel, rfl⟩
theorem dL_isAs_559 : q_j cL_isAs 559 562 604 (fun o => .if_icmp .ne o) := ⟨45, by decide +kernel, rfl, rfl⟩
theorem dL_isAs_562 : q_d cL_isAs 562 563 (.aload_n 1) 1 := ⟨by decide +kernel, rfl⟩
theorem dL_isAs_563 : q_d cL_isAs 563 566 (.getfield 231) 3 := ⟨by decide +kernel, rfl⟩
theorem dL_isAs_566 : q_d cL_isAs 566 568 (.iload 15) 2 := ⟨by decide +kernel, rfl⟩
theorem dL_isAs_568 : q_d cL_isAs 568 569 (.aaload) 1 := ⟨by decide +kernel, rfl⟩
theorem dL_isAs_569 : q_d cL_isAs 569 572 (.getfield 263) 3 := ⟨by decide +kernel, rfl⟩
theorem dL_isAs_572 : q_d cL_isAs 572 574 (.iload 8) 2 := ⟨by decide +kernel, rfl⟩
theorem dL_isAs_574 : q_j cL_isAs 574 577 580 (fun o => .if_icmp .eq o) := ⟨6, by decide +kernel, rfl, rfl⟩
theorem dL_isAs_577 : q_j cL_isAs 577 580 604 (fun o => .goto o) := ⟨27, by decide +kernel, rfl, rfl⟩
theorem dL_isAs_580 : q_d cL_isAs 580 582 (.iload 10) 2 := ⟨by decide +kernel, rfl⟩
theorem dL_isAs_582 : q_d cL_isAs 582 583 (.iconst 1) 1 := ⟨by decide +kernel, rfl⟩
theorem dL_isAs_583 : q_d cL_isAs 583 585 (.iload 15) 2 := ⟨by decide +kernel, rfl⟩
theorem dL_isAs_585 : q_d cL_isAs 585 586 (.ishl) 1 := ⟨by decide +kernel, rfl⟩
theorem dL_isAs_586 : q_d cL_isAs 586 587 (.ior) 1 := ⟨by decide +kernel, rfl⟩
theorem dL_isAs_587 : q_d cL_isAs 587 589 (.istore 10) 2 := ⟨by decide +kernel, rfl⟩
theorem dL_isAs_589 : q_d cL_isAs 589 591 (.lload 11) 2 := ⟨by decide +kernel, rfl⟩
theorem dL_isAs_591 : q_d cL_isAs 591 592 (.aload_n 1) 1 := ⟨by decide +kernel, rfl⟩
theorem dL_isAs_592 : q_d cL_isAs 592 595 (.getfield 231) 3 := ⟨by decide +kernel, rfl⟩
theorem dL_isAs_595 : q_d cL_isAs 595 597 (.iload 15) 2 := ⟨by decide +kernel, rfl⟩
theorem dL_isAs_597 : q_d cL_isAs 597 598 (.aaload) 1 := ⟨by decide +kernel, rfl⟩
theorem dL_isAs_598 : q_d cL_isAs 598 601 (.getfield 227) 3 := ⟨by decide +kernel, rfl⟩
theorem dL_isAs_601 : q_d cL_isAs 601 602 (.ladd) 1 := ⟨by decide +kernel, rfl⟩
theorem dL_isAs_602 : q_d cL_isAs 602 604 (.lstore 11) 2 := ⟨by decide +kernel, rfl⟩
theorem dL_isAs_604 : q_d cL_isAs 604 607 (.iinc 15 1) 3 := ⟨by decide +kernel, rfl⟩
theorem dL_isAs_607 : q_j cL_isAs 607 610 538 (fun o => .goto o) := ⟨(-69), by decide +kernel, rfl, rfl⟩
theorem dL_isAs_610 : q_d cL_isAs 610 611 (.aload_n 1) 1 := ⟨by decide +kernel, rfl⟩
theorem dL_isAs_611 : q_d cL_isAs 611 614 (.getfield 246) 3 := ⟨by decide +kernel, rfl⟩
theorem dL_isAs_614 : q_d cL_isAs 614 616 (.astore 15) 2 := ⟨by decide +kernel, rfl⟩
theorem dL_isAs_616 : q_d cL_isAs 616 618 (.aload 15) 2 := ⟨by decide +kernel, rfl⟩
theorem dL_isAs_618 : q_d cL_isAs 618 619 (.arraylength) 1 := ⟨by decide +kernel, rfl⟩
theorem dL_isAs_619 : q_d cL_isAs 619 621 (.istore 16) 2 := ⟨by decide +kernel, rfl⟩
theorem dL_isAs_621 : q_d cL_isAs 621 622 (.iconst 0) 1 := ⟨by decide +kernel, rfl⟩
theorem dL_isAs_622 : q_d cL_isAs 622 624 (.istore 17) 2 := ⟨by decide +kernel, rfl⟩
theorem dL_isAs_624 : q_d cL_isAs 624 626 (.iload 17) 2 := ⟨by decide +kernel, rfl⟩
theorem dL_isAs_626 : q_d cL_isAs 626 628 (.iload 16) 2 := ⟨by decide +kernel, rfl⟩
theorem dL_isAs_628 : q_j cL_isAs 628 631 663 (fun o => .if_icmp .ge o) := ⟨35, by decide +kernel, rfl, rfl⟩
theorem dL_isAs_631 : q_d cL_isAs 631 633 (.aload 15) 2 := ⟨by decide +kernel, rfl⟩
theorem dL_isAs_633 : q_d cL_isAs 633 635 (.iload 17) 2 := ⟨by decide +kernel, rfl⟩
theorem dL_isAs_635 : q_d cL_isAs 635 636 (.aaload) 1 := ⟨by decide +kernel, rfl⟩
theorem dL_isAs_636 : q_d cL_isAs 636 638 (.astore 18) 2 := ⟨by decide +kernel, rfl⟩
theorem dL_isAs_638 : q_d cL_isAs 638 640 (.aload 18) 2 := ⟨by decide +kernel, rfl⟩
theorem dL_isAs_640 : q_d cL_isAs 640 641 (.iconst 2) 1 := ⟨by decide +kernel, rfl⟩
theorem dL_isAs_641 : q_d cL_isAs 641 642 (.iaload) 1 := ⟨by decide +kernel, rfl⟩
theorem dL_isAs_642 : q_d cL_isAs 642 644 (.iload 8) 2 := ⟨by decide +kernel, rfl⟩
theorem dL_isAs_644 : q_j cL_isAs 644 647 657 (fun o => .if_icmp .ne o) := ⟨13, by decide +kernel, rfl, rfl⟩
theorem dL_isAs_647 : q_d cL_isAs 647 649 (.lload 13) 2 := ⟨by decide +kernel, rfl⟩
theorem dL_isAs_649 : q_d cL_isAs 649 651 (.aload 18) 2 := ⟨by decide +kernel, rfl⟩
theorem dL_isAs_651 : q_d cL_isAs 651 652 (.iconst 3) 1 := ⟨by decide +kernel, rfl⟩
theorem dL_isAs_652 : q_d cL_isAs 652 653 (.iaload) 1 := ⟨by decide +kernel, rfl⟩
theorem dL_isAs_653 : q_d cL_isAs 653 654 (.i2l) 1 := ⟨by decide +kernel, rfl⟩
theorem dL_isAs_654 : q_d cL_isAs 654 655 (.ladd) 1 := ⟨by decide +kernel, rfl⟩
theorem dL_isAs_655 : q_d cL_isAs 655 657 (.lstore 13) 2 := ⟨by decide +kernel, rfl⟩
theorem dL_isAs_657 : q_d cL_isAs 657 660 (.iinc 17 1) 3 := ⟨by decide +kernel, rfl⟩
theorem dL_isAs_660 : q_j cL_isAs 660 663 624 (fun o => .goto o) := ⟨(-36), by decide +kernel, rfl, rfl⟩
theorem dL_isAs_663 : q_d cL_isAs 663 664 (.iconst 0) 1 := ⟨by decide +kernel, rfl⟩
theorem dL_isAs_664 : q_d cL_isAs 664 666 (.istore 15) 2 := ⟨by decide +kernel, rfl⟩
theorem dL_isAs_666 : q_d cL_isAs 666 668 (.iload 15) 2 := ⟨by decide +kernel, rfl⟩
theorem dL_isAs_668 : q_d cL_isAs 668 669 (.iconst 4) 1 := ⟨by decide +kernel, rfl⟩
theorem dL_isAs_669 : q_j cL_isAs 669 672 701 (fun o => .if_icmp .ge o) := ⟨32, by decide +kernel, rfl, rfl⟩
theorem dL_isAs_672 : q_d cL_isAs 672 673 (.aload_n 0) 1 := ⟨by decide +kernel, rfl⟩
theorem dL_isAs_673 : q_d cL_isAs 673 675 (.iload 8) 2 := ⟨by decide +kernel, rfl⟩
theorem dL_isAs_675 : q_d cL_isAs 675 677 (.iload 15) 2 := ⟨by decide +kernel, rfl⟩
theorem dL_isAs_677 : q_d cL_isAs 677 680 (.invokestatic 297) 3 := ⟨by decide +kernel, rfl⟩
theorem dL_isAs_680 : q_d cL_isAs 680 681 (.aload_n 1) 1 := ⟨by decide +kernel, rfl⟩
theorem dL_isAs_681 : q_d cL_isAs 681 684 (.getfield 162) 3 := ⟨by decide +kernel, rfl⟩
theorem dL_isAs_684 : q_d cL_isAs 684 686 (.iload 8) 2 := ⟨by decide +kernel, rfl⟩
theorem dL_isAs_686 : q_d cL_isAs 686 687 (.aaload) 1 := ⟨by decide +kernel, rfl⟩
theorem dL_isAs_687 : q_d cL_isAs 687 689 (.iload 15) 2 := ⟨by decide +kernel, rfl⟩
theorem dL_isAs_689 : q_d cL_isAs 689 690 (.iaload) 1 := ⟨by decide +kernel, rfl⟩
theorem dL_isAs_690 : q_j cL_isAs 690 693 695 (fun o => .if_icmp .eq o) := ⟨5, by decide +kernel, rfl, rfl⟩
theorem dL_isAs_693 : q_d cL_isAs 693 694 (.iconst 0) 1 := ⟨by decide +kernel, rfl⟩
theorem dL_isAs_694 : q_d cL_isAs 694 695 (.ireturn) 1 := ⟨by decide +kernel, rfl⟩
theorem dL_isAs_695 : q_d cL_isAs 695 698 (.iinc 15 1) 3 := ⟨by decide +kernel, rfl⟩
theorem dL_isAs_698 : q_j cL_isAs 698 701 666 (fun o => .goto o) := ⟨(-32), by decide +kernel, rfl, rfl⟩
theorem dL_isAs_701 : q_d cL_isAs 701 702 (.aload_n 0) 1 := ⟨by decide +kernel, rfl⟩
theorem dL_isAs_702 : q_d cL_isAs 702 704 (.iload 8) 2 := ⟨by decide +kernel, rfl⟩
theorem dL_isAs_704 : q_d cL_isAs 704 705 (.iconst 4) 1 := ⟨by decide +kernel, rfl⟩
theorem dL_isAs_705 : q_d cL_isAs 705 708 (.invokestatic 297) 3 := ⟨by decide +kernel, rfl⟩
theorem dL_isAs_708 : q_d cL_isAs 708 710 (.iload 9) 2 := ⟨by decide +kernel, rfl⟩
theorem dL_isAs_710 : q_j cL_isAs 710 713 827 (fun o => .if_icmp .ne o) := ⟨117, by decide +kernel, rfl, rfl⟩
theorem dL_isAs_713 : q_d cL_isAs 713 714 (.aload_n 0) 1 := ⟨by decide +kernel, rfl⟩
theorem dL_isAs_714 : q_d cL_isAs 714 716 (.iload 8) 2 := ⟨by decide +kernel, rfl⟩
theorem dL_isAs_716 : q_d cL_isAs 716 717 (.iconst 5) 1 := ⟨by decide +kernel, rfl⟩
theorem dL_isAs_717 : q_d cL_isAs 717 720 (.invokestatic 297) 3 := ⟨by decide +kernel, rfl⟩
theorem dL_isAs_720 : q_d cL_isAs 720 722 (.iload 10) 2 := ⟨by decide +kernel, rfl⟩
theorem dL_isAs_722 : q_j cL_isAs 722 725 827 (fun o => .if_icmp .ne o) := ⟨105, by decide +kernel, rfl, rfl⟩
theorem dL_isAs_725 : q_d cL_isAs 725 726 (.aload_n 0) 1 := ⟨by decide +kernel, rfl⟩
theorem dL_isAs_726 : q_d cL_isAs 726 728 (.iload 8) 2 := ⟨by decide +kernel, rfl⟩
theorem dL_isAs_728 : q_d cL_isAs 728 729 (.iconst 0) 1 := ⟨by decide +kernel, rfl⟩
theorem dL_isAs_729 : q_d cL_isAs 729 732 (.invokestatic 299) 3 := ⟨by decide +kernel, rfl⟩
theorem dL_isAs_732 : q_d cL_isAs 732 734 (.lload 11) 2 := ⟨by decide +kernel, rfl⟩
theorem dL_isAs_734 : q_d cL_isAs 734 735 (.lcmp) 1 := ⟨by decide +kernel, rfl⟩
theorem dL_isAs_735 : q_j cL_isAs 735 738 827 (fun o => .ifCond .ne o) := ⟨92, by decide +kernel, rfl, rfl⟩
theorem dL_isAs_738 : q_d cL_isAs 738 739 (.aload_n 0) 1 := ⟨by decide +kernel, rfl⟩
theorem dL_isAs_739 : q_d cL_isAs 739 741 (.iload 8) 2 := ⟨by decide +kernel, rfl⟩
theorem dL_isAs_741 : q_d cL_isAs 741 742 (.iconst 1) 1 := ⟨by decide +kernel, rfl⟩
theorem dL_isAs_742 : q_d cL_isAs 742 745 (.invokestatic 299) 3 := ⟨by decide +kernel, rfl⟩
theorem dL_isAs_745 : q_d cL_isAs 745 746 (.aload_n 1) 1 := ⟨by decide +kernel, rfl⟩
theorem dL_isAs_746 : q_d cL_isAs 746 749 (.getfield 301) 3 := ⟨by decide +kernel, rfl⟩
theorem dL_isAs_749 : q_d cL_isAs 749 751 (.iload 8) 2 := ⟨by decide +kernel, rfl⟩
theorem dL_isAs_751 : q_d cL_isAs 751 752 (.laload) 1 := ⟨by decide +kernel, rfl⟩
theorem dL_isAs_752 : q_d cL_isAs 752 753 (.lcmp) 1 := ⟨by decide +kernel, rfl⟩
theorem dL_isAs_753 : q_j cL_isAs 753 756 827 (fun o => .ifCond .ne o) := ⟨74, by decide +kernel, rfl, rfl⟩
theorem dL_isAs_756 : q_d cL_isAs 756 757 (.aload_n 0) 1 := ⟨by decide +kernel, rfl⟩
theorem dL_isAs_757 : q_d cL_isAs 757 759 (.iload 8) 2 := ⟨by decide +kernel, rfl⟩
theorem dL_isAs_759 : q_d cL_isAs 759 760 (.iconst 2) 1 := ⟨by decide +kernel, rfl⟩
theorem dL_isAs_760 : q_d cL_isAs 760 763 (.invokestatic 299) 3 := ⟨by decide +kernel, rfl⟩
theorem dL_isAs_763 : q_d cL_isAs 763 765 (.lload 13) 2 := ⟨by decide +kernel, rfl⟩
theorem dL_isAs_765 : q_d cL_isAs 765 766 (.lcmp) 1 := ⟨by decide +kernel, rfl⟩
theorem dL_isAs_766 : q_j cL_isAs 766 769 827 (fun o => .ifCond .ne o) := ⟨61, by decide +kernel, rfl, rfl⟩
theorem dL_isAs_769 : q_d cL_isAs 769 770 (.aload_n 0) 1 := ⟨by decide +kernel, rfl⟩
theorem dL_isAs_770 : q_d cL_isAs 770 772 (.iload 8) 2 := ⟨by decide +kernel, rfl⟩
theorem dL_isAs_772 : q_d cL_isAs 772 773 (.iconst 3) 1 := ⟨by decide +kernel, rfl⟩
theorem dL_isAs_773 : q_d cL_isAs 773 776 (.invokestatic 299) 3 := ⟨by decide +kernel, rfl⟩
theorem dL_isAs_776 : q_d cL_isAs 776 777 (.aload_n 1) 1 := ⟨by decide +kernel, rfl⟩
theorem dL_isAs_777 : q_d cL_isAs 777 780 (.getfield 304) 3 := ⟨by decide +kernel, rfl⟩
theorem dL_isAs_780 : q_d cL_isAs 780 782 (.iload 8) 2 := ⟨by decide +kernel, rfl⟩
theorem dL_isAs_782 : q_d cL_isAs 782 783 (.laload) 1 := ⟨by decide +kernel, rfl⟩
theorem dL_isAs_783 : q_d cL_isAs 783 784 (.lcmp) 1 := ⟨by decide +kernel, rfl⟩
theorem dL_isAs_784 : q_j cL_isAs 784 787 827 (fun o => .ifCond .ne o) := ⟨43, by decide +kernel, rfl, rfl⟩
theorem dL_isAs_787 : q_d cL_isAs 787 788 (.aload_n 0) 1 := ⟨by decide +kernel, rfl⟩
theorem dL_isAs_788 : q_d cL_isAs 788 790 (.iload 8) 2 := ⟨by decide +kernel, rfl⟩
theorem dL_isAs_790 : q_d cL_isAs 790 791 (.iconst 0) 1 := ⟨by decide +kernel, rfl⟩
theorem dL_isAs_791 : q_d cL_isAs 791 794 (.invokestatic 307) 3 := ⟨by decide +kernel, rfl⟩
theorem dL_isAs_794 : q_d cL_isAs 794 797 (.getstatic 158) 3 := ⟨by decide +kernel, rfl⟩
theorem dL_isAs_797 : q_d cL_isAs 797 799 (.iload 8) 2 := ⟨by decide +kernel, rfl⟩
theorem dL_isAs_799 : q_d cL_isAs 799 800 (.aaload) 1 := ⟨by decide +kernel, rfl⟩
theorem dL_isAs_800 : q_d cL_isAs 800 801 (.iconst 0) 1 := ⟨by decide +kernel, rfl⟩
theorem dL_isAs_801 : q_d cL_isAs 801 804 (.invokevirtual 128) 3 := ⟨by decide +kernel, rfl⟩
theorem dL_isAs_804 : q_j cL_isAs 804 807 827 (fun o => .if_icmp .ne o) := ⟨23, by decide +kernel, rfl, rfl⟩
theorem dL_isAs_807 : q_d cL_isAs 807 808 (.aload_n 0) 1 := ⟨by decide +kernel, rfl⟩
theorem dL_isAs_808 : q_d cL_isAs 808 810 (.iload 8) 2 := ⟨by decide +kernel, rfl⟩
theorem dL_isAs_810 : q_d cL_isAs 810 813 (.getstatic 158) 3 := ⟨by decide +kernel, rfl⟩
theorem dL_isAs_813 : q_d cL_isAs 813 815 (.iload 8) 2 := ⟨by decide +kernel, rfl⟩
theorem dL_isAs_815 : q_d cL_isAs 815 816 (.aaload) 1 := ⟨by decide +kernel, rfl⟩
theorem dL_isAs_816 : q_d cL_isAs 816 819 (.invokevirtual 122) 3 := ⟨by decide +kernel, rfl⟩
theorem dL_isAs_819 : q_d cL_isAs 819 822 (.invokestatic 307) 3 := ⟨by decide +kernel, rfl⟩
theorem dL_isAs_822 : q_d cL_isAs 822 824 (.ldc 42) 2 := ⟨by decide +kernel, rfl⟩
theorem dL_isAs_824 : q_j cL_isAs 824 827 829 (fun o => .if_icmp .eq o) := ⟨5, by decide +kernel, rfl, rfl⟩
theorem dL_isAs_827 : q_d cL_isAs 827 828 (.iconst 0) 1 := ⟨by decide +kernel, rfl⟩
theorem dL_isAs_828 : q_d cL_isAs 828 829 (.ireturn) 1 := ⟨by decide +kernel, rfl⟩
theorem dL_isAs_829 : q_d cL_isAs 829 832 (.iinc 8 1) 3 := ⟨by decide +kernel, rfl⟩
theorem dL_isAs_832 : q_j cL_isAs 832 835 477 (fun o => .goto o) := ⟨(-355), by decide +kernel, rfl, rfl⟩
theorem dL_isAs_835 : q_d cL_isAs 835 836 (.iconst 0) 1 := ⟨by decide +kernel, rfl⟩
theorem dL_isAs_836 : q_d cL_isAs 836 838 (.istore 8) 2 := ⟨by decide +kernel, rfl⟩
theorem dL_isAs_838 : q_d cL_isAs 838 840 (.iload 8) 2 := ⟨by decide +kernel, rfl⟩
theorem dL_isAs_840 : q_d cL_isAs 840 841 (.aload_n 1) 1 := ⟨by decide +kernel, rfl⟩
theorem dL_isAs_841 : q_d cL_isAs 841 844 (.getfield 246) 3 := ⟨by decide +kernel, rfl⟩
theorem dL_isAs_844 : q_d cL_isAs 844 845 (.arraylength) 1 := ⟨by decide +kernel, rfl⟩
theorem dL_isAs_845 : q_j cL_isAs 845 848 892 (fun o => .if_icmp .ge o) := ⟨47, by decide +kernel, rfl, rfl⟩
theorem dL_isAs_848 : q_d cL_isAs 848 849 (.iconst 0) 1 := ⟨by decide +kernel, rfl⟩
theorem dL_isAs_849 : q_d cL_isAs 849 851 (.istore 9) 2 := ⟨by decide +kernel, rfl⟩
theorem dL_isAs_851 : q_d cL_isAs 851 853 (.iload 9) 2 := ⟨by decide +kernel, rfl⟩
theorem dL_isAs_853 : q_d cL_isAs 853 854 (.iconst 5) 1 := ⟨by decide +kernel, rfl⟩
theorem dL_isAs_854 : q_j cL_isAs 854 857 886 (fun o => .if_icmp .ge o) := ⟨32, by decide +kernel, rfl, rfl⟩
theorem dL_isAs_857 : q_d cL_isAs 857 858 (.aload_n 0) 1 := ⟨by decide +kernel, rfl⟩
theorem dL_isAs_858 : q_d cL_isAs 858 860 (.iload 8) 2 := ⟨by decide +kernel, rfl⟩
theorem dL_isAs_860 : q_d cL_isAs 860 862 (.iload 9) 2 := ⟨by decide +kernel, rfl⟩
theorem dL_isAs_862 : q_d cL_isAs 862 865 (.invokestatic 309) 3 := ⟨by decide +kernel, rfl⟩
theorem dL_isAs_865 : q_d cL_isAs 865 866 (.aload_n 1) 1 := ⟨by decide +kernel, rfl⟩
theorem dL_isAs_866 : q_d cL_isAs 866 869 (.getfield 246) 3 := ⟨by decide +kernel, rfl⟩
theorem dL_isAs_869 : q_d cL_isAs 869 871 (.iload 8) 2 := ⟨by decide +kernel, rfl⟩
theorem dL_isAs_871 : q_d cL_isAs 871 872 (.aaload) 1 := ⟨by decide +kernel, rfl⟩
theorem dL_isAs_872 : q_d cL_isAs 872 874 (.iload 9) 2 := ⟨by decide +kernel, rfl⟩
theorem dL_isAs_874 : q_d cL_isAs 874 875 (.iaload) 1 := ⟨by decide +kernel, rfl⟩
theorem dL_isAs_875 : q_j cL_isAs 875 878 880 (fun o => .if_icmp .eq o) := ⟨5, by decide +kernel, rfl, rfl⟩
theorem dL_isAs_878 : q_d cL_isAs 878 879 (.iconst 0) 1 := ⟨by decide +kernel, rfl⟩
theorem dL_isAs_879 : q_d cL_isAs 879 880 (.ireturn) 1 := ⟨by decide +kernel, rfl⟩
theorem dL_isAs_880 : q_d cL_isAs 880 883 (.iinc 9 1) 3 := ⟨by decide +kernel, rfl⟩
theorem dL_isAs_883 : q_j cL_isAs 883 886 851 (fun o => .goto o) := ⟨(-32), by decide +kernel, rfl, rfl⟩
theorem dL_isAs_886 : q_d cL_isAs 886 889 (.iinc 8 1) 3 := ⟨by decide +kernel, rfl⟩
theorem dL_isAs_889 : q_j cL_isAs 889 892 838 (fun o => .goto o) := ⟨(-51), by decide +kernel, rfl, rfl⟩
theorem dL_isAs_892 : q_d cL_isAs 892 893 (.iconst 0) 1 := ⟨by decide +kernel, rfl⟩
theorem dL_isAs_893 : q_d cL_isAs 893 895 (.istore 8) 2 := ⟨by decide +kernel, rfl⟩
theorem dL_isAs_895 : q_d cL_isAs 895 897 (.iload 8) 2 := ⟨by decide +kernel, rfl⟩
theorem dL_isAs_897 : q_d cL_isAs 897 898 (.iconst 4) 1 := ⟨by decide +kernel, rfl⟩
theorem dL_isAs_898 : q_j cL_isAs 898 901 926 (fun o => .if_icmp .ge o) := ⟨28, by decide +kernel, rfl, rfl⟩
theorem dL_isAs_901 : q_d cL_isAs 901 902 (.aload_n 0) 1 := ⟨by decide +kernel, rfl⟩
theorem dL_isAs_902 : q_d cL_isAs 902 904 (.iload 8) 2 := ⟨by decide +kernel, rfl⟩
theorem dL_isAs_904 : q_d cL_isAs 904 907 (.invokestatic 311) 3 := ⟨by decide +kernel, rfl⟩
theorem dL_isAs_907 : q_d cL_isAs 907 908 (.aload_n 1) 1 := ⟨by decide +kernel, rfl⟩
theorem dL_isAs_908 : q_d cL_isAs 908 911 (.getfield 235) 3 := ⟨by decide +kernel, rfl⟩
theorem dL_isAs_911 : q_d cL_isAs 911 913 (.iload 8) 2 := ⟨by decide +kernel, rfl⟩
theorem dL_isAs_913 : q_d cL_isAs 913 914 (.laload) 1 := ⟨by decide +kernel, rfl⟩
theorem dL_isAs_914 : q_d cL_isAs 914 915 (.lcmp) 1 := ⟨by decide +kernel, rfl⟩
theorem dL_isAs_915 : q_j cL_isAs 915 918 920 (fun o => .ifCond .eq o) := ⟨5, by decide +kernel, rfl, rfl⟩
theorem dL_isAs_918 : q_d cL_isAs 918 919 (.iconst 0) 1 := ⟨by decide +kernel, rfl⟩
theorem dL_isAs_919 : q_d cL_isAs 919 920 (.ireturn) 1 := ⟨by decide +kernel, rfl⟩
theorem dL_isAs_920 : q_d cL_isAs 920 923 (.iinc 8 1) 3 := ⟨by decide +kernel, rfl⟩
theorem dL_isAs_923 : q_j cL_isAs 923 926 895 (fun o => .goto o) := ⟨(-28), by decide +kernel, rfl, rfl⟩
theorem dL_isAs_926 : q_d cL_isAs 926 927 (.iconst 0) 1 := ⟨by decide +kernel, rfl⟩
theorem dL_isAs_927 : q_d cL_isAs 927 929 (.istore 8) 2 := ⟨by decide +kernel, rfl⟩
theorem dL_isAs_929 : q_d cL_isAs 929 931 (.iload 8) 2 := ⟨by decide +kernel, rfl⟩
theorem dL_isAs_931 : q_d cL_isAs 931 932 (.iconst 5) 1 := ⟨by decide +kernel, rfl⟩
theorem dL_isAs_932 : q_j cL_isAs 932 935 959 (fun o => .if_icmp .ge o) := ⟨27, by decide +kernel, rfl, rfl⟩
theorem dL_isAs_935 : q_d cL_isAs 935 936 (.aload_n 0) 1 := ⟨by decide +kernel, rfl⟩
theorem dL_isAs_936 : q_d cL_isAs 936 938 (.iload 8) 2 := ⟨by decide +kernel, rfl⟩
theorem dL_isAs_938 : q_d cL_isAs 938 941 (.invokestatic 314) 3 := ⟨by decide +kernel, rfl⟩
theorem dL_isAs_941 : q_d cL_isAs 941 942 (.aload_n 1) 1 := ⟨by decide +kernel, rfl⟩
theorem dL_isAs_942 : q_d cL_isAs 942 945 (.getfield 186) 3 := ⟨by decide +kernel, rfl⟩
theorem dL_isAs_945 : q_d cL_isAs 945 947 (.iload 8) 2 := ⟨by decide +kernel, rfl⟩
theorem dL_isAs_947 : q_d cL_isAs 947 948 (.iaload) 1 := ⟨by decide +kernel, rfl⟩
theorem dL_isAs_948 : q_j cL_isAs 948 951 953 (fun o => .if_icmp .eq o) := ⟨5, by decide +kernel, rfl, rfl⟩
theorem dL_isAs_951 : q_d cL_isAs 951 952 (.iconst 0) 1 := ⟨by decide +kernel, rfl⟩
theorem dL_isAs_952 : q_d cL_isAs 952 953 (.ireturn) 1 := ⟨by decide +kernel, rfl⟩
theorem dL_isAs_953 : q_d cL_isAs 953 956 (.iinc 8 1) 3 := ⟨by decide +kernel, rfl⟩
theorem dL_isAs_956 : q_j cL_isAs 956 959 929 (fun o => .goto o) := ⟨(-27), by decide +kernel, rfl, rfl⟩
theorem dL_isAs_959 : q_d cL_isAs 959 960 (.aload_n 0) 1 := ⟨by decide +kernel, rfl⟩
theorem dL_isAs_960 : q_d cL_isAs 960 961 (.iconst 4) 1 := ⟨by decide +kernel, rfl⟩
theorem dL_isAs_961 : q_d cL_isAs 961 964 (.invokestatic 311) 3 := ⟨by decide +kernel, rfl⟩
theorem dL_isAs_964 : q_d cL_isAs 964 966 (.lload 4) 2 := ⟨by decide +kernel, rfl⟩
theorem dL_isAs_966 : q_d cL_isAs 966 967 (.lcmp) 1 := ⟨by decide +kernel, rfl⟩
theorem dL_isAs_967 : q_j cL_isAs 967 970 1041 (fun o => .ifCond .ne o) := ⟨74, by decide +kernel, rfl, rfl⟩
theorem dL_isAs_970 : q_d cL_isAs 970 971 (.aload_n 0) 1 := ⟨by decide +kernel, rfl⟩
theorem dL_isAs_971 : q_d cL_isAs 971 972 (.iconst 5) 1 := ⟨by decide +kernel, rfl⟩
theorem dL_isAs_972 : q_d cL_isAs 972 975 (.invokestatic 311) 3 := ⟨by decide +kernel, rfl⟩
theorem dL_isAs_975 : q_d cL_isAs 975 977 (.lload 6) 2 := ⟨by decide +kernel, rfl⟩
theorem dL_isAs_977 : q_d cL_isAs 977 978 (.lcmp) 1 := ⟨by decide +kernel, rfl⟩
theorem dL_isAs_978 : q_j cL_isAs 978 981 1041 (fun o => .ifCond .ne o) := ⟨63, by decide +kernel, rfl, rfl⟩
theorem dL_isAs_981 : q_d cL_isAs 981 982 (.aload_n 0) 1 := ⟨by decide +kernel, rfl⟩
theorem dL_isAs_982 : q_d cL_isAs 982 984 (.bipush 6) 2 := ⟨by decide +kernel, rfl⟩
theorem dL_isAs_984 : q_d cL_isAs 984 987 (.invokestatic 311) 3 := ⟨by decide +kernel, rfl⟩
theorem dL_isAs_987 : q_d cL_isAs 987 988 (.aload_n 1) 1 := ⟨by decide +kernel, rfl⟩
theorem dL_isAs_988 : q_d cL_isAs 988 991 (.getfield 235) 3 := ⟨by decide +kernel, rfl⟩
theorem dL_isAs_991 : q_d cL_isAs 991 993 (.bipush 6) 2 := ⟨by decide +kernel, rfl⟩
theorem dL_isAs_993 : q_d cL_isAs 993 994 (.laload) 1 := ⟨by decide +kernel, rfl⟩
theorem dL_isAs_994 : q_d cL_isAs 994 995 (.lcmp) 1 := ⟨by decide +kernel, rfl⟩
theorem dL_isAs_995 : q_j cL_isAs 995 998 1041 (fun o => .ifCond .ne o) := ⟨46, by decide +kernel, rfl, rfl⟩
theorem dL_isAs_998 : q_d cL_isAs 998 999 (.aload_n 0) 1 := ⟨by decide +kernel, rfl⟩
theorem dL_isAs_999 : q_d cL_isAs 999 1002 (.invokevirtual 316) 3 := ⟨by decide +kernel, rfl⟩
theorem dL_isAs_1002 : q_d cL_isAs 1002 1003 (.lload_n 2) 1 := ⟨by decide +kernel, rfl⟩
theorem dL_isAs_1003 : q_d cL_isAs 1003 1004 (.lcmp) 1 := ⟨by decide +kernel, rfl⟩
theorem dL_isAs_1004 : q_j cL_isAs 1004 1007 1041 (fun o => .ifCond .ne o) := ⟨37, by decide +kernel, rfl, rfl⟩
theorem dL_isAs_1007 : q_d cL_isAs 1007 1008 (.aload_n 0) 1 := ⟨by decide +kernel, rfl⟩
theorem dL_isAs_1008 : q_d cL_isAs 1008 1009 (.aload_n 1) 1 := ⟨by decide +kernel, rfl⟩
theorem dL_isAs_1009 : q_d cL_isAs 1009 1012 (.getfield 246) 3 := ⟨by decide +kernel, rfl⟩
theorem dL_isAs_1012 : q_d cL_isAs 1012 1013 (.arraylength) 1 := ⟨by decide +kernel, rfl⟩
theorem dL_isAs_1013 : q_d cL_isAs 1013 1014 (.iconst 0) 1 := ⟨by decide +kernel, rfl⟩
theorem dL_isAs_1014 : q_d cL_isAs 1014 1017 (.invokestatic 309) 3 := ⟨by decide +kernel, rfl⟩
theorem dL_isAs_1017 : q_d cL_isAs 1017 1019 (.ldc 42) 2 := ⟨by decide +kernel, rfl⟩
theorem dL_isAs_1019 : q_j cL_isAs 1019 1022 1041 (fun o => .if_icmp .ne o) := ⟨22, by decide +kernel, rfl, rfl⟩
theorem dL_isAs_1022 : q_d cL_isAs 1022 1023 (.aload_n 0) 1 := ⟨by decide +kernel, rfl⟩
theorem dL_isAs_1023 : q_d cL_isAs 1023 1024 (.aload_n 1) 1 := ⟨by decide +kernel, rfl⟩
theorem dL_isAs_1024 : q_d cL_isAs 1024 1027 (.getfield 231) 3 := ⟨by decide +kernel, rfl⟩
theorem dL_isAs_1027 : q_d cL_isAs 1027 1028 (.arraylength) 1 := ⟨by decide +kernel, rfl⟩
theorem dL_isAs_1028 : q_d cL_isAs 1028 1029 (.iconst 0) 1 := ⟨by decide +kernel, rfl⟩
theorem dL_isAs_1029 : q_d cL_isAs 1029 1032 (.invokestatic 266) 3 := ⟨by decide +kernel, rfl⟩
theorem dL_isAs_1032 : q_d cL_isAs 1032 1034 (.ldc 42) 2 := ⟨by decide +kernel, rfl⟩
theorem dL_isAs_1034 : q_j cL_isAs 1034 1037 1041 (fun o => .if_icmp .ne o) := ⟨7, by decide +kernel, rfl, rfl⟩
theorem dL_isAs_1037 : q_d cL_isAs 1037 1038 (.iconst 1) 1 := ⟨by decide +kernel, rfl⟩
theorem dL_isAs_1038 : q_j cL_isAs 1038 1041 1042 (fun o => .goto o) := ⟨4, by decide +kernel, rfl, rfl⟩
theorem dL_isAs_1041 : q_d cL_isAs 1041 1042 (.iconst 0) 1 := ⟨by decide +kernel, rfl⟩
theorem dL_isAs_1042 : q_d cL_isAs 1042 1043 (.ireturn) 1 := ⟨by decide +kernel, rfl⟩
theorem dL_law_0 : q_d cL_law 0 1 (.iconst 1) 1 := ⟨by decide +kernel, rfl⟩
theorem dL_law_1 : q_d cL_law 1 2 (.istore_n 1) 1 := ⟨by decide +kernel, rfl⟩
theorem dL_law_2 : q_d cL_law 2 3 (.iconst 0) 1 := ⟨by decide +kernel, rfl⟩
theorem dL_law_3 : q_d cL_law 3 4 (.istore_n 2) 1 := ⟨by decide +kernel, rfl⟩
theorem dL_law_4 : q_d cL_law 4 5 (.iload_n 2) 1 := ⟨by decide +kernel, rfl⟩
theorem dL_law_5 : q_d cL_law 5 6 (.aload_n 0) 1 := ⟨by decide +kernel, rfl⟩
theorem dL_law_6 : q_d cL_law 6 7 (.arraylength) 1 := ⟨by decide +kernel, rfl⟩
theorem dL_law_7 : q_j cL_law 7 10 1233 (fun o => .if_icmp .ge o) := ⟨1226, by decide +kernel, rfl, rfl⟩
theorem dL_law_10 : q_d cL_law 10 11 (.iload_n 2) 1 := ⟨by decide +kernel, rfl⟩
theorem dL_law_11 : q_d cL_law 11 12 (.iconst 4) 1 := ⟨by decide +kernel, rfl⟩
theorem dL_law_12 : q_j cL_law 12 15 1233 (fun o => .if_icmp .ge o) := ⟨1221, by decide +kernel, rfl, rfl⟩
theorem dL_law_15 : q_d cL_law 15 16 (.iload_n 1) 1 := ⟨by decide +kernel, rfl⟩
theorem dL_law_16 : q_j cL_law 16 19 1233 (fun o => .ifCond .eq o) := ⟨1217, by decide +kernel, rfl, rfl⟩
theorem dL_law_19 : q_d cL_law 19 22 (.new 16) 3 := ⟨by decide +kernel, rfl⟩
theorem dL_law_22 : q_d cL_law 22 23 (.dup) 1 := ⟨by decide +kernel, rfl⟩
theorem dL_law_23 : q_d cL_law 23 26 (.invokespecial 320) 3 := ⟨by decide +kernel, rfl⟩
theorem dL_law_26 : q_d cL_law 26 27 (.astore_n 3) 1 := ⟨by decide +kernel, rfl⟩
theorem dL_law_27 : q_d cL_law 27 29 (.bipush 8) 2 := ⟨by decide +kernel, rfl⟩
theorem dL_law_29 : q_d cL_law 29 31 (.newarray .int) 2 := ⟨by decide +kernel, rfl⟩
theorem dL_law_31 : q_d cL_law 31 33 (.astore 4) 2 := ⟨by decide +kernel, rfl⟩
theorem dL_law_33 : q_d cL_law 33 36 (.new 146) 3 := ⟨by decide +kernel, rfl⟩
theorem dL_law_36 : q_d cL_law 36 37 (.dup) 1 := ⟨by decide +kernel, rfl⟩
theorem dL_law_37 : q_d cL_law 37 38 (.aload_n 0) 1 := ⟨by decide +kernel, rfl⟩
theorem dL_law_38 : q_d cL_law 38 39 (.iload_n 2) 1 := ⟨by decide +kernel, rfl⟩
theorem dL_law_39 : q_d cL_law 39 40 (.iaload) 1 := ⟨by decide +kernel, rfl⟩
theorem dL_law_40 : q_d cL_law 40 43 (.invokespecial 321) 3 := ⟨by decide +kernel, rfl⟩
theorem dL_law_43 : q_d cL_law 43 45 (.astore 5) 2 := ⟨by decide +kernel, rfl⟩
theorem dL_law_45 : q_d cL_law 45 46 (.aload_n 3) 1 := ⟨by decide +kernel, rfl⟩
theorem dL_law_46 : q_d cL_law 46 47 (.iconst 0) 1 := ⟨by decide +kernel, rfl⟩
theorem dL_law_47 : q_d cL_law 47 50 (.invokestatic 241) 3 := ⟨by decide +kernel, rfl⟩
theorem dL_law_50 : q_j cL_law 50 53 109 (fun o => .ifCond .ne o) := ⟨59, by decide +kernel, rfl, rfl⟩
theorem dL_law_53 : q_d cL_law 53 54 (.aload_n 3) 1 := ⟨by decide +kernel, rfl⟩
theorem dL_law_54 : q_d cL_law 54 55 (.iconst 5) 1 := ⟨by decide +kernel, rfl⟩
theorem dL_law_55 : q_d cL_law 55 58 (.invokestatic 241) 3 := ⟨by decide +kernel, rfl⟩
theorem dL_law_58 : q_d cL_law 58 59 (.iconst (-1)) 1 := ⟨by decide +kernel, rfl⟩
theorem dL_law_59 : q_j cL_law 59 62 109 (fun o => .if_icmp .ne o) := ⟨50, by decide +kernel, rfl, rfl⟩
theorem dL_law_62 : q_d cL_law 62 63 (.aload_n 3) 1 := ⟨by decide +kernel, rfl⟩
theorem dL_law_63 : q_d cL_law 63 64 (.iconst 0) 1 := ⟨by decide +kernel, rfl⟩
theorem dL_law_64 : q_d cL_law 64 65 (.iconst 0) 1 := ⟨by decide +kernel, rfl⟩
theorem dL_law_65 : q_d cL_law 65 66 (.iconst (-1)) 1 := ⟨by decide +kernel, rfl⟩
theorem dL_law_66 : q_d cL_law 66 67 (.iconst 5) 1 := ⟨by decide +kernel, rfl⟩
theorem dL_law_67 : q_d cL_law 67 70 (.invokestatic 238) 3 := ⟨by decide +kernel, rfl⟩
theorem dL_law_70 : q_d cL_law 70 72 (.ldc 42) 2 := ⟨by decide +kernel, rfl⟩
theorem dL_law_72 : q_j cL_law 72 75 109 (fun o => .if_icmp .ne o) := ⟨37, by decide +kernel, rfl, rfl⟩
theorem dL_law_75 : q_d cL_law 75 76 (.aload_n 3) 1 := ⟨by decide +kernel, rfl⟩
theorem dL_law_76 : q_d cL_law 76 79 (.invokevirtual 324) 3 := ⟨by decide +kernel, rfl⟩
theorem dL_law_79 : q_d cL_law 79 80 (.iconst (-1)) 1 := ⟨by decide +kernel, rfl⟩
theorem dL_law_80 : q_j cL_law 80 83 109 (fun o => .if_icmp .ne o) := ⟨29, by decide +kernel, rfl, rfl⟩
theorem dL_law_83 : q_d cL_law 83 84 (.aload_n 3) 1 := ⟨by decide +kernel, rfl⟩
theorem dL_law_84 : q_d cL_law 84 85 (.iconst 4) 1 := ⟨by decide +kernel, rfl⟩
theorem dL_law_85 : q_d cL_law 85 88 (.invokestatic 311) 3 := ⟨by decide +kernel, rfl⟩
theorem dL_law_88 : q_d cL_law 88 89 (.lconst 0) 1 := ⟨by decide +kernel, rfl⟩
theorem dL_law_89 : q_d cL_law 89 90 (.lcmp) 1 := ⟨by decide +kernel, rfl⟩
theorem dL_law_90 : q_j cL_law 90 93 109 (fun o => .ifCond .ne o) := ⟨19, by decide +kernel, rfl, rfl⟩
theorem dL_law_93 : q_d cL_law 93 94 (.aload_n 3) 1 := ⟨by decide +kernel, rfl⟩
theorem dL_law_94 : q_d cL_law 94 95 (.iconst 1) 1 := ⟨by decide +kernel, rfl⟩
theorem dL_law_95 : q_d cL_law 95 96 (.iconst 1) 1 := ⟨by decide +kernel, rfl⟩
theorem dL_law_96 : q_d cL_law 96 97 (.iconst 0) 1 := ⟨by decide +kernel, rfl⟩
theorem dL_law_97 : q_d cL_law 97 100 (.invokestatic 327) 3 := ⟨by decide +kernel, rfl⟩
theorem dL_law_100 : q_d cL_law 100 101 (.lconst 0) 1 := ⟨by decide +kernel, rfl⟩
theorem dL_law_101 : q_d cL_law 101 102 (.lcmp) 1 := ⟨by decide +kernel, rfl⟩
theorem dL_law_102 : q_j cL_law 102 105 109 (fun o => .ifCond .ne o) := ⟨7, by decide +kernel, rfl, rfl⟩
theorem dL_law_105 : q_d cL_law 105 106 (.iconst 1) 1 := ⟨by decide +kernel, rfl⟩
theorem dL_law_106 : q_j cL_law 106 109 110 (fun o => .goto o) := ⟨4, by decide +kernel, rfl, rfl⟩
theorem dL_law_109 : q_d cL_law 109 110 (.iconst 0) 1 := ⟨by decide +kernel, rfl⟩
theorem dL_law_110 : q_d cL_law 110 111 (.istore_n 1) 1 := ⟨by decide +kernel, rfl⟩
theorem dL_law_111 : q_d cL_law 111 112 (.aload_n 3) 1 := ⟨by decide +kernel, rfl⟩
theorem dL_law_112 : q_d cL_law 112 114 (.aload 4) 2 := ⟨by decide +kernel, rfl⟩
theorem dL_law_114 : q_d cL_law 114 116 (.aload 5) 2 := ⟨by decide +kernel, rfl⟩
theorem dL_law_116 : q_d cL_law 116 119 (.invokestatic 330) 3 := ⟨by decide +kernel, rfl⟩
theorem dL_law_119 : q_d cL_law 119 121 (.astore 6) 2 := ⟨by decide +kernel, rfl⟩
theorem dL_law_121 : q_d cL_law 121 123 (.aload 6) 2 := ⟨by decide +kernel, rfl⟩
theorem dL_law_123 : q_j cL_law 123 126 128 (fun o => .ifnonnull o) := ⟨5, by decide +kernel, rfl, rfl⟩
theorem dL_law_126 : q_d cL_law 126 127 (.iconst 0) 1 := ⟨by decide +kernel, rfl⟩
theorem dL_law_127 : q_d cL_law 127 128 (.ireturn) 1 := ⟨by decide +kernel, rfl⟩
theorem dL_law_128 : q_d cL_law 128 129 (.iconst 0) 1 := ⟨by decide +kernel, rfl⟩
theorem dL_law_129 : q_d cL_law 129 131 (.istore 7) 2 := ⟨by decide +kernel, rfl⟩
theorem dL_law_131 : q_d cL_law 131 133 (.iload 7) 2 := ⟨by decide +kernel, rfl⟩
theorem dL_law_133 : q_d cL_law 133 134 (.iconst 3) 1 := ⟨by decide +kernel, rfl⟩
theorem dL_law_134 : q_j cL_law 134 137 156 (fun o => .if_icmp .ge o) := ⟨22, by decide +kernel, rfl, rfl⟩
theorem dL_law_137 : q_d cL_law 137 138 (.iload_n 1) 1 := ⟨by decide +kernel, rfl⟩
theorem dL_law_138 : q_j cL_law 138 141 156 (fun o => .ifCond .eq o) := ⟨18, by decide +kernel, rfl, rfl⟩
theorem dL_law_141 : q_d cL_law 141 142 (.aload_n 3) 1 := ⟨by decide +kernel, rfl⟩
theorem dL_law_142 : q_d cL_law 142 144 (.aload 6) 2 := ⟨by decide +kernel, rfl⟩
theorem dL_law_144 : q_d cL_law 144 146 (.aload 5) 2 := ⟨by decide +kernel, rfl⟩
theorem dL_law_146 : q_d cL_law 146 149 (.invokestatic 334) 3 := ⟨by decide +kernel, rfl⟩
theorem dL_law_149 : q_d cL_law 149 150 (.istore_n 1) 1 := ⟨by decide +kernel, rfl⟩
theorem dL_law_150 : q_d cL_law 150 153 (.iinc 7 1) 3 := ⟨by decide +kernel, rfl⟩
theorem dL_law_153 : q_j cL_law 153 156 131 (fun o => .goto o) := ⟨(-22), by decide +kernel, rfl, rfl⟩
theorem dL_law_156 : q_d cL_law 156 157 (.iload_n 1) 1 := ⟨by decide +kernel, rfl⟩
theorem dL_law_157 : q_j cL_law 157 160 173 (fun o => .ifCond .eq o) := ⟨16, by decide +kernel, rfl, rfl⟩
theorem dL_law_160 : q_d cL_law 160 161 (.aload_n 3) 1 := ⟨by decide +kernel, rfl⟩
theorem dL_law_161 : q_d cL_law 161 163 (.aload 6) 2 := ⟨by decide +kernel, rfl⟩
theorem dL_law_163 : q_d cL_law 163 166 (.invokestatic 338) 3 := ⟨by decide +kernel, rfl⟩
theorem dL_law_166 : q_j cL_law 166 169 173 (fun o => .ifCond .eq o) := ⟨7, by decide +kernel, rfl, rfl⟩
theorem dL_law_169 : q_d cL_law 169 170 (.iconst 1) 1 := ⟨by decide +kernel, rfl⟩
theorem dL_law_170 : q_j cL_law 170 173 174 (fun o => .goto o) := ⟨4, by decide +kernel, rfl, rfl⟩
theorem dL_law_173 : q_d cL_law 173 174 (.iconst 0) 1 := ⟨by decide +kernel, rfl⟩
theorem dL_law_174 : q_d cL_law 174 175 (.istore_n 1) 1 := ⟨by decide +kernel, rfl⟩
theorem dL_law_175 : q_d cL_law 175 177 (.bipush 16) 2 := ⟨by decide +kernel, rfl⟩
theorem dL_law_177 : q_d cL_law 177 180 (.anewarray 142) 3 := ⟨by decide +kernel, rfl⟩
theorem dL_law_180 : q_d cL_law 180 182 (.astore 7) 2 := ⟨by decide +kernel, rfl⟩
theorem dL_law_182 : q_d cL_law 182 183 (.iconst 0) 1 := ⟨by decide +kernel, rfl⟩
theorem dL_law_183 : q_d cL_law 183 185 (.istore 8) 2 := ⟨by decide +kernel, rfl⟩
theorem dL_law_185 : q_d cL_law 185 186 (.iconst 0) 1 := ⟨by decide +kernel, rfl⟩
theorem dL_law_186 : q_d cL_law 186 188 (.istore 9) 2 := ⟨by decide +kernel, rfl⟩
theorem dL_law_188 : q_d cL_law 188 190 (.iload 9) 2 := ⟨by decide +kernel, rfl⟩
theorem dL_law_190 : q_d cL_law 190 192 (.bipush 11) 2 := ⟨by decide +kernel, rfl⟩
theorem dL_law_192 : q_j cL_law 192 195 977 (fun o => .if_icmp .ge o) := ⟨785, by decide +kernel, rfl, rfl⟩
theorem dL_law_195 : q_d cL_law 195 196 (.iload_n 1) 1 := ⟨by decide +kernel, rfl⟩
theorem dL_law_196 : q_j cL_law 196 199 977 (fun o => .ifCond .eq o) := ⟨781, by decide +kernel, rfl, rfl⟩
theorem dL_law_199 : q_d cL_law 199 201 (.aload 6) 2 := ⟨by decide +kernel, rfl⟩
theorem dL_law_201 : q_d cL_law 201 204 (.invokevirtual 342) 3 := ⟨by decide +kernel, rfl⟩
theorem dL_law_204 : q_d cL_law 204 206 (.astore 10) 2 := ⟨by decide +kernel, rfl⟩
theorem dL_law_206 : q_d cL_law 206 208 (.aload 5) 2 := ⟨by decide +kernel, rfl⟩
theorem dL_law_208 : q_d cL_law 208 210 (.aload 6) 2 := ⟨by decide +kernel, rfl⟩
theorem dL_law_210 : q_d cL_law 210 213 (.getfield 231) 3 := ⟨by decide +kernel, rfl⟩
theorem dL_law_213 : q_d cL_law 213 214 (.arraylength) 1 := ⟨by decide +kernel, rfl⟩
theorem dL_law_214 : q_d cL_law 214 217 (.invokevirtual 145) 3 := ⟨by decide +kernel, rfl⟩
theorem dL_law_217 : q_d cL_law 217 219 (.istore 11) 2 := ⟨by decide +kernel, rfl⟩
theorem dL_law_219 : q_d cL_law 219 221 (.aload 6) 2 := ⟨by decide +kernel, rfl⟩
theorem dL_law_221 : q_d cL_law 221 224 (.getfield 231) 3 := ⟨by decide +kernel, rfl⟩
theorem dL_law_224 : q_d cL_law 224 226 (.iload 11) 2 := ⟨by decide +kernel, rfl⟩
theorem dL_law_226 : q_d cL_law 226 227 (.aaload) 1 := ⟨by decide +kernel, rfl⟩
theorem dL_law_227 : q_d cL_law 227 229 (.astore 12) 2 := ⟨by decide +kernel, rfl⟩
theorem dL_law_229 : q_d cL_law 229 230 (.iconst 1) 1 := ⟨by decide +kernel, rfl⟩
theorem dL_law_230 : q_d cL_law 230 232 (.istore 13) 2 := ⟨by decide +kernel, rfl⟩
theorem dL_law_232 : q_d cL_law 232 234 (.aload 5) 2 := ⟨by decide +kernel, rfl⟩
theorem dL_law_234 : q_d cL_law 234 236 (.bipush 11) 2 := ⟨by decide +kernel, rfl⟩
theorem dL_law_236 : q_d cL_law 236 239 (.invokevirtual 145) 3 := ⟨by decide +kernel, rfl⟩
theorem dL_law_239 : q_d cL_law 239 241 (.istore 14) 2 := ⟨by decide +kernel, rfl⟩
theorem dL_law_241 : q_d cL_law 241 243 (.iload 14) 2 := ⟨by decide +kernel, rfl⟩
theorem dL_law_243 : q_d cL_law 243 244 (.iconst 4) 1 := ⟨by decide +kernel, rfl⟩
theorem dL_law_244 : q_j cL_law 244 247 283 (fun o => .if_icmp .ge o) := ⟨39, by decide +kernel, rfl, rfl⟩
theorem dL_law_247 : q_d cL_law 247 248 (.iconst 1) 1 := ⟨by decide +kernel, rfl⟩
theorem dL_law_248 : q_d cL_law 248 250 (.aload 5) 2 := ⟨by decide +kernel, rfl⟩
theorem dL_law_250 : q_d cL_law 250 252 (.bipush 30) 2 := ⟨by decide +kernel, rfl⟩
theorem dL_law_252 : q_d cL_law 252 255 (.invokevirtual 145) 3 := ⟨by decide +kernel, rfl⟩
theorem dL_law_255 : q_d cL_law 255 256 (.iadd) 1 := ⟨by decide +kernel, rfl⟩
theorem dL_law_256 : q_d cL_law 256 258 (.istore 15) 2 := ⟨by decide +kernel, rfl⟩
theorem dL_law_258 : q_d cL_law 258 259 (.aload_n 3) 1 := ⟨by decide +kernel, rfl⟩
theorem dL_law_259 : q_d cL_law 259 261 (.iload 15) 2 := ⟨by decide +kernel, rfl⟩
theorem dL_law_261 : q_d cL_law 261 264 (.invokestatic 346) 3 := ⟨by decide +kernel, rfl⟩
theorem dL_law_264 : q_d cL_law 264 266 (.aload 6) 2 := ⟨by decide +kernel, rfl⟩
theorem dL_law_266 : q_d cL_law 266 268 (.iload 15) 2 := ⟨by decide +kernel, rfl⟩
theorem dL_law_268 : q_d cL_law 268 271 (.invokevirtual 348) 3 := ⟨by decide +kernel, rfl⟩
theorem dL_law_271 : q_j cL_law 271 274 278 (fun o => .if_icmp .ne o) := ⟨7, by decide +kernel, rfl, rfl⟩
theorem dL_law_274 : q_d cL_law 274 275 (.iconst 1) 1 := ⟨by decide +kernel, rfl⟩
theorem dL_law_275 : q_j cL_law 275 278 279 (fun o => .goto o) := ⟨4, by decide +kernel, rfl, rfl⟩
theorem dL_law_278 : q_d cL_law 278 279 (.iconst 0) 1 := ⟨by decide +kernel, rfl⟩
theorem dL_law_279 : q_d cL_law 279 280 (.istore_n 1) 1 := ⟨by decide +kernel, rfl⟩
theorem dL_law_280 : q_j cL_law 280 283 919 (fun o => .goto o) := ⟨639, by decide +kernel, rfl, rfl⟩
theorem dL_law_283 : q_d cL_law 283 285 (.iload 14) 2 := ⟨by decide +kernel, rfl⟩
theorem dL_law_285 : q_d cL_law 285 286 (.iconst 4) 1 := ⟨by decide +kernel, rfl⟩
theorem dL_law_286 : q_j cL_law 286 289 301 (fun o => .if_icmp .ne o) := ⟨15, by decide +kernel, rfl, rfl⟩
theorem dL_law_289 : q_d cL_law 289 290 (.aload_n 3) 1 := ⟨by decide +kernel, rfl⟩
theorem dL_law_290 : q_d cL_law 290 292 (.aload 6) 2 := ⟨by decide +kernel, rfl⟩
theorem dL_law_292 : q_d cL_law 292 294 (.aload 5) 2 := ⟨by decide +kernel, rfl⟩
theorem dL_law_294 : q_d cL_law 294 297 (.invokestatic 334) 3 := ⟨by decide +kernel, rfl⟩
theorem dL_law_297 : q_d cL_law 297 298 (.istore_n 1) 1 := ⟨by decide +kernel, rfl⟩
theorem dL_law_298 : q_j cL_law 298 301 919 (fun o => .goto o) := ⟨621, by decide +kernel, rfl, rfl⟩
theorem dL_law_301 : q_d cL_law 301 303 (.iload 14) 2 := ⟨by decide +kernel, rfl⟩
theorem dL_law_303 : q_d cL_law 303 304 (.iconst 5) 1 := ⟨by decide +kernel, rfl⟩
theorem dL_law_304 : q_j cL_law 304 307 364 (fun o => .if_icmp .ne o) := ⟨60, by decide +kernel, rfl, rfl⟩
theorem dL_law_307 : q_d cL_law 307 309 (.aload 12) 2 := ⟨by decide +kernel, rfl⟩
theorem dL_law_309 : q_d cL_law 309 312 (.invokevirtual 252) 3 := ⟨by decide +kernel, rfl⟩
theorem dL_law_312 : q_d cL_law 312 314 (.istore 13) 2 := ⟨by decide +kernel, rfl⟩
theorem dL_law_314 : q_d cL_law 314 315 (.aload_n 3) 1 := ⟨by decide +kernel, rfl⟩
theorem dL_law_315 : q_d cL_law 315 317 (.iload 11) 2 := ⟨by decide +kernel, rfl⟩
theorem dL_law_317 : q_d cL_law 317 320 (.invokestatic 349) 3 := ⟨by decide +kernel, rfl⟩
theorem dL_law_320 : q_d cL_law 320 322 (.iload 13) 2 := ⟨by decide +kernel, rfl⟩
theorem dL_law_322 : q_j cL_law 322 325 333 (fun o => .ifCond .eq o) := ⟨11, by decide +kernel, rfl, rfl⟩
theorem dL_law_325 : q_d cL_law 325 327 (.aload 12) 2 := ⟨by decide +kernel, rfl⟩
theorem dL_law_327 : q_d cL_law 327 330 (.getfield 272) 3 := ⟨by decide +kernel, rfl⟩
theorem dL_law_330 : q_j cL_law 330 333 335 (fun o => .goto o) := ⟨5, by decide +kernel, rfl, rfl⟩
theorem dL_law_333 : q_d cL_law 333 335 (.ldc 45) 2 := ⟨by decide +kernel, rfl⟩
theorem dL_law_335 : q_j cL_law 335 338 342 (fun o => .if_icmp .ne o) := ⟨7, by decide +kernel, rfl, rfl⟩
theorem dL_law_338 : q_d cL_law 338 339 (.iconst 1) 1 := ⟨by decide +kernel, rfl⟩
theorem dL_law_339 : q_j cL_law 339 342 343 (fun o => .goto o) := ⟨4, by decide +kernel, rfl, rfl⟩
theorem dL_law_342 : q_d cL_law 342 343 (.iconst 0) 1 := ⟨by decide +kernel, rfl⟩
theorem dL_law_343 : q_d cL_law 343 344 (.istore_n 1) 1 := ⟨by decide +kernel, rfl⟩
theorem dL_law_344 : q_d cL_law 344 346 (.iload 13) 2 := ⟨by decide +kernel, rfl⟩
theorem dL_law_346 : q_j cL_law 346 349 919 (fun o => .ifCond .eq o) := ⟨573, by decide +kernel, rfl, rfl⟩
theorem dL_law_349 : q_d cL_law 349 351 (.aload 12) 2 := ⟨by decide +kernel, rfl⟩
theorem dL_law_351 : q_d cL_law 351 352 (.iconst 0) 1 := ⟨by decide +kernel, rfl⟩
theorem dL_law_352 : q_d cL_law 352 355 (.putfield 272) 3 := ⟨by decide +kernel, rfl⟩
theorem dL_law_355 : q_d cL_law 355 357 (.aload 12) 2 := ⟨by decide +kernel, rfl⟩
theorem dL_law_357 : q_d cL_law 357 358 (.iconst 0) 1 := ⟨by decide +kernel, rfl⟩
theorem dL_law_358 : q_d cL_law 358 361 (.putfield 260) 3 := ⟨by decide +kernel, rfl⟩
theorem dL_law_361 : q_j cL_law 361 364 919 (fun o => .goto o) := ⟨558, by decide +kernel, rfl, rfl⟩
theorem dL_law_364 : q_d cL_law 364 366 (.iload 14) 2 := ⟨by decide +kernel, rfl⟩
theorem dL_law_366 : q_d cL_law 366 368 (.bipush 6) 2 := ⟨by decide +kernel, rfl⟩
theorem dL_law_368 : q_j cL_law 368 371 553 (fun o => .if_icmp .ne o) := ⟨185, by decide +kernel, rfl, rfl⟩
theorem dL_law_371 : q_d cL_law 371 372 (.iconst 1) 1 := ⟨by decide +kernel, rfl⟩
theorem dL_law_372 : q_d cL_law 372 374 (.aload 5) 2 := ⟨by decide +kernel, rfl⟩
theorem dL_law_374 : q_d cL_law 374 377 (.sipush 5000) 3 := ⟨by decide +kernel, rfl⟩
theorem dL_law_377 : q_d cL_law 377 380 (.invokevirtual 145) 3 := ⟨by decide +kernel, rfl⟩
theorem dL_law_380 : q_d cL_law 380 381 (.iadd) 1 := ⟨by decide +kernel, rfl⟩
theorem dL_law_381 : q_d cL_law 381 383 (.istore 15) 2 := ⟨by decide +kernel, rfl⟩
theorem dL_law_383 : q_d cL_law 383 385 (.aload 5) 2 := ⟨by decide +kernel, rfl⟩
theorem dL_law_385 : q_d cL_law 385 386 (.iconst 2) 1 := ⟨by decide +kernel, rfl⟩
theorem dL_law_386 : q_d cL_law 386 389 (.invokevirtual 145) 3 := ⟨by decide +kernel, rfl⟩
theorem dL_law_389 : q_j cL_law 389 392 396 (fun o => .ifCond .ne o) := ⟨7, by decide +kernel, rfl, rfl⟩
theorem dL_law_392 : q_d cL_law 392 393 (.iconst 1) 1 := ⟨by decide +kernel, rfl⟩
theorem dL_law_393 : q_j cL_law 393 396 397 (fun o => .goto o) := ⟨4, by decide +kernel, rfl, rfl⟩
theorem dL_law_396 : q_d cL_law 396 397 (.iconst 0) 1 := ⟨by decide +kernel, rfl⟩
theorem dL_law_397 : q_d cL_law 397 399 (.istore 16) 2 := ⟨by decide +kernel, rfl⟩
theorem dL_law_399 : q_d cL_law 399 401 (.aload 12) 2 := ⟨by decide +kernel, rfl⟩
theorem dL_law_401 : q_d cL_law 401 404 (.invokevirtual 252) 3 := ⟨by decide +kernel, rfl⟩
theorem dL_law_404 : q_j cL_law 404 407 428 (fun o => .ifCond .eq o) := ⟨24, by decide +kernel, rfl, rfl⟩
theorem dL_law_407 : q_d cL_law 407 409 (.iload 16) 2 := ⟨by decide +kernel, rfl⟩
theorem dL_law_409 : q_j cL_law 409 412 424 (fun o => .ifCond .ne o) := ⟨15, by decide +kernel, rfl, rfl⟩
theorem dL_law_412 : q_d cL_law 412 414 (.aload 12) 2 := ⟨by decide +kernel, rfl⟩
theorem dL_law_414 : q_d cL_law 414 417 (.getfield 227) 3 := ⟨by decide +kernel, rfl⟩
theorem dL_law_417 : q_d cL_law 417 419 (.iload 15) 2 := ⟨by decide +kernel, rfl⟩
theorem dL_law_419 : q_d cL_law 419 420 (.i2l) 1 := ⟨by decide +kernel, rfl⟩
theorem dL_law_420 : q_d cL_law 420 421 (.lcmp) 1 := ⟨by decide +kernel, rfl⟩
theorem dL_law_421 : q_j cL_law 421 424 428 (fun o => .ifCond .lt o) := ⟨7, by decide +kernel, rfl, rfl⟩
theorem dL_law_424 : q_d cL_law 424 425 (.iconst 1) 1 := ⟨by decide +kernel, rfl⟩
theorem dL_law_425 : q_j cL_law 425 428 429 (fun o => .goto o) := ⟨4, by decide +kernel, rfl, rfl⟩
theorem dL_law_428 : q_d cL_law 428 429 (.iconst 0) 1 := ⟨by decide +kernel, rfl⟩
theorem dL_law_429 : q_d cL_law 429 431 (.istore 13) 2 := ⟨by decide +kernel, rfl⟩
theorem dL_law_431 : q_d cL_law 431 433 (.iload 16) 2 := ⟨by decide +kernel, rfl⟩
theorem dL_law_433 : q_j cL_law 433 436 447 (fun o => .ifCond .eq o) := ⟨14, by decide +kernel, rfl, rfl⟩
theorem dL_law_436 : q_d cL_law 436 437 (.aload_n 3) 1 := ⟨by decide +kernel, rfl⟩
theorem dL_law_437 : q_d cL_law 437 439 (.iload 11) 2 := ⟨by decide +kernel, rfl⟩
theorem dL_law_439 : q_d cL_law 439 441 (.iload 15) 2 := ⟨by decide +kernel, rfl⟩
theorem dL_law_441 : q_d cL_law 441 444 (.invokestatic 351) 3 := ⟨by decide +kernel, rfl⟩
theorem dL_law_444 : q_j cL_law 444 447 455 (fun o => .goto o) := ⟨11, by decide +kernel, rfl, rfl⟩
theorem dL_law_447 : q_d cL_law 447 448 (.aload_n 3) 1 := ⟨by decide +kernel, rfl⟩
theorem dL_law_448 : q_d cL_law 448 450 (.iload 11) 2 := ⟨by decide +kernel, rfl⟩
theorem dL_law_450 : q_d cL_law 450 452 (.iload 15) 2 := ⟨by decide +kernel, rfl⟩
theorem dL_law_452 : q_d cL_law 452 455 (.invokestatic 353) 3 := ⟨by decide +kernel, rfl⟩
theorem dL_law_455 : q_d cL_law 455 457 (.istore 17) 2 := ⟨by decide +kernel, rfl⟩
theorem dL_law_457 : q_d cL_law 457 459 (.iload 13) 2 := ⟨by decide +kernel, rfl⟩
theorem dL_law_459 : q_j cL_law 459 462 521 (fun o => .ifCond .eq o) := ⟨62, by decide +kernel, rfl, rfl⟩
theorem dL_law_462 : q_d cL_law 462 464 (.aload 12) 2 := ⟨by decide +kernel, rfl⟩
theorem dL_law_464 : q_d cL_law 464 465 (.iconst 0) 1 := ⟨by decide +kernel, rfl⟩
theorem dL_law_465 : q_d cL_law 465 468 (.putfield 272) 3 := ⟨by decide +kernel, rfl⟩
theorem dL_law_468 : q_d cL_law 468 470 (.aload 12) 2 := ⟨by decide +kernel, rfl⟩
theorem dL_law_470 : q_d cL_law 470 471 (.iconst 0) 1 := ⟨by decide +kernel, rfl⟩
theorem dL_law_471 : q_d cL_law 471 474 (.putfield 260) 3 := ⟨by decide +kernel, rfl⟩
theorem dL_law_474 : q_d cL_law 474 476 (.aload 12) 2 := ⟨by decide +kernel, rfl⟩
theorem dL_law_476 : q_d cL_law 476 477 (.dup) 1 := ⟨by decide +kernel, rfl⟩
theorem dL_law_477 : q_d cL_law 477 480 (.getfield 227) 3 := ⟨by decide +kernel, rfl⟩
theorem dL_law_480 : q_d cL_law 480 482 (.iload 16) 2 := ⟨by decide +kernel, rfl⟩
theorem dL_law_482 : q_j cL_law 482 485 491 (fun o => .ifCond .eq o) := ⟨9, by decide +kernel, rfl, rfl⟩
theorem dL_law_485 : q_d cL_law 485 487 (.iload 15) 2 := ⟨by decide +kernel, rfl⟩
theorem dL_law_487 : q_d cL_law 487 488 (.i2l) 1 := ⟨by decide +kernel, rfl⟩
theorem dL_law_488 : q_j cL_law 488 491 495 (fun o => .goto o) := ⟨7, by decide +kernel, rfl, rfl⟩
theorem dL_law_491 : q_d cL_law 491 493 (.iload 15) 2 := ⟨by decide +kernel, rfl⟩
theorem dL_law_493 : q_d cL_law 493 494 (.ineg) 1 := ⟨by decide +kernel, rfl⟩
theorem dL_law_494 : q_d cL_law 494 495 (.i2l) 1 := ⟨by decide +kernel, rfl⟩
theorem dL_law_495 : q_d cL_law 495 496 (.ladd) 1 := ⟨by decide +kernel, rfl⟩
theorem dL_law_496 : q_d cL_law 496 499 (.putfield 227) 3 := ⟨by decide +kernel, rfl⟩
theorem dL_law_499 : q_d cL_law 499 501 (.aload 6) 2 := ⟨by decide +kernel, rfl⟩
theorem dL_law_501 : q_d cL_law 501 504 (.getfield 235) 3 := ⟨by decide +kernel, rfl⟩
theorem dL_law_504 : q_d cL_law 504 506 (.iload 16) 2 := ⟨by decide +kernel, rfl⟩
theorem dL_law_506 : q_j cL_law 506 509 513 (fun o => .ifCond .eq o) := ⟨7, by decide +kernel, rfl, rfl⟩
theorem dL_law_509 : q_d cL_law 509 510 (.iconst 0) 1 := ⟨by decide +kernel, rfl⟩
theorem dL_law_510 : q_j cL_law 510 513 514 (fun o => .goto o) := ⟨4, by decide +kernel, rfl, rfl⟩
theorem dL_law_513 : q_d cL_law 513 514 (.iconst 2) 1 := ⟨by decide +kernel, rfl⟩
theorem dL_law_514 : q_d cL_law 514 515 (.dup2) 1 := ⟨by decide +kernel, rfl⟩
theorem dL_law_515 : q_d cL_law 515 516 (.laload) 1 := ⟨by decide +kernel, rfl⟩
theorem dL_law_516 : q_d cL_law 516 518 (.iload 15) 2 := ⟨by decide +kernel, rfl⟩
theorem dL_law_518 : q_d cL_law 518 519 (.i2l) 1 := ⟨by decide +kernel, rfl⟩
theorem dL_law_519 : q_d cL_law 519 520 (.ladd) 1 := ⟨by decide +kernel, rfl⟩
theorem dL_law_520 : q_d cL_law 520 521 (.lastore) 1 := ⟨by decide +kernel, rfl⟩
theorem dL_law_521 : q_d cL_law 521 523 (.iload 17) 2 := ⟨by decide +kernel, rfl⟩
theorem dL_law_523 : q_d cL_law 523 524 (.i2l) 1 := ⟨by decide +kernel, rfl⟩
theorem dL_law_524 : q_d cL_law 524 526 (.iload 13) 2 := ⟨by decide +kernel, rfl⟩
theorem dL_law_526 : q_j cL_law 526 529 537 (fun o => .ifCond .eq o) := ⟨11, by decide +kernel, rfl, rfl⟩
theorem dL_law_529 : q_d cL_law 529 531 (.aload 12) 2 := ⟨by decide +kernel, rfl⟩
theorem dL_law_531 : q_d cL_law 531 534 (.getfield 227) 3 := ⟨by decide +kernel, rfl⟩
theorem dL_law_534 : q_j cL_law 534 537 540 (fun o => .goto o) := ⟨6, by decide +kernel, rfl, rfl⟩
theorem dL_law_537 : q_d cL_law 537 540 (.ldc2_w 71) 3 := ⟨by decide +kernel, rfl⟩
theorem dL_law_540 : q_d cL_law 540 541 (.lcmp) 1 := ⟨by decide +kernel, rfl⟩
theorem dL_law_541 : q_j cL_law 541 544 548 (fun o => .ifCond .ne o) := ⟨7, by decide +kernel, rfl, rfl⟩
theorem dL_law_544 : q_d cL_law 544 545 (.iconst 1) 1 := ⟨by decide +kernel, rfl⟩
theorem dL_law_545 : q_j cL_law 545 548 549 (fun o => .goto o) := ⟨4, by decide +kernel, rfl, rfl⟩
theorem dL_law_548 : q_d cL_law 548 549 (.iconst 0) 1 := ⟨by decide +kernel, rfl⟩
theorem dL_law_549 : q_d cL_law 549 550 (.istore_n 1) 1 := ⟨by decide +kernel, rfl⟩
theorem dL_law_550 : q_j cL_law 550 553 919 (fun o => .goto o) := ⟨369, by decide +kernel, rfl, rfl⟩
theorem dL_law_553 : q_d cL_law 553 555 (.iload 14) 2 := ⟨by decide +kernel, rfl⟩
theorem dL_law_555 : q_d cL_law 555 557 (.bipush 7) 2 := ⟨by decide +kernel, rfl⟩
theorem dL_law_557 : q_j cL_law 557 560 608 (fun o => .if_icmp .ne o) := ⟨51, by decide +kernel, rfl, rfl⟩
theorem dL_law_560 : q_d cL_law 560 562 (.aload 5) 2 := ⟨by decide +kernel, rfl⟩
theorem dL_law_562 : q_d cL_law 562 564 (.aload 6) 2 := ⟨by decide +kernel, rfl⟩
theorem dL_law_564 : q_d cL_law 564 567 (.getfield 150) 3 := ⟨by decide +kernel, rfl⟩
theorem dL_law_567 : q_d cL_law 567 568 (.iconst 1) 1 := ⟨by decide +kernel, rfl⟩
theorem dL_law_568 : q_d cL_law 568 569 (.iadd) 1 := ⟨by decide +kernel, rfl⟩
theorem dL_law_569 : q_d cL_law 569 572 (.invokevirtual 145) 3 := ⟨by decide +kernel, rfl⟩
theorem dL_law_572 : q_d cL_law 572 573 (.iconst 1) 1 := ⟨by decide +kernel, rfl⟩
theorem dL_law_573 : q_d cL_law 573 574 (.isub) 1 := ⟨by decide +kernel, rfl⟩
theorem dL_law_574 : q_d cL_law 574 576 (.istore 15) 2 := ⟨by decide +kernel, rfl⟩
theorem dL_law_576 : q_d cL_law 576 577 (.aload_n 3) 1 := ⟨by decide +kernel, rfl⟩
theorem dL_law_577 : q_d cL_law 577 579 (.iload 11) 2 := ⟨by decide +kernel, rfl⟩
theorem dL_law_579 : q_d cL_law 579 581 (.iload 15) 2 := ⟨by decide +kernel, rfl⟩
theorem dL_law_581 : q_d cL_law 581 584 (.invokestatic 355) 3 := ⟨by decide +kernel, rfl⟩
theorem dL_law_584 : q_d cL_law 584 586 (.aload 12) 2 := ⟨by decide +kernel, rfl⟩
theorem dL_law_586 : q_d cL_law 586 589 (.getfield 220) 3 := ⟨by decide +kernel, rfl⟩
theorem dL_law_589 : q_j cL_law 589 592 596 (fun o => .if_icmp .ne o) := ⟨7, by decide +kernel, rfl, rfl⟩
theorem dL_law_592 : q_d cL_law 592 593 (.iconst 1) 1 := ⟨by decide +kernel, rfl⟩
theorem dL_law_593 : q_j cL_law 593 596 597 (fun o => .goto o) := ⟨4, by decide +kernel, rfl, rfl⟩
theorem dL_law_596 : q_d cL_law 596 597 (.iconst 0) 1 := ⟨by decide +kernel, rfl⟩
theorem dL_law_597 : q_d cL_law 597 598 (.istore_n 1) 1 := ⟨by decide +kernel, rfl⟩
theorem dL_law_598 : q_d cL_law 598 600 (.aload 12) 2 := ⟨by decide +kernel, rfl⟩
theorem dL_law_600 : q_d cL_law 600 602 (.iload 15) 2 := ⟨by decide +kernel, rfl⟩
theorem dL_law_602 : q_d cL_law 602 605 (.putfield 220) 3 := ⟨by decide +kernel, rfl⟩
theorem dL_law_605 : q_j cL_law 605 608 919 (fun o => .goto o) := ⟨314, by decide +kernel, rfl, rfl⟩
theorem dL_law_608 : q_d cL_law 608 610 (.iload 14) 2 := ⟨by decide +kernel, rfl⟩
theorem dL_law_610 : q_d cL_law 610 612 (.bipush 8) 2 := ⟨by decide +kernel, rfl⟩
theorem dL_law_612 : q_j cL_law 612 615 736 (fun o => .if_icmp .ne o) := ⟨124, by decide +kernel, rfl, rfl⟩
theorem dL_law_615 : q_d cL_law 615 617 (.aload 12) 2 := ⟨by decide +kernel, rfl⟩
theorem dL_law_617 : q_d cL_law 617 620 (.getfield 260) 3 := ⟨by decide +kernel, rfl⟩
theorem dL_law_620 : q_d cL_law 620 621 (.iconst 2) 1 := ⟨by decide +kernel, rfl⟩
theorem dL_law_621 : q_j cL_law 621 624 636 (fun o => .if_icmp .ne o) := ⟨15, by decide +kernel, rfl, rfl⟩
theorem dL_law_624 : q_d cL_law 624 626 (.aload 12) 2 := ⟨by decide +kernel, rfl⟩
theorem dL_law_626 : q_d cL_law 626 629 (.getfield 280) 3 := ⟨by decide +kernel, rfl⟩
theorem dL_law_629 : q_j cL_law 629 632 636 (fun o => .ifCond .ne o) := ⟨7, by decide +kernel, rfl, rfl⟩
theorem dL_law_632 : q_d cL_law 632 633 (.iconst 1) 1 := ⟨by decide +kernel, rfl⟩
theorem dL_law_633 : q_j cL_law 633 636 637 (fun o => .goto o) := ⟨4, by decide +kernel, rfl, rfl⟩
theorem dL_law_636 : q_d cL_law 636 637 (.iconst 0) 1 := ⟨by decide +kernel, rfl⟩
theorem dL_law_637 : q_d cL_law 637 639 (.istore 13) 2 := ⟨by decide +kernel, rfl⟩
theorem dL_law_639 : q_d cL_law 639 641 (.aload 6) 2 := ⟨by decide +kernel, rfl⟩
theorem dL_law_641 : q_d cL_law 641 643 (.aload 12) 2 := ⟨by decide +kernel, rfl⟩
theorem dL_law_643 : q_d cL_law 643 644 (.iconst 0) 1 := ⟨by decide +kernel, rfl⟩
theorem dL_law_644 : q_d cL_law 644 647 (.invokevirtual 292) 3 := ⟨by decide +kernel, rfl⟩
theorem dL_law_647 : q_d cL_law 647 649 (.lstore 15) 2 := ⟨by decide +kernel, rfl⟩
theorem dL_law_649 : q_d cL_law 649 650 (.aload_n 3) 1 := ⟨by decide +kernel, rfl⟩
theorem dL_law_650 : q_d cL_law 650 652 (.iload 11) 2 := ⟨by decide +kernel, rfl⟩
theorem dL_law_652 : q_d cL_law 652 655 (.invokestatic 357) 3 := ⟨by decide +kernel, rfl⟩
theorem dL_law_655 : q_d cL_law 655 657 (.iload 13) 2 := ⟨by decide +kernel, rfl⟩
theorem dL_law_657 : q_j cL_law 657 660 665 (fun o => .ifCond .eq o) := ⟨8, by decide +kernel, rfl, rfl⟩
theorem dL_law_660 : q_d cL_law 660 662 (.lload 15) 2 := ⟨by decide +kernel, rfl⟩
theorem dL_law_662 : q_j cL_law 662 665 668 (fun o => .goto o) := ⟨6, by decide +kernel, rfl, rfl⟩
theorem dL_law_665 : q_d cL_law 665 668 (.ldc2_w 71) 3 := ⟨by decide +kernel, rfl⟩
theorem dL_law_668 : q_d cL_law 668 669 (.lcmp) 1 := ⟨by decide +kernel, rfl⟩
theorem dL_law_669 : q_j cL_law 669 672 676 (fun o => .ifCond .ne o) := ⟨7, by decide +kernel, rfl, rfl⟩
theorem dL_law_672 : q_d cL_law 672 673 (.iconst 1) 1 := ⟨by decide +kernel, rfl⟩
theorem dL_law_673 : q_j cL_law 673 676 677 (fun o => .goto o) := ⟨4, by decide +kernel, rfl, rfl⟩
theorem dL_law_676 : q_d cL_law 676 677 (.iconst 0) 1 := ⟨by decide +kernel, rfl⟩
theorem dL_law_677 : q_d cL_law 677 678 (.istore_n 1) 1 := ⟨by decide +kernel, rfl⟩
theorem dL_law_678 : q_d cL_law 678 680 (.iload 13) 2 := ⟨by decide +kernel, rfl⟩
theorem dL_law_680 : q_j cL_law 680 683 733 (fun o => .ifCond .eq o) := ⟨53, by decide +kernel, rfl, rfl⟩
theorem dL_law_683 : q_d cL_law 683 685 (.aload 6) 2 := ⟨by decide +kernel, rfl⟩
theorem dL_law_685 : q_d cL_law 685 688 (.getfield 301) 3 := ⟨by decide +kernel, rfl⟩
theorem dL_law_688 : q_d cL_law 688 690 (.aload 12) 2 := ⟨by decide +kernel, rfl⟩
theorem dL_law_690 : q_d cL_law 690 693 (.getfield 263) 3 := ⟨by decide +kernel, rfl⟩
theorem dL_law_693 : q_d cL_law 693 694 (.dup2) 1 := ⟨by decide +kernel, rfl⟩
theorem dL_law_694 : q_d cL_law 694 695 (.laload) 1 := ⟨by decide +kernel, rfl⟩
theorem dL_law_695 : q_d cL_law 695 697 (.lload 15) 2 := ⟨by decide +kernel, rfl⟩
theorem dL_law_697 : q_d cL_law 697 699 (.aload 12) 2 := ⟨by decide +kernel, rfl⟩
theorem dL_law_699 : q_d cL_law 699 702 (.getfield 227) 3 := ⟨by decide +kernel, rfl⟩
theorem dL_law_702 : q_d cL_law 702 703 (.lsub) 1 := ⟨by decide +kernel, rfl⟩
theorem dL_law_703 : q_d cL_law 703 704 (.ladd) 1 := ⟨by decide +kernel, rfl⟩
theorem dL_law_704 : q_d cL_law 704 705 (.lastore) 1 := ⟨by decide +kernel, rfl⟩
theorem dL_law_705 : q_d cL_law 705 707 (.aload 6) 2 := ⟨by decide +kernel, rfl⟩
theorem dL_law_707 : q_d cL_law 707 710 (.getfield 235) 3 := ⟨by decide +kernel, rfl⟩
theorem dL_law_710 : q_d cL_law 710 712 (.bipush 6) 2 := ⟨by decide +kernel, rfl⟩
theorem dL_law_712 : q_d cL_law 712 713 (.dup2) 1 := ⟨by decide +kernel, rfl⟩
theorem dL_law_713 : q_d cL_law 713 714 (.laload) 1 := ⟨by decide +kernel, rfl⟩
theorem dL_law_714 : q_d cL_law 714 716 (.aload 12) 2 := ⟨by decide +kernel, rfl⟩
theorem dL_law_716 : q_d cL_law 716 719 (.getfield 227) 3 := ⟨by decide +kernel, rfl⟩
theorem dL_law_719 : q_d cL_law 719 720 (.ladd) 1 := ⟨by decide +kernel, rfl⟩
theorem dL_law_720 : q_d cL_law 720 721 (.lastore) 1 := ⟨by decide +kernel, rfl⟩
theorem dL_law_721 : q_d cL_law 721 723 (.aload 12) 2 := ⟨by decide +kernel, rfl⟩
theorem dL_law_723 : q_d cL_law 723 724 (.lconst 0) 1 := ⟨by decide +kernel, rfl⟩
theorem dL_law_724 : q_d cL_law 724 727 (.putfield 227) 3 := ⟨by decide +kernel, rfl⟩
theorem dL_law_727 : q_d cL_law 727 729 (.aload 12) 2 := ⟨by decide +kernel, rfl⟩
theorem dL_law_729 : q_d cL_law 729 730 (.iconst 3) 1 := ⟨by decide +kernel, rfl⟩
theorem dL_law_730 : q_d cL_law 730 733 (.putfield 260) 3 := ⟨by decide +kernel, rfl⟩
theorem dL_law_733 : q_j cL_law 733 736 919 (fun o => .goto o) := ⟨186, by decide +kernel, rfl, rfl⟩
theorem dL_law_736 : q_d cL_law 736 738 (.iload 14) 2 := ⟨by decide +kernel, rfl⟩
theorem dL_law_738 : q_d cL_law 738 740 (.bipush 9) 2 := ⟨by decide +kernel, rfl⟩
theorem dL_law_740 : q_j cL_law 740 743 841 (fun o => .if_icmp .ne o) := ⟨101, by decide +kernel, rfl, rfl⟩
theorem dL_law_743 : q_d cL_law 743 745 (.aload 6) 2 := ⟨by decide +kernel, rfl⟩
theorem dL_law_745 : q_d cL_law 745 747 (.aload 12) 2 := ⟨by decide +kernel, rfl⟩
theorem dL_law_747 : q_d cL_law 747 750 (.invokevirtual 256) 3 := ⟨by decide +kernel, rfl⟩
theorem dL_law_750 : q_d cL_law 750 752 (.istore 15) 2 := ⟨by decide +kernel, rfl⟩
theorem dL_law_752 : q_d cL_law 752 754 (.aload 12) 2 := ⟨by decide +kernel, rfl⟩
theorem dL_law_754 : q_d cL_law 754 757 (.getfield 260) 3 := ⟨by decide +kernel, rfl⟩
theorem dL_law_757 : q_d cL_law 757 758 (.iconst 2) 1 := ⟨by decide +kernel, rfl⟩
theorem dL_law_758 : q_j cL_law 758 761 780 (fun o => .if_icmp .ne o) := ⟨22, by decide +kernel, rfl, rfl⟩
theorem dL_law_761 : q_d cL_law 761 763 (.iload 15) 2 := ⟨by decide +kernel, rfl⟩
theorem dL_law_763 : q_j cL_law 763 766 780 (fun o => .ifCond .lt o) := ⟨17, by decide +kernel, rfl, rfl⟩
theorem dL_law_766 : q_d cL_law 766 768 (.iload 15) 2 := ⟨by decide +kernel, rfl⟩
theorem dL_law_768 : q_d cL_law 768 770 (.aload 12) 2 := ⟨by decide +kernel, rfl⟩
theorem dL_law_770 : q_d cL_law 770 773 (.getfield 263) 3 := ⟨by decide +kernel, rfl⟩
theorem dL_law_773 : q_j cL_law 773 776 780 (fun o => .if_icmp .eq o) := ⟨7, by decide +kernel, rfl, rfl⟩
theorem dL_law_776 : q_d cL_law 776 777 (.iconst 1) 1 := ⟨by decide +kernel, rfl⟩
theorem dL_law_777 : q_j cL_law 777 780 781 (fun o => .goto o) := ⟨4, by decide +kernel, rfl, rfl⟩
theorem dL_law_780 : q_d cL_law 780 781 (.iconst 0) 1 := ⟨by decide +kernel, rfl⟩
theorem dL_law_781 : q_d cL_law 781 783 (.istore 13) 2 := ⟨by decide +kernel, rfl⟩
theorem dL_law_783 : q_d cL_law 783 784 (.aload_n 3) 1 := ⟨by decide +kernel, rfl⟩
theorem dL_law_784 : q_d cL_law 784 786 (.iload 11) 2 := ⟨by decide +kernel, rfl⟩
theorem dL_law_786 : q_d cL_law 786 789 (.invokestatic 359) 3 := ⟨by decide +kernel, rfl⟩
theorem dL_law_789 : q_d cL_law 789 791 (.iload 13) 2 := ⟨by decide +kernel, rfl⟩
theorem dL_law_791 : q_j cL_law 791 794 799 (fun o => .ifCond .eq o) := ⟨8, by decide +kernel, rfl, rfl⟩
theorem dL_law_794 : q_d cL_law 794 796 (.iload 15) 2 := ⟨by decide +kernel, rfl⟩
theorem dL_law_796 : q_j cL_law 796 799 801 (fun o => .goto o) := ⟨5, by decide +kernel, rfl, rfl⟩
theorem dL_law_799 : q_d cL_law 799 801 (.ldc 45) 2 := ⟨by decide +kernel, rfl⟩
theorem dL_law_801 : q_j cL_law 801 804 808 (fun o => .if_icmp .ne o) := ⟨7, by decide +kernel, rfl, rfl⟩
theorem dL_law_804 : q_d cL_law 804 805 (.iconst 1) 1 := ⟨by decide +kernel, rfl⟩
theorem dL_law_805 : q_j cL_law 805 808 809 (fun o => .goto o) := ⟨4, by decide +kernel, rfl, rfl⟩
theorem dL_law_808 : q_d cL_law 808 809 (.iconst 0) 1 := ⟨by decide +kernel, rfl⟩
theorem dL_law_809 : q_d cL_law 809 810 (.istore_n 1) 1 := ⟨by decide +kernel, rfl⟩
theorem dL_law_810 : q_d cL_law 810 812 (.iload 13) 2 := ⟨by decide +kernel, rfl⟩
theorem dL_law_812 : q_j cL_law 812 815 838 (fun o => .ifCond .eq o) := ⟨26, by decide +kernel, rfl, rfl⟩
theorem dL_law_815 : q_d cL_law 815 817 (.aload 12) 2 := ⟨by decide +kernel, rfl⟩
theorem dL_law_817 : q_d cL_law 817 819 (.iload 15) 2 := ⟨by decide +kernel, rfl⟩
theorem dL_law_819 : q_d cL_law 819 822 (.putfield 263) 3 := ⟨by decide +kernel, rfl⟩
theorem dL_law_822 : q_d cL_law 822 824 (.aload 6) 2 := ⟨by decide +kernel, rfl⟩
theorem dL_law_824 : q_d cL_law 824 827 (.getfield 304) 3 := ⟨by decide +kernel, rfl⟩
theorem dL_law_827 : q_d cL_law 827 829 (.iload 15) 2 := ⟨by decide +kernel, rfl⟩
theorem dL_law_829 : q_d cL_law 829 830 (.dup2) 1 := ⟨by decide +kernel, rfl⟩
theorem dL_law_830 : q_d cL_law 830 831 (.laload) 1 := ⟨by decide +kernel, rfl⟩
theorem dL_law_831 : q_d cL_law 831 833 (.aload 12) 2 := ⟨by decide +kernel, rfl⟩
theorem dL_law_833 : q_d cL_law 833 836 (.getfield 227) 3 := ⟨by decide +kernel, rfl⟩
theorem dL_law_836 : q_d cL_law 836 837 (.ladd) 1 := ⟨by decide +kernel, rfl⟩
theorem dL_law_837 : q_d cL_law 837 838 (.lastore) 1 := ⟨by decide +kernel, rfl⟩
theorem dL_law_838 : q_j cL_law 838 841 919 (fun o => .goto o) := ⟨81, by decide +kernel, rfl, rfl⟩
theorem dL_law_841 : q_d cL_law 841 843 (.aload 12) 2 := ⟨by decide +kernel, rfl⟩
theorem dL_law_843 : q_d cL_law 843 846 (.invokevirtual 252) 3 := ⟨by decide +kernel, rfl⟩
theorem dL_law_846 : q_j cL_law 846 849 862 (fun o => .ifCond .eq o) := ⟨16, by decide +kernel, rfl, rfl⟩
theorem dL_law_849 : q_d cL_law 849 851 (.aload 5) 2 := ⟨by decide +kernel, rfl⟩
theorem dL_law_851 : q_d cL_law 851 852 (.iconst 2) 1 := ⟨by decide +kernel, rfl⟩
theorem dL_law_852 : q_d cL_law 852 855 (.invokevirtual 145) 3 := ⟨by decide +kernel, rfl⟩
theorem dL_law_855 : q_j cL_law 855 858 862 (fun o => .ifCond .ne o) := ⟨7, by decide +kernel, rfl, rfl⟩
theorem dL_law_858 : q_d cL_law 858 859 (.iconst 1) 1 := ⟨by decide +kernel, rfl⟩
theorem dL_law_859 : q_j cL_law 859 862 863 (fun o => .goto o) := ⟨4, by decide +kernel, rfl, rfl⟩
theorem dL_law_862 : q_d cL_law 862 863 (.iconst 0) 1 := ⟨by decide +kernel, rfl⟩
theorem dL_law_863 : q_d cL_law 863 865 (.istore 13) 2 := ⟨by decide +kernel, rfl⟩
theorem dL_law_865 : q_d cL_law 865 867 (.iload 13) 2 := ⟨by decide +kernel, rfl⟩
theorem dL_law_867 : q_j cL_law 867 870 919 (fun o => .ifCond .eq o) := ⟨52, by decide +kernel, rfl, rfl⟩
theorem dL_law_870 : q_d cL_law 870 871 (.aload_n 3) 1 := ⟨by decide +kernel, rfl⟩
theorem dL_law_871 : q_d cL_law 871 873 (.iload 11) 2 := ⟨by decide +kernel, rfl⟩
theorem dL_law_873 : q_d cL_law 873 876 (.invokestatic 361) 3 := ⟨by decide +kernel, rfl⟩
theorem dL_law_876 : q_d cL_law 876 877 (.i2l) 1 := ⟨by decide +kernel, rfl⟩
theorem dL_law_877 : q_d cL_law 877 879 (.aload 12) 2 := ⟨by decide +kernel, rfl⟩
theorem dL_law_879 : q_d cL_law 879 882 (.getfield 227) 3 := ⟨by decide +kernel, rfl⟩
theorem dL_law_882 : q_d cL_law 882 883 (.lcmp) 1 := ⟨by decide +kernel, rfl⟩
theorem dL_law_883 : q_j cL_law 883 886 890 (fun o => .ifCond .ne o) := ⟨7, by decide +kernel, rfl, rfl⟩
theorem dL_law_886 : q_d cL_law 886 887 (.iconst 1) 1 := ⟨by decide +kernel, rfl⟩
theorem dL_law_887 : q_j cL_law 887 890 891 (fun o => .goto o) := ⟨4, by decide +kernel, rfl, rfl⟩
theorem dL_law_890 : q_d cL_law 890 891 (.iconst 0) 1 := ⟨by decide +kernel, rfl⟩
theorem dL_law_891 : q_d cL_law 891 892 (.istore_n 1) 1 := ⟨by decide +kernel, rfl⟩
theorem dL_law_892 : q_d cL_law 892 894 (.aload 6) 2 := ⟨by decide +kernel, rfl⟩
theorem dL_law_894 : q_d cL_law 894 897 (.getfield 235) 3 := ⟨by decide +kernel, rfl⟩
theorem dL_law_897 : q_d cL_law 897 898 (.iconst 2) 1 := ⟨by decide +kernel, rfl⟩
theorem dL_law_898 : q_d cL_law 898 899 (.dup2) 1 := ⟨by decide +kernel, rfl⟩
theorem dL_law_899 : q_d cL_law 899 900 (.laload) 1 := ⟨by decide +kernel, rfl⟩
theorem dL_law_900 : q_d cL_law 900 902 (.aload 12) 2 := ⟨by decide +kernel, rfl⟩
theorem dL_law_902 : q_d cL_law 902 905 (.getfield 227) 3 := ⟨by decide +kernel, rfl⟩
theorem dL_law_905 : q_d cL_law 905 906 (.ladd) 1 := ⟨by decide +kernel, rfl⟩
theorem dL_law_906 : q_d cL_law 906 907 (.lastore) 1 := ⟨by decide +kernel, rfl⟩
theorem dL_law_907 : q_d cL_law 907 909 (.aload 12) 2 := ⟨by decide +kernel, rfl⟩
theorem dL_law_909 : q_d cL_law 909 910 (.lconst 0) 1 := ⟨by decide +kernel, rfl⟩
theorem dL_law_910 : q_d cL_law 910 913 (.putfield 227) 3 := ⟨by decide +kernel, rfl⟩
theorem dL_law_913 : q_d cL_law 913 915 (.aload 12) 2 := ⟨by decide +kernel, rfl⟩
theorem dL_law_915 : q_d cL_law 915 916 (.iconst 4) 1 := ⟨by decide +kernel, rfl⟩
theorem dL_law_916 : q_d cL_law 916 919 (.putfield 260) 3 := ⟨by decide +kernel, rfl⟩
theorem dL_law_919 : q_d cL_law 919 921 (.iload 13) 2 := ⟨by decide +kernel, rfl⟩
theorem dL_law_921 : q_j cL_law 921 924 934 (fun o => .ifCond .eq o) := ⟨13, by decide +kernel, rfl, rfl⟩
theorem dL_law_924 : q_d cL_law 924 926 (.aload 7) 2 := ⟨by decide +kernel, rfl⟩
theorem dL_law_926 : q_d cL_law 926 928 (.iload 8) 2 := ⟨by decide +kernel, rfl⟩
theorem dL_law_928 : q_d cL_law 928 930 (.aload 10) 2 := ⟨by decide +kernel, rfl⟩
theorem dL_law_930 : q_d cL_law 930 931 (.aastore) 1 := ⟨by decide +kernel, rfl⟩
theorem dL_law_931 : q_d cL_law 931 934 (.iinc 8 1) 3 := ⟨by decide +kernel, rfl⟩
theorem dL_law_934 : q_d cL_law 934 935 (.iload_n 1) 1 := ⟨by decide +kernel, rfl⟩
theorem dL_law_935 : q_j cL_law 935 938 969 (fun o => .ifCond .eq o) := ⟨34, by decide +kernel, rfl, rfl⟩
theorem dL_law_938 : q_d cL_law 938 939 (.aload_n 3) 1 := ⟨by decide +kernel, rfl⟩
theorem dL_law_939 : q_d cL_law 939 941 (.aload 6) 2 := ⟨by decide +kernel, rfl⟩
theorem dL_law_941 : q_d cL_law 941 944 (.invokestatic 338) 3 := ⟨by decide +kernel, rfl⟩
theorem dL_law_944 : q_j cL_law 944 947 969 (fun o => .ifCond .eq o) := ⟨25, by decide +kernel, rfl, rfl⟩
theorem dL_law_947 : q_d cL_law 947 948 (.aload_n 3) 1 := ⟨by decide +kernel, rfl⟩
theorem dL_law_948 : q_d cL_law 948 950 (.bipush 9) 2 := ⟨by decide +kernel, rfl⟩
theorem dL_law_950 : q_d cL_law 950 953 (.invokestatic 241) 3 := ⟨by decide +kernel, rfl⟩
theorem dL_law_953 : q_d cL_law 953 955 (.bipush 8) 2 := ⟨by decide +kernel, rfl⟩
theorem dL_law_955 : q_d cL_law 955 956 (.iconst 4) 1 := ⟨by decide +kernel, rfl⟩
theorem dL_law_956 : q_d cL_law 956 958 (.iload 8) 2 := ⟨by decide +kernel, rfl⟩
theorem dL_law_958 : q_d cL_law 958 959 (.iadd) 1 := ⟨by decide +kernel, rfl⟩
theorem dL_law_959 : q_d cL_law 959 962 (.invokestatic 363) 3 := ⟨by decide +kernel, rfl⟩
theorem dL_law_962 : q_j cL_law 962 965 969 (fun o => .if_icmp .ne o) := ⟨7, by decide +kernel, rfl, rfl⟩
theorem dL_law_965 : q_d cL_law 965 966 (.iconst 1) 1 := ⟨by decide +kernel, rfl⟩
theorem dL_law_966 : q_j cL_law 966 969 970 (fun o => .goto o) := ⟨4, by decide +kernel, rfl, rfl⟩
theorem dL_law_969 : q_d cL_law 969 970 (.iconst 0) 1 := ⟨by decide +kernel, rfl⟩
theorem dL_law_970 : q_d cL_law 970 971 (.istore_n 1) 1 := ⟨by decide +kernel, rfl⟩
theorem dL_law_971 : q_d cL_law 971 974 (.iinc 9 1) 3 := ⟨by decide +kernel, rfl⟩
theorem dL_law_974 : q_j cL_law 974 977 188 (fun o => .goto o) := ⟨(-786), by decide +kernel, rfl, rfl⟩
theorem dL_law_977 : q_d cL_law 977 979 (.bipush 8) 2 := ⟨by decide +kernel, rfl⟩
theorem dL_law_979 : q_d cL_law 979 981 (.iload 8) 2 := ⟨by decide +kernel, rfl⟩
theorem dL_law_981 : q_d cL_law 981 984 (.invokestatic 363) 3 := ⟨by decide +kernel, rfl⟩
theorem dL_law_984 : q_d cL_law 984 986 (.istore 9) 2 := ⟨by decide +kernel, rfl⟩
theorem dL_law_986 : q_d cL_law 986 988 (.iload 9) 2 := ⟨by decide +kernel, rfl⟩
theorem dL_law_988 : q_j cL_law 988 991 1031 (fun o => .ifCond .le o) := ⟨43, by decide +kernel, rfl, rfl⟩
theorem dL_law_991 : q_d cL_law 991 992 (.iload_n 1) 1 := ⟨by decide +kernel, rfl⟩
theorem dL_law_992 : q_j cL_law 992 995 1031 (fun o => .ifCond .eq o) := ⟨39, by decide +kernel, rfl, rfl⟩
theorem dL_law_995 : q_d cL_law 995 998 (.iinc 9 (-1)) 3 := ⟨by decide +kernel, rfl⟩
theorem dL_law_998 : q_d cL_law 998 1001 (.iinc 8 (-1)) 3 := ⟨by decide +kernel, rfl⟩
theorem dL_law_1001 : q_d cL_law 1001 1002 (.aload_n 3) 1 := ⟨by decide +kernel, rfl⟩
theorem dL_law_1002 : q_d cL_law 1002 1005 (.invokevirtual 324) 3 := ⟨by decide +kernel, rfl⟩
theorem dL_law_1005 : q_d cL_law 1005 1007 (.iload 9) 2 := ⟨by decide +kernel, rfl⟩
theorem dL_law_1007 : q_j cL_law 1007 1010 1026 (fun o => .if_icmp .lt o) := ⟨19, by decide +kernel, rfl, rfl⟩
theorem dL_law_1010 : q_d cL_law 1010 1011 (.aload_n 3) 1 := ⟨by decide +kernel, rfl⟩
theorem dL_law_1011 : q_d cL_law 1011 1013 (.aload 7) 2 := ⟨by decide +kernel, rfl⟩
theorem dL_law_1013 : q_d cL_law 1013 1015 (.iload 8) 2 := ⟨by decide +kernel, rfl⟩
theorem dL_law_1015 : q_d cL_law 1015 1016 (.aaload) 1 := ⟨by decide +kernel, rfl⟩
theorem dL_law_1016 : q_d cL_law 1016 1019 (.invokestatic 338) 3 := ⟨by decide +kernel, rfl⟩
theorem dL_law_1019 : q_j cL_law 1019 1022 1026 (fun o => .ifCond .eq o) := ⟨7, by decide +kernel, rfl, rfl⟩
theorem dL_law_1022 : q_d cL_law 1022 1023 (.iconst 1) 1 := ⟨by decide +kernel, rfl⟩
theorem dL_law_1023 : q_j cL_law 1023 1026 1027 (fun o => .goto o) := ⟨4, by decide +kernel, rfl, rfl⟩
theorem dL_law_1026 : q_d cL_law 1026 1027 (.iconst 0) 1 := ⟨by decide +kernel, rfl⟩
theorem dL_law_1027 : q_d cL_law 1027 1028 (.istore_n 1) 1 := ⟨by decide +kernel, rfl⟩
theorem dL_law_1028 : q_j cL_law 1028 1031 986 (fun o => .goto o) := ⟨(-42), by decide +kernel, rfl, rfl⟩
theorem dL_law_1031 : q_d cL_law 1031 1032 (.iload_n 1) 1 := ⟨by decide +kernel, rfl⟩
theorem dL_law_1032 : q_j cL_law 1032 1035 1225 (fun o => .ifCond .eq o) := ⟨193, by decide +kernel, rfl, rfl⟩
theorem dL_law_1035 : q_d cL_law 1035 1036 (.aload_n 3) 1 := ⟨by decide +kernel, rfl⟩
theorem dL_law_1036 : q_d cL_law 1036 1038 (.bipush 12) 2 := ⟨by decide +kernel, rfl⟩
theorem dL_law_1038 : q_d cL_law 1038 1041 (.invokestatic 349) 3 := ⟨by decide +kernel, rfl⟩
theorem dL_law_1041 : q_d cL_law 1041 1043 (.ldc 42) 2 := ⟨by decide +kernel, rfl⟩
theorem dL_law_1043 : q_j cL_law 1043 1046 1225 (fun o => .if_icmp .ne o) := ⟨182, by decide +kernel, rfl, rfl⟩
theorem dL_law_1046 : q_d cL_law 1046 1047 (.aload_n 3) 1 := ⟨by decide +kernel, rfl⟩
theorem dL_law_1047 : q_d cL_law 1047 1048 (.iconst 5) 1 := ⟨by decide +kernel, rfl⟩
theorem dL_law_1048 : q_d cL_law 1048 1049 (.iconst (-1)) 1 := ⟨by decide +kernel, rfl⟩
theorem dL_law_1049 : q_d cL_law 1049 1050 (.iconst (-1)) 1 := ⟨by decide +kernel, rfl⟩
theorem dL_law_1050 : q_d cL_law 1050 1051 (.iconst 0) 1 := ⟨by decide +kernel, rfl⟩
theorem dL_law_1051 : q_d cL_law 1051 1054 (.invokestatic 238) 3 := ⟨by decide +kernel, rfl⟩
theorem dL_law_1054 : q_d cL_law 1054 1056 (.ldc 35) 2 := ⟨by decide +kernel, rfl⟩
theorem dL_law_1056 : q_j cL_law 1056 1059 1225 (fun o => .if_icmp .ne o) := ⟨169, by decide +kernel, rfl, rfl⟩
theorem dL_law_1059 : q_d cL_law 1059 1060 (.aload_n 3) 1 := ⟨by decide +kernel, rfl⟩
theorem dL_law_1060 : q_d cL_law 1060 1061 (.iconst 0) 1 := ⟨by decide +kernel, rfl⟩
theorem dL_law_1061 : q_d cL_law 1061 1062 (.iconst (-1)) 1 := ⟨by decide +kernel, rfl⟩
theorem dL_law_1062 : q_d cL_law 1062 1063 (.iconst (-1)) 1 := ⟨by decide +kernel, rfl⟩
theorem dL_law_1063 : q_d cL_law 1063 1066 (.ldc_w 368) 3 := ⟨by decide +kernel, rfl⟩
theorem dL_law_1066 : q_d cL_law 1066 1069 (.invokestatic 238) 3 := ⟨by decide +kernel, rfl⟩
theorem dL_law_1069 : q_d cL_law 1069 1071 (.ldc 35) 2 := ⟨by decide +kernel, rfl⟩
theorem dL_law_1071 : q_j cL_law 1071 1074 1225 (fun o => .if_icmp .ne o) := ⟨154, by decide +kernel, rfl, rfl⟩
theorem dL_law_1074 : q_d cL_law 1074 1075 (.aload_n 3) 1 := ⟨by decide +kernel, rfl⟩
theorem dL_law_1075 : q_d cL_law 1075 1076 (.iconst 0) 1 := ⟨by decide +kernel, rfl⟩
theorem dL_law_1076 : q_d cL_law 1076 1078 (.aload 6) 2 := ⟨by decide +kernel, rfl⟩
theorem dL_law_1078 : q_d cL_law 1078 1081 (.getfield 150) 3 := ⟨by decide +kernel, rfl⟩
theorem dL_law_1081 : q_d cL_law 1081 1082 (.iconst (-1)) 1 := ⟨by decide +kernel, rfl⟩
theorem dL_law_1082 : q_d cL_law 1082 1083 (.iconst 0) 1 := ⟨by decide +kernel, rfl⟩
theorem dL_law_1083 : q_d cL_law 1083 1086 (.invokestatic 238) 3 := ⟨by decide +kernel, rfl⟩
theorem dL_law_1086 : q_d cL_law 1086 1088 (.ldc 42) 2 := ⟨by decide +kernel, rfl⟩
theorem dL_law_1088 : q_j cL_law 1088 1091 1225 (fun o => .if_icmp .ne o) := ⟨137, by decide +kernel, rfl, rfl⟩
theorem dL_law_1091 : q_d cL_law 1091 1092 (.aload_n 3) 1 := ⟨by decide +kernel, rfl⟩
theorem dL_law_1092 : q_d cL_law 1092 1093 (.iconst 0) 1 := ⟨by decide +kernel, rfl⟩
theorem dL_law_1093 : q_d cL_law 1093 1094 (.iconst 0) 1 := ⟨by decide +kernel, rfl⟩
theorem dL_law_1094 : q_d cL_law 1094 1097 (.invokestatic 351) 3 := ⟨by decide +kernel, rfl⟩
theorem dL_law_1097 : q_d cL_law 1097 1099 (.ldc 35) 2 := ⟨by decide +kernel, rfl⟩
theorem dL_law_1099 : q_j cL_law 1099 1102 1225 (fun o => .if_icmp .ne o) := ⟨126, by decide +kernel, rfl, rfl⟩
theorem dL_law_1102 : q_d cL_law 1102 1103 (.aload_n 3) 1 := ⟨by decide +kernel, rfl⟩
theorem dL_law_1103 : q_d cL_law 1103 1104 (.iconst 0) 1 := ⟨by decide +kernel, rfl⟩
theorem dL_law_1104 : q_d cL_law 1104 1107 (.ldc_w 369) 3 := ⟨by decide +kernel, rfl⟩
theorem dL_law_1107 : q_d cL_law 1107 1110 (.invokestatic 353) 3 := ⟨by decide +kernel, rfl⟩
theorem dL_law_1110 : q_d cL_law 1110 1112 (.ldc 35) 2 := ⟨by decide +kernel, rfl⟩
theorem dL_law_1112 : q_j cL_law 1112 1115 1225 (fun o => .if_icmp .ne o) := ⟨113, by decide +kernel, rfl, rfl⟩
theorem dL_law_1115 : q_d cL_law 1115 1116 (.aload_n 3) 1 := ⟨by decide +kernel, rfl⟩
theorem dL_law_1116 : q_d cL_law 1116 1117 (.iconst 0) 1 := ⟨by decide +kernel, rfl⟩
theorem dL_law_1117 : q_d cL_law 1117 1119 (.aload 6) 2 := ⟨by decide +kernel, rfl⟩
theorem dL_law_1119 : q_d cL_law 1119 1122 (.getfield 150) 3 := ⟨by decide +kernel, rfl⟩
theorem dL_law_1122 : q_d cL_law 1122 1125 (.invokestatic 355) 3 := ⟨by decide +kernel, rfl⟩
theorem dL_law_1125 : q_d cL_law 1125 1127 (.ldc 42) 2 := ⟨by decide +kernel, rfl⟩
theorem dL_law_1127 : q_j cL_law 1127 1130 1225 (fun o => .if_icmp .ne o) := ⟨98, by decide +kernel, rfl, rfl⟩
theorem dL_law_1130 : q_d cL_law 1130 1131 (.aload_n 3) 1 := ⟨by decide +kernel, rfl⟩
theorem dL_law_1131 : q_d cL_law 1131 1132 (.iconst 0) 1 := ⟨by decide +kernel, rfl⟩
theorem dL_law_1132 : q_d cL_law 1132 1135 (.invokestatic 346) 3 := ⟨by decide +kernel, rfl⟩
theorem dL_law_1135 : q_d cL_law 1135 1137 (.ldc 35) 2 := ⟨by decide +kernel, rfl⟩
theorem dL_law_1137 : q_j cL_law 1137 1140 1225 (fun o => .if_icmp .ne o) := ⟨88, by decide +kernel, rfl, rfl⟩
theorem dL_law_1140 : q_d cL_law 1140 1141 (.aload_n 3) 1 := ⟨by decide +kernel, rfl⟩
theorem dL_law_1141 : q_d cL_law 1141 1143 (.bipush 121) 2 := ⟨by decide +kernel, rfl⟩
theorem dL_law_1143 : q_d cL_law 1143 1146 (.invokestatic 346) 3 := ⟨by decide +kernel, rfl⟩
theorem dL_law_1146 : q_d cL_law 1146 1148 (.ldc 35) 2 := ⟨by decide +kernel, rfl⟩
theorem dL_law_1148 : q_j cL_law 1148 1151 1225 (fun o => .if_icmp .ne o) := ⟨77, by decide +kernel, rfl, rfl⟩
theorem dL_law_1151 : q_d cL_law 1151 1152 (.aload_n 3) 1 := ⟨by decide +kernel, rfl⟩
theorem dL_law_1152 : q_d cL_law 1152 1154 (.bipush 10) 2 := ⟨by decide +kernel, rfl⟩
theorem dL_law_1154 : q_d cL_law 1154 1157 (.invokestatic 241) 3 := ⟨by decide +kernel, rfl⟩
theorem dL_law_1157 : q_d cL_law 1157 1159 (.ldc 35) 2 := ⟨by decide +kernel, rfl⟩
theorem dL_law_1159 : q_j cL_law 1159 1162 1225 (fun o => .if_icmp .ne o) := ⟨66, by decide +kernel, rfl, rfl⟩
theorem dL_law_1162 : q_d cL_law 1162 1163 (.aload_n 3) 1 := ⟨by decide +kernel, rfl⟩
theorem dL_law_1163 : q_d cL_law 1163 1165 (.aload 6) 2 := ⟨by decide +kernel, rfl⟩
theorem dL_law_1165 : q_d cL_law 1165 1168 (.getfield 150) 3 := ⟨by decide +kernel, rfl⟩
theorem dL_law_1168 : q_d cL_law 1168 1169 (.iconst 0) 1 := ⟨by decide +kernel, rfl⟩
theorem dL_law_1169 : q_d cL_law 1169 1172 (.invokestatic 297) 3 := ⟨by decide +kernel, rfl⟩
theorem dL_law_1172 : q_d cL_law 1172 1174 (.ldc 42) 2 := ⟨by decide +kernel, rfl⟩
theorem dL_law_1174 : q_j cL_law 1174 1177 1225 (fun o => .if_icmp .ne o) := ⟨51, by decide +kernel, rfl, rfl⟩
theorem dL_law_1177 : q_d cL_law 1177 1178 (.aload_n 3) 1 := ⟨by decide +kernel, rfl⟩
theorem dL_law_1178 : q_d cL_law 1178 1179 (.iconst 5) 1 := ⟨by decide +kernel, rfl⟩
theorem dL_law_1179 : q_d cL_law 1179 1182 (.invokestatic 314) 3 := ⟨by decide +kernel, rfl⟩
theorem dL_law_1182 : q_d cL_law 1182 1184 (.ldc 35) 2 := ⟨by decide +kernel, rfl⟩
theorem dL_law_1184 : q_j cL_law 1184 1187 1225 (fun o => .if_icmp .ne o) := ⟨41, by decide +kernel, rfl, rfl⟩
theorem dL_law_1187 : q_d cL_law 1187 1188 (.aload_n 3) 1 := ⟨by decide +kernel, rfl⟩
theorem dL_law_1188 : q_d cL_law 1188 1189 (.iconst (-1)) 1 := ⟨by decide +kernel, rfl⟩
theorem dL_law_1189 : q_d cL_law 1189 1192 (.invokestatic 357) 3 := ⟨by decide +kernel, rfl⟩
theorem dL_law_1192 : q_d cL_law 1192 1195 (.ldc2_w 69) 3 := ⟨by decide +kernel, rfl⟩
theorem dL_law_1195 : q_d cL_law 1195 1196 (.lcmp) 1 := ⟨by decide +kernel, rfl⟩
theorem dL_law_1196 : q_j cL_law 1196 1199 1225 (fun o => .ifCond .ne o) := ⟨29, by decide +kernel, rfl, rfl⟩
theorem dL_law_1199 : q_d cL_law 1199 1200 (.aload_n 3) 1 := ⟨by decide +kernel, rfl⟩
theorem dL_law_1200 : q_d cL_law 1200 1202 (.bipush 99) 2 := ⟨by decide +kernel, rfl⟩
theorem dL_law_1202 : q_d cL_law 1202 1205 (.invokestatic 359) 3 := ⟨by decide +kernel, rfl⟩
theorem dL_law_1205 : q_d cL_law 1205 1207 (.ldc 42) 2 := ⟨by decide +kernel, rfl⟩
theorem dL_law_1207 : q_j cL_law 1207 1210 1225 (fun o => .if_icmp .ne o) := ⟨18, by decide +kernel, rfl, rfl⟩
theorem dL_law_1210 : q_d cL_law 1210 1211 (.aload_n 3) 1 := ⟨by decide +kernel, rfl⟩
theorem dL_law_1211 : q_d cL_law 1211 1213 (.bipush 13) 2 := ⟨by decide +kernel, rfl⟩
theorem dL_law_1213 : q_d cL_law 1213 1216 (.invokestatic 361) 3 := ⟨by decide +kernel, rfl⟩
theorem dL_law_1216 : q_d cL_law 1216 1218 (.ldc 42) 2 := ⟨by decide +kernel, rfl⟩
theorem dL_law_1218 : q_j cL_law 1218 1221 1225 (fun o => .if_icmp .ne o) := ⟨7, by decide +kernel, rfl, rfl⟩
theorem dL_law_1221 : q_d cL_law 1221 1222 (.iconst 1) 1 := ⟨by decide +kernel, rfl⟩
theorem dL_law_1222 : q_j cL_law 1222 1225 1226 (fun o => .goto o) := ⟨4, by decide +kernel, rfl, rfl⟩
theorem dL_law_1225 : q_d cL_law 1225 1226 (.iconst 0) 1 := ⟨by decide +kernel, rfl⟩
theorem dL_law_1226 : q_d cL_law 1226 1227 (.istore_n 1) 1 := ⟨by decide +kernel, rfl⟩
theorem dL_law_1227 : q_d cL_law 1227 1230 (.iinc 2 1) 3 := ⟨by decide +kernel, rfl⟩
theorem dL_law_1230 : q_j cL_law 1230 1233 4 (fun o => .goto o) := ⟨(-1226), by decide +kernel, rfl, rfl⟩
theorem dL_law_1233 : q_d cL_law 1233 1234 (.iload_n 1) 1 := ⟨by decide +kernel, rfl⟩
theorem dL_law_1234 : q_d cL_law 1234 1235 (.ireturn) 1 := ⟨by decide +kernel, rfl⟩
