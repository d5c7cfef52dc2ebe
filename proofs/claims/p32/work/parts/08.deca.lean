theorem dX0_init_0 : q_d cX0_init 0 1 (.aload_n 0) 1 := ⟨by decide +kernel, rfl⟩
theorem dX0_init_1 : q_d cX0_init 1 4 (.invokespecial 3) 3 := ⟨by decide +kernel, rfl⟩
theorem dX0_init_4 : q_d cX0_init 4 5 (.return_) 1 := ⟨by decide +kernel, rfl⟩
theorem dX0_start_0 : q_d cX0_start 0 1 (.aload_n 0) 1 := ⟨by decide +kernel, rfl⟩
theorem dX0_start_1 : q_d cX0_start 1 2 (.iload_n 1) 1 := ⟨by decide +kernel, rfl⟩
theorem dX0_start_2 : q_d cX0_start 2 5 (.putfield 9) 3 := ⟨by decide +kernel, rfl⟩
theorem dX0_start_5 : q_d cX0_start 5 6 (.aload_n 0) 1 := ⟨by decide +kernel, rfl⟩
theorem dX0_start_6 : q_d cX0_start 6 7 (.iload_n 2) 1 := ⟨by decide +kernel, rfl⟩
theorem dX0_start_7 : q_d cX0_start 7 10 (.putfield 15) 3 := ⟨by decide +kernel, rfl⟩
theorem dX0_start_10 : q_d cX0_start 10 11 (.aload_n 0) 1 := ⟨by decide +kernel, rfl⟩
theorem dX0_start_11 : q_d cX0_start 11 12 (.iload_n 3) 1 := ⟨by decide +kernel, rfl⟩
theorem dX0_start_12 : q_d cX0_start 12 15 (.putfield 18) 3 := ⟨by decide +kernel, rfl⟩
theorem dX0_start_15 : q_d cX0_start 15 16 (.aload_n 0) 1 := ⟨by decide +kernel, rfl⟩
theorem dX0_start_16 : q_d cX0_start 16 18 (.iload 4) 2 := ⟨by decide +kernel, rfl⟩
theorem dX0_start_18 : q_d cX0_start 18 21 (.putfield 21) 3 := ⟨by decide +kernel, rfl⟩
theorem dX0_start_21 : q_d cX0_start 21 22 (.aload_n 0) 1 := ⟨by decide +kernel, rfl⟩
theorem dX0_start_22 : q_d cX0_start 22 23 (.iconst 0) 1 := ⟨by decide +kernel, rfl⟩
theorem dX0_start_23 : q_d cX0_start 23 26 (.putfield 24) 3 := ⟨by decide +kernel, rfl⟩
theorem dX0_start_26 : q_d cX0_start 26 27 (.aload_n 0) 1 := ⟨by decide +kernel, rfl⟩
theorem dX0_start_27 : q_d cX0_start 27 28 (.iconst 0) 1 := ⟨by decide +kernel, rfl⟩
theorem dX0_start_28 : q_d cX0_start 28 31 (.putfield 27) 3 := ⟨by decide +kernel, rfl⟩
theorem dX0_start_31 : q_d cX0_start 31 32 (.aload_n 0) 1 := ⟨by decide +kernel, rfl⟩
theorem dX0_start_32 : q_d cX0_start 32 33 (.iconst 0) 1 := ⟨by decide +kernel, rfl⟩
theorem dX0_start_33 : q_d cX0_start 33 36 (.putfield 30) 3 := ⟨by decide +kernel, rfl⟩
theorem dX0_start_36 : q_d cX0_start 36 37 (.aload_n 0) 1 := ⟨by decide +kernel, rfl⟩
theorem dX0_start_37 : q_d cX0_start 37 38 (.iconst 0) 1 := ⟨by decide +kernel, rfl⟩
theorem dX0_start_38 : q_d cX0_start 38 41 (.putfield 33) 3 := ⟨by decide +kernel, rfl⟩
theorem dX0_start_41 : q_d cX0_start 41 42 (.aload_n 0) 1 := ⟨by decide +kernel, rfl⟩
theorem dX0_start_42 : q_d cX0_start 42 43 (.iconst (-1)) 1 := ⟨by decide +kernel, rfl⟩
theorem dX0_start_43 : q_d cX0_start 43 46 (.putfield 36) 3 := ⟨by decide +kernel, rfl⟩
theorem dX0_start_46 : q_d cX0_start 46 47 (.aload_n 0) 1 := ⟨by decide +kernel, rfl⟩
theorem dX0_start_47 : q_d cX0_start 47 48 (.iconst (-1)) 1 := ⟨by decide +kernel, rfl⟩
theorem dX0_start_48 : q_d cX0_start 48 51 (.putfield 39) 3 := ⟨by decide +kernel, rfl⟩
theorem dX0_start_51 : q_d cX0_start 51 52 (.aload_n 0) 1 := ⟨by decide +kernel, rfl⟩
theorem dX0_start_52 : q_d cX0_start 52 53 (.iconst (-1)) 1 := ⟨by decide +kernel, rfl⟩
theorem dX0_start_53 : q_d cX0_start 53 56 (.putfield 42) 3 := ⟨by decide +kernel, rfl⟩
theorem dX0_start_56 : q_d cX0_start 56 57 (.aload_n 0) 1 := ⟨by decide +kernel, rfl⟩
theorem dX0_start_57 : q_d cX0_start 57 58 (.iconst 0) 1 := ⟨by decide +kernel, rfl⟩
theorem dX0_start_58 : q_d cX0_start 58 61 (.putfield 45) 3 := ⟨by decide +kernel, rfl⟩
theorem dX0_start_61 : q_d cX0_start 61 62 (.aload_n 0) 1 := ⟨by decide +kernel, rfl⟩
theorem dX0_start_62 : q_d cX0_start 62 64 (.iload 4) 2 := ⟨by decide +kernel, rfl⟩
theorem dX0_start_64 : q_d cX0_start 64 65 (.i2l) 1 := ⟨by decide +kernel, rfl⟩
theorem dX0_start_65 : q_d cX0_start 65 68 (.putfield 49) 3 := ⟨by decide +kernel, rfl⟩
theorem dX0_start_68 : q_d cX0_start 68 69 (.aload_n 0) 1 := ⟨by decide +kernel, rfl⟩
theorem dX0_start_69 : q_d cX0_start 69 70 (.lconst 0) 1 := ⟨by decide +kernel, rfl⟩
theorem dX0_start_70 : q_d cX0_start 70 73 (.putfield 53) 3 := ⟨by decide +kernel, rfl⟩
theorem dX0_start_73 : q_d cX0_start 73 74 (.aload_n 0) 1 := ⟨by decide +kernel, rfl⟩
theorem dX0_start_74 : q_d cX0_start 74 75 (.lconst 0) 1 := ⟨by decide +kernel, rfl⟩
theorem dX0_start_75 : q_d cX0_start 75 78 (.putfield 56) 3 := ⟨by decide +kernel, rfl⟩
theorem dX0_start_78 : q_d cX0_start 78 79 (.aload_n 0) 1 := ⟨by decide +kernel, rfl⟩
theorem dX0_start_79 : q_d cX0_start 79 80 (.lconst 0) 1 := ⟨by decide +kernel, rfl⟩
theorem dX0_start_80 : q_d cX0_start 80 83 (.putfield 59) 3 := ⟨by decide +kernel, rfl⟩
theorem dX0_start_83 : q_d cX0_start 83 84 (.aload_n 0) 1 := ⟨by decide +kernel, rfl⟩
theorem dX0_start_84 : q_d cX0_start 84 85 (.lconst 0) 1 := ⟨by decide +kernel, rfl⟩
theorem dX0_start_85 : q_d cX0_start 85 88 (.putfield 62) 3 := ⟨by decide +kernel, rfl⟩
theorem dX0_start_88 : q_d cX0_start 88 89 (.return_) 1 := ⟨by decide +kernel, rfl⟩
theorem dX0_copyFrom_0 : q_d cX0_copyFrom 0 1 (.aload_n 0) 1 := ⟨by decide +kernel, rfl⟩
theorem dX0_copyFrom_1 : q_d cX0_copyFrom 1 2 (.aload_n 1) 1 := ⟨by decide +kernel, rfl⟩
theorem dX0_copyFrom_2 : q_d cX0_copyFrom 2 5 (.getfield 9) 3 := ⟨by decide +kernel, rfl⟩
theorem dX0_copyFrom_5 : q_d cX0_copyFrom 5 8 (.putfield 9) 3 := ⟨by decide +kernel, rfl⟩
theorem dX0_copyFrom_8 : q_d cX0_copyFrom 8 9 (.aload_n 0) 1 := ⟨by decide +kernel, rfl⟩
theorem dX0_copyFrom_9 : q_d cX0_copyFrom 9 10 (.aload_n 1) 1 := ⟨by decide +kernel, rfl⟩
theorem dX0_copyFrom_10 : q_d cX0_copyFrom 10 13 (.getfield 15) 3 := ⟨by decide +kernel, rfl⟩
theorem dX0_copyFrom_13 : q_d cX0_copyFrom 13 16 (.putfield 15) 3 := ⟨by decide +kernel, rfl⟩
theorem dX0_copyFrom_16 : q_d cX0_copyFrom 16 17 (.aload_n 0) 1 := ⟨by decide +kernel, rfl⟩
theorem dX0_copyFrom_17 : q_d cX0_copyFrom 17 18 (.aload_n 1) 1 := ⟨by decide +kernel, rfl⟩
theorem dX0_copyFrom_18 : q_d cX0_copyFrom 18 21 (.getfield 18) 3 := ⟨by decide +kernel, rfl⟩
theorem dX0_copyFrom_21 : q_d cX0_copyFrom 21 24 (.putfield 18) 3 := ⟨by decide +kernel, rfl⟩
theorem dX0_copyFrom_24 : q_d cX0_copyFrom 24 25 (.aload_n 0) 1 := ⟨by decide +kernel, rfl⟩
theorem dX0_copyFrom_25 : q_d cX0_copyFrom 25 26 (.aload_n 1) 1 := ⟨by decide +kernel, rfl⟩
theorem dX0_copyFrom_26 : q_d cX0_copyFrom 26 29 (.getfield 21) 3 := ⟨by decide +kernel, rfl⟩
theorem dX0_copyFrom_29 : q_d cX0_copyFrom 29 32 (.putfield 21) 3 := ⟨by decide +kernel, rfl⟩
theorem dX0_copyFrom_32 : q_d cX0_copyFrom 32 33 (.aload_n 0) 1 := ⟨by decide +kernel, rfl⟩
theorem dX0_copyFrom_33 : q_d cX0_copyFrom 33 34 (.aload_n 1) 1 := ⟨by decide +kernel, rfl⟩
theorem dX0_copyFrom_34 : q_d cX0_copyFrom 34 37 (.getfield 24) 3 := ⟨by decide +kernel, rfl⟩
theorem dX0_copyFrom_37 : q_d cX0_copyFrom 37 40 (.putfield 24) 3 := ⟨by decide +kernel, rfl⟩
theorem dX0_copyFrom_40 : q_d cX0_copyFrom 40 41 (.aload_n 0) 1 := ⟨by decide +kernel, rfl⟩
theorem dX0_copyFrom_41 : q_d cX0_copyFrom 41 42 (.aload_n 1) 1 := ⟨by decide +kernel, rfl⟩
theorem dX0_copyFrom_42 : q_d cX0_copyFrom 42 45 (.getfield 27) 3 := ⟨by decide +kernel, rfl⟩
theorem dX0_copyFrom_45 : q_d cX0_copyFrom 45 48 (.putfield 27) 3 := ⟨by decide +kernel, rfl⟩
theorem dX0_copyFrom_48 : q_d cX0_copyFrom 48 49 (.aload_n 0) 1 := ⟨by decide +kernel, rfl⟩
theorem dX0_copyFrom_49 : q_d cX0_copyFrom 49 50 (.aload_n 1) 1 := ⟨by decide +kernel, rfl⟩
theorem dX0_copyFrom_50 : q_d cX0_copyFrom 50 53 (.getfield 30) 3 := ⟨by decide +kernel, rfl⟩
theorem dX0_copyFrom_53 : q_d cX0_copyFrom 53 56 (.putfield 30) 3 := ⟨by decide +kernel, rfl⟩
theorem dX0_copyFrom_56 : q_d cX0_copyFrom 56 57 (.aload_n 0) 1 := ⟨by decide +kernel, rfl⟩
theorem dX0_copyFrom_57 : q_d cX0_copyFrom 57 58 (.aload_n 1) 1 := ⟨by decide +kernel, rfl⟩
theorem dX0_copyFrom_58 : q_d cX0_copyFrom 58 61 (.getfield 33) 3 := ⟨by decide +kernel, rfl⟩
theorem dX0_copyFrom_61 : q_d cX0_copyFrom 61 64 (.putfield 33) 3 := ⟨by decide +kernel, rfl⟩
theorem dX0_copyFrom_64 : q_d cX0_copyFrom 64 65 (.aload_n 0) 1 := ⟨by decide +kernel, rfl⟩
theorem dX0_copyFrom_65 : q_d cX0_copyFrom 65 66 (.aload_n 1) 1 := ⟨by decide +kernel, rfl⟩
theorem dX0_copyFrom_66 : q_d cX0_copyFrom 66 69 (.getfield 36) 3 := ⟨by decide +kernel, rfl⟩
theorem dX0_copyFrom_69 : q_d cX0_copyFrom 69 72 (.putfield 36) 3 := ⟨by decide +kernel, rfl⟩
theorem dX0_copyFrom_72 : q_d cX0_copyFrom 72 73 (.aload_n 0) 1 := ⟨by decide +kernel, rfl⟩
theorem dX0_copyFrom_73 : q_d cX0_copyFrom 73 74 (.aload_n 1) 1 := ⟨by decide +kernel, rfl⟩
theorem dX0_copyFrom_74 : q_d cX0_copyFrom 74 77 (.getfield 39) 3 := ⟨by decide +kernel, rfl⟩
theorem dX0_copyFrom_77 : q_d cX0_copyFrom 77 80 (.putfield 39) 3 := ⟨by decide +kernel, rfl⟩
theorem dX0_copyFrom_80 : q_d cX0_copyFrom 80 81 (.aload_n 0) 1 := ⟨by decide +kernel, rfl⟩
theorem dX0_copyFrom_81 : q_d cX0_copyFrom 81 82 (.aload_n 1) 1 := ⟨by decide +kernel, rfl⟩
theorem dX0_copyFrom_82 : q_d cX0_copyFrom 82 85 (.getfield 42) 3 := ⟨by decide +kernel, rfl⟩
theorem dX0_copyFrom_85 : q_d cX0_copyFrom 85 88 (.putfield 42) 3 := ⟨by decide +kernel, rfl⟩
theorem dX0_copyFrom_88 : q_d cX0_copyFrom 88 89 (.aload_n 0) 1 := ⟨by decide +kernel, rfl⟩
theorem dX0_copyFrom_89 : q_d cX0_copyFrom 89 90 (.aload_n 1) 1 := ⟨by decide +kernel, rfl⟩
theorem dX0_copyFrom_90 : q_d cX0_copyFrom 90 93 (.getfield 45) 3 := ⟨by decide +kernel, rfl⟩
theorem dX0_copyFrom_93 : q_d cX0_copyFrom 93 96 (.putfield 45) 3 := ⟨by decide +kernel, rfl⟩
theorem dX0_copyFrom_96 : q_d cX0_copyFrom 96 97 (.aload_n 0) 1 := ⟨by decide +kernel, rfl⟩
theorem dX0_copyFrom_97 : q_d cX0_copyFrom 97 98 (.aload_n 1) 1 := ⟨by decide +kernel, rfl⟩
theorem dX0_copyFrom_98 : q_d cX0_copyFrom 98 101 (.getfield 49) 3 := ⟨by decide +kernel, rfl⟩
theorem dX0_copyFrom_101 : q_d cX0_copyFrom 101 104 (.putfield 49) 3 := ⟨by decide +kernel, rfl⟩
theorem dX0_copyFrom_104 : q_d cX0_copyFrom 104 105 (.aload_n 0) 1 := ⟨by decide +kernel, rfl⟩
theorem dX0_copyFrom_105 : q_d cX0_copyFrom 105 106 (.aload_n 1) 1 := ⟨by decide +kernel, rfl⟩
theorem dX0_copyFrom_106 : q_d cX0_copyFrom 106 109 (.getfield 53) 3 := ⟨by decide +kernel, rfl⟩
theorem dX0_copyFrom_109 : q_d cX0_copyFrom 109 112 (.putfield 53) 3 := ⟨by decide +kernel, rfl⟩
theorem dX0_copyFrom_112 : q_d cX0_copyFrom 112 113 (.aload_n 0) 1 := ⟨by decide +kernel, rfl⟩
theorem dX0_copyFrom_113 : q_d cX0_copyFrom 113 114 (.aload_n 1) 1 := ⟨by decide +kernel, rfl⟩
theorem dX0_copyFrom_114 : q_d cX0_copyFrom 114 117 (.getfield 56) 3 := ⟨by decide +kernel, rfl⟩
theorem dX0_copyFrom_117 : q_d cX0_copyFrom 117 120 (.putfield 56) 3 := ⟨by decide +kernel, rfl⟩
theorem dX0_copyFrom_120 : q_d cX0_copyFrom 120 121 (.aload_n 0) 1 := ⟨by decide +kernel, rfl⟩
theorem dX0_copyFrom_121 : q_d cX0_copyFrom 121 122 (.aload_n 1) 1 := ⟨by decide +kernel, rfl⟩
theorem dX0_copyFrom_122 : q_d cX0_copyFrom 122 125 (.getfield 59) 3 := ⟨by decide +kernel, rfl⟩
theorem dX0_copyFrom_125 : q_d cX0_copyFrom 125 128 (.putfield 59) 3 := ⟨by decide +kernel, rfl⟩
theorem dX0_copyFrom_128 : q_d cX0_copyFrom 128 129 (.aload_n 0) 1 := ⟨by decide +kernel, rfl⟩
theorem dX0_copyFrom_129 : q_d cX0_copyFrom 129 130 (.aload_n 1) 1 := ⟨by decide +kernel, rfl⟩
theorem dX0_copyFrom_130 : q_d cX0_copyFrom 130 133 (.getfield 62) 3 := ⟨by decide +kernel, rfl⟩
theorem dX0_copyFrom_133 : q_d cX0_copyFrom 133 136 (.putfield 62) 3 := ⟨by decide +kernel, rfl⟩
theorem dX0_copyFrom_136 : q_d cX0_copyFrom 136 137 (.return_) 1 := ⟨by decide +kernel, rfl⟩
theorem dX0_isWithBank_0 : q_d cX0_isWithBank 0 1 (.aload_n 0) 1 := ⟨by decide +kernel, rfl⟩
theorem dX0_isWithBank_1 : q_d cX0_isWithBank 1 4 (.getfield 24) 3 := ⟨by decide +kernel, rfl⟩
theorem dX0_isWithBank_4 : q_j cX0_isWithBank 4 7 15 (fun o => .ifCond .eq o) := ⟨11, by decide +kernel, rfl, rfl⟩
theorem dX0_isWithBank_7 : q_d cX0_isWithBank 7 8 (.aload_n 0) 1 := ⟨by decide +kernel, rfl⟩
theorem dX0_isWithBank_8 : q_d cX0_isWithBank 8 11 (.getfield 24) 3 := ⟨by decide +kernel, rfl⟩
theorem dX0_isWithBank_11 : q_d cX0_isWithBank 11 12 (.iconst 1) 1 := ⟨by decide +kernel, rfl⟩
theorem dX0_isWithBank_12 : q_j cX0_isWithBank 12 15 19 (fun o => .if_icmp .ne o) := ⟨7, by decide +kernel, rfl, rfl⟩
theorem dX0_isWithBank_15 : q_d cX0_isWithBank 15 16 (.iconst 1) 1 := ⟨by decide +kernel, rfl⟩
theorem dX0_isWithBank_16 : q_j cX0_isWithBank 16 19 20 (fun o => .goto o) := ⟨4, by decide +kernel, rfl, rfl⟩
theorem dX0_isWithBank_19 : q_d cX0_isWithBank 19 20 (.iconst 0) 1 := ⟨by decide +kernel, rfl⟩
theorem dX0_isWithBank_20 : q_d cX0_isWithBank 20 21 (.ireturn) 1 := ⟨by decide +kernel, rfl⟩
theorem dX0_isClaimable_0 : q_d cX0_isClaimable 0 1 (.aload_n 0) 1 := ⟨by decide +kernel, rfl⟩
theorem dX0_isClaimable_1 : q_d cX0_isClaimable 1 4 (.getfield 24) 3 := ⟨by decide +kernel, rfl⟩
theorem dX0_isClaimable_4 : q_d cX0_isClaimable 4 5 (.iconst 2) 1 := ⟨by decide +kernel, rfl⟩
theorem dX0_isClaimable_5 : q_j cX0_isClaimable 5 8 19 (fun o => .if_icmp .ne o) := ⟨14, by decide +kernel, rfl, rfl⟩
theorem dX0_isClaimable_8 : q_d cX0_isClaimable 8 9 (.aload_n 0) 1 := ⟨by decide +kernel, rfl⟩
theorem dX0_isClaimable_9 : q_d cX0_isClaimable 9 12 (.getfield 45) 3 := ⟨by decide +kernel, rfl⟩
theorem dX0_isClaimable_12 : q_j cX0_isClaimable 12 15 19 (fun o => .ifCond .ne o) := ⟨7, by decide +kernel, rfl, rfl⟩
theorem dX0_isClaimable_15 : q_d cX0_isClaimable 15 16 (.iconst 1) 1 := ⟨by decide +kernel, rfl⟩
theorem dX0_isClaimable_16 : q_j cX0_isClaimable 16 19 20 (fun o => .goto o) := ⟨4, by decide +kernel, rfl, rfl⟩
theorem dX0_isClaimable_19 : q_d cX0_isClaimable 19 20 (.iconst 0) 1 := ⟨by decide +kernel, rfl⟩
theorem dX0_isClaimable_20 : q_d cX0_isClaimable 20 21 (.ireturn) 1 := ⟨by decide +kernel, rfl⟩
theorem dX0_isHeldBy_0 : q_d cX0_isHeldBy 0 1 (.aload_n 0) 1 := ⟨by decide +kernel, rfl⟩
theorem dX0_isHeldBy_1 : q_d cX0_isHeldBy 1 4 (.getfield 24) 3 := ⟨by decide +kernel, rfl⟩
theorem dX0_isHeldBy_4 : q_d cX0_isHeldBy 4 5 (.iconst 2) 1 := ⟨by decide +kernel, rfl⟩
theorem dX0_isHeldBy_5 : q_j cX0_isHeldBy 5 8 20 (fun o => .if_icmp .ne o) := ⟨15, by decide +kernel, rfl, rfl⟩
theorem dX0_isHeldBy_8 : q_d cX0_isHeldBy 8 9 (.aload_n 0) 1 := ⟨by decide +kernel, rfl⟩
theorem dX0_isHeldBy_9 : q_d cX0_isHeldBy 9 12 (.getfield 39) 3 := ⟨by decide +kernel, rfl⟩
theorem dX0_isHeldBy_12 : q_d cX0_isHeldBy 12 13 (.iload_n 1) 1 := ⟨by decide +kernel, rfl⟩
theorem dX0_isHeldBy_13 : q_j cX0_isHeldBy 13 16 20 (fun o => .if_icmp .ne o) := ⟨7, by decide +kernel, rfl, rfl⟩
theorem dX0_isHeldBy_16 : q_d cX0_isHeldBy 16 17 (.iconst 1) 1 := ⟨by decide +kernel, rfl⟩
theorem dX0_isHeldBy_17 : q_j cX0_isHeldBy 17 20 21 (fun o => .goto o) := ⟨4, by decide +kernel, rfl, rfl⟩
theorem dX0_isHeldBy_20 : q_d cX0_isHeldBy 20 21 (.iconst 0) 1 := ⟨by decide +kernel, rfl⟩
theorem dX0_isHeldBy_21 : q_d cX0_isHeldBy 21 22 (.ireturn) 1 := ⟨by decide +kernel, rfl⟩
theorem dX0_wake_0 : q_d cX0_wake 0 1 (.aload_n 0) 1 := ⟨by decide +kernel, rfl⟩
theorem dX0_wake_1 : q_d cX0_wake 1 2 (.iconst 0) 1 := ⟨by decide +kernel, rfl⟩
theorem dX0_wake_2 : q_d cX0_wake 2 5 (.putfield 30) 3 := ⟨by decide +kernel, rfl⟩
theorem dX0_wake_5 : q_d cX0_wake 5 6 (.aload_n 0) 1 := ⟨by decide +kernel, rfl⟩
theorem dX0_wake_6 : q_d cX0_wake 6 7 (.iconst 0) 1 := ⟨by decide +kernel, rfl⟩
theorem dX0_wake_7 : q_d cX0_wake 7 10 (.putfield 24) 3 := ⟨by decide +kernel, rfl⟩
theorem dX0_wake_10 : q_d cX0_wake 10 11 (.return_) 1 := ⟨by decide +kernel, rfl⟩
theorem dX0_bringIn_0 : q_d cX0_bringIn 0 1 (.aload_n 0) 1 := ⟨by decide +kernel, rfl⟩
theorem dX0_bringIn_1 : q_d cX0_bringIn 1 2 (.dup) 1 := ⟨by decide +kernel, rfl⟩
theorem dX0_bringIn_2 : q_d cX0_bringIn 2 5 (.getfield 21) 3 := ⟨by decide +kernel, rfl⟩
theorem dX0_bringIn_5 : q_d cX0_bringIn 5 6 (.iload_n 1) 1 := ⟨by decide +kernel, rfl⟩
theorem dX0_bringIn_6 : q_d cX0_bringIn 6 7 (.iadd) 1 := ⟨by decide +kernel, rfl⟩
theorem dX0_bringIn_7 : q_d cX0_bringIn 7 10 (.putfield 21) 3 := ⟨by decide +kernel, rfl⟩
theorem dX0_bringIn_10 : q_d cX0_bringIn 10 11 (.aload_n 0) 1 := ⟨by decide +kernel, rfl⟩
theorem dX0_bringIn_11 : q_d cX0_bringIn 11 12 (.dup) 1 := ⟨by decide +kernel, rfl⟩
theorem dX0_bringIn_12 : q_d cX0_bringIn 12 15 (.getfield 49) 3 := ⟨by decide +kernel, rfl⟩
theorem dX0_bringIn_15 : q_d cX0_bringIn 15 16 (.iload_n 1) 1 := ⟨by decide +kernel, rfl⟩
theorem dX0_bringIn_16 : q_d cX0_bringIn 16 17 (.i2l) 1 := ⟨by decide +kernel, rfl⟩
theorem dX0_bringIn_17 : q_d cX0_bringIn 17 18 (.ladd) 1 := ⟨by decide +kernel, rfl⟩
theorem dX0_bringIn_18 : q_d cX0_bringIn 18 21 (.putfield 49) 3 := ⟨by decide +kernel, rfl⟩
theorem dX0_bringIn_21 : q_d cX0_bringIn 21 22 (.return_) 1 := ⟨by decide +kernel, rfl⟩
theorem dX0_payOut_0 : q_d cX0_payOut 0 1 (.aload_n 0) 1 := ⟨by decide +kernel, rfl⟩
theorem dX0_payOut_1 : q_d cX0_payOut 1 2 (.dup) 1 := ⟨by decide +kernel, rfl⟩
theorem dX0_payOut_2 : q_d cX0_payOut 2 5 (.getfield 21) 3 := ⟨by decide +kernel, rfl⟩
theorem dX0_payOut_5 : q_d cX0_payOut 5 6 (.iload_n 1) 1 := ⟨by decide +kernel, rfl⟩
theorem dX0_payOut_6 : q_d cX0_payOut 6 7 (.isub) 1 := ⟨by decide +kernel, rfl⟩
theorem dX0_payOut_7 : q_d cX0_payOut 7 10 (.putfield 21) 3 := ⟨by decide +kernel, rfl⟩
theorem dX0_payOut_10 : q_d cX0_payOut 10 11 (.aload_n 0) 1 := ⟨by decide +kernel, rfl⟩
theorem dX0_payOut_11 : q_d cX0_payOut 11 12 (.dup) 1 := ⟨by decide +kernel, rfl⟩
theorem dX0_payOut_12 : q_d cX0_payOut 12 15 (.getfield 56) 3 := ⟨by decide +kernel, rfl⟩
theorem dX0_payOut_15 : q_d cX0_payOut 15 16 (.iload_n 1) 1 := ⟨by decide +kernel, rfl⟩
theorem dX0_payOut_16 : q_d cX0_payOut 16 17 (.i2l) 1 := ⟨by decide +kernel, rfl⟩
theorem dX0_payOut_17 : q_d cX0_payOut 17 18 (.ladd) 1 := ⟨by decide +kernel, rfl⟩
theorem dX0_payOut_18 : q_d cX0_payOut 18 21 (.putfield 56) 3 := ⟨by decide +kernel, rfl⟩
theorem dX0_payOut_21 : q_d cX0_payOut 21 22 (.return_) 1 := ⟨by decide +kernel, rfl⟩
theorem dX0_goMonth_0 : q_d cX0_goMonth 0 1 (.aload_n 0) 1 := ⟨by decide +kernel, rfl⟩
theorem dX0_goMonth_1 : q_d cX0_goMonth 1 2 (.aload_n 1) 1 := ⟨by decide +kernel, rfl⟩
theorem dX0_goMonth_2 : q_d cX0_goMonth 2 3 (.aload_n 0) 1 := ⟨by decide +kernel, rfl⟩
theorem dX0_goMonth_3 : q_d cX0_goMonth 3 6 (.getfield 9) 3 := ⟨by decide +kernel, rfl⟩
theorem dX0_goMonth_6 : q_d cX0_goMonth 6 9 (.invokevirtual 65) 3 := ⟨by decide +kernel, rfl⟩
theorem dX0_goMonth_9 : q_d cX0_goMonth 9 12 (.invokevirtual 71) 3 := ⟨by decide +kernel, rfl⟩
theorem dX0_goMonth_12 : q_d cX0_goMonth 12 13 (.aload_n 0) 1 := ⟨by decide +kernel, rfl⟩
theorem dX0_goMonth_13 : q_d cX0_goMonth 13 14 (.dup) 1 := ⟨by decide +kernel, rfl⟩
theorem dX0_goMonth_14 : q_d cX0_goMonth 14 17 (.getfield 27) 3 := ⟨by decide +kernel, rfl⟩
theorem dX0_goMonth_17 : q_d cX0_goMonth 17 18 (.iconst 1) 1 := ⟨by decide +kernel, rfl⟩
theorem dX0_goMonth_18 : q_d cX0_goMonth 18 19 (.iadd) 1 := ⟨by decide +kernel, rfl⟩
theorem dX0_goMonth_19 : q_d cX0_goMonth 19 22 (.putfield 27) 3 := ⟨by decide +kernel, rfl⟩
theorem dX0_goMonth_22 : q_d cX0_goMonth 22 23 (.aload_n 0) 1 := ⟨by decide +kernel, rfl⟩
theorem dX0_goMonth_23 : q_d cX0_goMonth 23 24 (.dup) 1 := ⟨by decide +kernel, rfl⟩
theorem dX0_goMonth_24 : q_d cX0_goMonth 24 27 (.getfield 30) 3 := ⟨by decide +kernel, rfl⟩
theorem dX0_goMonth_27 : q_d cX0_goMonth 27 28 (.iconst 1) 1 := ⟨by decide +kernel, rfl⟩
theorem dX0_goMonth_28 : q_d cX0_goMonth 28 29 (.iadd) 1 := ⟨by decide +kernel, rfl⟩
theorem dX0_goMonth_29 : q_d cX0_goMonth 29 32 (.putfield 30) 3 := ⟨by decide +kernel, rfl⟩
theorem dX0_goMonth_32 : q_d cX0_goMonth 32 33 (.aload_n 1) 1 := ⟨by decide +kernel, rfl⟩
theorem dX0_goMonth_33 : q_d cX0_goMonth 33 34 (.aload_n 0) 1 := ⟨by decide +kernel, rfl⟩
theorem dX0_goMonth_34 : q_d cX0_goMonth 34 37 (.invokevirtual 75) 3 := ⟨by decide +kernel, rfl⟩
theorem dX0_goMonth_37 : q_d cX0_goMonth 37 38 (.istore_n 3) 1 := ⟨by decide +kernel, rfl⟩
theorem dX0_goMonth_38 : q_d cX0_goMonth 38 39 (.aload_n 1) 1 := ⟨by decide +kernel, rfl⟩
theorem dX0_goMonth_39 : q_d cX0_goMonth 39 40 (.iload_n 3) 1 := ⟨by decide +kernel, rfl⟩
theorem dX0_goMonth_40 : q_d cX0_goMonth 40 43 (.invokevirtual 79) 3 := ⟨by decide +kernel, rfl⟩
theorem dX0_goMonth_43 : q_j cX0_goMonth 43 46 47 (fun o => .ifCond .ne o) := ⟨4, by decide +kernel, rfl, rfl⟩
theorem dX0_goMonth_46 : q_d cX0_goMonth 46 47 (.return_) 1 := ⟨by decide +kernel, rfl⟩
theorem dX0_goMonth_47 : q_d cX0_goMonth 47 48 (.aload_n 0) 1 := ⟨by decide +kernel, rfl⟩
theorem dX0_goMonth_48 : q_d cX0_goMonth 48 51 (.getfield 24) 3 := ⟨by decide +kernel, rfl⟩
theorem dX0_goMonth_51 : q_j cX0_goMonth 51 54 79 (fun o => .ifCond .ne o) := ⟨28, by decide +kernel, rfl, rfl⟩
theorem dX0_goMonth_54 : q_d cX0_goMonth 54 55 (.aload_n 0) 1 := ⟨by decide +kernel, rfl⟩
theorem dX0_goMonth_55 : q_d cX0_goMonth 55 58 (.getfield 30) 3 := ⟨by decide +kernel, rfl⟩
theorem dX0_goMonth_58 : q_d cX0_goMonth 58 59 (.aload_n 1) 1 := ⟨by decide +kernel, rfl⟩
theorem dX0_goMonth_59 : q_d cX0_goMonth 59 60 (.aload_n 0) 1 := ⟨by decide +kernel, rfl⟩
theorem dX0_goMonth_60 : q_d cX0_goMonth 60 61 (.iload_n 3) 1 := ⟨by decide +kernel, rfl⟩
theorem dX0_goMonth_61 : q_d cX0_goMonth 61 64 (.invokevirtual 83) 3 := ⟨by decide +kernel, rfl⟩
theorem dX0_goMonth_64 : q_j cX0_goMonth 64 67 123 (fun o => .if_icmp .lt o) := ⟨59, by decide +kernel, rfl, rfl⟩
theorem dX0_goMonth_67 : q_d cX0_goMonth 67 68 (.aload_n 0) 1 := ⟨by decide +kernel, rfl⟩
theorem dX0_goMonth_68 : q_d cX0_goMonth 68 69 (.aload_n 1) 1 := ⟨by decide +kernel, rfl⟩
theorem dX0_goMonth_69 : q_d cX0_goMonth 69 72 (.getfield 87) 3 := ⟨by decide +kernel, rfl⟩
theorem dX0_goMonth_72 : q_d cX0_goMonth 72 73 (.iload_n 2) 1 := ⟨by decide +kernel, rfl⟩
theorem dX0_goMonth_73 : q_d cX0_goMonth 73 76 (.invokevirtual 89) 3 := ⟨by decide +kernel, rfl⟩
theorem dX0_goMonth_76 : q_j cX0_goMonth 76 79 123 (fun o => .goto o) := ⟨47, by decide +kernel, rfl, rfl⟩
theorem dX0_goMonth_79 : q_d cX0_goMonth 79 80 (.iload_n 2) 1 := ⟨by decide +kernel, rfl⟩
theorem dX0_goMonth_80 : q_d cX0_goMonth 80 81 (.aload_n 0) 1 := ⟨by decide +kernel, rfl⟩
theorem dX0_goMonth_81 : q_d cX0_goMonth 81 84 (.getfield 36) 3 := ⟨by decide +kernel, rfl⟩
theorem dX0_goMonth_84 : q_d cX0_goMonth 84 85 (.isub) 1 := ⟨by decide +kernel, rfl⟩
theorem dX0_goMonth_85 : q_d cX0_goMonth 85 86 (.aload_n 1) 1 := ⟨by decide +kernel, rfl⟩
theorem dX0_goMonth_86 : q_d cX0_goMonth 86 89 (.getfield 93) 3 := ⟨by decide +kernel, rfl⟩
theorem dX0_goMonth_89 : q_j cX0_goMonth 89 92 123 (fun o => .if_icmp .lt o) := ⟨34, by decide +kernel, rfl, rfl⟩
theorem dX0_goMonth_92 : q_d cX0_goMonth 92 93 (.iload_n 2) 1 := ⟨by decide +kernel, rfl⟩
theorem dX0_goMonth_93 : q_d cX0_goMonth 93 95 (.bipush 12) 2 := ⟨by decide +kernel, rfl⟩
theorem dX0_goMonth_95 : q_d cX0_goMonth 95 96 (.irem) 1 := ⟨by decide +kernel, rfl⟩
theorem dX0_goMonth_96 : q_d cX0_goMonth 96 97 (.aload_n 1) 1 := ⟨by decide +kernel, rfl⟩
theorem dX0_goMonth_97 : q_d cX0_goMonth 97 100 (.getfield 96) 3 := ⟨by decide +kernel, rfl⟩
theorem dX0_goMonth_100 : q_d cX0_goMonth 100 101 (.iload_n 3) 1 := ⟨by decide +kernel, rfl⟩
theorem dX0_goMonth_101 : q_d cX0_goMonth 101 102 (.aaload) 1 := ⟨by decide +kernel, rfl⟩
theorem dX0_goMonth_102 : q_d cX0_goMonth 102 105 (.getfield 100) 3 := ⟨by decide +kernel, rfl⟩
theorem dX0_goMonth_105 : q_j cX0_goMonth 105 108 123 (fun o => .if_icmp .ne o) := ⟨18, by decide +kernel, rfl, rfl⟩
theorem dX0_goMonth_108 : q_d cX0_goMonth 108 109 (.aload_n 0) 1 := ⟨by decide +kernel, rfl⟩
theorem dX0_goMonth_109 : q_d cX0_goMonth 109 110 (.iload_n 3) 1 := ⟨by decide +kernel, rfl⟩
theorem dX0_goMonth_110 : q_d cX0_goMonth 110 111 (.aload_n 1) 1 := ⟨by decide +kernel, rfl⟩
theorem dX0_goMonth_111 : q_d cX0_goMonth 111 114 (.getfield 96) 3 := ⟨by decide +kernel, rfl⟩
theorem dX0_goMonth_114 : q_d cX0_goMonth 114 115 (.iload_n 3) 1 := ⟨by decide +kernel, rfl⟩
theorem dX0_goMonth_115 : q_d cX0_goMonth 115 116 (.aaload) 1 := ⟨by decide +kernel, rfl⟩
theorem dX0_goMonth_116 : q_d cX0_goMonth 116 119 (.getfield 105) 3 := ⟨by decide +kernel, rfl⟩
theorem dX0_goMonth_119 : q_d cX0_goMonth 119 120 (.iload_n 2) 1 := ⟨by decide +kernel, rfl⟩
theorem dX0_goMonth_120 : q_d cX0_goMonth 120 123 (.invokevirtual 108) 3 := ⟨by decide +kernel, rfl⟩
theorem dX0_goMonth_123 : q_d cX0_goMonth 123 124 (.return_) 1 := ⟨by decide +kernel, rfl⟩
theorem dX0_credit_0 : q_d cX0_credit 0 1 (.aload_n 0) 1 := ⟨by decide +kernel, rfl⟩
theorem dX0_credit_1 : q_d cX0_credit 1 4 (.getfield 21) 3 := ⟨by decide +kernel, rfl⟩
theorem dX0_credit_4 : q_d cX0_credit 4 5 (.i2l) 1 := ⟨by decide +kernel, rfl⟩
theorem dX0_credit_5 : q_d cX0_credit 5 6 (.iload_n 1) 1 := ⟨by decide +kernel, rfl⟩
theorem dX0_credit_6 : q_d cX0_credit 6 7 (.i2l) 1 := ⟨by decide +kernel, rfl⟩
theorem dX0_credit_7 : q_d cX0_credit 7 8 (.lmul) 1 := ⟨by decide +kernel, rfl⟩
theorem dX0_credit_8 : q_d cX0_credit 8 11 (.ldc2_w 112) 3 := ⟨by decide +kernel, rfl⟩
theorem dX0_credit_11 : q_d cX0_credit 11 12 (.ldiv) 1 := ⟨by decide +kernel, rfl⟩
theorem dX0_credit_12 : q_d cX0_credit 12 13 (.lstore_n 2) 1 := ⟨by decide +kernel, rfl⟩
theorem dX0_credit_13 : q_d cX0_credit 13 14 (.lload_n 2) 1 := ⟨by decide +kernel, rfl⟩
theorem dX0_credit_14 : q_d cX0_credit 14 16 (.ldc 114) 2 := ⟨by decide +kernel, rfl⟩
theorem dX0_credit_16 : q_d cX0_credit 16 17 (.aload_n 0) 1 := ⟨by decide +kernel, rfl⟩
theorem dX0_credit_17 : q_d cX0_credit 17 20 (.getfield 21) 3 := ⟨by decide +kernel, rfl⟩
theorem dX0_credit_20 : q_d cX0_credit 20 21 (.isub) 1 := ⟨by decide +kernel, rfl⟩
theorem dX0_credit_21 : q_d cX0_credit 21 22 (.i2l) 1 := ⟨by decide +kernel, rfl⟩
theorem dX0_credit_22 : q_d cX0_credit 22 25 (.invokestatic 115) 3 := ⟨by decide +kernel, rfl⟩
theorem dX0_credit_25 : q_d cX0_credit 25 26 (.l2i) 1 := ⟨by decide +kernel, rfl⟩
theorem dX0_credit_26 : q_d cX0_credit 26 28 (.istore 4) 2 := ⟨by decide +kernel, rfl⟩
theorem dX0_credit_28 : q_d cX0_credit 28 29 (.aload_n 0) 1 := ⟨by decide +kernel, rfl⟩
theorem dX0_credit_29 : q_d cX0_credit 29 30 (.dup) 1 := ⟨by decide +kernel, rfl⟩
theorem dX0_credit_30 : q_d cX0_credit 30 33 (.getfield 21) 3 := ⟨by decide +kernel, rfl⟩
theorem dX0_credit_33 : q_d cX0_credit 33 35 (.iload 4) 2 := ⟨by decide +kernel, rfl⟩
theorem dX0_credit_35 : q_d cX0_credit 35 36 (.iadd) 1 := ⟨by decide +kernel, rfl⟩
theorem dX0_credit_36 : q_d cX0_credit 36 39 (.putfield 21) 3 := ⟨by decide +kernel, rfl⟩
theorem dX0_credit_39 : q_d cX0_credit 39 40 (.aload_n 0) 1 := ⟨by decide +kernel, rfl⟩
theorem dX0_credit_40 : q_d cX0_credit 40 41 (.dup) 1 := ⟨by decide +kernel, rfl⟩
theorem dX0_credit_41 : q_d cX0_credit 41 44 (.getfield 53) 3 := ⟨by decide +kernel, rfl⟩
theorem dX0_credit_44 : q_d cX0_credit 44 46 (.iload 4) 2 := ⟨by decide +kernel, rfl⟩
theorem dX0_credit_46 : q_d cX0_credit 46 47 (.i2l) 1 := ⟨by decide +kernel, rfl⟩
theorem dX0_credit_47 : q_d cX0_credit 47 48 (.ladd) 1 := ⟨by decide +kernel, rfl⟩
theorem dX0_credit_48 : q_d cX0_credit 48 51 (.putfield 53) 3 := ⟨by decide +kernel, rfl⟩
theorem dX0_credit_51 : q_d cX0_credit 51 52 (.return_) 1 := ⟨by decide +kernel, rfl⟩
theorem dX0_receiveLetter_0 : q_d cX0_receiveLetter 0 1 (.iload_n 1) 1 := ⟨by decide +kernel, rfl⟩
theorem dX0_receiveLetter_1 : q_d cX0_receiveLetter 1 2 (.aload_n 0) 1 := ⟨by decide +kernel, rfl⟩
theorem dX0_receiveLetter_2 : q_d cX0_receiveLetter 2 5 (.getfield 21) 3 := ⟨by decide +kernel, rfl⟩
theorem dX0_receiveLetter_5 : q_d cX0_receiveLetter 5 8 (.invokestatic 121) 3 := ⟨by decide +kernel, rfl⟩
theorem dX0_receiveLetter_8 : q_d cX0_receiveLetter 8 9 (.istore_n 3) 1 := ⟨by decide +kernel, rfl⟩
theorem dX0_receiveLetter_9 : q_d cX0_receiveLetter 9 10 (.aload_n 0) 1 := ⟨by decide +kernel, rfl⟩
theorem dX0_receiveLetter_10 : q_d cX0_receiveLetter 10 11 (.dup) 1 := ⟨by decide +kernel, rfl⟩
theorem dX0_receiveLetter_11 : q_d cX0_receiveLetter 11 14 (.getfield 21) 3 := ⟨by decide +kernel, rfl⟩
theorem dX0_receiveLetter_14 : q_d cX0_receiveLetter 14 15 (.iload_n 3) 1 := ⟨by decide +kernel, rfl⟩
theorem dX0_receiveLetter_15 : q_d cX0_receiveLetter 15 16 (.isub) 1 := ⟨by decide +kernel, rfl⟩
theorem dX0_receiveLetter_16 : q_d cX0_receiveLetter 16 19 (.putfield 21) 3 := ⟨by decide +kernel, rfl⟩
theorem dX0_receiveLetter_19 : q_d cX0_receiveLetter 19 20 (.aload_n 0) 1 := ⟨by decide +kernel, rfl⟩
theorem dX0_receiveLetter_20 : q_d cX0_receiveLetter 20 21 (.dup) 1 := ⟨by decide +kernel, rfl⟩
theorem dX0_receiveLetter_21 : q_d cX0_receiveLetter 21 24 (.getfield 59) 3 := ⟨by decide +kernel, rfl⟩
theorem dX0_receiveLetter_24 : q_d cX0_receiveLetter 24 25 (.iload_n 3) 1 := ⟨by decide +kernel, rfl⟩
theorem dX0_receiveLetter_25 : q_d cX0_receiveLetter 25 26 (.i2l) 1 := ⟨by decide +kernel, rfl⟩
theorem dX0_receiveLetter_26 : q_d cX0_receiveLetter 26 27 (.ladd) 1 := ⟨by decide +kernel, rfl⟩
theorem dX0_receiveLetter_27 : q_d cX0_receiveLetter 27 30 (.putfield 59) 3 := ⟨by decide +kernel, rfl⟩
theorem dX0_receiveLetter_30 : q_d cX0_receiveLetter 30 31 (.aload_n 0) 1 := ⟨by decide +kernel, rfl⟩
theorem dX0_receiveLetter_31 : q_d cX0_receiveLetter 31 32 (.dup) 1 := ⟨by decide +kernel, rfl⟩
theorem dX0_receiveLetter_32 : q_d cX0_receiveLetter 32 35 (.getfield 33) 3 := ⟨by decide +kernel, rfl⟩
theorem dX0_receiveLetter_35 : q_d cX0_receiveLetter 35 36 (.iconst 1) 1 := ⟨by decide +kernel, rfl⟩
theorem dX0_receiveLetter_36 : q_d cX0_receiveLetter 36 37 (.iadd) 1 := ⟨by decide +kernel, rfl⟩
theorem dX0_receiveLetter_37 : q_d cX0_receiveLetter 37 40 (.putfield 33) 3 := ⟨by decide +kernel, rfl⟩
theorem dX0_receiveLetter_40 : q_d cX0_receiveLetter 40 41 (.aload_n 0) 1 := ⟨by decide +kernel, rfl⟩
theorem dX0_receiveLetter_41 : q_d cX0_receiveLetter 41 42 (.iload_n 2) 1 := ⟨by decide +kernel, rfl⟩
theorem dX0_receiveLetter_42 : q_d cX0_receiveLetter 42 45 (.putfield 36) 3 := ⟨by decide +kernel, rfl⟩
theorem dX0_receiveLetter_45 : q_d cX0_receiveLetter 45 46 (.aload_n 0) 1 := ⟨by decide +kernel, rfl⟩
theorem dX0_receiveLetter_46 : q_d cX0_receiveLetter 46 47 (.iconst 1) 1 := ⟨by decide +kernel, rfl⟩
theorem dX0_receiveLetter_47 : q_d cX0_receiveLetter 47 50 (.putfield 24) 3 := ⟨by decide +kernel, rfl⟩
theorem dX0_receiveLetter_50 : q_d cX0_receiveLetter 50 51 (.return_) 1 := ⟨by decide +kernel, rfl⟩
theorem dX0_handOver_0 : q_d cX0_handOver 0 1 (.aload_n 0) 1 := ⟨by decide +kernel, rfl⟩
theorem dX0_handOver_1 : q_d cX0_handOver 1 2 (.iconst 2) 1 := ⟨by decide +kernel, rfl⟩
theorem dX0_handOver_2 : q_d cX0_handOver 2 5 (.putfield 24) 3 := ⟨by decide +kernel, rfl⟩
theorem dX0_handOver_5 : q_d cX0_handOver 5 6 (.aload_n 0) 1 := ⟨by decide +kernel, rfl⟩
theorem dX0_handOver_6 : q_d cX0_handOver 6 7 (.iload_n 1) 1 := ⟨by decide +kernel, rfl⟩
theorem dX0_handOver_7 : q_d cX0_handOver 7 10 (.putfield 39) 3 := ⟨by decide +kernel, rfl⟩
theorem dX0_handOver_10 : q_d cX0_handOver 10 11 (.aload_n 0) 1 := ⟨by decide +kernel, rfl⟩
theorem dX0_handOver_11 : q_d cX0_handOver 11 12 (.iload_n 3) 1 := ⟨by decide +kernel, rfl⟩
theorem dX0_handOver_12 : q_d cX0_handOver 12 15 (.putfield 42) 3 := ⟨by decide +kernel, rfl⟩
theorem dX0_handOver_15 : q_d cX0_handOver 15 16 (.aload_n 0) 1 := ⟨by decide +kernel, rfl⟩
theorem dX0_handOver_16 : q_d cX0_handOver 16 17 (.aload_n 0) 1 := ⟨by decide +kernel, rfl⟩
theorem dX0_handOver_17 : q_d cX0_handOver 17 20 (.getfield 21) 3 := ⟨by decide +kernel, rfl⟩
theorem dX0_handOver_20 : q_d cX0_handOver 20 21 (.iload_n 2) 1 := ⟨by decide +kernel, rfl⟩
theorem dX0_handOver_21 : q_j cX0_handOver 21 24 28 (fun o => .if_icmp .ge o) := ⟨7, by decide +kernel, rfl, rfl⟩
theorem dX0_handOver_24 : q_d cX0_handOver 24 25 (.iconst 1) 1 := ⟨by decide +kernel, rfl⟩
theorem dX0_handOver_25 : q_j cX0_handOver 25 28 29 (fun o => .goto o) := ⟨4, by decide +kernel, rfl, rfl⟩
theorem dX0_handOver_28 : q_d cX0_handOver 28 29 (.iconst 0) 1 := ⟨by decide +kernel, rfl⟩
theorem dX0_handOver_29 : q_d cX0_handOver 29 32 (.putfield 45) 3 := ⟨by decide +kernel, rfl⟩
theorem dX0_handOver_32 : q_d cX0_handOver 32 33 (.return_) 1 := ⟨by decide +kernel, rfl⟩
theorem dX0_giveBack_0 : q_d cX0_giveBack 0 1 (.aload_n 0) 1 := ⟨by decide +kernel, rfl⟩
theorem dX0_giveBack_1 : q_d cX0_giveBack 1 4 (.getfield 21) 3 := ⟨by decide +kernel, rfl⟩
theorem dX0_giveBack_4 : q_d cX0_giveBack 4 5 (.istore_n 1) 1 := ⟨by decide +kernel, rfl⟩
theorem dX0_giveBack_5 : q_d cX0_giveBack 5 6 (.aload_n 0) 1 := ⟨by decide +kernel, rfl⟩
theorem dX0_giveBack_6 : q_d cX0_giveBack 6 7 (.dup) 1 := ⟨by decide +kernel, rfl⟩
theorem dX0_giveBack_7 : q_d cX0_giveBack 7 10 (.getfield 62) 3 := ⟨by decide +kernel, rfl⟩
theorem dX0_giveBack_10 : q_d cX0_giveBack 10 11 (.iload_n 1) 1 := ⟨by decide +kernel, rfl⟩
theorem dX0_giveBack_11 : q_d cX0_giveBack 11 12 (.i2l) 1 := ⟨by decide +kernel, rfl⟩
theorem dX0_giveBack_12 : q_d cX0_giveBack 12 13 (.ladd) 1 := ⟨by decide +kernel, rfl⟩
theorem dX0_giveBack_13 : q_d cX0_giveBack 13 16 (.putfield 62) 3 := ⟨by decide +kernel, rfl⟩
theorem dX0_giveBack_16 : q_d cX0_giveBack 16 17 (.aload_n 0) 1 := ⟨by decide +kernel, rfl⟩
theorem dX0_giveBack_17 : q_d cX0_giveBack 17 18 (.iconst 0) 1 := ⟨by decide +kernel, rfl⟩
theorem dX0_giveBack_18 : q_d cX0_giveBack 18 21 (.putfield 21) 3 := ⟨by decide +kernel, rfl⟩
theorem dX0_giveBack_21 : q_d cX0_giveBack 21 22 (.aload_n 0) 1 := ⟨by decide +kernel, rfl⟩
theorem dX0_giveBack_22 : q_d cX0_giveBack 22 23 (.iconst 3) 1 := ⟨by decide +kernel, rfl⟩
theorem dX0_giveBack_23 : q_d cX0_giveBack 23 26 (.putfield 24) 3 := ⟨by decide +kernel, rfl⟩
theorem dX0_giveBack_26 : q_d cX0_giveBack 26 27 (.iload_n 1) 1 := ⟨by decide +kernel, rfl⟩
theorem dX0_giveBack_27 : q_d cX0_giveBack 27 28 (.ireturn) 1 := ⟨by decide +kernel, rfl⟩
theorem dX0_inBooks_0 : q_d cX0_inBooks 0 1 (.iload_n 1) 1 := ⟨by decide +kernel, rfl⟩
theorem dX0_inBooks_1 : decode cX0_inBooks 1 = .ok (.tableswitch 94 0 5 #[39, 44, 49, 54, 59, 76], 39) := by decide +kernel
theorem dX0_inBooks_40 : q_d cX0_inBooks 40 41 (.aload_n 0) 1 := ⟨by decide +kernel, rfl⟩
theorem dX0_inBooks_41 : q_d cX0_inBooks 41 44 (.getfield 49) 3 := ⟨by decide +kernel, rfl⟩
theorem dX0_inBooks_44 : q_d cX0_inBooks 44 45 (.lreturn) 1 := ⟨by decide +kernel, rfl⟩
theorem dX0_inBooks_45 : q_d cX0_inBooks 45 46 (.aload_n 0) 1 := ⟨by decide +kernel, rfl⟩
theorem dX0_inBooks_46 : q_d cX0_inBooks 46 49 (.getfield 53) 3 := ⟨by decide +kernel, rfl⟩
theorem dX0_inBooks_49 : q_d cX0_inBooks 49 50 (.lreturn) 1 := ⟨by decide +kernel, rfl⟩
theorem dX0_inBooks_50 : q_d cX0_inBooks 50 51 (.aload_n 0) 1 := ⟨by decide +kernel, rfl⟩
theorem dX0_inBooks_51 : q_d cX0_inBooks 51 54 (.getfield 56) 3 := ⟨by decide +kernel, rfl⟩
theorem dX0_inBooks_54 : q_d cX0_inBooks 54 55 (.lreturn) 1 := ⟨by decide +kernel, rfl⟩
theorem dX0_inBooks_55 : q_d cX0_inBooks 55 56 (.aload_n 0) 1 := ⟨by decide +kernel, rfl⟩
theorem dX0_inBooks_56 : q_d cX0_inBooks 56 59 (.getfield 59) 3 := ⟨by decide +kernel, rfl⟩
theorem dX0_inBooks_59 : q_d cX0_inBooks 59 60 (.lreturn) 1 := ⟨by decide +kernel, rfl⟩
theorem dX0_inBooks_60 : q_d cX0_inBooks 60 61 (.aload_n 0) 1 := ⟨by decide +kernel, rfl⟩
theorem dX0_inBooks_61 : q_d cX0_inBooks 61 64 (.invokevirtual 124) 3 := ⟨by decide +kernel, rfl⟩
theorem dX0_inBooks_64 : q_j cX0_inBooks 64 67 75 (fun o => .ifCond .eq o) := ⟨11, by decide +kernel, rfl, rfl⟩
theorem dX0_inBooks_67 : q_d cX0_inBooks 67 68 (.aload_n 0) 1 := ⟨by decide +kernel, rfl⟩
theorem dX0_inBooks_68 : q_d cX0_inBooks 68 71 (.getfield 21) 3 := ⟨by decide +kernel, rfl⟩
theorem dX0_inBooks_71 : q_d cX0_inBooks 71 72 (.i2l) 1 := ⟨by decide +kernel, rfl⟩
theorem dX0_inBooks_72 : q_j cX0_inBooks 72 75 76 (fun o => .goto o) := ⟨4, by decide +kernel, rfl, rfl⟩
theorem dX0_inBooks_75 : q_d cX0_inBooks 75 76 (.lconst 0) 1 := ⟨by decide +kernel, rfl⟩
theorem dX0_inBooks_76 : q_d cX0_inBooks 76 77 (.lreturn) 1 := ⟨by decide +kernel, rfl⟩
theorem dX0_inBooks_77 : q_d cX0_inBooks 77 78 (.aload_n 0) 1 := ⟨by decide +kernel, rfl⟩
theorem dX0_inBooks_78 : q_d cX0_inBooks 78 81 (.getfield 24) 3 := ⟨by decide +kernel, rfl⟩
theorem dX0_inBooks_81 : q_d cX0_inBooks 81 82 (.iconst 2) 1 := ⟨by decide +kernel, rfl⟩
theorem dX0_inBooks_82 : q_j cX0_inBooks 82 85 93 (fun o => .if_icmp .ne o) := ⟨11, by decide +kernel, rfl, rfl⟩
theorem dX0_inBooks_85 : q_d cX0_inBooks 85 86 (.aload_n 0) 1 := ⟨by decide +kernel, rfl⟩
theorem dX0_inBooks_86 : q_d cX0_inBooks 86 89 (.getfield 21) 3 := ⟨by decide +kernel, rfl⟩
theorem dX0_inBooks_89 : q_d cX0_inBooks 89 90 (.i2l) 1 := ⟨by decide +kernel, rfl⟩
theorem dX0_inBooks_90 : q_j cX0_inBooks 90 93 94 (fun o => .goto o) := ⟨4, by decide +kernel, rfl, rfl⟩
theorem dX0_inBooks_93 : q_d cX0_inBooks 93 94 (.lconst 0) 1 := ⟨by decide +kernel, rfl⟩
theorem dX0_inBooks_94 : q_d cX0_inBooks 94 95 (.lreturn) 1 := ⟨by decide +kernel, rfl⟩
theorem dX0_inBooks_95 : q_d cX0_inBooks 95 96 (.aload_n 0) 1 := ⟨by decide +kernel, rfl⟩
theorem dX0_inBooks_96 : q_d cX0_inBooks 96 99 (.getfield 62) 3 := ⟨by decide +kernel, rfl⟩
theorem dX0_inBooks_99 : q_d cX0_inBooks 99 100 (.lreturn) 1 := ⟨by decide +kernel, rfl⟩
theorem dX1_init_0 : q_d cX1_init 0 1 (.aload_n 0) 1 := ⟨by decide +kernel, rfl⟩
theorem dX1_init_1 : q_d cX1_init 1 4 (.invokespecial 3) 3 := ⟨by decide +kernel, rfl⟩
theorem dX1_init_4 : q_d cX1_init 4 5 (.aload_n 0) 1 := ⟨by decide +kernel, rfl⟩
theorem dX1_init_5 : q_d cX1_init 5 8 (.new 9) 3 := ⟨by decide +kernel, rfl⟩
theorem dX1_init_8 : q_d cX1_init 8 9 (.dup) 1 := ⟨by decide +kernel, rfl⟩
theorem dX1_init_9 : q_d cX1_init 9 12 (.invokespecial 11) 3 := ⟨by decide +kernel, rfl⟩
theorem dX1_init_12 : q_d cX1_init 12 15 (.putfield 12) 3 := ⟨by decide +kernel, rfl⟩
theorem dX1_init_15 : q_d cX1_init 15 16 (.aload_n 0) 1 := ⟨by decide +kernel, rfl⟩
theorem dX1_init_16 : q_d cX1_init 16 18 (.bipush 12) 2 := ⟨by decide +kernel, rfl⟩
theorem dX1_init_18 : q_d cX1_init 18 20 (.newarray .long) 2 := ⟨by decide +kernel, rfl⟩
theorem dX1_init_20 : q_d cX1_init 20 23 (.putfield 18) 3 := ⟨by decide +kernel, rfl⟩
theorem dX1_init_23 : q_d cX1_init 23 24 (.return_) 1 := ⟨by decide +kernel, rfl⟩
theorem dX1_findRescue_0 : q_d cX1_findRescue 0 1 (.iconst 0) 1 := ⟨by decide +kernel, rfl⟩
theorem dX1_findRescue_1 : q_d cX1_findRescue 1 3 (.istore 4) 2 := ⟨by decide +kernel, rfl⟩
theorem dX1_findRescue_3 : q_d cX1_findRescue 3 4 (.lconst 0) 1 := ⟨by decide +kernel, rfl⟩
theorem dX1_findRescue_4 : q_d cX1_findRescue 4 6 (.lstore 5) 2 := ⟨by decide +kernel, rfl⟩
theorem dX1_findRescue_6 : q_d cX1_findRescue 6 7 (.iconst 0) 1 := ⟨by decide +kernel, rfl⟩
theorem dX1_findRescue_7 : q_d cX1_findRescue 7 9 (.istore 7) 2 := ⟨by decide +kernel, rfl⟩
theorem dX1_findRescue_9 : q_d cX1_findRescue 9 11 (.iload 7) 2 := ⟨by decide +kernel, rfl⟩
theorem dX1_findRescue_11 : q_d cX1_findRescue 11 12 (.aload_n 1) 1 := ⟨by decide +kernel, rfl⟩
theorem dX1_findRescue_12 : q_d cX1_findRescue 12 15 (.getfield 30) 3 := ⟨by decide +kernel, rfl⟩
theorem dX1_findRescue_15 : q_j cX1_findRescue 15 18 149 (fun o => .if_icmp .ge o) := ⟨134, by decide +kernel, rfl, rfl⟩
theorem dX1_findRescue_18 : q_d cX1_findRescue 18 20 (.iload 7) 2 := ⟨by decide +kernel, rfl⟩
theorem dX1_findRescue_20 : q_d cX1_findRescue 20 22 (.bipush 12) 2 := ⟨by decide +kernel, rfl⟩
theorem dX1_findRescue_22 : q_j cX1_findRescue 22 25 149 (fun o => .if_icmp .ge o) := ⟨127, by decide +kernel, rfl, rfl⟩
theorem dX1_findRescue_25 : q_d cX1_findRescue 25 26 (.aload_n 1) 1 := ⟨by decide +kernel, rfl⟩
theorem dX1_findRescue_26 : q_d cX1_findRescue 26 29 (.getfield 36) 3 := ⟨by decide +kernel, rfl⟩
theorem dX1_findRescue_29 : q_d cX1_findRescue 29 31 (.iload 7) 2 := ⟨by decide +kernel, rfl⟩
theorem dX1_findRescue_31 : q_d cX1_findRescue 31 32 (.aaload) 1 := ⟨by decide +kernel, rfl⟩
theorem dX1_findRescue_32 : q_d cX1_findRescue 32 34 (.astore 8) 2 := ⟨by decide +kernel, rfl⟩
theorem dX1_findRescue_34 : q_d cX1_findRescue 34 36 (.aload 8) 2 := ⟨by decide +kernel, rfl⟩
theorem dX1_findRescue_36 : q_d cX1_findRescue 36 39 (.invokevirtual 49) 3 := ⟨by decide +kernel, rfl⟩
theorem dX1_findRescue_39 : q_j cX1_findRescue 39 42 143 (fun o => .ifCond .eq o) := ⟨104, by decide +kernel, rfl, rfl⟩
theorem dX1_findRescue_42 : q_d cX1_findRescue 42 44 (.iload 4) 2 := ⟨by decide +kernel, rfl⟩
theorem dX1_findRescue_44 : q_d cX1_findRescue 44 45 (.iconst 1) 1 := ⟨by decide +kernel, rfl⟩
theorem dX1_findRescue_45 : q_d cX1_findRescue 45 47 (.iload 7) 2 := ⟨by decide +kernel, rfl⟩
theorem dX1_findRescue_47 : q_d cX1_findRescue 47 48 (.ishl) 1 := ⟨by decide +kernel, rfl⟩
theorem dX1_findRescue_48 : q_d cX1_findRescue 48 49 (.ior) 1 := ⟨by decide +kernel, rfl⟩
theorem dX1_findRescue_49 : q_d cX1_findRescue 49 51 (.istore 4) 2 := ⟨by decide +kernel, rfl⟩
theorem dX1_findRescue_51 : q_d cX1_findRescue 51 52 (.aload_n 0) 1 := ⟨by decide +kernel, rfl⟩
theorem dX1_findRescue_52 : q_d cX1_findRescue 52 55 (.getfield 12) 3 := ⟨by decide +kernel, rfl⟩
theorem dX1_findRescue_55 : q_d cX1_findRescue 55 57 (.aload 8) 2 := ⟨by decide +kernel, rfl⟩
theorem dX1_findRescue_57 : q_d cX1_findRescue 57 60 (.invokevirtual 22) 3 := ⟨by decide +kernel, rfl⟩
theorem dX1_findRescue_60 : q_d cX1_findRescue 60 61 (.aload_n 0) 1 := ⟨by decide +kernel, rfl⟩
theorem dX1_findRescue_61 : q_d cX1_findRescue 61 62 (.aload_n 1) 1 := ⟨by decide +kernel, rfl⟩
theorem dX1_findRescue_62 : q_d cX1_findRescue 62 63 (.iload_n 3) 1 := ⟨by decide +kernel, rfl⟩
theorem dX1_findRescue_63 : q_d cX1_findRescue 63 66 (.invokevirtual 26) 3 := ⟨by decide +kernel, rfl⟩
theorem dX1_findRescue_66 : q_d cX1_findRescue 66 67 (.iconst (-1)) 1 := ⟨by decide +kernel, rfl⟩
theorem dX1_findRescue_67 : q_j cX1_findRescue 67 70 74 (fun o => .if_icmp .ne o) := ⟨7, by decide +kernel, rfl, rfl⟩
theorem dX1_findRescue_70 : q_d cX1_findRescue 70 71 (.iconst 0) 1 := ⟨by decide +kernel, rfl⟩
theorem dX1_findRescue_71 : q_j cX1_findRescue 71 74 81 (fun o => .goto o) := ⟨10, by decide +kernel, rfl, rfl⟩
theorem dX1_findRescue_74 : q_d cX1_findRescue 74 75 (.aload_n 0) 1 := ⟨by decide +kernel, rfl⟩
theorem dX1_findRescue_75 : q_d cX1_findRescue 75 78 (.getfield 12) 3 := ⟨by decide +kernel, rfl⟩
theorem dX1_findRescue_78 : q_d cX1_findRescue 78 81 (.getfield 43) 3 := ⟨by decide +kernel, rfl⟩
theorem dX1_findRescue_81 : q_d cX1_findRescue 81 83 (.istore 9) 2 := ⟨by decide +kernel, rfl⟩
theorem dX1_findRescue_83 : q_d cX1_findRescue 83 84 (.aload_n 0) 1 := ⟨by decide +kernel, rfl⟩
theorem dX1_findRescue_84 : q_d cX1_findRescue 84 87 (.getfield 12) 3 := ⟨by decide +kernel, rfl⟩
theorem dX1_findRescue_87 : q_d cX1_findRescue 87 89 (.aload 8) 2 := ⟨by decide +kernel, rfl⟩
theorem dX1_findRescue_89 : q_d cX1_findRescue 89 92 (.invokevirtual 22) 3 := ⟨by decide +kernel, rfl⟩
theorem dX1_findRescue_92 : q_d cX1_findRescue 92 93 (.aload_n 0) 1 := ⟨by decide +kernel, rfl⟩
theorem dX1_findRescue_93 : q_d cX1_findRescue 93 96 (.getfield 12) 3 := ⟨by decide +kernel, rfl⟩
theorem dX1_findRescue_96 : q_d cX1_findRescue 96 99 (.invokevirtual 53) 3 := ⟨by decide +kernel, rfl⟩
theorem dX1_findRescue_99 : q_d cX1_findRescue 99 100 (.aload_n 0) 1 := ⟨by decide +kernel, rfl⟩
theorem dX1_findRescue_100 : q_d cX1_findRescue 100 101 (.aload_n 1) 1 := ⟨by decide +kernel, rfl⟩
theorem dX1_findRescue_101 : q_d cX1_findRescue 101 102 (.iload_n 3) 1 := ⟨by decide +kernel, rfl⟩
theorem dX1_findRescue_102 : q_d cX1_findRescue 102 105 (.invokevirtual 26) 3 := ⟨by decide +kernel, rfl⟩
theorem dX1_findRescue_105 : q_d cX1_findRescue 105 106 (.iconst (-1)) 1 := ⟨by decide +kernel, rfl⟩
theorem dX1_findRescue_106 : q_j cX1_findRescue 106 109 113 (fun o => .if_icmp .ne o) := ⟨7, by decide +kernel, rfl, rfl⟩
theorem dX1_findRescue_109 : q_d cX1_findRescue 109 110 (.iconst 0) 1 := ⟨by decide +kernel, rfl⟩
theorem dX1_findRescue_110 : q_j cX1_findRescue 110 113 120 (fun o => .goto o) := ⟨10, by decide +kernel, rfl, rfl⟩
theorem dX1_findRescue_113 : q_d cX1_findRescue 113 114 (.aload_n 0) 1 := ⟨by decide +kernel, rfl⟩
theorem dX1_findRescue_114 : q_d cX1_findRescue 114 117 (.getfield 12) 3 := ⟨by decide +kernel, rfl⟩
theorem dX1_findRescue_117 : q_d cX1_findRescue 117 120 (.getfield 43) 3 := ⟨by decide +kernel, rfl⟩
theorem dX1_findRescue_120 : q_d cX1_findRescue 120 122 (.istore 10) 2 := ⟨by decide +kernel, rfl⟩
theorem dX1_findRescue_122 : q_d cX1_findRescue 122 123 (.aload_n 0) 1 := ⟨by decide +kernel, rfl⟩
theorem dX1_findRescue_123 : q_d cX1_findRescue 123 126 (.getfield 18) 3 := ⟨by decide +kernel, rfl⟩
theorem dX1_findRescue_126 : q_d cX1_findRescue 126 128 (.iload 7) 2 := ⟨by decide +kernel, rfl⟩
theorem dX1_findRescue_128 : q_d cX1_findRescue 128 130 (.iload 10) 2 := ⟨by decide +kernel, rfl⟩
theorem dX1_findRescue_130 : q_d cX1_findRescue 130 132 (.iload 9) 2 := ⟨by decide +kernel, rfl⟩
theorem dX1_findRescue_132 : q_d cX1_findRescue 132 133 (.isub) 1 := ⟨by decide +kernel, rfl⟩
theorem dX1_findRescue_133 : q_d cX1_findRescue 133 134 (.i2l) 1 := ⟨by decide +kernel, rfl⟩
theorem dX1_findRescue_134 : q_d cX1_findRescue 134 135 (.lastore) 1 := ⟨by decide +kernel, rfl⟩
theorem dX1_findRescue_135 : q_d cX1_findRescue 135 137 (.lload 5) 2 := ⟨by decide +kernel, rfl⟩
theorem dX1_findRescue_137 : q_d cX1_findRescue 137 139 (.iload 9) 2 := ⟨by decide +kernel, rfl⟩
theorem dX1_findRescue_139 : q_d cX1_findRescue 139 140 (.i2l) 1 := ⟨by decide +kernel, rfl⟩
theorem dX1_findRescue_140 : q_d cX1_findRescue 140 141 (.ladd) 1 := ⟨by decide +kernel, rfl⟩
theorem dX1_findRescue_141 : q_d cX1_findRescue 141 143 (.lstore 5) 2 := ⟨by decide +kernel, rfl⟩
theorem dX1_findRescue_143 : q_d cX1_findRescue 143 146 (.iinc 7 1) 3 := ⟨by decide +kernel, rfl⟩
theorem dX1_findRescue_146 : q_j cX1_findRescue 146 149 9 (fun o => .goto o) := ⟨(-137), by decide +kernel, rfl, rfl⟩
theorem dX1_findRescue_149 : q_d cX1_findRescue 149 150 (.aload_n 0) 1 := ⟨by decide +kernel, rfl⟩
theorem dX1_findRescue_150 : q_d cX1_findRescue 150 152 (.iload 4) 2 := ⟨by decide +kernel, rfl⟩
theorem dX1_findRescue_152 : q_d cX1_findRescue 152 153 (.iload_n 2) 1 := ⟨by decide +kernel, rfl⟩
theorem dX1_findRescue_153 : q_d cX1_findRescue 153 155 (.iload 4) 2 := ⟨by decide +kernel, rfl⟩
theorem dX1_findRescue_155 : q_d cX1_findRescue 155 158 (.invokestatic 56) 3 := ⟨by decide +kernel, rfl⟩
theorem dX1_findRescue_158 : q_d cX1_findRescue 158 161 (.invokestatic 62) 3 := ⟨by decide +kernel, rfl⟩
theorem dX1_findRescue_161 : q_d cX1_findRescue 161 163 (.lload 5) 2 := ⟨by decide +kernel, rfl⟩
theorem dX1_findRescue_163 : q_d cX1_findRescue 163 166 (.invokevirtual 68) 3 := ⟨by decide +kernel, rfl⟩
theorem dX1_findRescue_166 : q_d cX1_findRescue 166 167 (.return_) 1 := ⟨by decide +kernel, rfl⟩
theorem dX1_chooseSet_0 : q_d cX1_chooseSet 0 1 (.iconst 0) 1 := ⟨by decide +kernel, rfl⟩
theorem dX1_chooseSet_1 : q_d cX1_chooseSet 1 3 (.istore 5) 2 := ⟨by decide +kernel, rfl⟩
theorem dX1_chooseSet_3 : q_d cX1_chooseSet 3 4 (.iconst 0) 1 := ⟨by decide +kernel, rfl⟩
theorem dX1_chooseSet_4 : q_d cX1_chooseSet 4 6 (.istore 6) 2 := ⟨by decide +kernel, rfl⟩
theorem dX1_chooseSet_6 : q_d cX1_chooseSet 6 8 (.iload 6) 2 := ⟨by decide +kernel, rfl⟩
theorem dX1_chooseSet_8 : q_d cX1_chooseSet 8 9 (.iload_n 1) 1 := ⟨by decide +kernel, rfl⟩
theorem dX1_chooseSet_9 : q_j cX1_chooseSet 9 12 76 (fun o => .if_icmp .gt o) := ⟨67, by decide +kernel, rfl, rfl⟩
theorem dX1_chooseSet_12 : q_d cX1_chooseSet 12 14 (.iload 6) 2 := ⟨by decide +kernel, rfl⟩
theorem dX1_chooseSet_14 : q_d cX1_chooseSet 14 15 (.iload_n 1) 1 := ⟨by decide +kernel, rfl⟩
theorem dX1_chooseSet_15 : q_d cX1_chooseSet 15 16 (.iconst (-1)) 1 := ⟨by decide +kernel, rfl⟩
theorem dX1_chooseSet_16 : q_d cX1_chooseSet 16 17 (.ixor) 1 := ⟨by decide +kernel, rfl⟩
theorem dX1_chooseSet_17 : q_d cX1_chooseSet 17 18 (.iand) 1 := ⟨by decide +kernel, rfl⟩
theorem dX1_chooseSet_18 : q_j cX1_chooseSet 18 21 70 (fun o => .ifCond .ne o) := ⟨52, by decide +kernel, rfl, rfl⟩
theorem dX1_chooseSet_21 : q_d cX1_chooseSet 21 23 (.iload 6) 2 := ⟨by decide +kernel, rfl⟩
theorem dX1_chooseSet_23 : q_d cX1_chooseSet 23 26 (.invokestatic 56) 3 := ⟨by decide +kernel, rfl⟩
theorem dX1_chooseSet_26 : q_d cX1_chooseSet 26 27 (.iload_n 2) 1 := ⟨by decide +kernel, rfl⟩
theorem dX1_chooseSet_27 : q_j cX1_chooseSet 27 30 70 (fun o => .if_icmp .ne o) := ⟨43, by decide +kernel, rfl, rfl⟩
theorem dX1_chooseSet_30 : q_d cX1_chooseSet 30 31 (.lload_n 3) 1 := ⟨by decide +kernel, rfl⟩
theorem dX1_chooseSet_31 : q_d cX1_chooseSet 31 32 (.aload_n 0) 1 := ⟨by decide +kernel, rfl⟩
theorem dX1_chooseSet_32 : q_d cX1_chooseSet 32 34 (.iload 6) 2 := ⟨by decide +kernel, rfl⟩
theorem dX1_chooseSet_34 : q_d cX1_chooseSet 34 37 (.invokevirtual 72) 3 := ⟨by decide +kernel, rfl⟩
theorem dX1_chooseSet_37 : q_d cX1_chooseSet 37 38 (.ladd) 1 := ⟨by decide +kernel, rfl⟩
theorem dX1_chooseSet_38 : q_d cX1_chooseSet 38 40 (.lstore 7) 2 := ⟨by decide +kernel, rfl⟩
theorem dX1_chooseSet_40 : q_d cX1_chooseSet 40 42 (.iload 5) 2 := ⟨by decide +kernel, rfl⟩
theorem dX1_chooseSet_42 : q_j cX1_chooseSet 42 45 55 (fun o => .ifCond .eq o) := ⟨13, by decide +kernel, rfl, rfl⟩
theorem dX1_chooseSet_45 : q_d cX1_chooseSet 45 47 (.lload 7) 2 := ⟨by decide +kernel, rfl⟩
theorem dX1_chooseSet_47 : q_d cX1_chooseSet 47 48 (.aload_n 0) 1 := ⟨by decide +kernel, rfl⟩
theorem dX1_chooseSet_48 : q_d cX1_chooseSet 48 51 (.getfield 76) 3 := ⟨by decide +kernel, rfl⟩
theorem dX1_chooseSet_51 : q_d cX1_chooseSet 51 52 (.lcmp) 1 := ⟨by decide +kernel, rfl⟩
theorem dX1_chooseSet_52 : q_j cX1_chooseSet 52 55 70 (fun o => .ifCond .ge o) := ⟨18, by decide +kernel, rfl, rfl⟩
theorem dX1_chooseSet_55 : q_d cX1_chooseSet 55 56 (.iconst 1) 1 := ⟨by decide +kernel, rfl⟩
theorem dX1_chooseSet_56 : q_d cX1_chooseSet 56 58 (.istore 5) 2 := ⟨by decide +kernel, rfl⟩
theorem dX1_chooseSet_58 : q_d cX1_chooseSet 58 59 (.aload_n 0) 1 := ⟨by decide +kernel, rfl⟩
theorem dX1_chooseSet_59 : q_d cX1_chooseSet 59 61 (.iload 6) 2 := ⟨by decide +kernel, rfl⟩
theorem dX1_chooseSet_61 : q_d cX1_chooseSet 61 64 (.putfield 80) 3 := ⟨by decide +kernel, rfl⟩
theorem dX1_chooseSet_64 : q_d cX1_chooseSet 64 65 (.aload_n 0) 1 := ⟨by decide +kernel, rfl⟩
theorem dX1_chooseSet_65 : q_d cX1_chooseSet 65 67 (.lload 7) 2 := ⟨by decide +kernel, rfl⟩
theorem dX1_chooseSet_67 : q_d cX1_chooseSet 67 70 (.putfield 76) 3 := ⟨by decide +kernel, rfl⟩
theorem dX1_chooseSet_70 : q_d cX1_chooseSet 70 73 (.iinc 6 1) 3 := ⟨by decide +kernel, rfl⟩
theorem dX1_chooseSet_73 : q_j cX1_chooseSet 73 76 6 (fun o => .goto o) := ⟨(-67), by decide +kernel, rfl, rfl⟩
theorem dX1_chooseSet_76 : q_d cX1_chooseSet 76 77 (.return_) 1 := ⟨by decide +kernel, rfl⟩
theorem dX1_changeBy_0 : q_d cX1_changeBy 0 1 (.lconst 0) 1 := ⟨by decide +kernel, rfl⟩
theorem dX1_changeBy_1 : q_d cX1_changeBy 1 2 (.lstore_n 2) 1 := ⟨by decide +kernel, rfl⟩
theorem dX1_changeBy_2 : q_d cX1_changeBy 2 3 (.iconst 0) 1 := ⟨by decide +kernel, rfl⟩
theorem dX1_changeBy_3 : q_d cX1_changeBy 3 5 (.istore 4) 2 := ⟨by decide +kernel, rfl⟩
theorem dX1_changeBy_5 : q_d cX1_changeBy 5 7 (.iload 4) 2 := ⟨by decide +kernel, rfl⟩
theorem dX1_changeBy_7 : q_d cX1_changeBy 7 9 (.bipush 12) 2 := ⟨by decide +kernel, rfl⟩
theorem dX1_changeBy_9 : q_j cX1_changeBy 9 12 42 (fun o => .if_icmp .ge o) := ⟨33, by decide +kernel, rfl, rfl⟩
theorem dX1_changeBy_12 : q_d cX1_changeBy 12 13 (.lload_n 2) 1 := ⟨by decide +kernel, rfl⟩
theorem dX1_changeBy_13 : q_d cX1_changeBy 13 14 (.iload_n 1) 1 := ⟨by decide +kernel, rfl⟩
theorem dX1_changeBy_14 : q_d cX1_changeBy 14 16 (.iload 4) 2 := ⟨by decide +kernel, rfl⟩
theorem dX1_changeBy_16 : q_d cX1_changeBy 16 17 (.ishr) 1 := ⟨by decide +kernel, rfl⟩
theorem dX1_changeBy_17 : q_d cX1_changeBy 17 18 (.iconst 1) 1 := ⟨by decide +kernel, rfl⟩
theorem dX1_changeBy_18 : q_d cX1_changeBy 18 19 (.iand) 1 := ⟨by decide +kernel, rfl⟩
theorem dX1_changeBy_19 : q_d cX1_changeBy 19 20 (.iconst 1) 1 := ⟨by decide +kernel, rfl⟩
theorem dX1_changeBy_20 : q_j cX1_changeBy 20 23 33 (fun o => .if_icmp .ne o) := ⟨13, by decide +kernel, rfl, rfl⟩
theorem dX1_changeBy_23 : q_d cX1_changeBy 23 24 (.aload_n 0) 1 := ⟨by decide +kernel, rfl⟩
theorem dX1_changeBy_24 : q_d cX1_changeBy 24 27 (.getfield 18) 3 := ⟨by decide +kernel, rfl⟩
theorem dX1_changeBy_27 : q_d cX1_changeBy 27 29 (.iload 4) 2 := ⟨by decide +kernel, rfl⟩
theorem dX1_changeBy_29 : q_d cX1_changeBy 29 30 (.laload) 1 := ⟨by decide +kernel, rfl⟩
theorem dX1_changeBy_30 : q_j cX1_changeBy 30 33 34 (fun o => .goto o) := ⟨4, by decide +kernel, rfl, rfl⟩
theorem dX1_changeBy_33 : q_d cX1_changeBy 33 34 (.lconst 0) 1 := ⟨by decide +kernel, rfl⟩
theorem dX1_changeBy_34 : q_d cX1_changeBy 34 35 (.ladd) 1 := ⟨by decide +kernel, rfl⟩
theorem dX1_changeBy_35 : q_d cX1_changeBy 35 36 (.lstore_n 2) 1 := ⟨by decide +kernel, rfl⟩
theorem dX1_changeBy_36 : q_d cX1_changeBy 36 39 (.iinc 4 1) 3 := ⟨by decide +kernel, rfl⟩
theorem dX1_changeBy_39 : q_j cX1_changeBy 39 42 5 (fun o => .goto o) := ⟨(-34), by decide +kernel, rfl, rfl⟩
theorem dX1_changeBy_42 : q_d cX1_changeBy 42 43 (.lload_n 2) 1 := ⟨by decide +kernel, rfl⟩
theorem dX1_changeBy_43 : q_d cX1_changeBy 43 44 (.lreturn) 1 := ⟨by decide +kernel, rfl⟩
theorem dX1_runProbe_0 : q_d cX1_runProbe 0 1 (.aload_n 0) 1 := ⟨by decide +kernel, rfl⟩
theorem dX1_runProbe_1 : q_d cX1_runProbe 1 4 (.getfield 12) 3 := ⟨by decide +kernel, rfl⟩
theorem dX1_runProbe_4 : q_d cX1_runProbe 4 7 (.invokevirtual 49) 3 := ⟨by decide +kernel, rfl⟩
theorem dX1_runProbe_7 : q_j cX1_runProbe 7 10 12 (fun o => .ifCond .ne o) := ⟨5, by decide +kernel, rfl, rfl⟩
theorem dX1_runProbe_10 : q_d cX1_runProbe 10 11 (.iconst (-1)) 1 := ⟨by decide +kernel, rfl⟩
theorem dX1_runProbe_11 : q_d cX1_runProbe 11 12 (.ireturn) 1 := ⟨by decide +kernel, rfl⟩
theorem dX1_runProbe_12 : q_d cX1_runProbe 12 13 (.iconst 1) 1 := ⟨by decide +kernel, rfl⟩
theorem dX1_runProbe_13 : q_d cX1_runProbe 13 14 (.istore_n 3) 1 := ⟨by decide +kernel, rfl⟩
theorem dX1_runProbe_14 : q_d cX1_runProbe 14 15 (.iload_n 3) 1 := ⟨by decide +kernel, rfl⟩
theorem dX1_runProbe_15 : q_d cX1_runProbe 15 16 (.iload_n 2) 1 := ⟨by decide +kernel, rfl⟩
theorem dX1_runProbe_16 : q_j cX1_runProbe 16 19 67 (fun o => .if_icmp .gt o) := ⟨51, by decide +kernel, rfl, rfl⟩
theorem dX1_runProbe_19 : q_d cX1_runProbe 19 20 (.aload_n 1) 1 := ⟨by decide +kernel, rfl⟩
theorem dX1_runProbe_20 : q_d cX1_runProbe 20 23 (.getfield 83) 3 := ⟨by decide +kernel, rfl⟩
theorem dX1_runProbe_23 : q_d cX1_runProbe 23 24 (.iload_n 3) 1 := ⟨by decide +kernel, rfl⟩
theorem dX1_runProbe_24 : q_d cX1_runProbe 24 25 (.iadd) 1 := ⟨by decide +kernel, rfl⟩
theorem dX1_runProbe_25 : q_d cX1_runProbe 25 28 (.sipush 6000) 3 := ⟨by decide +kernel, rfl⟩
theorem dX1_runProbe_28 : q_j cX1_runProbe 28 31 67 (fun o => .if_icmp .gt o) := ⟨39, by decide +kernel, rfl, rfl⟩
theorem dX1_runProbe_31 : q_d cX1_runProbe 31 32 (.aload_n 0) 1 := ⟨by decide +kernel, rfl⟩
theorem dX1_runProbe_32 : q_d cX1_runProbe 32 35 (.getfield 12) 3 := ⟨by decide +kernel, rfl⟩
theorem dX1_runProbe_35 : q_d cX1_runProbe 35 36 (.aload_n 1) 1 := ⟨by decide +kernel, rfl⟩
theorem dX1_runProbe_36 : q_d cX1_runProbe 36 39 (.getfield 86) 3 := ⟨by decide +kernel, rfl⟩
theorem dX1_runProbe_39 : q_d cX1_runProbe 39 40 (.aload_n 1) 1 := ⟨by decide +kernel, rfl⟩
theorem dX1_runProbe_40 : q_d cX1_runProbe 40 43 (.getfield 83) 3 := ⟨by decide +kernel, rfl⟩
theorem dX1_runProbe_43 : q_d cX1_runProbe 43 44 (.iload_n 3) 1 := ⟨by decide +kernel, rfl⟩
theorem dX1_runProbe_44 : q_d cX1_runProbe 44 45 (.iadd) 1 := ⟨by decide +kernel, rfl⟩
theorem dX1_runProbe_45 : q_d cX1_runProbe 45 48 (.invokevirtual 90) 3 := ⟨by decide +kernel, rfl⟩
theorem dX1_runProbe_48 : q_d cX1_runProbe 48 49 (.aload_n 0) 1 := ⟨by decide +kernel, rfl⟩
theorem dX1_runProbe_49 : q_d cX1_runProbe 49 52 (.getfield 12) 3 := ⟨by decide +kernel, rfl⟩
theorem dX1_runProbe_52 : q_d cX1_runProbe 52 55 (.getfield 94) 3 := ⟨by decide +kernel, rfl⟩
theorem dX1_runProbe_55 : q_d cX1_runProbe 55 56 (.iconst 2) 1 := ⟨by decide +kernel, rfl⟩
theorem dX1_runProbe_56 : q_j cX1_runProbe 56 59 61 (fun o => .if_icmp .ne o) := ⟨5, by decide +kernel, rfl, rfl⟩
theorem dX1_runProbe_59 : q_d cX1_runProbe 59 60 (.iload_n 3) 1 := ⟨by decide +kernel, rfl⟩
theorem dX1_runProbe_60 : q_d cX1_runProbe 60 61 (.ireturn) 1 := ⟨by decide +kernel, rfl⟩
theorem dX1_runProbe_61 : q_d cX1_runProbe 61 64 (.iinc 3 1) 3 := ⟨by decide +kernel, rfl⟩
theorem dX1_runProbe_64 : q_j cX1_runProbe 64 67 14 (fun o => .goto o) := ⟨(-50), by decide +kernel, rfl, rfl⟩
theorem dX1_runProbe_67 : q_d cX1_runProbe 67 68 (.iconst (-1)) 1 := ⟨by decide +kernel, rfl⟩
theorem dX1_runProbe_68 : q_d cX1_runProbe 68 69 (.ireturn) 1 := ⟨by decide +kernel, rfl⟩
theorem dX2_init_0 : q_d cX2_init 0 1 (.aload_n 0) 1 := ⟨by decide +kernel, rfl⟩
theorem dX2_init_1 : q_d cX2_init 1 4 (.invokespecial 1) 3 := ⟨by decide +kernel, rfl⟩
theorem dX2_init_4 : q_d cX2_init 4 5 (.aload_n 0) 1 := ⟨by decide +kernel, rfl⟩
theorem dX2_init_5 : q_d cX2_init 5 7 (.bipush 6) 2 := ⟨by decide +kernel, rfl⟩
theorem dX2_init_7 : q_d cX2_init 7 9 (.newarray .int) 2 := ⟨by decide +kernel, rfl⟩
theorem dX2_init_9 : q_d cX2_init 9 12 (.putfield 9) 3 := ⟨by decide +kernel, rfl⟩
theorem dX2_init_12 : q_d cX2_init 12 13 (.return_) 1 := ⟨by decide +kernel, rfl⟩
theorem dX2_call_0 : q_d cX2_call 0 1 (.aload_n 0) 1 := ⟨by decide +kernel, rfl⟩
theorem dX2_call_1 : q_d cX2_call 1 2 (.iconst 0) 1 := ⟨by decide +kernel, rfl⟩
theorem dX2_call_2 : q_d cX2_call 2 5 (.putfield 13) 3 := ⟨by decide +kernel, rfl⟩
theorem dX2_call_5 : q_d cX2_call 5 6 (.iload_n 2) 1 := ⟨by decide +kernel, rfl⟩
theorem dX2_call_6 : q_d cX2_call 6 8 (.istore 4) 2 := ⟨by decide +kernel, rfl⟩
theorem dX2_call_8 : q_d cX2_call 8 10 (.iload 4) 2 := ⟨by decide +kernel, rfl⟩
theorem dX2_call_10 : q_j cX2_call 10 13 64 (fun o => .ifCond .lt o) := ⟨54, by decide +kernel, rfl, rfl⟩
theorem dX2_call_13 : q_d cX2_call 13 15 (.iload 4) 2 := ⟨by decide +kernel, rfl⟩
theorem dX2_call_15 : q_d cX2_call 15 16 (.iload_n 3) 1 := ⟨by decide +kernel, rfl⟩
theorem dX2_call_16 : q_j cX2_call 16 19 64 (fun o => .if_icmp .ge o) := ⟨48, by decide +kernel, rfl, rfl⟩
theorem dX2_call_19 : q_d cX2_call 19 21 (.iload 4) 2 := ⟨by decide +kernel, rfl⟩
theorem dX2_call_21 : q_d cX2_call 21 22 (.aload_n 1) 1 := ⟨by decide +kernel, rfl⟩
theorem dX2_call_22 : q_d cX2_call 22 23 (.arraylength) 1 := ⟨by decide +kernel, rfl⟩
theorem dX2_call_23 : q_j cX2_call 23 26 64 (fun o => .if_icmp .ge o) := ⟨41, by decide +kernel, rfl, rfl⟩
theorem dX2_call_26 : q_d cX2_call 26 27 (.aload_n 0) 1 := ⟨by decide +kernel, rfl⟩
theorem dX2_call_27 : q_d cX2_call 27 30 (.getfield 13) 3 := ⟨by decide +kernel, rfl⟩
theorem dX2_call_30 : q_d cX2_call 30 32 (.bipush 6) 2 := ⟨by decide +kernel, rfl⟩
theorem dX2_call_32 : q_j cX2_call 32 35 64 (fun o => .if_icmp .ge o) := ⟨32, by decide +kernel, rfl, rfl⟩
theorem dX2_call_35 : q_d cX2_call 35 36 (.aload_n 0) 1 := ⟨by decide +kernel, rfl⟩
theorem dX2_call_36 : q_d cX2_call 36 39 (.getfield 9) 3 := ⟨by decide +kernel, rfl⟩
theorem dX2_call_39 : q_d cX2_call 39 40 (.aload_n 0) 1 := ⟨by decide +kernel, rfl⟩
theorem dX2_call_40 : q_d cX2_call 40 43 (.getfield 13) 3 := ⟨by decide +kernel, rfl⟩
theorem dX2_call_43 : q_d cX2_call 43 44 (.aload_n 1) 1 := ⟨by decide +kernel, rfl⟩
theorem dX2_call_44 : q_d cX2_call 44 46 (.iload 4) 2 := ⟨by decide +kernel, rfl⟩
theorem dX2_call_46 : q_d cX2_call 46 47 (.iaload) 1 := ⟨by decide +kernel, rfl⟩
theorem dX2_call_47 : q_d cX2_call 47 48 (.iastore) 1 := ⟨by decide +kernel, rfl⟩
theorem dX2_call_48 : q_d cX2_call 48 49 (.aload_n 0) 1 := ⟨by decide +kernel, rfl⟩
theorem dX2_call_49 : q_d cX2_call 49 50 (.dup) 1 := ⟨by decide +kernel, rfl⟩
theorem dX2_call_50 : q_d cX2_call 50 53 (.getfield 13) 3 := ⟨by decide +kernel, rfl⟩
theorem dX2_call_53 : q_d cX2_call 53 54 (.iconst 1) 1 := ⟨by decide +kernel, rfl⟩
theorem dX2_call_54 : q_d cX2_call 54 55 (.iadd) 1 := ⟨by decide +kernel, rfl⟩
theorem dX2_call_55 : q_d cX2_call 55 58 (.putfield 13) 3 := ⟨by decide +kernel, rfl⟩
theorem dX2_call_58 : q_d cX2_call 58 61 (.iinc 4 1) 3 := ⟨by decide +kernel, rfl⟩
theorem dX2_call_61 : q_j cX2_call 61 64 8 (fun o => .goto o) := ⟨(-53), by decide +kernel, rfl, rfl⟩
theorem dX2_call_64 : q_d cX2_call 64 65 (.return_) 1 := ⟨by decide +kernel, rfl⟩
theorem dX2_hasLetter_0 : q_d cX2_hasLetter 0 1 (.iload_n 1) 1 := ⟨by decide +kernel, rfl⟩
theorem dX2_hasLetter_1 : q_j cX2_hasLetter 1 4 22 (fun o => .ifCond .lt o) := ⟨21, by decide +kernel, rfl, rfl⟩
theorem dX2_hasLetter_4 : q_d cX2_hasLetter 4 5 (.iload_n 1) 1 := ⟨by decide +kernel, rfl⟩
theorem dX2_hasLetter_5 : q_d cX2_hasLetter 5 6 (.aload_n 0) 1 := ⟨by decide +kernel, rfl⟩
theorem dX2_hasLetter_6 : q_d cX2_hasLetter 6 9 (.getfield 13) 3 := ⟨by decide +kernel, rfl⟩
theorem dX2_hasLetter_9 : q_j cX2_hasLetter 9 12 22 (fun o => .if_icmp .ge o) := ⟨13, by decide +kernel, rfl, rfl⟩
theorem dX2_hasLetter_12 : q_d cX2_hasLetter 12 13 (.iload_n 1) 1 := ⟨by decide +kernel, rfl⟩
theorem dX2_hasLetter_13 : q_d cX2_hasLetter 13 15 (.bipush 6) 2 := ⟨by decide +kernel, rfl⟩
theorem dX2_hasLetter_15 : q_j cX2_hasLetter 15 18 22 (fun o => .if_icmp .ge o) := ⟨7, by decide +kernel, rfl, rfl⟩
theorem dX2_hasLetter_18 : q_d cX2_hasLetter 18 19 (.iconst 1) 1 := ⟨by decide +kernel, rfl⟩
theorem dX2_hasLetter_19 : q_j cX2_hasLetter 19 22 23 (fun o => .goto o) := ⟨4, by decide +kernel, rfl, rfl⟩
theorem dX2_hasLetter_22 : q_d cX2_hasLetter 22 23 (.iconst 0) 1 := ⟨by decide +kernel, rfl⟩
theorem dX2_hasLetter_23 : q_d cX2_hasLetter 23 24 (.ireturn) 1 := ⟨by decide +kernel, rfl⟩
theorem dX2_isCalled_0 : q_d cX2_isCalled 0 1 (.iload_n 3) 1 := ⟨by decide +kernel, rfl⟩
theorem dX2_isCalled_1 : q_d cX2_isCalled 1 2 (.iload_n 2) 1 := ⟨by decide +kernel, rfl⟩
theorem dX2_isCalled_2 : q_d cX2_isCalled 2 3 (.isub) 1 := ⟨by decide +kernel, rfl⟩
theorem dX2_isCalled_3 : q_d cX2_isCalled 3 4 (.aload_n 0) 1 := ⟨by decide +kernel, rfl⟩
theorem dX2_isCalled_4 : q_d cX2_isCalled 4 7 (.getfield 13) 3 := ⟨by decide +kernel, rfl⟩
theorem dX2_isCalled_7 : q_j cX2_isCalled 7 10 20 (fun o => .if_icmp .ne o) := ⟨13, by decide +kernel, rfl, rfl⟩
theorem dX2_isCalled_10 : q_d cX2_isCalled 10 11 (.iload_n 2) 1 := ⟨by decide +kernel, rfl⟩
theorem dX2_isCalled_11 : q_j cX2_isCalled 11 14 20 (fun o => .ifCond .lt o) := ⟨9, by decide +kernel, rfl, rfl⟩
theorem dX2_isCalled_14 : q_d cX2_isCalled 14 15 (.iload_n 3) 1 := ⟨by decide +kernel, rfl⟩
theorem dX2_isCalled_15 : q_d cX2_isCalled 15 16 (.aload_n 1) 1 := ⟨by decide +kernel, rfl⟩
theorem dX2_isCalled_16 : q_d cX2_isCalled 16 17 (.arraylength) 1 := ⟨by decide +kernel, rfl⟩
theorem dX2_isCalled_17 : q_j cX2_isCalled 17 20 22 (fun o => .if_icmp .le o) := ⟨5, by decide +kernel, rfl, rfl⟩
theorem dX2_isCalled_20 : q_d cX2_isCalled 20 21 (.iconst 0) 1 := ⟨by decide +kernel, rfl⟩
theorem dX2_isCalled_21 : q_d cX2_isCalled 21 22 (.ireturn) 1 := ⟨by decide +kernel, rfl⟩
theorem dX2_isCalled_22 : q_d cX2_isCalled 22 23 (.iconst 0) 1 := ⟨by decide +kernel, rfl⟩
theorem dX2_isCalled_23 : q_d cX2_isCalled 23 25 (.istore 4) 2 := ⟨by decide +kernel, rfl⟩
theorem dX2_isCalled_25 : q_d cX2_isCalled 25 27 (.iload 4) 2 := ⟨by decide +kernel, rfl⟩
theorem dX2_isCalled_27 : q_d cX2_isCalled 27 28 (.aload_n 0) 1 := ⟨by decide +kernel, rfl⟩
theorem dX2_isCalled_28 : q_d cX2_isCalled 28 31 (.getfield 13) 3 := ⟨by decide +kernel, rfl⟩
theorem dX2_isCalled_31 : q_j cX2_isCalled 31 34 65 (fun o => .if_icmp .ge o) := ⟨34, by decide +kernel, rfl, rfl⟩
theorem dX2_isCalled_34 : q_d cX2_isCalled 34 36 (.iload 4) 2 := ⟨by decide +kernel, rfl⟩
theorem dX2_isCalled_36 : q_d cX2_isCalled 36 38 (.bipush 6) 2 := ⟨by decide +kernel, rfl⟩
theorem dX2_isCalled_38 : q_j cX2_isCalled 38 41 65 (fun o => .if_icmp .ge o) := ⟨27, by decide +kernel, rfl, rfl⟩
theorem dX2_isCalled_41 : q_d cX2_isCalled 41 42 (.aload_n 1) 1 := ⟨by decide +kernel, rfl⟩
theorem dX2_isCalled_42 : q_d cX2_isCalled 42 43 (.iload_n 2) 1 := ⟨by decide +kernel, rfl⟩
theorem dX2_isCalled_43 : q_d cX2_isCalled 43 45 (.iload 4) 2 := ⟨by decide +kernel, rfl⟩
theorem dX2_isCalled_45 : q_d cX2_isCalled 45 46 (.iadd) 1 := ⟨by decide +kernel, rfl⟩
theorem dX2_isCalled_46 : q_d cX2_isCalled 46 47 (.iaload) 1 := ⟨by decide +kernel, rfl⟩
theorem dX2_isCalled_47 : q_d cX2_isCalled 47 48 (.aload_n 0) 1 := ⟨by decide +kernel, rfl⟩
theorem dX2_isCalled_48 : q_d cX2_isCalled 48 51 (.getfield 9) 3 := ⟨by decide +kernel, rfl⟩
theorem dX2_isCalled_51 : q_d cX2_isCalled 51 53 (.iload 4) 2 := ⟨by decide +kernel, rfl⟩
theorem dX2_isCalled_53 : q_d cX2_isCalled 53 54 (.iaload) 1 := ⟨by decide +kernel, rfl⟩
theorem dX2_isCalled_54 : q_j cX2_isCalled 54 57 59 (fun o => .if_icmp .eq o) := ⟨5, by decide +kernel, rfl, rfl⟩
theorem dX2_isCalled_57 : q_d cX2_isCalled 57 58 (.iconst 0) 1 := ⟨by decide +kernel, rfl⟩
theorem dX2_isCalled_58 : q_d cX2_isCalled 58 59 (.ireturn) 1 := ⟨by decide +kernel, rfl⟩
theorem dX2_isCalled_59 : q_d cX2_isCalled 59 62 (.iinc 4 1) 3 := ⟨by decide +kernel, rfl⟩
theorem dX2_isCalled_62 : q_j cX2_isCalled 62 65 25 (fun o => .goto o) := ⟨(-37), by decide +kernel, rfl, rfl⟩
theorem dX2_isCalled_65 : q_d cX2_isCalled 65 66 (.iconst 1) 1 := ⟨by decide +kernel, rfl⟩
theorem dX2_isCalled_66 : q_d cX2_isCalled 66 67 (.ireturn) 1 := ⟨by decide +kernel, rfl⟩
theorem dX2_copyFrom_0 : q_d cX2_copyFrom 0 1 (.aload_n 1) 1 := ⟨by decide +kernel, rfl⟩
theorem dX2_copyFrom_1 : q_d cX2_copyFrom 1 4 (.getfield 9) 3 := ⟨by decide +kernel, rfl⟩
theorem dX2_copyFrom_4 : q_d cX2_copyFrom 4 5 (.iconst 0) 1 := ⟨by decide +kernel, rfl⟩
theorem dX2_copyFrom_5 : q_d cX2_copyFrom 5 6 (.aload_n 0) 1 := ⟨by decide +kernel, rfl⟩
theorem dX2_copyFrom_6 : q_d cX2_copyFrom 6 9 (.getfield 9) 3 := ⟨by decide +kernel, rfl⟩
theorem dX2_copyFrom_9 : q_d cX2_copyFrom 9 10 (.iconst 0) 1 := ⟨by decide +kernel, rfl⟩
theorem dX2_copyFrom_10 : q_d cX2_copyFrom 10 12 (.bipush 6) 2 := ⟨by decide +kernel, rfl⟩
theorem dX2_copyFrom_12 : q_d cX2_copyFrom 12 15 (.invokestatic 17) 3 := ⟨by decide +kernel, rfl⟩
theorem dX2_copyFrom_15 : q_d cX2_copyFrom 15 16 (.aload_n 0) 1 := ⟨by decide +kernel, rfl⟩
theorem dX2_copyFrom_16 : q_d cX2_copyFrom 16 17 (.aload_n 1) 1 := ⟨by decide +kernel, rfl⟩
theorem dX2_copyFrom_17 : q_d cX2_copyFrom 17 20 (.getfield 13) 3 := ⟨by decide +kernel, rfl⟩
theorem dX2_copyFrom_20 : q_d cX2_copyFrom 20 23 (.putfield 13) 3 := ⟨by decide +kernel, rfl⟩
theorem dX2_copyFrom_23 : q_d cX2_copyFrom 23 24 (.aload_n 0) 1 := ⟨by decide +kernel, rfl⟩
theorem dX2_copyFrom_24 : q_d cX2_copyFrom 24 25 (.aload_n 1) 1 := ⟨by decide +kernel, rfl⟩
theorem dX2_copyFrom_25 : q_d cX2_copyFrom 25 28 (.getfield 23) 3 := ⟨by decide +kernel, rfl⟩
theorem dX2_copyFrom_28 : q_d cX2_copyFrom 28 31 (.putfield 23) 3 := ⟨by decide +kernel, rfl⟩
theorem dX2_copyFrom_31 : q_d cX2_copyFrom 31 32 (.aload_n 0) 1 := ⟨by decide +kernel, rfl⟩
theorem dX2_copyFrom_32 : q_d cX2_copyFrom 32 33 (.aload_n 1) 1 := ⟨by decide +kernel, rfl⟩
theorem dX2_copyFrom_33 : q_d cX2_copyFrom 33 36 (.getfield 26) 3 := ⟨by decide +kernel, rfl⟩
theorem dX2_copyFrom_36 : q_d cX2_copyFrom 36 39 (.putfield 26) 3 := ⟨by decide +kernel, rfl⟩
theorem dX2_copyFrom_39 : q_d cX2_copyFrom 39 40 (.aload_n 0) 1 := ⟨by decide +kernel, rfl⟩
theorem dX2_copyFrom_40 : q_d cX2_copyFrom 40 41 (.aload_n 1) 1 := ⟨by decide +kernel, rfl⟩
theorem dX2_copyFrom_41 : q_d cX2_copyFrom 41 44 (.getfield 29) 3 := ⟨by decide +kernel, rfl⟩
theorem dX2_copyFrom_44 : q_d cX2_copyFrom 44 47 (.putfield 29) 3 := ⟨by decide +kernel, rfl⟩
theorem dX2_copyFrom_47 : q_d cX2_copyFrom 47 48 (.aload_n 0) 1 := ⟨by decide +kernel, rfl⟩
theorem dX2_copyFrom_48 : q_d cX2_copyFrom 48 49 (.aload_n 1) 1 := ⟨by decide +kernel, rfl⟩
theorem dX2_copyFrom_49 : q_d cX2_copyFrom 49 52 (.getfield 32) 3 := ⟨by decide +kernel, rfl⟩
theorem dX2_copyFrom_52 : q_d cX2_copyFrom 52 55 (.putfield 32) 3 := ⟨by decide +kernel, rfl⟩
theorem dX2_copyFrom_55 : q_d cX2_copyFrom 55 56 (.return_) 1 := ⟨by decide +kernel, rfl⟩
theorem dX3_init_0 : q_d cX3_init 0 1 (.aload_n 0) 1 := ⟨by decide +kernel, rfl⟩
theorem dX3_init_1 : q_d cX3_init 1 4 (.invokespecial 3) 3 := ⟨by decide +kernel, rfl⟩
theorem dX3_init_4 : q_d cX3_init 4 5 (.aload_n 0) 1 := ⟨by decide +kernel, rfl⟩
theorem dX3_init_5 : q_d cX3_init 5 8 (.sipush 600) 3 := ⟨by decide +kernel, rfl⟩
theorem dX3_init_8 : q_d cX3_init 8 10 (.newarray .int) 2 := ⟨by decide +kernel, rfl⟩
theorem dX3_init_10 : q_d cX3_init 10 13 (.putfield 9) 3 := ⟨by decide +kernel, rfl⟩
theorem dX3_init_13 : q_d cX3_init 13 14 (.aload_n 0) 1 := ⟨by decide +kernel, rfl⟩
theorem dX3_init_14 : q_d cX3_init 14 17 (.new 15) 3 := ⟨by decide +kernel, rfl⟩
theorem dX3_init_17 : q_d cX3_init 17 18 (.dup) 1 := ⟨by decide +kernel, rfl⟩
theorem dX3_init_18 : q_d cX3_init 18 21 (.invokespecial 17) 3 := ⟨by decide +kernel, rfl⟩
theorem dX3_init_21 : q_d cX3_init 21 24 (.putfield 18) 3 := ⟨by decide +kernel, rfl⟩
theorem dX3_init_24 : q_d cX3_init 24 25 (.aload_n 0) 1 := ⟨by decide +kernel, rfl⟩
theorem dX3_init_25 : q_d cX3_init 25 28 (.sipush 601) 3 := ⟨by decide +kernel, rfl⟩
theorem dX3_init_28 : q_d cX3_init 28 30 (.newarray .int) 2 := ⟨by decide +kernel, rfl⟩
theorem dX3_init_30 : q_d cX3_init 30 33 (.putfield 22) 3 := ⟨by decide +kernel, rfl⟩
theorem dX3_init_33 : q_d cX3_init 33 34 (.aload_n 0) 1 := ⟨by decide +kernel, rfl⟩
theorem dX3_init_34 : q_d cX3_init 34 37 (.sipush 601) 3 := ⟨by decide +kernel, rfl⟩
theorem dX3_init_37 : q_d cX3_init 37 39 (.newarray .int) 2 := ⟨by decide +kernel, rfl⟩
theorem dX3_init_39 : q_d cX3_init 39 42 (.putfield 25) 3 := ⟨by decide +kernel, rfl⟩
theorem dX3_init_42 : q_d cX3_init 42 43 (.aload_n 0) 1 := ⟨by decide +kernel, rfl⟩
theorem dX3_init_43 : q_d cX3_init 43 46 (.sipush 601) 3 := ⟨by decide +kernel, rfl⟩
theorem dX3_init_46 : q_d cX3_init 46 48 (.newarray .int) 2 := ⟨by decide +kernel, rfl⟩
theorem dX3_init_48 : q_d cX3_init 48 51 (.putfield 28) 3 := ⟨by decide +kernel, rfl⟩
theorem dX3_init_51 : q_d cX3_init 51 52 (.aload_n 0) 1 := ⟨by decide +kernel, rfl⟩
theorem dX3_init_52 : q_d cX3_init 52 55 (.sipush 601) 3 := ⟨by decide +kernel, rfl⟩
theorem dX3_init_55 : q_d cX3_init 55 58 (.anewarray 31) 3 := ⟨by decide +kernel, rfl⟩
theorem dX3_init_58 : q_d cX3_init 58 61 (.putfield 33) 3 := ⟨by decide +kernel, rfl⟩
theorem dX3_init_61 : q_d cX3_init 61 62 (.return_) 1 := ⟨by decide +kernel, rfl⟩
theorem dX3_read_0 : q_d cX3_read 0 1 (.aload_n 0) 1 := ⟨by decide +kernel, rfl⟩
theorem dX3_read_1 : q_d cX3_read 1 2 (.iconst 0) 1 := ⟨by decide +kernel, rfl⟩
theorem dX3_read_2 : q_d cX3_read 2 5 (.putfield 37) 3 := ⟨by decide +kernel, rfl⟩
theorem dX3_read_5 : q_d cX3_read 5 6 (.aload_n 0) 1 := ⟨by decide +kernel, rfl⟩
theorem dX3_read_6 : q_d cX3_read 6 7 (.iconst 0) 1 := ⟨by decide +kernel, rfl⟩
theorem dX3_read_7 : q_d cX3_read 7 10 (.putfield 41) 3 := ⟨by decide +kernel, rfl⟩
theorem dX3_read_10 : q_d cX3_read 10 11 (.aload_n 0) 1 := ⟨by decide +kernel, rfl⟩
theorem dX3_read_11 : q_d cX3_read 11 14 (.getfield 18) 3 := ⟨by decide +kernel, rfl⟩
theorem dX3_read_14 : q_d cX3_read 14 17 (.invokevirtual 44) 3 := ⟨by decide +kernel, rfl⟩
theorem dX3_read_17 : q_d cX3_read 17 18 (.aload_n 0) 1 := ⟨by decide +kernel, rfl⟩
theorem dX3_read_18 : q_d cX3_read 18 19 (.iconst 0) 1 := ⟨by decide +kernel, rfl⟩
theorem dX3_read_19 : q_d cX3_read 19 20 (.iload_n 1) 1 := ⟨by decide +kernel, rfl⟩
theorem dX3_read_20 : q_d cX3_read 20 23 (.sipush 600) 3 := ⟨by decide +kernel, rfl⟩
theorem dX3_read_23 : q_d cX3_read 23 26 (.invokestatic 47) 3 := ⟨by decide +kernel, rfl⟩
theorem dX3_read_26 : q_d cX3_read 26 29 (.invokestatic 53) 3 := ⟨by decide +kernel, rfl⟩
theorem dX3_read_29 : q_d cX3_read 29 32 (.invokevirtual 56) 3 := ⟨by decide +kernel, rfl⟩
theorem dX3_read_32 : q_d cX3_read 32 33 (.iconst 1) 1 := ⟨by decide +kernel, rfl⟩
theorem dX3_read_33 : q_d cX3_read 33 34 (.istore_n 2) 1 := ⟨by decide +kernel, rfl⟩
theorem dX3_read_34 : q_d cX3_read 34 35 (.iconst 0) 1 := ⟨by decide +kernel, rfl⟩
theorem dX3_read_35 : q_d cX3_read 35 36 (.istore_n 3) 1 := ⟨by decide +kernel, rfl⟩
theorem dX3_read_36 : q_d cX3_read 36 37 (.iload_n 3) 1 := ⟨by decide +kernel, rfl⟩
theorem dX3_read_37 : q_d cX3_read 37 40 (.sipush 600) 3 := ⟨by decide +kernel, rfl⟩
theorem dX3_read_40 : q_j cX3_read 40 43 90 (fun o => .if_icmp .gt o) := ⟨50, by decide +kernel, rfl, rfl⟩
theorem dX3_read_43 : q_d cX3_read 43 44 (.iload_n 2) 1 := ⟨by decide +kernel, rfl⟩
theorem dX3_read_44 : q_j cX3_read 44 47 90 (fun o => .ifCond .eq o) := ⟨46, by decide +kernel, rfl, rfl⟩
theorem dX3_read_47 : q_d cX3_read 47 48 (.aload_n 0) 1 := ⟨by decide +kernel, rfl⟩
theorem dX3_read_48 : q_d cX3_read 48 51 (.getfield 22) 3 := ⟨by decide +kernel, rfl⟩
theorem dX3_read_51 : q_d cX3_read 51 52 (.aload_n 0) 1 := ⟨by decide +kernel, rfl⟩
theorem dX3_read_52 : q_d cX3_read 52 55 (.getfield 37) 3 := ⟨by decide +kernel, rfl⟩
theorem dX3_read_55 : q_d cX3_read 55 56 (.iaload) 1 := ⟨by decide +kernel, rfl⟩
theorem dX3_read_56 : q_d cX3_read 56 59 (.sipush 258) 3 := ⟨by decide +kernel, rfl⟩
theorem dX3_read_59 : q_j cX3_read 59 62 90 (fun o => .if_icmp .eq o) := ⟨31, by decide +kernel, rfl, rfl⟩
theorem dX3_read_62 : q_d cX3_read 62 63 (.aload_n 0) 1 := ⟨by decide +kernel, rfl⟩
theorem dX3_read_63 : q_d cX3_read 63 66 (.invokevirtual 60) 3 := ⟨by decide +kernel, rfl⟩
theorem dX3_read_66 : q_j cX3_read 66 69 82 (fun o => .ifCond .eq o) := ⟨16, by decide +kernel, rfl, rfl⟩
theorem dX3_read_69 : q_d cX3_read 69 70 (.aload_n 0) 1 := ⟨by decide +kernel, rfl⟩
theorem dX3_read_70 : q_d cX3_read 70 72 (.bipush 59) 2 := ⟨by decide +kernel, rfl⟩
theorem dX3_read_72 : q_d cX3_read 72 75 (.invokevirtual 64) 3 := ⟨by decide +kernel, rfl⟩
theorem dX3_read_75 : q_j cX3_read 75 78 82 (fun o => .ifCond .eq o) := ⟨7, by decide +kernel, rfl, rfl⟩
theorem dX3_read_78 : q_d cX3_read 78 79 (.iconst 1) 1 := ⟨by decide +kernel, rfl⟩
theorem dX3_read_79 : q_j cX3_read 79 82 83 (fun o => .goto o) := ⟨4, by decide +kernel, rfl, rfl⟩
theorem dX3_read_82 : q_d cX3_read 82 83 (.iconst 0) 1 := ⟨by decide +kernel, rfl⟩
theorem dX3_read_83 : q_d cX3_read 83 84 (.istore_n 2) 1 := ⟨by decide +kernel, rfl⟩
theorem dX3_read_84 : q_d cX3_read 84 87 (.iinc 3 1) 3 := ⟨by decide +kernel, rfl⟩
theorem dX3_read_87 : q_j cX3_read 87 90 36 (fun o => .goto o) := ⟨(-51), by decide +kernel, rfl, rfl⟩
theorem dX3_read_90 : q_d cX3_read 90 91 (.iload_n 2) 1 := ⟨by decide +kernel, rfl⟩
theorem dX3_read_91 : q_j cX3_read 91 94 107 (fun o => .ifCond .ne o) := ⟨16, by decide +kernel, rfl, rfl⟩
theorem dX3_read_94 : q_d cX3_read 94 95 (.aload_n 0) 1 := ⟨by decide +kernel, rfl⟩
theorem dX3_read_95 : q_d cX3_read 95 98 (.getfield 41) 3 := ⟨by decide +kernel, rfl⟩
theorem dX3_read_98 : q_j cX3_read 98 101 107 (fun o => .ifCond .ne o) := ⟨9, by decide +kernel, rfl, rfl⟩
theorem dX3_read_101 : q_d cX3_read 101 102 (.aload_n 0) 1 := ⟨by decide +kernel, rfl⟩
theorem dX3_read_102 : q_d cX3_read 102 103 (.iconst 1) 1 := ⟨by decide +kernel, rfl⟩
theorem dX3_read_103 : q_d cX3_read 103 106 (.invokevirtual 68) 3 := ⟨by decide +kernel, rfl⟩
theorem dX3_read_106 : q_d cX3_read 106 107 (.pop) 1 := ⟨by decide +kernel, rfl⟩
theorem dX3_read_107 : q_d cX3_read 107 108 (.aload_n 0) 1 := ⟨by decide +kernel, rfl⟩
theorem dX3_read_108 : q_d cX3_read 108 111 (.getfield 41) 3 := ⟨by decide +kernel, rfl⟩
theorem dX3_read_111 : q_j cX3_read 111 114 131 (fun o => .ifCond .ne o) := ⟨20, by decide +kernel, rfl, rfl⟩
theorem dX3_read_114 : q_d cX3_read 114 115 (.aload_n 0) 1 := ⟨by decide +kernel, rfl⟩
theorem dX3_read_115 : q_d cX3_read 115 118 (.getfield 18) 3 := ⟨by decide +kernel, rfl⟩
theorem dX3_read_118 : q_d cX3_read 118 121 (.getfield 71) 3 := ⟨by decide +kernel, rfl⟩
theorem dX3_read_121 : q_j cX3_read 121 124 131 (fun o => .ifCond .ne o) := ⟨10, by decide +kernel, rfl, rfl⟩
theorem dX3_read_124 : q_d cX3_read 124 125 (.aload_n 0) 1 := ⟨by decide +kernel, rfl⟩
theorem dX3_read_125 : q_d cX3_read 125 127 (.bipush 7) 2 := ⟨by decide +kernel, rfl⟩
theorem dX3_read_127 : q_d cX3_read 127 130 (.invokevirtual 68) 3 := ⟨by decide +kernel, rfl⟩
theorem dX3_read_130 : q_d cX3_read 130 131 (.pop) 1 := ⟨by decide +kernel, rfl⟩
theorem dX3_read_131 : q_d cX3_read 131 132 (.aload_n 0) 1 := ⟨by decide +kernel, rfl⟩
theorem dX3_read_132 : q_d cX3_read 132 135 (.getfield 18) 3 := ⟨by decide +kernel, rfl⟩
theorem dX3_read_135 : q_d cX3_read 135 138 (.invokevirtual 74) 3 := ⟨by decide +kernel, rfl⟩
theorem dX3_read_138 : q_d cX3_read 138 139 (.aload_n 0) 1 := ⟨by decide +kernel, rfl⟩
theorem dX3_read_139 : q_d cX3_read 139 142 (.getfield 41) 3 := ⟨by decide +kernel, rfl⟩
theorem dX3_read_142 : q_d cX3_read 142 143 (.ireturn) 1 := ⟨by decide +kernel, rfl⟩
theorem dX3_scan_0 : q_d cX3_scan 0 1 (.iconst 0) 1 := ⟨by decide +kernel, rfl⟩
theorem dX3_scan_1 : q_d cX3_scan 1 2 (.istore_n 2) 1 := ⟨by decide +kernel, rfl⟩
theorem dX3_scan_2 : q_d cX3_scan 2 3 (.iconst 0) 1 := ⟨by decide +kernel, rfl⟩
theorem dX3_scan_3 : q_d cX3_scan 3 4 (.istore_n 3) 1 := ⟨by decide +kernel, rfl⟩
theorem dX3_scan_4 : q_d cX3_scan 4 5 (.iload_n 3) 1 := ⟨by decide +kernel, rfl⟩
theorem dX3_scan_5 : q_d cX3_scan 5 6 (.iload_n 1) 1 := ⟨by decide +kernel, rfl⟩
theorem dX3_scan_6 : q_j cX3_scan 6 9 131 (fun o => .if_icmp .ge o) := ⟨125, by decide +kernel, rfl, rfl⟩
theorem dX3_scan_9 : q_d cX3_scan 9 10 (.aload_n 0) 1 := ⟨by decide +kernel, rfl⟩
theorem dX3_scan_10 : q_d cX3_scan 10 13 (.getfield 9) 3 := ⟨by decide +kernel, rfl⟩
theorem dX3_scan_13 : q_d cX3_scan 13 14 (.iload_n 3) 1 := ⟨by decide +kernel, rfl⟩
theorem dX3_scan_14 : q_d cX3_scan 14 15 (.iaload) 1 := ⟨by decide +kernel, rfl⟩
theorem dX3_scan_15 : q_d cX3_scan 15 18 (.invokestatic 77) 3 := ⟨by decide +kernel, rfl⟩
theorem dX3_scan_18 : q_d cX3_scan 18 20 (.istore 4) 2 := ⟨by decide +kernel, rfl⟩
theorem dX3_scan_20 : q_d cX3_scan 20 22 (.iload 4) 2 := ⟨by decide +kernel, rfl⟩
theorem dX3_scan_22 : q_d cX3_scan 22 25 (.sipush 256) 3 := ⟨by decide +kernel, rfl⟩
theorem dX3_scan_25 : q_j cX3_scan 25 28 36 (fun o => .if_icmp .eq o) := ⟨11, by decide +kernel, rfl, rfl⟩
theorem dX3_scan_28 : q_d cX3_scan 28 30 (.iload 4) 2 := ⟨by decide +kernel, rfl⟩
theorem dX3_scan_30 : q_d cX3_scan 30 33 (.sipush 257) 3 := ⟨by decide +kernel, rfl⟩
theorem dX3_scan_33 : q_j cX3_scan 33 36 69 (fun o => .if_icmp .ne o) := ⟨36, by decide +kernel, rfl, rfl⟩
theorem dX3_scan_36 : q_d cX3_scan 36 37 (.iload_n 2) 1 := ⟨by decide +kernel, rfl⟩
theorem dX3_scan_37 : q_j cX3_scan 37 40 69 (fun o => .ifCond .le o) := ⟨32, by decide +kernel, rfl, rfl⟩
theorem dX3_scan_40 : q_d cX3_scan 40 41 (.aload_n 0) 1 := ⟨by decide +kernel, rfl⟩
theorem dX3_scan_41 : q_d cX3_scan 41 44 (.getfield 22) 3 := ⟨by decide +kernel, rfl⟩
theorem dX3_scan_44 : q_d cX3_scan 44 45 (.iload_n 2) 1 := ⟨by decide +kernel, rfl⟩
theorem dX3_scan_45 : q_d cX3_scan 45 46 (.iconst 1) 1 := ⟨by decide +kernel, rfl⟩
theorem dX3_scan_46 : q_d cX3_scan 46 47 (.isub) 1 := ⟨by decide +kernel, rfl⟩
theorem dX3_scan_47 : q_d cX3_scan 47 48 (.iaload) 1 := ⟨by decide +kernel, rfl⟩
theorem dX3_scan_48 : q_d cX3_scan 48 50 (.iload 4) 2 := ⟨by decide +kernel, rfl⟩
theorem dX3_scan_50 : q_j cX3_scan 50 53 69 (fun o => .if_icmp .ne o) := ⟨19, by decide +kernel, rfl, rfl⟩
theorem dX3_scan_53 : q_d cX3_scan 53 54 (.aload_n 0) 1 := ⟨by decide +kernel, rfl⟩
theorem dX3_scan_54 : q_d cX3_scan 54 57 (.getfield 28) 3 := ⟨by decide +kernel, rfl⟩
theorem dX3_scan_57 : q_d cX3_scan 57 58 (.iload_n 2) 1 := ⟨by decide +kernel, rfl⟩
theorem dX3_scan_58 : q_d cX3_scan 58 59 (.iconst 1) 1 := ⟨by decide +kernel, rfl⟩
theorem dX3_scan_59 : q_d cX3_scan 59 60 (.isub) 1 := ⟨by decide +kernel, rfl⟩
theorem dX3_scan_60 : q_d cX3_scan 60 61 (.iaload) 1 := ⟨by decide +kernel, rfl⟩
theorem dX3_scan_61 : q_d cX3_scan 61 62 (.iload_n 3) 1 := ⟨by decide +kernel, rfl⟩
theorem dX3_scan_62 : q_j cX3_scan 62 65 69 (fun o => .if_icmp .ne o) := ⟨7, by decide +kernel, rfl, rfl⟩
theorem dX3_scan_65 : q_d cX3_scan 65 66 (.iconst 1) 1 := ⟨by decide +kernel, rfl⟩
theorem dX3_scan_66 : q_j cX3_scan 66 69 70 (fun o => .goto o) := ⟨4, by decide +kernel, rfl, rfl⟩
theorem dX3_scan_69 : q_d cX3_scan 69 70 (.iconst 0) 1 := ⟨by decide +kernel, rfl⟩
theorem dX3_scan_70 : q_d cX3_scan 70 72 (.istore 5) 2 := ⟨by decide +kernel, rfl⟩
theorem dX3_scan_72 : q_d cX3_scan 72 74 (.iload 5) 2 := ⟨by decide +kernel, rfl⟩
theorem dX3_scan_74 : q_j cX3_scan 74 77 91 (fun o => .ifCond .eq o) := ⟨17, by decide +kernel, rfl, rfl⟩
theorem dX3_scan_77 : q_d cX3_scan 77 78 (.aload_n 0) 1 := ⟨by decide +kernel, rfl⟩
theorem dX3_scan_78 : q_d cX3_scan 78 81 (.getfield 28) 3 := ⟨by decide +kernel, rfl⟩
theorem dX3_scan_81 : q_d cX3_scan 81 82 (.iload_n 2) 1 := ⟨by decide +kernel, rfl⟩
theorem dX3_scan_82 : q_d cX3_scan 82 83 (.iconst 1) 1 := ⟨by decide +kernel, rfl⟩
theorem dX3_scan_83 : q_d cX3_scan 83 84 (.isub) 1 := ⟨by decide +kernel, rfl⟩
theorem dX3_scan_84 : q_d cX3_scan 84 85 (.iload_n 3) 1 := ⟨by decide +kernel, rfl⟩
theorem dX3_scan_85 : q_d cX3_scan 85 86 (.iconst 1) 1 := ⟨by decide +kernel, rfl⟩
theorem dX3_scan_86 : q_d cX3_scan 86 87 (.iadd) 1 := ⟨by decide +kernel, rfl⟩
theorem dX3_scan_87 : q_d cX3_scan 87 88 (.iastore) 1 := ⟨by decide +kernel, rfl⟩
theorem dX3_scan_88 : q_j cX3_scan 88 91 125 (fun o => .goto o) := ⟨37, by decide +kernel, rfl, rfl⟩
theorem dX3_scan_91 : q_d cX3_scan 91 93 (.iload 4) 2 := ⟨by decide +kernel, rfl⟩
theorem dX3_scan_93 : q_d cX3_scan 93 95 (.bipush 32) 2 := ⟨by decide +kernel, rfl⟩
theorem dX3_scan_95 : q_j cX3_scan 95 98 125 (fun o => .if_icmp .eq o) := ⟨30, by decide +kernel, rfl, rfl⟩
theorem dX3_scan_98 : q_d cX3_scan 98 99 (.aload_n 0) 1 := ⟨by decide +kernel, rfl⟩
theorem dX3_scan_99 : q_d cX3_scan 99 102 (.getfield 22) 3 := ⟨by decide +kernel, rfl⟩
theorem dX3_scan_102 : q_d cX3_scan 102 103 (.iload_n 2) 1 := ⟨by decide +kernel, rfl⟩
theorem dX3_scan_103 : q_d cX3_scan 103 105 (.iload 4) 2 := ⟨by decide +kernel, rfl⟩
theorem dX3_scan_105 : q_d cX3_scan 105 106 (.iastore) 1 := ⟨by decide +kernel, rfl⟩
theorem dX3_scan_106 : q_d cX3_scan 106 107 (.aload_n 0) 1 := ⟨by decide +kernel, rfl⟩
theorem dX3_scan_107 : q_d cX3_scan 107 110 (.getfield 25) 3 := ⟨by decide +kernel, rfl⟩
theorem dX3_scan_110 : q_d cX3_scan 110 111 (.iload_n 2) 1 := ⟨by decide +kernel, rfl⟩
theorem dX3_scan_111 : q_d cX3_scan 111 112 (.iload_n 3) 1 := ⟨by decide +kernel, rfl⟩
theorem dX3_scan_112 : q_d cX3_scan 112 113 (.iastore) 1 := ⟨by decide +kernel, rfl⟩
theorem dX3_scan_113 : q_d cX3_scan 113 114 (.aload_n 0) 1 := ⟨by decide +kernel, rfl⟩
theorem dX3_scan_114 : q_d cX3_scan 114 117 (.getfield 28) 3 := ⟨by decide +kernel, rfl⟩
theorem dX3_scan_117 : q_d cX3_scan 117 118 (.iload_n 2) 1 := ⟨by decide +kernel, rfl⟩
theorem dX3_scan_118 : q_d cX3_scan 118 119 (.iload_n 3) 1 := ⟨by decide +kernel, rfl⟩
theorem dX3_scan_119 : q_d cX3_scan 119 120 (.iconst 1) 1 := ⟨by decide +kernel, rfl⟩
theorem dX3_scan_120 : q_d cX3_scan 120 121 (.iadd) 1 := ⟨by decide +kernel, rfl⟩
theorem dX3_scan_121 : q_d cX3_scan 121 122 (.iastore) 1 := ⟨by decide +kernel, rfl⟩
theorem dX3_scan_122 : q_d cX3_scan 122 125 (.iinc 2 1) 3 := ⟨by decide +kernel, rfl⟩
theorem dX3_scan_125 : q_d cX3_scan 125 128 (.iinc 3 1) 3 := ⟨by decide +kernel, rfl⟩
theorem dX3_scan_128 : q_j cX3_scan 128 131 4 (fun o => .goto o) := ⟨(-124), by decide +kernel, rfl, rfl⟩
theorem dX3_scan_131 : q_d cX3_scan 131 132 (.aload_n 0) 1 := ⟨by decide +kernel, rfl⟩
theorem dX3_scan_132 : q_d cX3_scan 132 135 (.getfield 22) 3 := ⟨by decide +kernel, rfl⟩
theorem dX3_scan_135 : q_d cX3_scan 135 136 (.iload_n 2) 1 := ⟨by decide +kernel, rfl⟩
theorem dX3_scan_136 : q_d cX3_scan 136 139 (.sipush 258) 3 := ⟨by decide +kernel, rfl⟩
theorem dX3_scan_139 : q_d cX3_scan 139 140 (.iastore) 1 := ⟨by decide +kernel, rfl⟩
theorem dX3_scan_140 : q_d cX3_scan 140 141 (.aload_n 0) 1 := ⟨by decide +kernel, rfl⟩
theorem dX3_scan_141 : q_d cX3_scan 141 144 (.getfield 25) 3 := ⟨by decide +kernel, rfl⟩
theorem dX3_scan_144 : q_d cX3_scan 144 145 (.iload_n 2) 1 := ⟨by decide +kernel, rfl⟩
theorem dX3_scan_145 : q_d cX3_scan 145 146 (.iload_n 1) 1 := ⟨by decide +kernel, rfl⟩
theorem dX3_scan_146 : q_d cX3_scan 146 147 (.iastore) 1 := ⟨by decide +kernel, rfl⟩
theorem dX3_scan_147 : q_d cX3_scan 147 148 (.aload_n 0) 1 := ⟨by decide +kernel, rfl⟩
theorem dX3_scan_148 : q_d cX3_scan 148 151 (.getfield 28) 3 := ⟨by decide +kernel, rfl⟩
theorem dX3_scan_151 : q_d cX3_scan 151 152 (.iload_n 2) 1 := ⟨by decide +kernel, rfl⟩
theorem dX3_scan_152 : q_d cX3_scan 152 153 (.iload_n 1) 1 := ⟨by decide +kernel, rfl⟩
theorem dX3_scan_153 : q_d cX3_scan 153 154 (.iastore) 1 := ⟨by decide +kernel, rfl⟩
theorem dX3_scan_154 : q_d cX3_scan 154 155 (.iconst 0) 1 := ⟨by decide +kernel, rfl⟩
theorem dX3_scan_155 : q_d cX3_scan 155 156 (.istore_n 3) 1 := ⟨by decide +kernel, rfl⟩
theorem dX3_scan_156 : q_d cX3_scan 156 157 (.iload_n 3) 1 := ⟨by decide +kernel, rfl⟩
theorem dX3_scan_157 : q_d cX3_scan 157 158 (.iload_n 2) 1 := ⟨by decide +kernel, rfl⟩
theorem dX3_scan_158 : q_j cX3_scan 158 161 192 (fun o => .if_icmp .gt o) := ⟨34, by decide +kernel, rfl, rfl⟩
theorem dX3_scan_161 : q_d cX3_scan 161 162 (.aload_n 0) 1 := ⟨by decide +kernel, rfl⟩
theorem dX3_scan_162 : q_d cX3_scan 162 165 (.getfield 33) 3 := ⟨by decide +kernel, rfl⟩
theorem dX3_scan_165 : q_d cX3_scan 165 166 (.iload_n 3) 1 := ⟨by decide +kernel, rfl⟩
theorem dX3_scan_166 : q_d cX3_scan 166 167 (.aload_n 0) 1 := ⟨by decide +kernel, rfl⟩
theorem dX3_scan_167 : q_d cX3_scan 167 170 (.getfield 9) 3 := ⟨by decide +kernel, rfl⟩
theorem dX3_scan_170 : q_d cX3_scan 170 171 (.aload_n 0) 1 := ⟨by decide +kernel, rfl⟩
theorem dX3_scan_171 : q_d cX3_scan 171 174 (.getfield 25) 3 := ⟨by decide +kernel, rfl⟩
theorem dX3_scan_174 : q_d cX3_scan 174 175 (.iload_n 3) 1 := ⟨by decide +kernel, rfl⟩
theorem dX3_scan_175 : q_d cX3_scan 175 176 (.iaload) 1 := ⟨by decide +kernel, rfl⟩
theorem dX3_scan_176 : q_d cX3_scan 176 177 (.aload_n 0) 1 := ⟨by decide +kernel, rfl⟩
theorem dX3_scan_177 : q_d cX3_scan 177 180 (.getfield 28) 3 := ⟨by decide +kernel, rfl⟩
theorem dX3_scan_180 : q_d cX3_scan 180 181 (.iload_n 3) 1 := ⟨by decide +kernel, rfl⟩
theorem dX3_scan_181 : q_d cX3_scan 181 182 (.iaload) 1 := ⟨by decide +kernel, rfl⟩
theorem dX3_scan_182 : q_d cX3_scan 182 185 (.invokestatic 81) 3 := ⟨by decide +kernel, rfl⟩
theorem dX3_scan_185 : q_d cX3_scan 185 186 (.aastore) 1 := ⟨by decide +kernel, rfl⟩
theorem dX3_scan_186 : q_d cX3_scan 186 189 (.iinc 3 1) 3 := ⟨by decide +kernel, rfl⟩
theorem dX3_scan_189 : q_j cX3_scan 189 192 156 (fun o => .goto o) := ⟨(-33), by decide +kernel, rfl, rfl⟩
theorem dX3_scan_192 : q_d cX3_scan 192 193 (.return_) 1 := ⟨by decide +kernel, rfl⟩
theorem dX3_sortOf_0 : q_d cX3_sortOf 0 1 (.iload_n 0) 1 := ⟨by decide +kernel, rfl⟩
theorem dX3_sortOf_1 : q_d cX3_sortOf 1 3 (.bipush 97) 2 := ⟨by decide +kernel, rfl⟩
theorem dX3_sortOf_3 : q_j cX3_sortOf 3 6 16 (fun o => .if_icmp .lt o) := ⟨13, by decide +kernel, rfl, rfl⟩
theorem dX3_sortOf_6 : q_d cX3_sortOf 6 7 (.iload_n 0) 1 := ⟨by decide +kernel, rfl⟩
theorem dX3_sortOf_7 : q_d cX3_sortOf 7 9 (.bipush 122) 2 := ⟨by decide +kernel, rfl⟩
theorem dX3_sortOf_9 : q_j cX3_sortOf 9 12 16 (fun o => .if_icmp .gt o) := ⟨7, by decide +kernel, rfl, rfl⟩
theorem dX3_sortOf_12 : q_d cX3_sortOf 12 15 (.sipush 256) 3 := ⟨by decide +kernel, rfl⟩
theorem dX3_sortOf_15 : q_d cX3_sortOf 15 16 (.ireturn) 1 := ⟨by decide +kernel, rfl⟩
theorem dX3_sortOf_16 : q_d cX3_sortOf 16 17 (.iload_n 0) 1 := ⟨by decide +kernel, rfl⟩
theorem dX3_sortOf_17 : q_d cX3_sortOf 17 19 (.bipush 48) 2 := ⟨by decide +kernel, rfl⟩
theorem dX3_sortOf_19 : q_j cX3_sortOf 19 22 34 (fun o => .if_icmp .lt o) := ⟨15, by decide +kernel, rfl, rfl⟩
theorem dX3_sortOf_22 : q_d cX3_sortOf 22 23 (.iload_n 0) 1 := ⟨by decide +kernel, rfl⟩
theorem dX3_sortOf_23 : q_d cX3_sortOf 23 25 (.bipush 57) 2 := ⟨by decide +kernel, rfl⟩
theorem dX3_sortOf_25 : q_j cX3_sortOf 25 28 34 (fun o => .if_icmp .gt o) := ⟨9, by decide +kernel, rfl, rfl⟩
theorem dX3_sortOf_28 : q_d cX3_sortOf 28 31 (.sipush 257) 3 := ⟨by decide +kernel, rfl⟩
theorem dX3_sortOf_31 : q_j cX3_sortOf 31 34 35 (fun o => .goto o) := ⟨4, by decide +kernel, rfl, rfl⟩
theorem dX3_sortOf_34 : q_d cX3_sortOf 34 35 (.iload_n 0) 1 := ⟨by decide +kernel, rfl⟩
theorem dX3_sortOf_35 : q_d cX3_sortOf 35 36 (.ireturn) 1 := ⟨by decide +kernel, rfl⟩
theorem dX3_fail_0 : q_d cX3_fail 0 1 (.aload_n 0) 1 := ⟨by decide +kernel, rfl⟩
theorem dX3_fail_1 : q_d cX3_fail 1 2 (.iload_n 1) 1 := ⟨by decide +kernel, rfl⟩
theorem dX3_fail_2 : q_d cX3_fail 2 5 (.putfield 41) 3 := ⟨by decide +kernel, rfl⟩
theorem dX3_fail_5 : q_d cX3_fail 5 6 (.aload_n 0) 1 := ⟨by decide +kernel, rfl⟩
theorem dX3_fail_6 : q_d cX3_fail 6 7 (.aload_n 0) 1 := ⟨by decide +kernel, rfl⟩
theorem dX3_fail_7 : q_d cX3_fail 7 10 (.getfield 25) 3 := ⟨by decide +kernel, rfl⟩
theorem dX3_fail_10 : q_d cX3_fail 10 11 (.aload_n 0) 1 := ⟨by decide +kernel, rfl⟩
theorem dX3_fail_11 : q_d cX3_fail 11 14 (.getfield 37) 3 := ⟨by decide +kernel, rfl⟩
theorem dX3_fail_14 : q_d cX3_fail 14 15 (.iaload) 1 := ⟨by decide +kernel, rfl⟩
theorem dX3_fail_15 : q_d cX3_fail 15 18 (.putfield 85) 3 := ⟨by decide +kernel, rfl⟩
theorem dX3_fail_18 : q_d cX3_fail 18 19 (.iconst 0) 1 := ⟨by decide +kernel, rfl⟩
theorem dX3_fail_19 : q_d cX3_fail 19 20 (.ireturn) 1 := ⟨by decide +kernel, rfl⟩
theorem dX3_step_0 : q_d cX3_step 0 1 (.aload_n 0) 1 := ⟨by decide +kernel, rfl⟩
theorem dX3_step_1 : q_d cX3_step 1 4 (.getfield 37) 3 := ⟨by decide +kernel, rfl⟩
theorem dX3_step_4 : q_d cX3_step 4 7 (.sipush 600) 3 := ⟨by decide +kernel, rfl⟩
theorem dX3_step_7 : q_j cX3_step 7 10 20 (fun o => .if_icmp .ge o) := ⟨13, by decide +kernel, rfl, rfl⟩
theorem dX3_step_10 : q_d cX3_step 10 11 (.aload_n 0) 1 := ⟨by decide +kernel, rfl⟩
theorem dX3_step_11 : q_d cX3_step 11 12 (.dup) 1 := ⟨by decide +kernel, rfl⟩
theorem dX3_step_12 : q_d cX3_step 12 15 (.getfield 37) 3 := ⟨by decide +kernel, rfl⟩
theorem dX3_step_15 : q_d cX3_step 15 16 (.iconst 1) 1 := ⟨by decide +kernel, rfl⟩
theorem dX3_step_16 : q_d cX3_step 16 17 (.iadd) 1 := ⟨by decide +kernel, rfl⟩
theorem dX3_step_17 : q_d cX3_step 17 20 (.putfield 37) 3 := ⟨by decide +kernel, rfl⟩
theorem dX3_step_20 : q_d cX3_step 20 21 (.return_) 1 := ⟨by decide +kernel, rfl⟩
theorem dX3_takeSign_0 : q_d cX3_takeSign 0 1 (.aload_n 0) 1 := ⟨by decide +kernel, rfl⟩
theorem dX3_takeSign_1 : q_d cX3_takeSign 1 4 (.getfield 37) 3 := ⟨by decide +kernel, rfl⟩
theorem dX3_takeSign_4 : q_d cX3_takeSign 4 7 (.sipush 600) 3 := ⟨by decide +kernel, rfl⟩
theorem dX3_takeSign_7 : q_j cX3_takeSign 7 10 23 (fun o => .if_icmp .ge o) := ⟨16, by decide +kernel, rfl, rfl⟩
theorem dX3_takeSign_10 : q_d cX3_takeSign 10 11 (.aload_n 0) 1 := ⟨by decide +kernel, rfl⟩
theorem dX3_takeSign_11 : q_d cX3_takeSign 11 14 (.getfield 22) 3 := ⟨by decide +kernel, rfl⟩
theorem dX3_takeSign_14 : q_d cX3_takeSign 14 15 (.aload_n 0) 1 := ⟨by decide +kernel, rfl⟩
theorem dX3_takeSign_15 : q_d cX3_takeSign 15 18 (.getfield 37) 3 := ⟨by decide +kernel, rfl⟩
theorem dX3_takeSign_18 : q_d cX3_takeSign 18 19 (.iaload) 1 := ⟨by decide +kernel, rfl⟩
theorem dX3_takeSign_19 : q_d cX3_takeSign 19 20 (.iload_n 1) 1 := ⟨by decide +kernel, rfl⟩
theorem dX3_takeSign_20 : q_j cX3_takeSign 20 23 25 (fun o => .if_icmp .eq o) := ⟨5, by decide +kernel, rfl, rfl⟩
theorem dX3_takeSign_23 : q_d cX3_takeSign 23 24 (.iconst 0) 1 := ⟨by decide +kernel, rfl⟩
theorem dX3_takeSign_24 : q_d cX3_takeSign 24 25 (.ireturn) 1 := ⟨by decide +kernel, rfl⟩
theorem dX3_takeSign_25 : q_d cX3_takeSign 25 26 (.aload_n 0) 1 := ⟨by decide +kernel, rfl⟩
theorem dX3_takeSign_26 : q_d cX3_takeSign 26 27 (.dup) 1 := ⟨by decide +kernel, rfl⟩
theorem dX3_takeSign_27 : q_d cX3_takeSign 27 30 (.getfield 37) 3 := ⟨by decide +kernel, rfl⟩
theorem dX3_takeSign_30 : q_d cX3_takeSign 30 31 (.iconst 1) 1 := ⟨by decide +kernel, rfl⟩
theorem dX3_takeSign_31 : q_d cX3_takeSign 31 32 (.iadd) 1 := ⟨by decide +kernel, rfl⟩
theorem dX3_takeSign_32 : q_d cX3_takeSign 32 35 (.putfield 37) 3 := ⟨by decide +kernel, rfl⟩
theorem dX3_takeSign_35 : q_d cX3_takeSign 35 36 (.iconst 1) 1 := ⟨by decide +kernel, rfl⟩
theorem dX3_takeSign_36 : q_d cX3_takeSign 36 37 (.ireturn) 1 := ⟨by decide +kernel, rfl⟩
theorem dX3_takeWord_0 : q_d cX3_takeWord 0 1 (.aload_n 0) 1 := ⟨by decide +kernel, rfl⟩
theorem dX3_takeWord_1 : q_d cX3_takeWord 1 4 (.getfield 37) 3 := ⟨by decide +kernel, rfl⟩
theorem dX3_takeWord_4 : q_d cX3_takeWord 4 7 (.sipush 600) 3 := ⟨by decide +kernel, rfl⟩
theorem dX3_takeWord_7 : q_j cX3_takeWord 7 10 23 (fun o => .if_icmp .ge o) := ⟨16, by decide +kernel, rfl, rfl⟩
theorem dX3_takeWord_10 : q_d cX3_takeWord 10 11 (.aload_n 0) 1 := ⟨by decide +kernel, rfl⟩
theorem dX3_takeWord_11 : q_d cX3_takeWord 11 14 (.getfield 33) 3 := ⟨by decide +kernel, rfl⟩
theorem dX3_takeWord_14 : q_d cX3_takeWord 14 15 (.aload_n 0) 1 := ⟨by decide +kernel, rfl⟩
theorem dX3_takeWord_15 : q_d cX3_takeWord 15 18 (.getfield 37) 3 := ⟨by decide +kernel, rfl⟩
theorem dX3_takeWord_18 : q_d cX3_takeWord 18 19 (.aaload) 1 := ⟨by decide +kernel, rfl⟩
theorem dX3_takeWord_19 : q_d cX3_takeWord 19 20 (.aload_n 1) 1 := ⟨by decide +kernel, rfl⟩
theorem dX3_takeWord_20 : q_j cX3_takeWord 20 23 25 (fun o => .if_acmp .eq o) := ⟨5, by decide +kernel, rfl, rfl⟩
theorem dX3_takeWord_23 : q_d cX3_takeWord 23 24 (.iconst 0) 1 := ⟨by decide +kernel, rfl⟩
theorem dX3_takeWord_24 : q_d cX3_takeWord 24 25 (.ireturn) 1 := ⟨by decide +kernel, rfl⟩
theorem dX3_takeWord_25 : q_d cX3_takeWord 25 26 (.aload_n 0) 1 := ⟨by decide +kernel, rfl⟩
theorem dX3_takeWord_26 : q_d cX3_takeWord 26 27 (.dup) 1 := ⟨by decide +kernel, rfl⟩
theorem dX3_takeWord_27 : q_d cX3_takeWord 27 30 (.getfield 37) 3 := ⟨by decide +kernel, rfl⟩
theorem dX3_takeWord_30 : q_d cX3_takeWord 30 31 (.iconst 1) 1 := ⟨by decide +kernel, rfl⟩
theorem dX3_takeWord_31 : q_d cX3_takeWord 31 32 (.iadd) 1 := ⟨by decide +kernel, rfl⟩
theorem dX3_takeWord_32 : q_d cX3_takeWord 32 35 (.putfield 37) 3 := ⟨by decide +kernel, rfl⟩
theorem dX3_takeWord_35 : q_d cX3_takeWord 35 36 (.iconst 1) 1 := ⟨by decide +kernel, rfl⟩
theorem dX3_takeWord_36 : q_d cX3_takeWord 36 37 (.ireturn) 1 := ⟨by decide +kernel, rfl⟩
theorem dX3_takeNumber_0 : q_d cX3_takeNumber 0 1 (.aload_n 0) 1 := ⟨by decide +kernel, rfl⟩
theorem dX3_takeNumber_1 : q_d cX3_takeNumber 1 4 (.getfield 22) 3 := ⟨by decide +kernel, rfl⟩
theorem dX3_takeNumber_4 : q_d cX3_takeNumber 4 5 (.aload_n 0) 1 := ⟨by decide +kernel, rfl⟩
theorem dX3_takeNumber_5 : q_d cX3_takeNumber 5 8 (.getfield 37) 3 := ⟨by decide +kernel, rfl⟩
theorem dX3_takeNumber_8 : q_d cX3_takeNumber 8 9 (.iaload) 1 := ⟨by decide +kernel, rfl⟩
theorem dX3_takeNumber_9 : q_d cX3_takeNumber 9 12 (.sipush 257) 3 := ⟨by decide +kernel, rfl⟩
theorem dX3_takeNumber_12 : q_j cX3_takeNumber 12 15 17 (fun o => .if_icmp .eq o) := ⟨5, by decide +kernel, rfl, rfl⟩
theorem dX3_takeNumber_15 : q_d cX3_takeNumber 15 16 (.iconst 0) 1 := ⟨by decide +kernel, rfl⟩
theorem dX3_takeNumber_16 : q_d cX3_takeNumber 16 17 (.ireturn) 1 := ⟨by decide +kernel, rfl⟩
theorem dX3_takeNumber_17 : q_d cX3_takeNumber 17 18 (.aload_n 0) 1 := ⟨by decide +kernel, rfl⟩
theorem dX3_takeNumber_18 : q_d cX3_takeNumber 18 19 (.iconst 0) 1 := ⟨by decide +kernel, rfl⟩
theorem dX3_takeNumber_19 : q_d cX3_takeNumber 19 22 (.putfield 88) 3 := ⟨by decide +kernel, rfl⟩
theorem dX3_takeNumber_22 : q_d cX3_takeNumber 22 23 (.aload_n 0) 1 := ⟨by decide +kernel, rfl⟩
theorem dX3_takeNumber_23 : q_d cX3_takeNumber 23 26 (.getfield 25) 3 := ⟨by decide +kernel, rfl⟩
theorem dX3_takeNumber_26 : q_d cX3_takeNumber 26 27 (.aload_n 0) 1 := ⟨by decide +kernel, rfl⟩
theorem dX3_takeNumber_27 : q_d cX3_takeNumber 27 30 (.getfield 37) 3 := ⟨by decide +kernel, rfl⟩
theorem dX3_takeNumber_30 : q_d cX3_takeNumber 30 31 (.iaload) 1 := ⟨by decide +kernel, rfl⟩
theorem dX3_takeNumber_31 : q_d cX3_takeNumber 31 32 (.istore_n 3) 1 := ⟨by decide +kernel, rfl⟩
theorem dX3_takeNumber_32 : q_d cX3_takeNumber 32 33 (.iload_n 3) 1 := ⟨by decide +kernel, rfl⟩
theorem dX3_takeNumber_33 : q_d cX3_takeNumber 33 34 (.aload_n 0) 1 := ⟨by decide +kernel, rfl⟩
theorem dX3_takeNumber_34 : q_d cX3_takeNumber 34 37 (.getfield 28) 3 := ⟨by decide +kernel, rfl⟩
theorem dX3_takeNumber_37 : q_d cX3_takeNumber 37 38 (.aload_n 0) 1 := ⟨by decide +kernel, rfl⟩
theorem dX3_takeNumber_38 : q_d cX3_takeNumber 38 41 (.getfield 37) 3 := ⟨by decide +kernel, rfl⟩
theorem dX3_takeNumber_41 : q_d cX3_takeNumber 41 42 (.iaload) 1 := ⟨by decide +kernel, rfl⟩
theorem dX3_takeNumber_42 : q_j cX3_takeNumber 42 45 86 (fun o => .if_icmp .ge o) := ⟨44, by decide +kernel, rfl, rfl⟩
theorem dX3_takeNumber_45 : q_d cX3_takeNumber 45 46 (.iload_n 3) 1 := ⟨by decide +kernel, rfl⟩
theorem dX3_takeNumber_46 : q_d cX3_takeNumber 46 47 (.aload_n 0) 1 := ⟨by decide +kernel, rfl⟩
theorem dX3_takeNumber_47 : q_d cX3_takeNumber 47 50 (.getfield 9) 3 := ⟨by decide +kernel, rfl⟩
theorem dX3_takeNumber_50 : q_d cX3_takeNumber 50 51 (.arraylength) 1 := ⟨by decide +kernel, rfl⟩
theorem dX3_takeNumber_51 : q_j cX3_takeNumber 51 54 86 (fun o => .if_icmp .ge o) := ⟨35, by decide +kernel, rfl, rfl⟩
theorem dX3_takeNumber_54 : q_d cX3_takeNumber 54 55 (.aload_n 0) 1 := ⟨by decide +kernel, rfl⟩
theorem dX3_takeNumber_55 : q_d cX3_takeNumber 55 57 (.ldc 91) 2 := ⟨by decide +kernel, rfl⟩
theorem dX3_takeNumber_57 : q_d cX3_takeNumber 57 59 (.bipush 10) 2 := ⟨by decide +kernel, rfl⟩
theorem dX3_takeNumber_59 : q_d cX3_takeNumber 59 60 (.aload_n 0) 1 := ⟨by decide +kernel, rfl⟩
theorem dX3_takeNumber_60 : q_d cX3_takeNumber 60 63 (.getfield 88) 3 := ⟨by decide +kernel, rfl⟩
theorem dX3_takeNumber_63 : q_d cX3_takeNumber 63 64 (.imul) 1 := ⟨by decide +kernel, rfl⟩
theorem dX3_takeNumber_64 : q_d cX3_takeNumber 64 65 (.aload_n 0) 1 := ⟨by decide +kernel, rfl⟩
theorem dX3_takeNumber_65 : q_d cX3_takeNumber 65 68 (.getfield 9) 3 := ⟨by decide +kernel, rfl⟩
theorem dX3_takeNumber_68 : q_d cX3_takeNumber 68 69 (.iload_n 3) 1 := ⟨by decide +kernel, rfl⟩
theorem dX3_takeNumber_69 : q_d cX3_takeNumber 69 70 (.iaload) 1 := ⟨by decide +kernel, rfl⟩
theorem dX3_takeNumber_70 : q_d cX3_takeNumber 70 71 (.iadd) 1 := ⟨by decide +kernel, rfl⟩
theorem dX3_takeNumber_71 : q_d cX3_takeNumber 71 73 (.bipush 48) 2 := ⟨by decide +kernel, rfl⟩
theorem dX3_takeNumber_73 : q_d cX3_takeNumber 73 74 (.isub) 1 := ⟨by decide +kernel, rfl⟩
theorem dX3_takeNumber_74 : q_d cX3_takeNumber 74 77 (.invokestatic 47) 3 := ⟨by decide +kernel, rfl⟩
theorem dX3_takeNumber_77 : q_d cX3_takeNumber 77 80 (.putfield 88) 3 := ⟨by decide +kernel, rfl⟩
theorem dX3_takeNumber_80 : q_d cX3_takeNumber 80 83 (.iinc 3 1) 3 := ⟨by decide +kernel, rfl⟩
theorem dX3_takeNumber_83 : q_j cX3_takeNumber 83 86 32 (fun o => .goto o) := ⟨(-51), by decide +kernel, rfl, rfl⟩
theorem dX3_takeNumber_86 : q_d cX3_takeNumber 86 87 (.aload_n 0) 1 := ⟨by decide +kernel, rfl⟩
theorem dX3_takeNumber_87 : q_d cX3_takeNumber 87 90 (.getfield 88) 3 := ⟨by decide +kernel, rfl⟩
theorem dX3_takeNumber_90 : q_d cX3_takeNumber 90 91 (.iload_n 1) 1 := ⟨by decide +kernel, rfl⟩
theorem dX3_takeNumber_91 : q_j cX3_takeNumber 91 94 102 (fun o => .if_icmp .lt o) := ⟨11, by decide +kernel, rfl, rfl⟩
theorem dX3_takeNumber_94 : q_d cX3_takeNumber 94 95 (.aload_n 0) 1 := ⟨by decide +kernel, rfl⟩
theorem dX3_takeNumber_95 : q_d cX3_takeNumber 95 98 (.getfield 88) 3 := ⟨by decide +kernel, rfl⟩
theorem dX3_takeNumber_98 : q_d cX3_takeNumber 98 99 (.iload_n 2) 1 := ⟨by decide +kernel, rfl⟩
theorem dX3_takeNumber_99 : q_j cX3_takeNumber 99 102 108 (fun o => .if_icmp .le o) := ⟨9, by decide +kernel, rfl, rfl⟩
theorem dX3_takeNumber_102 : q_d cX3_takeNumber 102 103 (.aload_n 0) 1 := ⟨by decide +kernel, rfl⟩
theorem dX3_takeNumber_103 : q_d cX3_takeNumber 103 104 (.iconst 2) 1 := ⟨by decide +kernel, rfl⟩
theorem dX3_takeNumber_104 : q_d cX3_takeNumber 104 107 (.invokevirtual 68) 3 := ⟨by decide +kernel, rfl⟩
theorem dX3_takeNumber_107 : q_d cX3_takeNumber 107 108 (.ireturn) 1 := ⟨by decide +kernel, rfl⟩
theorem dX3_takeNumber_108 : q_d cX3_takeNumber 108 109 (.aload_n 0) 1 := ⟨by decide +kernel, rfl⟩
theorem dX3_takeNumber_109 : q_d cX3_takeNumber 109 112 (.invokevirtual 92) 3 := ⟨by decide +kernel, rfl⟩
theorem dX3_takeNumber_112 : q_d cX3_takeNumber 112 113 (.iconst 1) 1 := ⟨by decide +kernel, rfl⟩
theorem dX3_takeNumber_113 : q_d cX3_takeNumber 113 114 (.ireturn) 1 := ⟨by decide +kernel, rfl⟩
theorem dX3_readLine_0 : q_d cX3_readLine 0 1 (.aload_n 0) 1 := ⟨by decide +kernel, rfl⟩
theorem dX3_readLine_1 : q_d cX3_readLine 1 4 (.getfield 33) 3 := ⟨by decide +kernel, rfl⟩
theorem dX3_readLine_4 : q_d cX3_readLine 4 5 (.aload_n 0) 1 := ⟨by decide +kernel, rfl⟩
theorem dX3_readLine_5 : q_d cX3_readLine 5 8 (.getfield 37) 3 := ⟨by decide +kernel, rfl⟩
theorem dX3_readLine_8 : q_d cX3_readLine 8 9 (.aaload) 1 := ⟨by decide +kernel, rfl⟩
theorem dX3_readLine_9 : q_d cX3_readLine 9 12 (.getstatic 95) 3 := ⟨by decide +kernel, rfl⟩
theorem dX3_readLine_12 : q_j cX3_readLine 12 15 20 (fun o => .if_acmp .ne o) := ⟨8, by decide +kernel, rfl, rfl⟩
theorem dX3_readLine_15 : q_d cX3_readLine 15 16 (.aload_n 0) 1 := ⟨by decide +kernel, rfl⟩
theorem dX3_readLine_16 : q_d cX3_readLine 16 19 (.invokevirtual 99) 3 := ⟨by decide +kernel, rfl⟩
theorem dX3_readLine_19 : q_d cX3_readLine 19 20 (.ireturn) 1 := ⟨by decide +kernel, rfl⟩
theorem dX3_readLine_20 : q_d cX3_readLine 20 21 (.aload_n 0) 1 := ⟨by decide +kernel, rfl⟩
theorem dX3_readLine_21 : q_d cX3_readLine 21 24 (.getstatic 102) 3 := ⟨by decide +kernel, rfl⟩
theorem dX3_readLine_24 : q_d cX3_readLine 24 27 (.invokevirtual 105) 3 := ⟨by decide +kernel, rfl⟩
theorem dX3_readLine_27 : q_j cX3_readLine 27 30 35 (fun o => .ifCond .eq o) := ⟨8, by decide +kernel, rfl, rfl⟩
theorem dX3_readLine_30 : q_d cX3_readLine 30 31 (.aload_n 0) 1 := ⟨by decide +kernel, rfl⟩
theorem dX3_readLine_31 : q_d cX3_readLine 31 34 (.invokevirtual 109) 3 := ⟨by decide +kernel, rfl⟩
theorem dX3_readLine_34 : q_d cX3_readLine 34 35 (.ireturn) 1 := ⟨by decide +kernel, rfl⟩
theorem dX3_readLine_35 : q_d cX3_readLine 35 36 (.aload_n 0) 1 := ⟨by decide +kernel, rfl⟩
theorem dX3_readLine_36 : q_d cX3_readLine 36 39 (.getstatic 112) 3 := ⟨by decide +kernel, rfl⟩
theorem dX3_readLine_39 : q_d cX3_readLine 39 42 (.invokevirtual 105) 3 := ⟨by decide +kernel, rfl⟩
theorem dX3_readLine_42 : q_j cX3_readLine 42 45 50 (fun o => .ifCond .eq o) := ⟨8, by decide +kernel, rfl, rfl⟩
theorem dX3_readLine_45 : q_d cX3_readLine 45 46 (.aload_n 0) 1 := ⟨by decide +kernel, rfl⟩
theorem dX3_readLine_46 : q_d cX3_readLine 46 49 (.invokevirtual 115) 3 := ⟨by decide +kernel, rfl⟩
theorem dX3_readLine_49 : q_d cX3_readLine 49 50 (.ireturn) 1 := ⟨by decide +kernel, rfl⟩
theorem dX3_readLine_50 : q_d cX3_readLine 50 51 (.aload_n 0) 1 := ⟨by decide +kernel, rfl⟩
theorem dX3_readLine_51 : q_d cX3_readLine 51 54 (.getfield 18) 3 := ⟨by decide +kernel, rfl⟩
theorem dX3_readLine_54 : q_d cX3_readLine 54 57 (.getfield 118) 3 := ⟨by decide +kernel, rfl⟩
theorem dX3_readLine_57 : q_d cX3_readLine 57 58 (.iconst (-1)) 1 := ⟨by decide +kernel, rfl⟩
theorem dX3_readLine_58 : q_j cX3_readLine 58 61 76 (fun o => .if_icmp .ne o) := ⟨18, by decide +kernel, rfl, rfl⟩
theorem dX3_readLine_61 : q_d cX3_readLine 61 62 (.aload_n 0) 1 := ⟨by decide +kernel, rfl⟩
theorem dX3_readLine_62 : q_d cX3_readLine 62 65 (.getstatic 121) 3 := ⟨by decide +kernel, rfl⟩
theorem dX3_readLine_65 : q_d cX3_readLine 65 68 (.invokevirtual 105) 3 := ⟨by decide +kernel, rfl⟩
theorem dX3_readLine_68 : q_j cX3_readLine 68 71 76 (fun o => .ifCond .eq o) := ⟨8, by decide +kernel, rfl, rfl⟩
theorem dX3_readLine_71 : q_d cX3_readLine 71 72 (.aload_n 0) 1 := ⟨by decide +kernel, rfl⟩
theorem dX3_readLine_72 : q_d cX3_readLine 72 75 (.invokevirtual 124) 3 := ⟨by decide +kernel, rfl⟩
theorem dX3_readLine_75 : q_d cX3_readLine 75 76 (.ireturn) 1 := ⟨by decide +kernel, rfl⟩
theorem dX3_readLine_76 : q_d cX3_readLine 76 77 (.aload_n 0) 1 := ⟨by decide +kernel, rfl⟩
theorem dX3_readLine_77 : q_d cX3_readLine 77 80 (.getfield 18) 3 := ⟨by decide +kernel, rfl⟩
theorem dX3_readLine_80 : q_d cX3_readLine 80 83 (.getfield 127) 3 := ⟨by decide +kernel, rfl⟩
theorem dX3_readLine_83 : q_d cX3_readLine 83 84 (.iconst (-1)) 1 := ⟨by decide +kernel, rfl⟩
theorem dX3_readLine_84 : q_j cX3_readLine 84 87 102 (fun o => .if_icmp .ne o) := ⟨18, by decide +kernel, rfl, rfl⟩
theorem dX3_readLine_87 : q_d cX3_readLine 87 88 (.aload_n 0) 1 := ⟨by decide +kernel, rfl⟩
theorem dX3_readLine_88 : q_d cX3_readLine 88 91 (.getstatic 130) 3 := ⟨by decide +kernel, rfl⟩
theorem dX3_readLine_91 : q_d cX3_readLine 91 94 (.invokevirtual 105) 3 := ⟨by decide +kernel, rfl⟩
theorem dX3_readLine_94 : q_j cX3_readLine 94 97 102 (fun o => .ifCond .eq o) := ⟨8, by decide +kernel, rfl, rfl⟩
theorem dX3_readLine_97 : q_d cX3_readLine 97 98 (.aload_n 0) 1 := ⟨by decide +kernel, rfl⟩
theorem dX3_readLine_98 : q_d cX3_readLine 98 101 (.invokevirtual 133) 3 := ⟨by decide +kernel, rfl⟩
theorem dX3_readLine_101 : q_d cX3_readLine 101 102 (.ireturn) 1 := ⟨by decide +kernel, rfl⟩
theorem dX3_readLine_102 : q_d cX3_readLine 102 103 (.aload_n 0) 1 := ⟨by decide +kernel, rfl⟩
theorem dX3_readLine_103 : q_d cX3_readLine 103 106 (.getfield 18) 3 := ⟨by decide +kernel, rfl⟩
theorem dX3_readLine_106 : q_d cX3_readLine 106 109 (.getfield 136) 3 := ⟨by decide +kernel, rfl⟩
theorem dX3_readLine_109 : q_d cX3_readLine 109 110 (.iconst (-1)) 1 := ⟨by decide +kernel, rfl⟩
theorem dX3_readLine_110 : q_j cX3_readLine 110 113 128 (fun o => .if_icmp .ne o) := ⟨18, by decide +kernel, rfl, rfl⟩
theorem dX3_readLine_113 : q_d cX3_readLine 113 114 (.aload_n 0) 1 := ⟨by decide +kernel, rfl⟩
theorem dX3_readLine_114 : q_d cX3_readLine 114 117 (.getstatic 139) 3 := ⟨by decide +kernel, rfl⟩
theorem dX3_readLine_117 : q_d cX3_readLine 117 120 (.invokevirtual 105) 3 := ⟨by decide +kernel, rfl⟩
theorem dX3_readLine_120 : q_j cX3_readLine 120 123 128 (fun o => .ifCond .eq o) := ⟨8, by decide +kernel, rfl, rfl⟩
theorem dX3_readLine_123 : q_d cX3_readLine 123 124 (.aload_n 0) 1 := ⟨by decide +kernel, rfl⟩
theorem dX3_readLine_124 : q_d cX3_readLine 124 127 (.invokevirtual 142) 3 := ⟨by decide +kernel, rfl⟩
theorem dX3_readLine_127 : q_d cX3_readLine 127 128 (.ireturn) 1 := ⟨by decide +kernel, rfl⟩
theorem dX3_readLine_128 : q_d cX3_readLine 128 129 (.aload_n 0) 1 := ⟨by decide +kernel, rfl⟩
theorem dX3_readLine_129 : q_d cX3_readLine 129 132 (.getfield 18) 3 := ⟨by decide +kernel, rfl⟩
theorem dX3_readLine_132 : q_d cX3_readLine 132 135 (.getfield 145) 3 := ⟨by decide +kernel, rfl⟩
theorem dX3_readLine_135 : q_j cX3_readLine 135 138 159 (fun o => .ifCond .ne o) := ⟨24, by decide +kernel, rfl, rfl⟩
theorem dX3_readLine_138 : q_d cX3_readLine 138 139 (.aload_n 0) 1 := ⟨by decide +kernel, rfl⟩
theorem dX3_readLine_139 : q_d cX3_readLine 139 142 (.getstatic 148) 3 := ⟨by decide +kernel, rfl⟩
theorem dX3_readLine_142 : q_d cX3_readLine 142 145 (.invokevirtual 105) 3 := ⟨by decide +kernel, rfl⟩
theorem dX3_readLine_145 : q_j cX3_readLine 145 148 159 (fun o => .ifCond .eq o) := ⟨14, by decide +kernel, rfl, rfl⟩
theorem dX3_readLine_148 : q_d cX3_readLine 148 149 (.aload_n 0) 1 := ⟨by decide +kernel, rfl⟩
theorem dX3_readLine_149 : q_d cX3_readLine 149 152 (.invokevirtual 151) 3 := ⟨by decide +kernel, rfl⟩
theorem dX3_readLine_152 : q_j cX3_readLine 152 155 159 (fun o => .ifCond .eq o) := ⟨7, by decide +kernel, rfl, rfl⟩
theorem dX3_readLine_155 : q_d cX3_readLine 155 156 (.iconst 1) 1 := ⟨by decide +kernel, rfl⟩
theorem dX3_readLine_156 : q_j cX3_readLine 156 159 160 (fun o => .goto o) := ⟨4, by decide +kernel, rfl, rfl⟩
theorem dX3_readLine_159 : q_d cX3_readLine 159 160 (.iconst 0) 1 := ⟨by decide +kernel, rfl⟩
theorem dX3_readLine_160 : q_d cX3_readLine 160 161 (.ireturn) 1 := ⟨by decide +kernel, rfl⟩
theorem dX3_readLand_0 : q_d cX3_readLand 0 1 (.aload_n 0) 1 := ⟨by decide +kernel, rfl⟩
theorem dX3_readLand_1 : q_d cX3_readLand 1 4 (.getfield 18) 3 := ⟨by decide +kernel, rfl⟩
theorem dX3_readLand_4 : q_d cX3_readLand 4 7 (.getfield 71) 3 := ⟨by decide +kernel, rfl⟩
theorem dX3_readLand_7 : q_d cX3_readLand 7 8 (.iconst 5) 1 := ⟨by decide +kernel, rfl⟩
theorem dX3_readLand_8 : q_j cX3_readLand 8 11 17 (fun o => .if_icmp .lt o) := ⟨9, by decide +kernel, rfl, rfl⟩
theorem dX3_readLand_11 : q_d cX3_readLand 11 12 (.aload_n 0) 1 := ⟨by decide +kernel, rfl⟩
theorem dX3_readLand_12 : q_d cX3_readLand 12 13 (.iconst 4) 1 := ⟨by decide +kernel, rfl⟩
theorem dX3_readLand_13 : q_d cX3_readLand 13 16 (.invokevirtual 68) 3 := ⟨by decide +kernel, rfl⟩
theorem dX3_readLand_16 : q_d cX3_readLand 16 17 (.ireturn) 1 := ⟨by decide +kernel, rfl⟩
theorem dX3_readLand_17 : q_d cX3_readLand 17 18 (.aload_n 0) 1 := ⟨by decide +kernel, rfl⟩
theorem dX3_readLand_18 : q_d cX3_readLand 18 21 (.invokevirtual 92) 3 := ⟨by decide +kernel, rfl⟩
theorem dX3_readLand_21 : q_d cX3_readLand 21 22 (.aload_n 0) 1 := ⟨by decide +kernel, rfl⟩
theorem dX3_readLand_22 : q_d cX3_readLand 22 25 (.invokevirtual 154) 3 := ⟨by decide +kernel, rfl⟩
theorem dX3_readLand_25 : q_j cX3_readLand 25 28 30 (fun o => .ifCond .ne o) := ⟨5, by decide +kernel, rfl, rfl⟩
theorem dX3_readLand_28 : q_d cX3_readLand 28 29 (.iconst 0) 1 := ⟨by decide +kernel, rfl⟩
theorem dX3_readLand_29 : q_d cX3_readLand 29 30 (.ireturn) 1 := ⟨by decide +kernel, rfl⟩
theorem dX3_readLand_30 : q_d cX3_readLand 30 31 (.aload_n 0) 1 := ⟨by decide +kernel, rfl⟩
theorem dX3_readLand_31 : q_d cX3_readLand 31 34 (.getfield 18) 3 := ⟨by decide +kernel, rfl⟩
theorem dX3_readLand_34 : q_d cX3_readLand 34 35 (.aload_n 0) 1 := ⟨by decide +kernel, rfl⟩
theorem dX3_readLand_35 : q_d cX3_readLand 35 38 (.getfield 9) 3 := ⟨by decide +kernel, rfl⟩
theorem dX3_readLand_38 : q_d cX3_readLand 38 39 (.aload_n 0) 1 := ⟨by decide +kernel, rfl⟩
theorem dX3_readLand_39 : q_d cX3_readLand 39 42 (.getfield 25) 3 := ⟨by decide +kernel, rfl⟩
theorem dX3_readLand_42 : q_d cX3_readLand 42 43 (.aload_n 0) 1 := ⟨by decide +kernel, rfl⟩
theorem dX3_readLand_43 : q_d cX3_readLand 43 46 (.getfield 37) 3 := ⟨by decide +kernel, rfl⟩
theorem dX3_readLand_46 : q_d cX3_readLand 46 47 (.iaload) 1 := ⟨by decide +kernel, rfl⟩
theorem dX3_readLand_47 : q_d cX3_readLand 47 48 (.aload_n 0) 1 := ⟨by decide +kernel, rfl⟩
theorem dX3_readLand_48 : q_d cX3_readLand 48 51 (.getfield 28) 3 := ⟨by decide +kernel, rfl⟩
theorem dX3_readLand_51 : q_d cX3_readLand 51 52 (.aload_n 0) 1 := ⟨by decide +kernel, rfl⟩
theorem dX3_readLand_52 : q_d cX3_readLand 52 55 (.getfield 37) 3 := ⟨by decide +kernel, rfl⟩
theorem dX3_readLand_55 : q_d cX3_readLand 55 56 (.iaload) 1 := ⟨by decide +kernel, rfl⟩
theorem dX3_readLand_56 : q_d cX3_readLand 56 59 (.invokevirtual 157) 3 := ⟨by decide +kernel, rfl⟩
theorem dX3_readLand_59 : q_d cX3_readLand 59 60 (.iconst (-1)) 1 := ⟨by decide +kernel, rfl⟩
theorem dX3_readLand_60 : q_j cX3_readLand 60 63 69 (fun o => .if_icmp .eq o) := ⟨9, by decide +kernel, rfl, rfl⟩
theorem dX3_readLand_63 : q_d cX3_readLand 63 64 (.aload_n 0) 1 := ⟨by decide +kernel, rfl⟩
theorem dX3_readLand_64 : q_d cX3_readLand 64 65 (.iconst 3) 1 := ⟨by decide +kernel, rfl⟩
theorem dX3_readLand_65 : q_d cX3_readLand 65 68 (.invokevirtual 68) 3 := ⟨by decide +kernel, rfl⟩
theorem dX3_readLand_68 : q_d cX3_readLand 68 69 (.ireturn) 1 := ⟨by decide +kernel, rfl⟩
theorem dX3_readLand_69 : q_d cX3_readLand 69 70 (.aload_n 0) 1 := ⟨by decide +kernel, rfl⟩
theorem dX3_readLand_70 : q_d cX3_readLand 70 73 (.getfield 18) 3 := ⟨by decide +kernel, rfl⟩
theorem dX3_readLand_73 : q_d cX3_readLand 73 76 (.getfield 161) 3 := ⟨by decide +kernel, rfl⟩
theorem dX3_readLand_76 : q_d cX3_readLand 76 77 (.aload_n 0) 1 := ⟨by decide +kernel, rfl⟩
theorem dX3_readLand_77 : q_d cX3_readLand 77 80 (.getfield 18) 3 := ⟨by decide +kernel, rfl⟩
theorem dX3_readLand_80 : q_d cX3_readLand 80 83 (.getfield 71) 3 := ⟨by decide +kernel, rfl⟩
theorem dX3_readLand_83 : q_d cX3_readLand 83 84 (.aaload) 1 := ⟨by decide +kernel, rfl⟩
theorem dX3_readLand_84 : q_d cX3_readLand 84 85 (.astore_n 1) 1 := ⟨by decide +kernel, rfl⟩
theorem dX3_readLand_85 : q_d cX3_readLand 85 86 (.aload_n 1) 1 := ⟨by decide +kernel, rfl⟩
theorem dX3_readLand_86 : q_d cX3_readLand 86 87 (.aload_n 0) 1 := ⟨by decide +kernel, rfl⟩
theorem dX3_readLand_87 : q_d cX3_readLand 87 90 (.getfield 9) 3 := ⟨by decide +kernel, rfl⟩
theorem dX3_readLand_90 : q_d cX3_readLand 90 91 (.aload_n 0) 1 := ⟨by decide +kernel, rfl⟩
theorem dX3_readLand_91 : q_d cX3_readLand 91 94 (.getfield 25) 3 := ⟨by decide +kernel, rfl⟩
theorem dX3_readLand_94 : q_d cX3_readLand 94 95 (.aload_n 0) 1 := ⟨by decide +kernel, rfl⟩
theorem dX3_readLand_95 : q_d cX3_readLand 95 98 (.getfield 37) 3 := ⟨by decide +kernel, rfl⟩
theorem dX3_readLand_98 : q_d cX3_readLand 98 99 (.iaload) 1 := ⟨by decide +kernel, rfl⟩
theorem dX3_readLand_99 : q_d cX3_readLand 99 100 (.aload_n 0) 1 := ⟨by decide +kernel, rfl⟩
theorem dX3_readLand_100 : q_d cX3_readLand 100 103 (.getfield 28) 3 := ⟨by decide +kernel, rfl⟩
theorem dX3_readLand_103 : q_d cX3_readLand 103 104 (.aload_n 0) 1 := ⟨by decide +kernel, rfl⟩
theorem dX3_readLand_104 : q_d cX3_readLand 104 107 (.getfield 37) 3 := ⟨by decide +kernel, rfl⟩
theorem dX3_readLand_107 : q_d cX3_readLand 107 108 (.iaload) 1 := ⟨by decide +kernel, rfl⟩
theorem dX3_readLand_108 : q_d cX3_readLand 108 111 (.invokevirtual 165) 3 := ⟨by decide +kernel, rfl⟩
theorem dX3_readLand_111 : q_d cX3_readLand 111 112 (.aload_n 0) 1 := ⟨by decide +kernel, rfl⟩
theorem dX3_readLand_112 : q_d cX3_readLand 112 115 (.invokevirtual 92) 3 := ⟨by decide +kernel, rfl⟩
theorem dX3_readLand_115 : q_d cX3_readLand 115 116 (.aload_n 0) 1 := ⟨by decide +kernel, rfl⟩
theorem dX3_readLand_116 : q_d cX3_readLand 116 117 (.iconst 0) 1 := ⟨by decide +kernel, rfl⟩
theorem dX3_readLand_117 : q_d cX3_readLand 117 119 (.bipush 11) 2 := ⟨by decide +kernel, rfl⟩
theorem dX3_readLand_119 : q_d cX3_readLand 119 122 (.invokevirtual 171) 3 := ⟨by decide +kernel, rfl⟩
theorem dX3_readLand_122 : q_j cX3_readLand 122 125 127 (fun o => .ifCond .ne o) := ⟨5, by decide +kernel, rfl, rfl⟩
theorem dX3_readLand_125 : q_d cX3_readLand 125 126 (.iconst 0) 1 := ⟨by decide +kernel, rfl⟩
theorem dX3_readLand_126 : q_d cX3_readLand 126 127 (.ireturn) 1 := ⟨by decide +kernel, rfl⟩
theorem dX3_readLand_127 : q_d cX3_readLand 127 128 (.aload_n 1) 1 := ⟨by decide +kernel, rfl⟩
theorem dX3_readLand_128 : q_d cX3_readLand 128 129 (.aload_n 0) 1 := ⟨by decide +kernel, rfl⟩
theorem dX3_readLand_129 : q_d cX3_readLand 129 132 (.getfield 88) 3 := ⟨by decide +kernel, rfl⟩
theorem dX3_readLand_132 : q_d cX3_readLand 132 135 (.putfield 175) 3 := ⟨by decide +kernel, rfl⟩
theorem dX3_readLand_135 : q_d cX3_readLand 135 136 (.aload_n 0) 1 := ⟨by decide +kernel, rfl⟩
theorem dX3_readLand_136 : q_d cX3_readLand 136 137 (.iconst 0) 1 := ⟨by decide +kernel, rfl⟩
theorem dX3_readLand_137 : q_d cX3_readLand 137 140 (.sipush 9999) 3 := ⟨by decide +kernel, rfl⟩
theorem dX3_readLand_140 : q_d cX3_readLand 140 143 (.invokevirtual 171) 3 := ⟨by decide +kernel, rfl⟩
theorem dX3_readLand_143 : q_j cX3_readLand 143 146 148 (fun o => .ifCond .ne o) := ⟨5, by decide +kernel, rfl, rfl⟩
theorem dX3_readLand_146 : q_d cX3_readLand 146 147 (.iconst 0) 1 := ⟨by decide +kernel, rfl⟩
theorem dX3_readLand_147 : q_d cX3_readLand 147 148 (.ireturn) 1 := ⟨by decide +kernel, rfl⟩
theorem dX3_readLand_148 : q_d cX3_readLand 148 149 (.aload_n 1) 1 := ⟨by decide +kernel, rfl⟩
theorem dX3_readLand_149 : q_d cX3_readLand 149 150 (.aload_n 0) 1 := ⟨by decide +kernel, rfl⟩
theorem dX3_readLand_150 : q_d cX3_readLand 150 153 (.getfield 88) 3 := ⟨by decide +kernel, rfl⟩
theorem dX3_readLand_153 : q_d cX3_readLand 153 156 (.putfield 178) 3 := ⟨by decide +kernel, rfl⟩
theorem dX3_readLand_156 : q_d cX3_readLand 156 157 (.aload_n 0) 1 := ⟨by decide +kernel, rfl⟩
theorem dX3_readLand_157 : q_d cX3_readLand 157 158 (.iconst 0) 1 := ⟨by decide +kernel, rfl⟩
theorem dX3_readLand_158 : q_d cX3_readLand 158 161 (.sipush 999) 3 := ⟨by decide +kernel, rfl⟩
theorem dX3_readLand_161 : q_d cX3_readLand 161 164 (.invokevirtual 171) 3 := ⟨by decide +kernel, rfl⟩
theorem dX3_readLand_164 : q_j cX3_readLand 164 167 169 (fun o => .ifCond .ne o) := ⟨5, by decide +kernel, rfl, rfl⟩
theorem dX3_readLand_167 : q_d cX3_readLand 167 168 (.iconst 0) 1 := ⟨by decide +kernel, rfl⟩
theorem dX3_readLand_168 : q_d cX3_readLand 168 169 (.ireturn) 1 := ⟨by decide +kernel, rfl⟩
theorem dX3_readLand_169 : q_d cX3_readLand 169 170 (.aload_n 1) 1 := ⟨by decide +kernel, rfl⟩
theorem dX3_readLand_170 : q_d cX3_readLand 170 171 (.aload_n 0) 1 := ⟨by decide +kernel, rfl⟩
theorem dX3_readLand_171 : q_d cX3_readLand 171 174 (.getfield 88) 3 := ⟨by decide +kernel, rfl⟩
theorem dX3_readLand_174 : q_d cX3_readLand 174 177 (.putfield 181) 3 := ⟨by decide +kernel, rfl⟩
theorem dX3_readLand_177 : q_d cX3_readLand 177 178 (.aload_n 0) 1 := ⟨by decide +kernel, rfl⟩
theorem dX3_readLand_178 : q_d cX3_readLand 178 179 (.iconst 1) 1 := ⟨by decide +kernel, rfl⟩
theorem dX3_readLand_179 : q_d cX3_readLand 179 181 (.bipush 50) 2 := ⟨by decide +kernel, rfl⟩
theorem dX3_readLand_181 : q_d cX3_readLand 181 184 (.invokevirtual 171) 3 := ⟨by decide +kernel, rfl⟩
theorem dX3_readLand_184 : q_j cX3_readLand 184 187 189 (fun o => .ifCond .ne o) := ⟨5, by decide +kernel, rfl, rfl⟩
theorem dX3_readLand_187 : q_d cX3_readLand 187 188 (.iconst 0) 1 := ⟨by decide +kernel, rfl⟩
theorem dX3_readLand_188 : q_d cX3_readLand 188 189 (.ireturn) 1 := ⟨by decide +kernel, rfl⟩
theorem dX3_readLand_189 : q_d cX3_readLand 189 190 (.aload_n 1) 1 := ⟨by decide +kernel, rfl⟩
theorem dX3_readLand_190 : q_d cX3_readLand 190 191 (.aload_n 0) 1 := ⟨by decide +kernel, rfl⟩
theorem dX3_readLand_191 : q_d cX3_readLand 191 194 (.getfield 88) 3 := ⟨by decide +kernel, rfl⟩
theorem dX3_readLand_194 : q_d cX3_readLand 194 197 (.putfield 184) 3 := ⟨by decide +kernel, rfl⟩
theorem dX3_readLand_197 : q_d cX3_readLand 197 198 (.aload_n 0) 1 := ⟨by decide +kernel, rfl⟩
theorem dX3_readLand_198 : q_d cX3_readLand 198 201 (.getfield 18) 3 := ⟨by decide +kernel, rfl⟩
theorem dX3_readLand_201 : q_d cX3_readLand 201 202 (.dup) 1 := ⟨by decide +kernel, rfl⟩
theorem dX3_readLand_202 : q_d cX3_readLand 202 205 (.getfield 71) 3 := ⟨by decide +kernel, rfl⟩
theorem dX3_readLand_205 : q_d cX3_readLand 205 206 (.iconst 1) 1 := ⟨by decide +kernel, rfl⟩
theorem dX3_readLand_206 : q_d cX3_readLand 206 207 (.iadd) 1 := ⟨by decide +kernel, rfl⟩
theorem dX3_readLand_207 : q_d cX3_readLand 207 210 (.putfield 71) 3 := ⟨by decide +kernel, rfl⟩
theorem dX3_readLand_210 : q_d cX3_readLand 210 211 (.iconst 1) 1 := ⟨by decide +kernel, rfl⟩
theorem dX3_readLand_211 : q_d cX3_readLand 211 212 (.ireturn) 1 := ⟨by decide +kernel, rfl⟩
theorem dX3_readLaw_0 : q_d cX3_readLaw 0 1 (.aload_n 0) 1 := ⟨by decide +kernel, rfl⟩
theorem dX3_readLaw_1 : q_d cX3_readLaw 1 4 (.invokevirtual 187) 3 := ⟨by decide +kernel, rfl⟩
theorem dX3_readLaw_4 : q_d cX3_readLaw 4 5 (.istore_n 1) 1 := ⟨by decide +kernel, rfl⟩
theorem dX3_readLaw_5 : q_d cX3_readLaw 5 6 (.iload_n 1) 1 := ⟨by decide +kernel, rfl⟩
theorem dX3_readLaw_6 : q_d cX3_readLaw 6 7 (.iconst (-1)) 1 := ⟨by decide +kernel, rfl⟩
theorem dX3_readLaw_7 : q_j cX3_readLaw 7 10 12 (fun o => .if_icmp .ne o) := ⟨5, by decide +kernel, rfl, rfl⟩
theorem dX3_readLaw_10 : q_d cX3_readLaw 10 11 (.iconst 0) 1 := ⟨by decide +kernel, rfl⟩
theorem dX3_readLaw_11 : q_d cX3_readLaw 11 12 (.ireturn) 1 := ⟨by decide +kernel, rfl⟩
theorem dX3_readLaw_12 : q_d cX3_readLaw 12 13 (.aload_n 0) 1 := ⟨by decide +kernel, rfl⟩
theorem dX3_readLaw_13 : q_d cX3_readLaw 13 16 (.invokevirtual 92) 3 := ⟨by decide +kernel, rfl⟩
theorem dX3_readLaw_16 : q_d cX3_readLaw 16 17 (.aload_n 0) 1 := ⟨by decide +kernel, rfl⟩
theorem dX3_readLaw_17 : q_d cX3_readLaw 17 20 (.invokevirtual 191) 3 := ⟨by decide +kernel, rfl⟩
theorem dX3_readLaw_20 : q_d cX3_readLaw 20 21 (.istore_n 2) 1 := ⟨by decide +kernel, rfl⟩
theorem dX3_readLaw_21 : q_d cX3_readLaw 21 22 (.iload_n 2) 1 := ⟨by decide +kernel, rfl⟩
theorem dX3_readLaw_22 : q_d cX3_readLaw 22 23 (.iconst (-1)) 1 := ⟨by decide +kernel, rfl⟩
theorem dX3_readLaw_23 : q_j cX3_readLaw 23 26 28 (fun o => .if_icmp .ne o) := ⟨5, by decide +kernel, rfl, rfl⟩
theorem dX3_readLaw_26 : q_d cX3_readLaw 26 27 (.iconst 0) 1 := ⟨by decide +kernel, rfl⟩
theorem dX3_readLaw_27 : q_d cX3_readLaw 27 28 (.ireturn) 1 := ⟨by decide +kernel, rfl⟩
theorem dX3_readLaw_28 : q_d cX3_readLaw 28 29 (.aload_n 0) 1 := ⟨by decide +kernel, rfl⟩
theorem dX3_readLaw_29 : q_d cX3_readLaw 29 32 (.getfield 18) 3 := ⟨by decide +kernel, rfl⟩
theorem dX3_readLaw_32 : q_d cX3_readLaw 32 33 (.iload_n 1) 1 := ⟨by decide +kernel, rfl⟩
theorem dX3_readLaw_33 : q_d cX3_readLaw 33 34 (.iload_n 2) 1 := ⟨by decide +kernel, rfl⟩
theorem dX3_readLaw_34 : q_d cX3_readLaw 34 37 (.invokevirtual 194) 3 := ⟨by decide +kernel, rfl⟩
theorem dX3_readLaw_37 : q_j cX3_readLaw 37 40 47 (fun o => .ifCond .eq o) := ⟨10, by decide +kernel, rfl, rfl⟩
theorem dX3_readLaw_40 : q_d cX3_readLaw 40 41 (.aload_n 0) 1 := ⟨by decide +kernel, rfl⟩
theorem dX3_readLaw_41 : q_d cX3_readLaw 41 43 (.bipush 6) 2 := ⟨by decide +kernel, rfl⟩
theorem dX3_readLaw_43 : q_d cX3_readLaw 43 46 (.invokevirtual 68) 3 := ⟨by decide +kernel, rfl⟩
theorem dX3_readLaw_46 : q_d cX3_readLaw 46 47 (.ireturn) 1 := ⟨by decide +kernel, rfl⟩
theorem dX3_readLaw_47 : q_d cX3_readLaw 47 48 (.aload_n 0) 1 := ⟨by decide +kernel, rfl⟩
theorem dX3_readLaw_48 : q_d cX3_readLaw 48 51 (.invokevirtual 92) 3 := ⟨by decide +kernel, rfl⟩
theorem dX3_readLaw_51 : q_d cX3_readLaw 51 52 (.aload_n 0) 1 := ⟨by decide +kernel, rfl⟩
theorem dX3_readLaw_52 : q_d cX3_readLaw 52 55 (.getfield 18) 3 := ⟨by decide +kernel, rfl⟩
theorem dX3_readLaw_55 : q_d cX3_readLaw 55 58 (.getfield 197) 3 := ⟨by decide +kernel, rfl⟩
theorem dX3_readLaw_58 : q_d cX3_readLaw 58 59 (.istore_n 3) 1 := ⟨by decide +kernel, rfl⟩
theorem dX3_readLaw_59 : q_d cX3_readLaw 59 60 (.aload_n 0) 1 := ⟨by decide +kernel, rfl⟩
theorem dX3_readLaw_60 : q_d cX3_readLaw 60 61 (.iconst 0) 1 := ⟨by decide +kernel, rfl⟩
theorem dX3_readLaw_61 : q_d cX3_readLaw 61 64 (.invokevirtual 200) 3 := ⟨by decide +kernel, rfl⟩
theorem dX3_readLaw_64 : q_j cX3_readLaw 64 67 69 (fun o => .ifCond .ne o) := ⟨5, by decide +kernel, rfl, rfl⟩
theorem dX3_readLaw_67 : q_d cX3_readLaw 67 68 (.iconst 0) 1 := ⟨by decide +kernel, rfl⟩
theorem dX3_readLaw_68 : q_d cX3_readLaw 68 69 (.ireturn) 1 := ⟨by decide +kernel, rfl⟩
theorem dX3_readLaw_69 : q_d cX3_readLaw 69 70 (.aload_n 0) 1 := ⟨by decide +kernel, rfl⟩
theorem dX3_readLaw_70 : q_d cX3_readLaw 70 73 (.getfield 18) 3 := ⟨by decide +kernel, rfl⟩
theorem dX3_readLaw_73 : q_d cX3_readLaw 73 74 (.iload_n 1) 1 := ⟨by decide +kernel, rfl⟩
theorem dX3_readLaw_74 : q_d cX3_readLaw 74 75 (.iload_n 2) 1 := ⟨by decide +kernel, rfl⟩
theorem dX3_readLaw_75 : q_d cX3_readLaw 75 76 (.iload_n 3) 1 := ⟨by decide +kernel, rfl⟩
theorem dX3_readLaw_76 : q_d cX3_readLaw 76 79 (.invokevirtual 203) 3 := ⟨by decide +kernel, rfl⟩
theorem dX3_readLaw_79 : q_d cX3_readLaw 79 80 (.iconst 1) 1 := ⟨by decide +kernel, rfl⟩
theorem dX3_readLaw_80 : q_d cX3_readLaw 80 81 (.ireturn) 1 := ⟨by decide +kernel, rfl⟩
theorem dX3_readPays_0 : q_d cX3_readPays 0 1 (.aload_n 0) 1 := ⟨by decide +kernel, rfl⟩
theorem dX3_readPays_1 : q_d cX3_readPays 1 4 (.invokevirtual 187) 3 := ⟨by decide +kernel, rfl⟩
theorem dX3_readPays_4 : q_d cX3_readPays 4 5 (.istore_n 1) 1 := ⟨by decide +kernel, rfl⟩
theorem dX3_readPays_5 : q_d cX3_readPays 5 6 (.iload_n 1) 1 := ⟨by decide +kernel, rfl⟩
theorem dX3_readPays_6 : q_d cX3_readPays 6 7 (.iconst (-1)) 1 := ⟨by decide +kernel, rfl⟩
theorem dX3_readPays_7 : q_j cX3_readPays 7 10 12 (fun o => .if_icmp .ne o) := ⟨5, by decide +kernel, rfl, rfl⟩
theorem dX3_readPays_10 : q_d cX3_readPays 10 11 (.iconst 0) 1 := ⟨by decide +kernel, rfl⟩
theorem dX3_readPays_11 : q_d cX3_readPays 11 12 (.ireturn) 1 := ⟨by decide +kernel, rfl⟩
theorem dX3_readPays_12 : q_d cX3_readPays 12 13 (.aload_n 0) 1 := ⟨by decide +kernel, rfl⟩
theorem dX3_readPays_13 : q_d cX3_readPays 13 16 (.getfield 18) 3 := ⟨by decide +kernel, rfl⟩
theorem dX3_readPays_16 : q_d cX3_readPays 16 19 (.getfield 207) 3 := ⟨by decide +kernel, rfl⟩
theorem dX3_readPays_19 : q_d cX3_readPays 19 20 (.iload_n 1) 1 := ⟨by decide +kernel, rfl⟩
theorem dX3_readPays_20 : q_d cX3_readPays 20 21 (.iaload) 1 := ⟨by decide +kernel, rfl⟩
theorem dX3_readPays_21 : q_d cX3_readPays 21 22 (.iconst (-1)) 1 := ⟨by decide +kernel, rfl⟩
theorem dX3_readPays_22 : q_j cX3_readPays 22 25 32 (fun o => .if_icmp .eq o) := ⟨10, by decide +kernel, rfl, rfl⟩
theorem dX3_readPays_25 : q_d cX3_readPays 25 26 (.aload_n 0) 1 := ⟨by decide +kernel, rfl⟩
theorem dX3_readPays_26 : q_d cX3_readPays 26 28 (.bipush 6) 2 := ⟨by decide +kernel, rfl⟩
theorem dX3_readPays_28 : q_d cX3_readPays 28 31 (.invokevirtual 68) 3 := ⟨by decide +kernel, rfl⟩
theorem dX3_readPays_31 : q_d cX3_readPays 31 32 (.ireturn) 1 := ⟨by decide +kernel, rfl⟩
theorem dX3_readPays_32 : q_d cX3_readPays 32 33 (.aload_n 0) 1 := ⟨by decide +kernel, rfl⟩
theorem dX3_readPays_33 : q_d cX3_readPays 33 36 (.invokevirtual 92) 3 := ⟨by decide +kernel, rfl⟩
theorem dX3_readPays_36 : q_d cX3_readPays 36 37 (.aload_n 0) 1 := ⟨by decide +kernel, rfl⟩
theorem dX3_readPays_37 : q_d cX3_readPays 37 38 (.iconst 0) 1 := ⟨by decide +kernel, rfl⟩
theorem dX3_readPays_38 : q_d cX3_readPays 38 41 (.sipush 999) 3 := ⟨by decide +kernel, rfl⟩
theorem dX3_readPays_41 : q_d cX3_readPays 41 44 (.invokevirtual 171) 3 := ⟨by decide +kernel, rfl⟩
theorem dX3_readPays_44 : q_j cX3_readPays 44 47 49 (fun o => .ifCond .ne o) := ⟨5, by decide +kernel, rfl, rfl⟩
theorem dX3_readPays_47 : q_d cX3_readPays 47 48 (.iconst 0) 1 := ⟨by decide +kernel, rfl⟩
theorem dX3_readPays_48 : q_d cX3_readPays 48 49 (.ireturn) 1 := ⟨by decide +kernel, rfl⟩
theorem dX3_readPays_49 : q_d cX3_readPays 49 50 (.aload_n 0) 1 := ⟨by decide +kernel, rfl⟩
theorem dX3_readPays_50 : q_d cX3_readPays 50 53 (.getfield 18) 3 := ⟨by decide +kernel, rfl⟩
theorem dX3_readPays_53 : q_d cX3_readPays 53 56 (.getfield 207) 3 := ⟨by decide +kernel, rfl⟩
theorem dX3_readPays_56 : q_d cX3_readPays 56 57 (.iload_n 1) 1 := ⟨by decide +kernel, rfl⟩
theorem dX3_readPays_57 : q_d cX3_readPays 57 58 (.aload_n 0) 1 := ⟨by decide +kernel, rfl⟩
theorem dX3_readPays_58 : q_d cX3_readPays 58 61 (.getfield 88) 3 := ⟨by decide +kernel, rfl⟩
theorem dX3_readPays_61 : q_d cX3_readPays 61 62 (.iastore) 1 := ⟨by decide +kernel, rfl⟩
theorem dX3_readPays_62 : q_d cX3_readPays 62 63 (.iconst 1) 1 := ⟨by decide +kernel, rfl⟩
theorem dX3_readPays_63 : q_d cX3_readPays 63 64 (.ireturn) 1 := ⟨by decide +kernel, rfl⟩
theorem dX3_readWait_0 : q_d cX3_readWait 0 1 (.aload_n 0) 1 := ⟨by decide +kernel, rfl⟩
theorem dX3_readWait_1 : q_d cX3_readWait 1 2 (.iconst 0) 1 := ⟨by decide +kernel, rfl⟩
theorem dX3_readWait_2 : q_d cX3_readWait 2 4 (.bipush 60) 2 := ⟨by decide +kernel, rfl⟩
theorem dX3_readWait_4 : q_d cX3_readWait 4 7 (.invokevirtual 171) 3 := ⟨by decide +kernel, rfl⟩
theorem dX3_readWait_7 : q_j cX3_readWait 7 10 12 (fun o => .ifCond .ne o) := ⟨5, by decide +kernel, rfl, rfl⟩
theorem dX3_readWait_10 : q_d cX3_readWait 10 11 (.iconst 0) 1 := ⟨by decide +kernel, rfl⟩
theorem dX3_readWait_11 : q_d cX3_readWait 11 12 (.ireturn) 1 := ⟨by decide +kernel, rfl⟩
theorem dX3_readWait_12 : q_d cX3_readWait 12 13 (.aload_n 0) 1 := ⟨by decide +kernel, rfl⟩
theorem dX3_readWait_13 : q_d cX3_readWait 13 16 (.getfield 18) 3 := ⟨by decide +kernel, rfl⟩
theorem dX3_readWait_16 : q_d cX3_readWait 16 17 (.aload_n 0) 1 := ⟨by decide +kernel, rfl⟩
theorem dX3_readWait_17 : q_d cX3_readWait 17 20 (.getfield 88) 3 := ⟨by decide +kernel, rfl⟩
theorem dX3_readWait_20 : q_d cX3_readWait 20 23 (.putfield 118) 3 := ⟨by decide +kernel, rfl⟩
theorem dX3_readWait_23 : q_d cX3_readWait 23 24 (.iconst 1) 1 := ⟨by decide +kernel, rfl⟩
theorem dX3_readWait_24 : q_d cX3_readWait 24 25 (.ireturn) 1 := ⟨by decide +kernel, rfl⟩
theorem dX3_readLetter_0 : q_d cX3_readLetter 0 1 (.aload_n 0) 1 := ⟨by decide +kernel, rfl⟩
theorem dX3_readLetter_1 : q_d cX3_readLetter 1 2 (.iconst 0) 1 := ⟨by decide +kernel, rfl⟩
theorem dX3_readLetter_2 : q_d cX3_readLetter 2 5 (.sipush 999) 3 := ⟨by decide +kernel, rfl⟩
theorem dX3_readLetter_5 : q_d cX3_readLetter 5 8 (.invokevirtual 171) 3 := ⟨by decide +kernel, rfl⟩
theorem dX3_readLetter_8 : q_j cX3_readLetter 8 11 13 (fun o => .ifCond .ne o) := ⟨5, by decide +kernel, rfl, rfl⟩
theorem dX3_readLetter_11 : q_d cX3_readLetter 11 12 (.iconst 0) 1 := ⟨by decide +kernel, rfl⟩
theorem dX3_readLetter_12 : q_d cX3_readLetter 12 13 (.ireturn) 1 := ⟨by decide +kernel, rfl⟩
theorem dX3_readLetter_13 : q_d cX3_readLetter 13 14 (.aload_n 0) 1 := ⟨by decide +kernel, rfl⟩
theorem dX3_readLetter_14 : q_d cX3_readLetter 14 17 (.getfield 18) 3 := ⟨by decide +kernel, rfl⟩
theorem dX3_readLetter_17 : q_d cX3_readLetter 17 18 (.aload_n 0) 1 := ⟨by decide +kernel, rfl⟩
theorem dX3_readLetter_18 : q_d cX3_readLetter 18 21 (.getfield 88) 3 := ⟨by decide +kernel, rfl⟩
theorem dX3_readLetter_21 : q_d cX3_readLetter 21 24 (.putfield 127) 3 := ⟨by decide +kernel, rfl⟩
theorem dX3_readLetter_24 : q_d cX3_readLetter 24 25 (.iconst 1) 1 := ⟨by decide +kernel, rfl⟩
theorem dX3_readLetter_25 : q_d cX3_readLetter 25 26 (.ireturn) 1 := ⟨by decide +kernel, rfl⟩
theorem dX3_readHome_0 : q_d cX3_readHome 0 1 (.aload_n 0) 1 := ⟨by decide +kernel, rfl⟩
theorem dX3_readHome_1 : q_d cX3_readHome 1 4 (.invokevirtual 191) 3 := ⟨by decide +kernel, rfl⟩
theorem dX3_readHome_4 : q_d cX3_readHome 4 5 (.istore_n 1) 1 := ⟨by decide +kernel, rfl⟩
theorem dX3_readHome_5 : q_d cX3_readHome 5 6 (.iload_n 1) 1 := ⟨by decide +kernel, rfl⟩
theorem dX3_readHome_6 : q_d cX3_readHome 6 7 (.iconst (-1)) 1 := ⟨by decide +kernel, rfl⟩
theorem dX3_readHome_7 : q_j cX3_readHome 7 10 12 (fun o => .if_icmp .ne o) := ⟨5, by decide +kernel, rfl, rfl⟩
theorem dX3_readHome_10 : q_d cX3_readHome 10 11 (.iconst 0) 1 := ⟨by decide +kernel, rfl⟩
theorem dX3_readHome_11 : q_d cX3_readHome 11 12 (.ireturn) 1 := ⟨by decide +kernel, rfl⟩
theorem dX3_readHome_12 : q_d cX3_readHome 12 13 (.aload_n 0) 1 := ⟨by decide +kernel, rfl⟩
theorem dX3_readHome_13 : q_d cX3_readHome 13 16 (.getfield 18) 3 := ⟨by decide +kernel, rfl⟩
theorem dX3_readHome_16 : q_d cX3_readHome 16 17 (.iload_n 1) 1 := ⟨by decide +kernel, rfl⟩
theorem dX3_readHome_17 : q_d cX3_readHome 17 20 (.putfield 136) 3 := ⟨by decide +kernel, rfl⟩
theorem dX3_readHome_20 : q_d cX3_readHome 20 21 (.aload_n 0) 1 := ⟨by decide +kernel, rfl⟩
theorem dX3_readHome_21 : q_d cX3_readHome 21 24 (.invokevirtual 92) 3 := ⟨by decide +kernel, rfl⟩
theorem dX3_readHome_24 : q_d cX3_readHome 24 25 (.iconst 1) 1 := ⟨by decide +kernel, rfl⟩
theorem dX3_readHome_25 : q_d cX3_readHome 25 26 (.ireturn) 1 := ⟨by decide +kernel, rfl⟩
theorem dX3_readOrder_0 : q_d cX3_readOrder 0 1 (.iconst 0) 1 := ⟨by decide +kernel, rfl⟩
theorem dX3_readOrder_1 : q_d cX3_readOrder 1 2 (.istore_n 1) 1 := ⟨by decide +kernel, rfl⟩
theorem dX3_readOrder_2 : q_d cX3_readOrder 2 3 (.iload_n 1) 1 := ⟨by decide +kernel, rfl⟩
theorem dX3_readOrder_3 : q_d cX3_readOrder 3 6 (.sipush 600) 3 := ⟨by decide +kernel, rfl⟩
theorem dX3_readOrder_6 : q_j cX3_readOrder 6 9 69 (fun o => .if_icmp .gt o) := ⟨63, by decide +kernel, rfl, rfl⟩
theorem dX3_readOrder_9 : q_d cX3_readOrder 9 10 (.iload_n 1) 1 := ⟨by decide +kernel, rfl⟩
theorem dX3_readOrder_10 : q_j cX3_readOrder 10 13 28 (fun o => .ifCond .eq o) := ⟨18, by decide +kernel, rfl, rfl⟩
theorem dX3_readOrder_13 : q_d cX3_readOrder 13 14 (.aload_n 0) 1 := ⟨by decide +kernel, rfl⟩
theorem dX3_readOrder_14 : q_d cX3_readOrder 14 17 (.getfield 22) 3 := ⟨by decide +kernel, rfl⟩
theorem dX3_readOrder_17 : q_d cX3_readOrder 17 18 (.aload_n 0) 1 := ⟨by decide +kernel, rfl⟩
theorem dX3_readOrder_18 : q_d cX3_readOrder 18 21 (.getfield 37) 3 := ⟨by decide +kernel, rfl⟩
theorem dX3_readOrder_21 : q_d cX3_readOrder 21 22 (.iaload) 1 := ⟨by decide +kernel, rfl⟩
theorem dX3_readOrder_22 : q_d cX3_readOrder 22 25 (.sipush 256) 3 := ⟨by decide +kernel, rfl⟩
theorem dX3_readOrder_25 : q_j cX3_readOrder 25 28 69 (fun o => .if_icmp .ne o) := ⟨44, by decide +kernel, rfl, rfl⟩
theorem dX3_readOrder_28 : q_d cX3_readOrder 28 29 (.aload_n 0) 1 := ⟨by decide +kernel, rfl⟩
theorem dX3_readOrder_29 : q_d cX3_readOrder 29 32 (.invokevirtual 210) 3 := ⟨by decide +kernel, rfl⟩
theorem dX3_readOrder_32 : q_d cX3_readOrder 32 33 (.istore_n 2) 1 := ⟨by decide +kernel, rfl⟩
theorem dX3_readOrder_33 : q_d cX3_readOrder 33 34 (.iload_n 2) 1 := ⟨by decide +kernel, rfl⟩
theorem dX3_readOrder_34 : q_d cX3_readOrder 34 35 (.iconst (-1)) 1 := ⟨by decide +kernel, rfl⟩
theorem dX3_readOrder_35 : q_j cX3_readOrder 35 38 49 (fun o => .if_icmp .eq o) := ⟨14, by decide +kernel, rfl, rfl⟩
theorem dX3_readOrder_38 : q_d cX3_readOrder 38 39 (.aload_n 0) 1 := ⟨by decide +kernel, rfl⟩
theorem dX3_readOrder_39 : q_d cX3_readOrder 39 42 (.getfield 18) 3 := ⟨by decide +kernel, rfl⟩
theorem dX3_readOrder_42 : q_d cX3_readOrder 42 43 (.iload_n 2) 1 := ⟨by decide +kernel, rfl⟩
theorem dX3_readOrder_43 : q_d cX3_readOrder 43 46 (.invokevirtual 213) 3 := ⟨by decide +kernel, rfl⟩
theorem dX3_readOrder_46 : q_j cX3_readOrder 46 49 51 (fun o => .ifCond .eq o) := ⟨5, by decide +kernel, rfl, rfl⟩
theorem dX3_readOrder_49 : q_d cX3_readOrder 49 50 (.iconst 0) 1 := ⟨by decide +kernel, rfl⟩
theorem dX3_readOrder_50 : q_d cX3_readOrder 50 51 (.ireturn) 1 := ⟨by decide +kernel, rfl⟩
theorem dX3_readOrder_51 : q_d cX3_readOrder 51 52 (.aload_n 0) 1 := ⟨by decide +kernel, rfl⟩
theorem dX3_readOrder_52 : q_d cX3_readOrder 52 55 (.getfield 18) 3 := ⟨by decide +kernel, rfl⟩
theorem dX3_readOrder_55 : q_d cX3_readOrder 55 56 (.iload_n 2) 1 := ⟨by decide +kernel, rfl⟩
theorem dX3_readOrder_56 : q_d cX3_readOrder 56 59 (.invokevirtual 216) 3 := ⟨by decide +kernel, rfl⟩
theorem dX3_readOrder_59 : q_d cX3_readOrder 59 60 (.aload_n 0) 1 := ⟨by decide +kernel, rfl⟩
theorem dX3_readOrder_60 : q_d cX3_readOrder 60 63 (.invokevirtual 92) 3 := ⟨by decide +kernel, rfl⟩
theorem dX3_readOrder_63 : q_d cX3_readOrder 63 66 (.iinc 1 1) 3 := ⟨by decide +kernel, rfl⟩
theorem dX3_readOrder_66 : q_j cX3_readOrder 66 69 2 (fun o => .goto o) := ⟨(-64), by decide +kernel, rfl, rfl⟩
theorem dX3_readOrder_69 : q_d cX3_readOrder 69 70 (.iconst 1) 1 := ⟨by decide +kernel, rfl⟩
theorem dX3_readOrder_70 : q_d cX3_readOrder 70 71 (.ireturn) 1 := ⟨by decide +kernel, rfl⟩
theorem dX3_orderInHand_0 : q_d cX3_orderInHand 0 1 (.aload_n 0) 1 := ⟨by decide +kernel, rfl⟩
theorem dX3_orderInHand_1 : q_d cX3_orderInHand 1 4 (.getfield 33) 3 := ⟨by decide +kernel, rfl⟩
theorem dX3_orderInHand_4 : q_d cX3_orderInHand 4 5 (.aload_n 0) 1 := ⟨by decide +kernel, rfl⟩
theorem dX3_orderInHand_5 : q_d cX3_orderInHand 5 8 (.getfield 37) 3 := ⟨by decide +kernel, rfl⟩
theorem dX3_orderInHand_8 : q_d cX3_orderInHand 8 9 (.aaload) 1 := ⟨by decide +kernel, rfl⟩
theorem dX3_orderInHand_9 : q_d cX3_orderInHand 9 12 (.getstatic 219) 3 := ⟨by decide +kernel, rfl⟩
theorem dX3_orderInHand_12 : q_j cX3_orderInHand 12 15 17 (fun o => .if_acmp .ne o) := ⟨5, by decide +kernel, rfl, rfl⟩
theorem dX3_orderInHand_15 : q_d cX3_orderInHand 15 16 (.iconst 0) 1 := ⟨by decide +kernel, rfl⟩
theorem dX3_orderInHand_16 : q_d cX3_orderInHand 16 17 (.ireturn) 1 := ⟨by decide +kernel, rfl⟩
theorem dX3_orderInHand_17 : q_d cX3_orderInHand 17 18 (.aload_n 0) 1 := ⟨by decide +kernel, rfl⟩
theorem dX3_orderInHand_18 : q_d cX3_orderInHand 18 21 (.getfield 33) 3 := ⟨by decide +kernel, rfl⟩
theorem dX3_orderInHand_21 : q_d cX3_orderInHand 21 22 (.aload_n 0) 1 := ⟨by decide +kernel, rfl⟩
theorem dX3_orderInHand_22 : q_d cX3_orderInHand 22 25 (.getfield 37) 3 := ⟨by decide +kernel, rfl⟩
theorem dX3_orderInHand_25 : q_d cX3_orderInHand 25 26 (.aaload) 1 := ⟨by decide +kernel, rfl⟩
theorem dX3_orderInHand_26 : q_d cX3_orderInHand 26 29 (.getstatic 222) 3 := ⟨by decide +kernel, rfl⟩
theorem dX3_orderInHand_29 : q_j cX3_orderInHand 29 32 34 (fun o => .if_acmp .ne o) := ⟨5, by decide +kernel, rfl, rfl⟩
theorem dX3_orderInHand_32 : q_d cX3_orderInHand 32 33 (.iconst 1) 1 := ⟨by decide +kernel, rfl⟩
theorem dX3_orderInHand_33 : q_d cX3_orderInHand 33 34 (.ireturn) 1 := ⟨by decide +kernel, rfl⟩
theorem dX3_orderInHand_34 : q_d cX3_orderInHand 34 35 (.aload_n 0) 1 := ⟨by decide +kernel, rfl⟩
theorem dX3_orderInHand_35 : q_d cX3_orderInHand 35 38 (.getfield 33) 3 := ⟨by decide +kernel, rfl⟩
theorem dX3_orderInHand_38 : q_d cX3_orderInHand 38 39 (.aload_n 0) 1 := ⟨by decide +kernel, rfl⟩
theorem dX3_orderInHand_39 : q_d cX3_orderInHand 39 42 (.getfield 37) 3 := ⟨by decide +kernel, rfl⟩
theorem dX3_orderInHand_42 : q_d cX3_orderInHand 42 43 (.aaload) 1 := ⟨by decide +kernel, rfl⟩
theorem dX3_orderInHand_43 : q_d cX3_orderInHand 43 46 (.getstatic 139) 3 := ⟨by decide +kernel, rfl⟩
theorem dX3_orderInHand_46 : q_j cX3_orderInHand 46 49 53 (fun o => .if_acmp .ne o) := ⟨7, by decide +kernel, rfl, rfl⟩
theorem dX3_orderInHand_49 : q_d cX3_orderInHand 49 50 (.iconst 2) 1 := ⟨by decide +kernel, rfl⟩
theorem dX3_orderInHand_50 : q_j cX3_orderInHand 50 53 54 (fun o => .goto o) := ⟨4, by decide +kernel, rfl, rfl⟩
theorem dX3_orderInHand_53 : q_d cX3_orderInHand 53 54 (.iconst (-1)) 1 := ⟨by decide +kernel, rfl⟩
theorem dX3_orderInHand_54 : q_d cX3_orderInHand 54 55 (.ireturn) 1 := ⟨by decide +kernel, rfl⟩
theorem dX3_kindInHand_0 : q_d cX3_kindInHand 0 1 (.aload_n 0) 1 := ⟨by decide +kernel, rfl⟩
theorem dX3_kindInHand_1 : q_d cX3_kindInHand 1 4 (.getfield 33) 3 := ⟨by decide +kernel, rfl⟩
theorem dX3_kindInHand_4 : q_d cX3_kindInHand 4 5 (.aload_n 0) 1 := ⟨by decide +kernel, rfl⟩
theorem dX3_kindInHand_5 : q_d cX3_kindInHand 5 8 (.getfield 37) 3 := ⟨by decide +kernel, rfl⟩
theorem dX3_kindInHand_8 : q_d cX3_kindInHand 8 9 (.aaload) 1 := ⟨by decide +kernel, rfl⟩
theorem dX3_kindInHand_9 : q_d cX3_kindInHand 9 10 (.astore_n 1) 1 := ⟨by decide +kernel, rfl⟩
theorem dX3_kindInHand_10 : q_d cX3_kindInHand 10 11 (.aload_n 1) 1 := ⟨by decide +kernel, rfl⟩
theorem dX3_kindInHand_11 : q_j cX3_kindInHand 11 14 36 (fun o => .ifnull o) := ⟨25, by decide +kernel, rfl, rfl⟩
theorem dX3_kindInHand_14 : q_d cX3_kindInHand 14 15 (.aload_n 1) 1 := ⟨by decide +kernel, rfl⟩
theorem dX3_kindInHand_15 : q_d cX3_kindInHand 15 18 (.getfield 225) 3 := ⟨by decide +kernel, rfl⟩
theorem dX3_kindInHand_18 : q_j cX3_kindInHand 18 21 36 (fun o => .ifCond .lt o) := ⟨18, by decide +kernel, rfl, rfl⟩
theorem dX3_kindInHand_21 : q_d cX3_kindInHand 21 22 (.aload_n 1) 1 := ⟨by decide +kernel, rfl⟩
theorem dX3_kindInHand_22 : q_d cX3_kindInHand 22 25 (.getfield 225) 3 := ⟨by decide +kernel, rfl⟩
theorem dX3_kindInHand_25 : q_d cX3_kindInHand 25 26 (.iconst 5) 1 := ⟨by decide +kernel, rfl⟩
theorem dX3_kindInHand_26 : q_j cX3_kindInHand 26 29 36 (fun o => .if_icmp .ge o) := ⟨10, by decide +kernel, rfl, rfl⟩
theorem dX3_kindInHand_29 : q_d cX3_kindInHand 29 30 (.aload_n 1) 1 := ⟨by decide +kernel, rfl⟩
theorem dX3_kindInHand_30 : q_d cX3_kindInHand 30 33 (.getfield 225) 3 := ⟨by decide +kernel, rfl⟩
theorem dX3_kindInHand_33 : q_j cX3_kindInHand 33 36 37 (fun o => .goto o) := ⟨4, by decide +kernel, rfl, rfl⟩
theorem dX3_kindInHand_36 : q_d cX3_kindInHand 36 37 (.iconst (-1)) 1 := ⟨by decide +kernel, rfl⟩
theorem dX3_kindInHand_37 : q_d cX3_kindInHand 37 38 (.ireturn) 1 := ⟨by decide +kernel, rfl⟩
theorem dX3_isName_0 : q_d cX3_isName 0 1 (.aload_n 0) 1 := ⟨by decide +kernel, rfl⟩
theorem dX3_isName_1 : q_d cX3_isName 1 4 (.getfield 22) 3 := ⟨by decide +kernel, rfl⟩
theorem dX3_isName_4 : q_d cX3_isName 4 5 (.aload_n 0) 1 := ⟨by decide +kernel, rfl⟩
theorem dX3_isName_5 : q_d cX3_isName 5 8 (.getfield 37) 3 := ⟨by decide +kernel, rfl⟩
theorem dX3_isName_8 : q_d cX3_isName 8 9 (.iaload) 1 := ⟨by decide +kernel, rfl⟩
theorem dX3_isName_9 : q_d cX3_isName 9 12 (.sipush 256) 3 := ⟨by decide +kernel, rfl⟩
theorem dX3_isName_12 : q_j cX3_isName 12 15 55 (fun o => .if_icmp .ne o) := ⟨43, by decide +kernel, rfl, rfl⟩
theorem dX3_isName_15 : q_d cX3_isName 15 16 (.aload_n 0) 1 := ⟨by decide +kernel, rfl⟩
theorem dX3_isName_16 : q_d cX3_isName 16 19 (.getfield 33) 3 := ⟨by decide +kernel, rfl⟩
theorem dX3_isName_19 : q_d cX3_isName 19 20 (.aload_n 0) 1 := ⟨by decide +kernel, rfl⟩
theorem dX3_isName_20 : q_d cX3_isName 20 23 (.getfield 37) 3 := ⟨by decide +kernel, rfl⟩
theorem dX3_isName_23 : q_d cX3_isName 23 24 (.aaload) 1 := ⟨by decide +kernel, rfl⟩
theorem dX3_isName_24 : q_j cX3_isName 24 27 55 (fun o => .ifnonnull o) := ⟨31, by decide +kernel, rfl, rfl⟩
theorem dX3_isName_27 : q_d cX3_isName 27 28 (.aload_n 0) 1 := ⟨by decide +kernel, rfl⟩
theorem dX3_isName_28 : q_d cX3_isName 28 31 (.getfield 28) 3 := ⟨by decide +kernel, rfl⟩
theorem dX3_isName_31 : q_d cX3_isName 31 32 (.aload_n 0) 1 := ⟨by decide +kernel, rfl⟩
theorem dX3_isName_32 : q_d cX3_isName 32 35 (.getfield 37) 3 := ⟨by decide +kernel, rfl⟩
theorem dX3_isName_35 : q_d cX3_isName 35 36 (.iaload) 1 := ⟨by decide +kernel, rfl⟩
theorem dX3_isName_36 : q_d cX3_isName 36 37 (.aload_n 0) 1 := ⟨by decide +kernel, rfl⟩
theorem dX3_isName_37 : q_d cX3_isName 37 40 (.getfield 25) 3 := ⟨by decide +kernel, rfl⟩
theorem dX3_isName_40 : q_d cX3_isName 40 41 (.aload_n 0) 1 := ⟨by decide +kernel, rfl⟩
theorem dX3_isName_41 : q_d cX3_isName 41 44 (.getfield 37) 3 := ⟨by decide +kernel, rfl⟩
theorem dX3_isName_44 : q_d cX3_isName 44 45 (.iaload) 1 := ⟨by decide +kernel, rfl⟩
theorem dX3_isName_45 : q_d cX3_isName 45 46 (.isub) 1 := ⟨by decide +kernel, rfl⟩
theorem dX3_isName_46 : q_d cX3_isName 46 48 (.bipush 6) 2 := ⟨by decide +kernel, rfl⟩
theorem dX3_isName_48 : q_j cX3_isName 48 51 55 (fun o => .if_icmp .gt o) := ⟨7, by decide +kernel, rfl, rfl⟩
theorem dX3_isName_51 : q_d cX3_isName 51 52 (.iconst 1) 1 := ⟨by decide +kernel, rfl⟩
theorem dX3_isName_52 : q_j cX3_isName 52 55 56 (fun o => .goto o) := ⟨4, by decide +kernel, rfl, rfl⟩
theorem dX3_isName_55 : q_d cX3_isName 55 56 (.iconst 0) 1 := ⟨by decide +kernel, rfl⟩
theorem dX3_isName_56 : q_d cX3_isName 56 57 (.ireturn) 1 := ⟨by decide +kernel, rfl⟩
theorem dX3_toldLandInHand_0 : q_d cX3_toldLandInHand 0 1 (.aload_n 0) 1 := ⟨by decide +kernel, rfl⟩
theorem dX3_toldLandInHand_1 : q_d cX3_toldLandInHand 1 4 (.invokevirtual 154) 3 := ⟨by decide +kernel, rfl⟩
theorem dX3_toldLandInHand_4 : q_j cX3_toldLandInHand 4 7 9 (fun o => .ifCond .ne o) := ⟨5, by decide +kernel, rfl, rfl⟩
theorem dX3_toldLandInHand_7 : q_d cX3_toldLandInHand 7 8 (.iconst (-1)) 1 := ⟨by decide +kernel, rfl⟩
theorem dX3_toldLandInHand_8 : q_d cX3_toldLandInHand 8 9 (.ireturn) 1 := ⟨by decide +kernel, rfl⟩
theorem dX3_toldLandInHand_9 : q_d cX3_toldLandInHand 9 10 (.aload_n 0) 1 := ⟨by decide +kernel, rfl⟩
theorem dX3_toldLandInHand_10 : q_d cX3_toldLandInHand 10 13 (.getfield 18) 3 := ⟨by decide +kernel, rfl⟩
theorem dX3_toldLandInHand_13 : q_d cX3_toldLandInHand 13 14 (.aload_n 0) 1 := ⟨by decide +kernel, rfl⟩
theorem dX3_toldLandInHand_14 : q_d cX3_toldLandInHand 14 17 (.getfield 9) 3 := ⟨by decide +kernel, rfl⟩
theorem dX3_toldLandInHand_17 : q_d cX3_toldLandInHand 17 18 (.aload_n 0) 1 := ⟨by decide +kernel, rfl⟩
theorem dX3_toldLandInHand_18 : q_d cX3_toldLandInHand 18 21 (.getfield 25) 3 := ⟨by decide +kernel, rfl⟩
theorem dX3_toldLandInHand_21 : q_d cX3_toldLandInHand 21 22 (.aload_n 0) 1 := ⟨by decide +kernel, rfl⟩
theorem dX3_toldLandInHand_22 : q_d cX3_toldLandInHand 22 25 (.getfield 37) 3 := ⟨by decide +kernel, rfl⟩
theorem dX3_toldLandInHand_25 : q_d cX3_toldLandInHand 25 26 (.iaload) 1 := ⟨by decide +kernel, rfl⟩
theorem dX3_toldLandInHand_26 : q_d cX3_toldLandInHand 26 27 (.aload_n 0) 1 := ⟨by decide +kernel, rfl⟩
theorem dX3_toldLandInHand_27 : q_d cX3_toldLandInHand 27 30 (.getfield 28) 3 := ⟨by decide +kernel, rfl⟩
theorem dX3_toldLandInHand_30 : q_d cX3_toldLandInHand 30 31 (.aload_n 0) 1 := ⟨by decide +kernel, rfl⟩
theorem dX3_toldLandInHand_31 : q_d cX3_toldLandInHand 31 34 (.getfield 37) 3 := ⟨by decide +kernel, rfl⟩
theorem dX3_toldLandInHand_34 : q_d cX3_toldLandInHand 34 35 (.iaload) 1 := ⟨by decide +kernel, rfl⟩
theorem dX3_toldLandInHand_35 : q_d cX3_toldLandInHand 35 38 (.invokevirtual 157) 3 := ⟨by decide +kernel, rfl⟩
theorem dX3_toldLandInHand_38 : q_d cX3_toldLandInHand 38 39 (.istore_n 1) 1 := ⟨by decide +kernel, rfl⟩
theorem dX3_toldLandInHand_39 : q_d cX3_toldLandInHand 39 40 (.iload_n 1) 1 := ⟨by decide +kernel, rfl⟩
theorem dX3_toldLandInHand_40 : q_d cX3_toldLandInHand 40 41 (.iconst (-1)) 1 := ⟨by decide +kernel, rfl⟩
theorem dX3_toldLandInHand_41 : q_j cX3_toldLandInHand 41 44 50 (fun o => .if_icmp .ne o) := ⟨9, by decide +kernel, rfl, rfl⟩
theorem dX3_toldLandInHand_44 : q_d cX3_toldLandInHand 44 45 (.aload_n 0) 1 := ⟨by decide +kernel, rfl⟩
theorem dX3_toldLandInHand_45 : q_d cX3_toldLandInHand 45 46 (.iconst 3) 1 := ⟨by decide +kernel, rfl⟩
theorem dX3_toldLandInHand_46 : q_d cX3_toldLandInHand 46 49 (.invokevirtual 68) 3 := ⟨by decide +kernel, rfl⟩
theorem dX3_toldLandInHand_49 : q_d cX3_toldLandInHand 49 50 (.pop) 1 := ⟨by decide +kernel, rfl⟩
theorem dX3_toldLandInHand_50 : q_d cX3_toldLandInHand 50 51 (.iload_n 1) 1 := ⟨by decide +kernel, rfl⟩
theorem dX3_toldLandInHand_51 : q_d cX3_toldLandInHand 51 52 (.ireturn) 1 := ⟨by decide +kernel, rfl⟩
theorem dX3_readSum_0 : q_d cX3_readSum 0 1 (.iconst 0) 1 := ⟨by decide +kernel, rfl⟩
theorem dX3_readSum_1 : q_d cX3_readSum 1 2 (.istore_n 2) 1 := ⟨by decide +kernel, rfl⟩
theorem dX3_readSum_2 : q_d cX3_readSum 2 3 (.aload_n 0) 1 := ⟨by decide +kernel, rfl⟩
theorem dX3_readSum_3 : q_d cX3_readSum 3 4 (.iload_n 1) 1 := ⟨by decide +kernel, rfl⟩
theorem dX3_readSum_4 : q_d cX3_readSum 4 7 (.invokevirtual 228) 3 := ⟨by decide +kernel, rfl⟩
theorem dX3_readSum_7 : q_d cX3_readSum 7 8 (.istore_n 3) 1 := ⟨by decide +kernel, rfl⟩
theorem dX3_readSum_8 : q_d cX3_readSum 8 9 (.iconst 0) 1 := ⟨by decide +kernel, rfl⟩
theorem dX3_readSum_9 : q_d cX3_readSum 9 11 (.istore 4) 2 := ⟨by decide +kernel, rfl⟩
theorem dX3_readSum_11 : q_d cX3_readSum 11 13 (.iload 4) 2 := ⟨by decide +kernel, rfl⟩
theorem dX3_readSum_13 : q_d cX3_readSum 13 16 (.sipush 600) 3 := ⟨by decide +kernel, rfl⟩
theorem dX3_readSum_16 : q_j cX3_readSum 16 19 95 (fun o => .if_icmp .gt o) := ⟨79, by decide +kernel, rfl, rfl⟩
theorem dX3_readSum_19 : q_d cX3_readSum 19 20 (.iload_n 3) 1 := ⟨by decide +kernel, rfl⟩
theorem dX3_readSum_20 : q_j cX3_readSum 20 23 95 (fun o => .ifCond .eq o) := ⟨75, by decide +kernel, rfl, rfl⟩
theorem dX3_readSum_23 : q_d cX3_readSum 23 24 (.aload_n 0) 1 := ⟨by decide +kernel, rfl⟩
theorem dX3_readSum_24 : q_d cX3_readSum 24 27 (.invokevirtual 231) 3 := ⟨by decide +kernel, rfl⟩
theorem dX3_readSum_27 : q_j cX3_readSum 27 30 95 (fun o => .ifCond .eq o) := ⟨68, by decide +kernel, rfl, rfl⟩
theorem dX3_readSum_30 : q_d cX3_readSum 30 31 (.aload_n 0) 1 := ⟨by decide +kernel, rfl⟩
theorem dX3_readSum_31 : q_d cX3_readSum 31 34 (.invokevirtual 231) 3 := ⟨by decide +kernel, rfl⟩
theorem dX3_readSum_34 : q_d cX3_readSum 34 36 (.istore 5) 2 := ⟨by decide +kernel, rfl⟩
theorem dX3_readSum_36 : q_d cX3_readSum 36 37 (.aload_n 0) 1 := ⟨by decide +kernel, rfl⟩
theorem dX3_readSum_37 : q_d cX3_readSum 37 40 (.invokevirtual 92) 3 := ⟨by decide +kernel, rfl⟩
theorem dX3_readSum_40 : q_d cX3_readSum 40 42 (.iload 5) 2 := ⟨by decide +kernel, rfl⟩
theorem dX3_readSum_42 : q_d cX3_readSum 42 44 (.bipush (-5)) 2 := ⟨by decide +kernel, rfl⟩
theorem dX3_readSum_44 : q_j cX3_readSum 44 47 54 (fun o => .if_icmp .eq o) := ⟨10, by decide +kernel, rfl, rfl⟩
theorem dX3_readSum_47 : q_d cX3_readSum 47 49 (.iload 5) 2 := ⟨by decide +kernel, rfl⟩
theorem dX3_readSum_49 : q_d cX3_readSum 49 51 (.bipush (-6)) 2 := ⟨by decide +kernel, rfl⟩
theorem dX3_readSum_51 : q_j cX3_readSum 51 54 74 (fun o => .if_icmp .ne o) := ⟨23, by decide +kernel, rfl, rfl⟩
theorem dX3_readSum_54 : q_d cX3_readSum 54 55 (.aload_n 0) 1 := ⟨by decide +kernel, rfl⟩
theorem dX3_readSum_55 : q_d cX3_readSum 55 58 (.getfield 18) 3 := ⟨by decide +kernel, rfl⟩
theorem dX3_readSum_58 : q_d cX3_readSum 58 59 (.iload_n 2) 1 := ⟨by decide +kernel, rfl⟩
theorem dX3_readSum_59 : q_d cX3_readSum 59 62 (.invokevirtual 234) 3 := ⟨by decide +kernel, rfl⟩
theorem dX3_readSum_62 : q_d cX3_readSum 62 64 (.iload 5) 2 := ⟨by decide +kernel, rfl⟩
theorem dX3_readSum_64 : q_d cX3_readSum 64 65 (.istore_n 2) 1 := ⟨by decide +kernel, rfl⟩
theorem dX3_readSum_65 : q_d cX3_readSum 65 66 (.aload_n 0) 1 := ⟨by decide +kernel, rfl⟩
theorem dX3_readSum_66 : q_d cX3_readSum 66 67 (.iload_n 1) 1 := ⟨by decide +kernel, rfl⟩
theorem dX3_readSum_67 : q_d cX3_readSum 67 70 (.invokevirtual 228) 3 := ⟨by decide +kernel, rfl⟩
theorem dX3_readSum_70 : q_d cX3_readSum 70 71 (.istore_n 3) 1 := ⟨by decide +kernel, rfl⟩
theorem dX3_readSum_71 : q_j cX3_readSum 71 74 89 (fun o => .goto o) := ⟨18, by decide +kernel, rfl, rfl⟩
theorem dX3_readSum_74 : q_d cX3_readSum 74 75 (.aload_n 0) 1 := ⟨by decide +kernel, rfl⟩
theorem dX3_readSum_75 : q_d cX3_readSum 75 76 (.iload_n 1) 1 := ⟨by decide +kernel, rfl⟩
theorem dX3_readSum_76 : q_d cX3_readSum 76 79 (.invokevirtual 228) 3 := ⟨by decide +kernel, rfl⟩
theorem dX3_readSum_79 : q_d cX3_readSum 79 80 (.istore_n 3) 1 := ⟨by decide +kernel, rfl⟩
theorem dX3_readSum_80 : q_d cX3_readSum 80 81 (.aload_n 0) 1 := ⟨by decide +kernel, rfl⟩
theorem dX3_readSum_81 : q_d cX3_readSum 81 84 (.getfield 18) 3 := ⟨by decide +kernel, rfl⟩
theorem dX3_readSum_84 : q_d cX3_readSum 84 86 (.iload 5) 2 := ⟨by decide +kernel, rfl⟩
theorem dX3_readSum_86 : q_d cX3_readSum 86 89 (.invokevirtual 234) 3 := ⟨by decide +kernel, rfl⟩
theorem dX3_readSum_89 : q_d cX3_readSum 89 92 (.iinc 4 1) 3 := ⟨by decide +kernel, rfl⟩
theorem dX3_readSum_92 : q_j cX3_readSum 92 95 11 (fun o => .goto o) := ⟨(-81), by decide +kernel, rfl, rfl⟩
theorem dX3_readSum_95 : q_d cX3_readSum 95 96 (.aload_n 0) 1 := ⟨by decide +kernel, rfl⟩
theorem dX3_readSum_96 : q_d cX3_readSum 96 99 (.getfield 18) 3 := ⟨by decide +kernel, rfl⟩
theorem dX3_readSum_99 : q_d cX3_readSum 99 100 (.iload_n 2) 1 := ⟨by decide +kernel, rfl⟩
theorem dX3_readSum_100 : q_d cX3_readSum 100 103 (.invokevirtual 234) 3 := ⟨by decide +kernel, rfl⟩
theorem dX3_readSum_103 : q_d cX3_readSum 103 104 (.iload_n 3) 1 := ⟨by decide +kernel, rfl⟩
theorem dX3_readSum_104 : q_d cX3_readSum 104 105 (.ireturn) 1 := ⟨by decide +kernel, rfl⟩
theorem dX3_signInHand_0 : q_d cX3_signInHand 0 1 (.aload_n 0) 1 := ⟨by decide +kernel, rfl⟩
theorem dX3_signInHand_1 : q_d cX3_signInHand 1 4 (.getfield 22) 3 := ⟨by decide +kernel, rfl⟩
theorem dX3_signInHand_4 : q_d cX3_signInHand 4 5 (.aload_n 0) 1 := ⟨by decide +kernel, rfl⟩
theorem dX3_signInHand_5 : q_d cX3_signInHand 5 8 (.getfield 37) 3 := ⟨by decide +kernel, rfl⟩
theorem dX3_signInHand_8 : q_d cX3_signInHand 8 9 (.iaload) 1 := ⟨by decide +kernel, rfl⟩
theorem dX3_signInHand_9 : decode cX3_signInHand 9 = .ok (.tableswitch 51 42 47 #[45, 39, 51, 42, 51, 48], 39) := by decide +kernel
theorem dX3_signInHand_48 : q_d cX3_signInHand 48 50 (.bipush (-5)) 2 := ⟨by decide +kernel, rfl⟩
theorem dX3_signInHand_50 : q_d cX3_signInHand 50 51 (.ireturn) 1 := ⟨by decide +kernel, rfl⟩
theorem dX3_signInHand_51 : q_d cX3_signInHand 51 53 (.bipush (-6)) 2 := ⟨by decide +kernel, rfl⟩
theorem dX3_signInHand_53 : q_d cX3_signInHand 53 54 (.ireturn) 1 := ⟨by decide +kernel, rfl⟩
theorem dX3_signInHand_54 : q_d cX3_signInHand 54 56 (.bipush (-7)) 2 := ⟨by decide +kernel, rfl⟩
theorem dX3_signInHand_56 : q_d cX3_signInHand 56 57 (.ireturn) 1 := ⟨by decide +kernel, rfl⟩
theorem dX3_signInHand_57 : q_d cX3_signInHand 57 59 (.bipush (-8)) 2 := ⟨by decide +kernel, rfl⟩
theorem dX3_signInHand_59 : q_d cX3_signInHand 59 60 (.ireturn) 1 := ⟨by decide +kernel, rfl⟩
theorem dX3_signInHand_60 : q_d cX3_signInHand 60 61 (.iconst 0) 1 := ⟨by decide +kernel, rfl⟩
theorem dX3_signInHand_61 : q_d cX3_signInHand 61 62 (.ireturn) 1 := ⟨by decide +kernel, rfl⟩
theorem dX3_readFactor_0 : q_d cX3_readFactor 0 1 (.aload_n 0) 1 := ⟨by decide +kernel, rfl⟩
theorem dX3_readFactor_1 : q_d cX3_readFactor 1 4 (.getfield 33) 3 := ⟨by decide +kernel, rfl⟩
theorem dX3_readFactor_4 : q_d cX3_readFactor 4 5 (.aload_n 0) 1 := ⟨by decide +kernel, rfl⟩
theorem dX3_readFactor_5 : q_d cX3_readFactor 5 8 (.getfield 37) 3 := ⟨by decide +kernel, rfl⟩
theorem dX3_readFactor_8 : q_d cX3_readFactor 8 9 (.aaload) 1 := ⟨by decide +kernel, rfl⟩
theorem dX3_readFactor_9 : q_d cX3_readFactor 9 12 (.getstatic 237) 3 := ⟨by decide +kernel, rfl⟩
theorem dX3_readFactor_12 : q_j cX3_readFactor 12 15 21 (fun o => .if_acmp .ne o) := ⟨9, by decide +kernel, rfl, rfl⟩
theorem dX3_readFactor_15 : q_d cX3_readFactor 15 16 (.aload_n 0) 1 := ⟨by decide +kernel, rfl⟩
theorem dX3_readFactor_16 : q_d cX3_readFactor 16 17 (.iload_n 1) 1 := ⟨by decide +kernel, rfl⟩
theorem dX3_readFactor_17 : q_d cX3_readFactor 17 20 (.invokevirtual 240) 3 := ⟨by decide +kernel, rfl⟩
theorem dX3_readFactor_20 : q_d cX3_readFactor 20 21 (.ireturn) 1 := ⟨by decide +kernel, rfl⟩
theorem dX3_readFactor_21 : q_d cX3_readFactor 21 22 (.aload_n 0) 1 := ⟨by decide +kernel, rfl⟩
theorem dX3_readFactor_22 : q_d cX3_readFactor 22 25 (.getstatic 243) 3 := ⟨by decide +kernel, rfl⟩
theorem dX3_readFactor_25 : q_d cX3_readFactor 25 28 (.invokevirtual 105) 3 := ⟨by decide +kernel, rfl⟩
theorem dX3_readFactor_28 : q_j cX3_readFactor 28 31 38 (fun o => .ifCond .eq o) := ⟨10, by decide +kernel, rfl, rfl⟩
theorem dX3_readFactor_31 : q_d cX3_readFactor 31 32 (.aload_n 0) 1 := ⟨by decide +kernel, rfl⟩
theorem dX3_readFactor_32 : q_d cX3_readFactor 32 33 (.iload_n 1) 1 := ⟨by decide +kernel, rfl⟩
theorem dX3_readFactor_33 : q_d cX3_readFactor 33 34 (.iconst 1) 1 := ⟨by decide +kernel, rfl⟩
theorem dX3_readFactor_34 : q_d cX3_readFactor 34 37 (.invokevirtual 246) 3 := ⟨by decide +kernel, rfl⟩
theorem dX3_readFactor_37 : q_d cX3_readFactor 37 38 (.ireturn) 1 := ⟨by decide +kernel, rfl⟩
theorem dX3_readFactor_38 : q_d cX3_readFactor 38 39 (.aload_n 0) 1 := ⟨by decide +kernel, rfl⟩
theorem dX3_readFactor_39 : q_d cX3_readFactor 39 42 (.getfield 22) 3 := ⟨by decide +kernel, rfl⟩
theorem dX3_readFactor_42 : q_d cX3_readFactor 42 43 (.aload_n 0) 1 := ⟨by decide +kernel, rfl⟩
theorem dX3_readFactor_43 : q_d cX3_readFactor 43 46 (.getfield 37) 3 := ⟨by decide +kernel, rfl⟩
theorem dX3_readFactor_46 : q_d cX3_readFactor 46 47 (.iaload) 1 := ⟨by decide +kernel, rfl⟩
theorem dX3_readFactor_47 : q_d cX3_readFactor 47 49 (.bipush 40) 2 := ⟨by decide +kernel, rfl⟩
theorem dX3_readFactor_49 : q_j cX3_readFactor 49 52 59 (fun o => .if_icmp .ne o) := ⟨10, by decide +kernel, rfl, rfl⟩
theorem dX3_readFactor_52 : q_d cX3_readFactor 52 53 (.aload_n 0) 1 := ⟨by decide +kernel, rfl⟩
theorem dX3_readFactor_53 : q_d cX3_readFactor 53 54 (.iload_n 1) 1 := ⟨by decide +kernel, rfl⟩
theorem dX3_readFactor_54 : q_d cX3_readFactor 54 55 (.iconst 0) 1 := ⟨by decide +kernel, rfl⟩
theorem dX3_readFactor_55 : q_d cX3_readFactor 55 58 (.invokevirtual 246) 3 := ⟨by decide +kernel, rfl⟩
theorem dX3_readFactor_58 : q_d cX3_readFactor 58 59 (.ireturn) 1 := ⟨by decide +kernel, rfl⟩
theorem dX3_readFactor_59 : q_d cX3_readFactor 59 60 (.aload_n 0) 1 := ⟨by decide +kernel, rfl⟩
theorem dX3_readFactor_60 : q_d cX3_readFactor 60 63 (.invokevirtual 250) 3 := ⟨by decide +kernel, rfl⟩
theorem dX3_readFactor_63 : q_d cX3_readFactor 63 64 (.istore_n 2) 1 := ⟨by decide +kernel, rfl⟩
theorem dX3_readFactor_64 : q_d cX3_readFactor 64 65 (.iload_n 2) 1 := ⟨by decide +kernel, rfl⟩
theorem dX3_readFactor_65 : q_j cX3_readFactor 65 68 82 (fun o => .ifCond .eq o) := ⟨17, by decide +kernel, rfl, rfl⟩
theorem dX3_readFactor_68 : q_d cX3_readFactor 68 69 (.aload_n 0) 1 := ⟨by decide +kernel, rfl⟩
theorem dX3_readFactor_69 : q_d cX3_readFactor 69 72 (.getfield 18) 3 := ⟨by decide +kernel, rfl⟩
theorem dX3_readFactor_72 : q_d cX3_readFactor 72 73 (.iload_n 2) 1 := ⟨by decide +kernel, rfl⟩
theorem dX3_readFactor_73 : q_d cX3_readFactor 73 76 (.invokevirtual 253) 3 := ⟨by decide +kernel, rfl⟩
theorem dX3_readFactor_76 : q_d cX3_readFactor 76 77 (.aload_n 0) 1 := ⟨by decide +kernel, rfl⟩
theorem dX3_readFactor_77 : q_d cX3_readFactor 77 80 (.invokevirtual 92) 3 := ⟨by decide +kernel, rfl⟩
theorem dX3_readFactor_80 : q_d cX3_readFactor 80 81 (.iconst 1) 1 := ⟨by decide +kernel, rfl⟩
theorem dX3_readFactor_81 : q_d cX3_readFactor 81 82 (.ireturn) 1 := ⟨by decide +kernel, rfl⟩
theorem dX3_readFactor_82 : q_d cX3_readFactor 82 83 (.aload_n 0) 1 := ⟨by decide +kernel, rfl⟩
theorem dX3_readFactor_83 : q_d cX3_readFactor 83 84 (.iconst 0) 1 := ⟨by decide +kernel, rfl⟩
theorem dX3_readFactor_84 : q_d cX3_readFactor 84 87 (.ldc_w 256) 3 := ⟨by decide +kernel, rfl⟩
theorem dX3_readFactor_87 : q_d cX3_readFactor 87 90 (.invokevirtual 171) 3 := ⟨by decide +kernel, rfl⟩
theorem dX3_readFactor_90 : q_j cX3_readFactor 90 93 95 (fun o => .ifCond .ne o) := ⟨5, by decide +kernel, rfl, rfl⟩
theorem dX3_readFactor_93 : q_d cX3_readFactor 93 94 (.iconst 0) 1 := ⟨by decide +kernel, rfl⟩
theorem dX3_readFactor_94 : q_d cX3_readFactor 94 95 (.ireturn) 1 := ⟨by decide +kernel, rfl⟩
theorem dX3_readFactor_95 : q_d cX3_readFactor 95 96 (.aload_n 0) 1 := ⟨by decide +kernel, rfl⟩
theorem dX3_readFactor_96 : q_d cX3_readFactor 96 99 (.getfield 18) 3 := ⟨by decide +kernel, rfl⟩
theorem dX3_readFactor_99 : q_d cX3_readFactor 99 100 (.aload_n 0) 1 := ⟨by decide +kernel, rfl⟩
theorem dX3_readFactor_100 : q_d cX3_readFactor 100 103 (.getfield 88) 3 := ⟨by decide +kernel, rfl⟩
theorem dX3_readFactor_103 : q_d cX3_readFactor 103 106 (.invokevirtual 253) 3 := ⟨by decide +kernel, rfl⟩
theorem dX3_readFactor_106 : q_d cX3_readFactor 106 107 (.iconst 1) 1 := ⟨by decide +kernel, rfl⟩
theorem dX3_readFactor_107 : q_d cX3_readFactor 107 108 (.ireturn) 1 := ⟨by decide +kernel, rfl⟩
theorem dX3_readIf_0 : q_d cX3_readIf 0 1 (.iload_n 1) 1 := ⟨by decide +kernel, rfl⟩
theorem dX3_readIf_1 : q_d cX3_readIf 1 2 (.iconst 3) 1 := ⟨by decide +kernel, rfl⟩
theorem dX3_readIf_2 : q_j cX3_readIf 2 5 11 (fun o => .if_icmp .lt o) := ⟨9, by decide +kernel, rfl, rfl⟩
theorem dX3_readIf_5 : q_d cX3_readIf 5 6 (.aload_n 0) 1 := ⟨by decide +kernel, rfl⟩
theorem dX3_readIf_6 : q_d cX3_readIf 6 7 (.iconst 5) 1 := ⟨by decide +kernel, rfl⟩
theorem dX3_readIf_7 : q_d cX3_readIf 7 10 (.invokevirtual 68) 3 := ⟨by decide +kernel, rfl⟩
theorem dX3_readIf_10 : q_d cX3_readIf 10 11 (.ireturn) 1 := ⟨by decide +kernel, rfl⟩
theorem dX3_readIf_11 : q_d cX3_readIf 11 12 (.aload_n 0) 1 := ⟨by decide +kernel, rfl⟩
theorem dX3_readIf_12 : q_d cX3_readIf 12 15 (.invokevirtual 92) 3 := ⟨by decide +kernel, rfl⟩
theorem dX3_readIf_15 : q_d cX3_readIf 15 16 (.aload_n 0) 1 := ⟨by decide +kernel, rfl⟩
theorem dX3_readIf_16 : q_d cX3_readIf 16 17 (.iload_n 1) 1 := ⟨by decide +kernel, rfl⟩
theorem dX3_readIf_17 : q_d cX3_readIf 17 18 (.iconst 1) 1 := ⟨by decide +kernel, rfl⟩
theorem dX3_readIf_18 : q_d cX3_readIf 18 19 (.iadd) 1 := ⟨by decide +kernel, rfl⟩
theorem dX3_readIf_19 : q_d cX3_readIf 19 22 (.invokevirtual 228) 3 := ⟨by decide +kernel, rfl⟩
theorem dX3_readIf_22 : q_j cX3_readIf 22 25 45 (fun o => .ifCond .eq o) := ⟨23, by decide +kernel, rfl, rfl⟩
theorem dX3_readIf_25 : q_d cX3_readIf 25 26 (.aload_n 0) 1 := ⟨by decide +kernel, rfl⟩
theorem dX3_readIf_26 : q_d cX3_readIf 26 29 (.getstatic 257) 3 := ⟨by decide +kernel, rfl⟩
theorem dX3_readIf_29 : q_d cX3_readIf 29 32 (.invokevirtual 105) 3 := ⟨by decide +kernel, rfl⟩
theorem dX3_readIf_32 : q_j cX3_readIf 32 35 45 (fun o => .ifCond .eq o) := ⟨13, by decide +kernel, rfl, rfl⟩
theorem dX3_readIf_35 : q_d cX3_readIf 35 36 (.aload_n 0) 1 := ⟨by decide +kernel, rfl⟩
theorem dX3_readIf_36 : q_d cX3_readIf 36 37 (.iload_n 1) 1 := ⟨by decide +kernel, rfl⟩
theorem dX3_readIf_37 : q_d cX3_readIf 37 38 (.iconst 1) 1 := ⟨by decide +kernel, rfl⟩
theorem dX3_readIf_38 : q_d cX3_readIf 38 39 (.iadd) 1 := ⟨by decide +kernel, rfl⟩
theorem dX3_readIf_39 : q_d cX3_readIf 39 42 (.invokevirtual 228) 3 := ⟨by decide +kernel, rfl⟩
theorem dX3_readIf_42 : q_j cX3_readIf 42 45 47 (fun o => .ifCond .ne o) := ⟨5, by decide +kernel, rfl, rfl⟩
theorem dX3_readIf_45 : q_d cX3_readIf 45 46 (.iconst 0) 1 := ⟨by decide +kernel, rfl⟩
theorem dX3_readIf_46 : q_d cX3_readIf 46 47 (.ireturn) 1 := ⟨by decide +kernel, rfl⟩
theorem dX3_readIf_47 : q_d cX3_readIf 47 48 (.aload_n 0) 1 := ⟨by decide +kernel, rfl⟩
theorem dX3_readIf_48 : q_d cX3_readIf 48 51 (.getstatic 260) 3 := ⟨by decide +kernel, rfl⟩
theorem dX3_readIf_51 : q_d cX3_readIf 51 54 (.invokevirtual 105) 3 := ⟨by decide +kernel, rfl⟩
theorem dX3_readIf_54 : q_j cX3_readIf 54 57 67 (fun o => .ifCond .eq o) := ⟨13, by decide +kernel, rfl, rfl⟩
theorem dX3_readIf_57 : q_d cX3_readIf 57 58 (.aload_n 0) 1 := ⟨by decide +kernel, rfl⟩
theorem dX3_readIf_58 : q_d cX3_readIf 58 59 (.iload_n 1) 1 := ⟨by decide +kernel, rfl⟩
theorem dX3_readIf_59 : q_d cX3_readIf 59 60 (.iconst 1) 1 := ⟨by decide +kernel, rfl⟩
theorem dX3_readIf_60 : q_d cX3_readIf 60 61 (.iadd) 1 := ⟨by decide +kernel, rfl⟩
theorem dX3_readIf_61 : q_d cX3_readIf 61 64 (.invokevirtual 228) 3 := ⟨by decide +kernel, rfl⟩
theorem dX3_readIf_64 : q_j cX3_readIf 64 67 69 (fun o => .ifCond .ne o) := ⟨5, by decide +kernel, rfl, rfl⟩
theorem dX3_readIf_67 : q_d cX3_readIf 67 68 (.iconst 0) 1 := ⟨by decide +kernel, rfl⟩
theorem dX3_readIf_68 : q_d cX3_readIf 68 69 (.ireturn) 1 := ⟨by decide +kernel, rfl⟩
theorem dX3_readIf_69 : q_d cX3_readIf 69 70 (.aload_n 0) 1 := ⟨by decide +kernel, rfl⟩
theorem dX3_readIf_70 : q_d cX3_readIf 70 73 (.getstatic 263) 3 := ⟨by decide +kernel, rfl⟩
theorem dX3_readIf_73 : q_d cX3_readIf 73 76 (.invokevirtual 105) 3 := ⟨by decide +kernel, rfl⟩
theorem dX3_readIf_76 : q_j cX3_readIf 76 79 89 (fun o => .ifCond .eq o) := ⟨13, by decide +kernel, rfl, rfl⟩
theorem dX3_readIf_79 : q_d cX3_readIf 79 80 (.aload_n 0) 1 := ⟨by decide +kernel, rfl⟩
theorem dX3_readIf_80 : q_d cX3_readIf 80 81 (.iload_n 1) 1 := ⟨by decide +kernel, rfl⟩
theorem dX3_readIf_81 : q_d cX3_readIf 81 82 (.iconst 1) 1 := ⟨by decide +kernel, rfl⟩
theorem dX3_readIf_82 : q_d cX3_readIf 82 83 (.iadd) 1 := ⟨by decide +kernel, rfl⟩
theorem dX3_readIf_83 : q_d cX3_readIf 83 86 (.invokevirtual 228) 3 := ⟨by decide +kernel, rfl⟩
theorem dX3_readIf_86 : q_j cX3_readIf 86 89 91 (fun o => .ifCond .ne o) := ⟨5, by decide +kernel, rfl, rfl⟩
theorem dX3_readIf_89 : q_d cX3_readIf 89 90 (.iconst 0) 1 := ⟨by decide +kernel, rfl⟩
theorem dX3_readIf_90 : q_d cX3_readIf 90 91 (.ireturn) 1 := ⟨by decide +kernel, rfl⟩
theorem dX3_readIf_91 : q_d cX3_readIf 91 92 (.aload_n 0) 1 := ⟨by decide +kernel, rfl⟩
theorem dX3_readIf_92 : q_d cX3_readIf 92 95 (.getfield 18) 3 := ⟨by decide +kernel, rfl⟩
theorem dX3_readIf_95 : q_d cX3_readIf 95 97 (.bipush (-10)) 2 := ⟨by decide +kernel, rfl⟩
theorem dX3_readIf_97 : q_d cX3_readIf 97 100 (.invokevirtual 253) 3 := ⟨by decide +kernel, rfl⟩
theorem dX3_readIf_100 : q_d cX3_readIf 100 101 (.iconst 1) 1 := ⟨by decide +kernel, rfl⟩
theorem dX3_readIf_101 : q_d cX3_readIf 101 102 (.ireturn) 1 := ⟨by decide +kernel, rfl⟩
theorem dX3_readBracket_0 : q_d cX3_readBracket 0 1 (.aload_n 0) 1 := ⟨by decide +kernel, rfl⟩
theorem dX3_readBracket_1 : q_d cX3_readBracket 1 4 (.getfield 22) 3 := ⟨by decide +kernel, rfl⟩
theorem dX3_readBracket_4 : q_d cX3_readBracket 4 5 (.aload_n 0) 1 := ⟨by decide +kernel, rfl⟩
theorem dX3_readBracket_5 : q_d cX3_readBracket 5 8 (.getfield 37) 3 := ⟨by decide +kernel, rfl⟩
theorem dX3_readBracket_8 : q_d cX3_readBracket 8 9 (.iaload) 1 := ⟨by decide +kernel, rfl⟩
theorem dX3_readBracket_9 : q_d cX3_readBracket 9 11 (.bipush 40) 2 := ⟨by decide +kernel, rfl⟩
theorem dX3_readBracket_11 : q_j cX3_readBracket 11 14 16 (fun o => .if_icmp .eq o) := ⟨5, by decide +kernel, rfl, rfl⟩
theorem dX3_readBracket_14 : q_d cX3_readBracket 14 15 (.iconst 0) 1 := ⟨by decide +kernel, rfl⟩
theorem dX3_readBracket_15 : q_d cX3_readBracket 15 16 (.ireturn) 1 := ⟨by decide +kernel, rfl⟩
theorem dX3_readBracket_16 : q_d cX3_readBracket 16 17 (.iload_n 1) 1 := ⟨by decide +kernel, rfl⟩
theorem dX3_readBracket_17 : q_d cX3_readBracket 17 18 (.iconst 3) 1 := ⟨by decide +kernel, rfl⟩
theorem dX3_readBracket_18 : q_j cX3_readBracket 18 21 27 (fun o => .if_icmp .lt o) := ⟨9, by decide +kernel, rfl, rfl⟩
theorem dX3_readBracket_21 : q_d cX3_readBracket 21 22 (.aload_n 0) 1 := ⟨by decide +kernel, rfl⟩
theorem dX3_readBracket_22 : q_d cX3_readBracket 22 23 (.iconst 5) 1 := ⟨by decide +kernel, rfl⟩
theorem dX3_readBracket_23 : q_d cX3_readBracket 23 26 (.invokevirtual 68) 3 := ⟨by decide +kernel, rfl⟩
theorem dX3_readBracket_26 : q_d cX3_readBracket 26 27 (.ireturn) 1 := ⟨by decide +kernel, rfl⟩
theorem dX3_readBracket_27 : q_d cX3_readBracket 27 28 (.aload_n 0) 1 := ⟨by decide +kernel, rfl⟩
theorem dX3_readBracket_28 : q_d cX3_readBracket 28 31 (.invokevirtual 92) 3 := ⟨by decide +kernel, rfl⟩
theorem dX3_readBracket_31 : q_d cX3_readBracket 31 32 (.aload_n 0) 1 := ⟨by decide +kernel, rfl⟩
theorem dX3_readBracket_32 : q_d cX3_readBracket 32 33 (.iload_n 1) 1 := ⟨by decide +kernel, rfl⟩
theorem dX3_readBracket_33 : q_d cX3_readBracket 33 34 (.iconst 1) 1 := ⟨by decide +kernel, rfl⟩
theorem dX3_readBracket_34 : q_d cX3_readBracket 34 35 (.iadd) 1 := ⟨by decide +kernel, rfl⟩
theorem dX3_readBracket_35 : q_d cX3_readBracket 35 38 (.invokevirtual 200) 3 := ⟨by decide +kernel, rfl⟩
theorem dX3_readBracket_38 : q_j cX3_readBracket 38 41 43 (fun o => .ifCond .ne o) := ⟨5, by decide +kernel, rfl, rfl⟩
theorem dX3_readBracket_41 : q_d cX3_readBracket 41 42 (.iconst 0) 1 := ⟨by decide +kernel, rfl⟩
theorem dX3_readBracket_42 : q_d cX3_readBracket 42 43 (.ireturn) 1 := ⟨by decide +kernel, rfl⟩
theorem dX3_readBracket_43 : q_d cX3_readBracket 43 44 (.iload_n 2) 1 := ⟨by decide +kernel, rfl⟩
theorem dX3_readBracket_44 : q_j cX3_readBracket 44 47 77 (fun o => .ifCond .eq o) := ⟨33, by decide +kernel, rfl, rfl⟩
theorem dX3_readBracket_47 : q_d cX3_readBracket 47 48 (.aload_n 0) 1 := ⟨by decide +kernel, rfl⟩
theorem dX3_readBracket_48 : q_d cX3_readBracket 48 50 (.bipush 44) 2 := ⟨by decide +kernel, rfl⟩
theorem dX3_readBracket_50 : q_d cX3_readBracket 50 53 (.invokevirtual 64) 3 := ⟨by decide +kernel, rfl⟩
theorem dX3_readBracket_53 : q_j cX3_readBracket 53 56 66 (fun o => .ifCond .eq o) := ⟨13, by decide +kernel, rfl, rfl⟩
theorem dX3_readBracket_56 : q_d cX3_readBracket 56 57 (.aload_n 0) 1 := ⟨by decide +kernel, rfl⟩
theorem dX3_readBracket_57 : q_d cX3_readBracket 57 58 (.iload_n 1) 1 := ⟨by decide +kernel, rfl⟩
theorem dX3_readBracket_58 : q_d cX3_readBracket 58 59 (.iconst 1) 1 := ⟨by decide +kernel, rfl⟩
theorem dX3_readBracket_59 : q_d cX3_readBracket 59 60 (.iadd) 1 := ⟨by decide +kernel, rfl⟩
theorem dX3_readBracket_60 : q_d cX3_readBracket 60 63 (.invokevirtual 200) 3 := ⟨by decide +kernel, rfl⟩
theorem dX3_readBracket_63 : q_j cX3_readBracket 63 66 68 (fun o => .ifCond .ne o) := ⟨5, by decide +kernel, rfl, rfl⟩
theorem dX3_readBracket_66 : q_d cX3_readBracket 66 67 (.iconst 0) 1 := ⟨by decide +kernel, rfl⟩
theorem dX3_readBracket_67 : q_d cX3_readBracket 67 68 (.ireturn) 1 := ⟨by decide +kernel, rfl⟩
theorem dX3_readBracket_68 : q_d cX3_readBracket 68 69 (.aload_n 0) 1 := ⟨by decide +kernel, rfl⟩
theorem dX3_readBracket_69 : q_d cX3_readBracket 69 72 (.getfield 18) 3 := ⟨by decide +kernel, rfl⟩
theorem dX3_readBracket_72 : q_d cX3_readBracket 72 74 (.bipush (-9)) 2 := ⟨by decide +kernel, rfl⟩
theorem dX3_readBracket_74 : q_d cX3_readBracket 74 77 (.invokevirtual 253) 3 := ⟨by decide +kernel, rfl⟩
theorem dX3_readBracket_77 : q_d cX3_readBracket 77 78 (.aload_n 0) 1 := ⟨by decide +kernel, rfl⟩
theorem dX3_readBracket_78 : q_d cX3_readBracket 78 80 (.bipush 41) 2 := ⟨by decide +kernel, rfl⟩
theorem dX3_readBracket_80 : q_d cX3_readBracket 80 83 (.invokevirtual 64) 3 := ⟨by decide +kernel, rfl⟩
theorem dX3_readBracket_83 : q_d cX3_readBracket 83 84 (.ireturn) 1 := ⟨by decide +kernel, rfl⟩
theorem dX3_pushInHand_0 : q_d cX3_pushInHand 0 1 (.aload_n 0) 1 := ⟨by decide +kernel, rfl⟩
theorem dX3_pushInHand_1 : q_d cX3_pushInHand 1 4 (.getfield 33) 3 := ⟨by decide +kernel, rfl⟩
theorem dX3_pushInHand_4 : q_d cX3_pushInHand 4 5 (.aload_n 0) 1 := ⟨by decide +kernel, rfl⟩
theorem dX3_pushInHand_5 : q_d cX3_pushInHand 5 8 (.getfield 37) 3 := ⟨by decide +kernel, rfl⟩
theorem dX3_pushInHand_8 : q_d cX3_pushInHand 8 9 (.aaload) 1 := ⟨by decide +kernel, rfl⟩
theorem dX3_pushInHand_9 : q_d cX3_pushInHand 9 12 (.getstatic 266) 3 := ⟨by decide +kernel, rfl⟩
theorem dX3_pushInHand_12 : q_j cX3_pushInHand 12 15 17 (fun o => .if_acmp .ne o) := ⟨5, by decide +kernel, rfl, rfl⟩
theorem dX3_pushInHand_15 : q_d cX3_pushInHand 15 16 (.iconst (-1)) 1 := ⟨by decide +kernel, rfl⟩
theorem dX3_pushInHand_16 : q_d cX3_pushInHand 16 17 (.ireturn) 1 := ⟨by decide +kernel, rfl⟩
theorem dX3_pushInHand_17 : q_d cX3_pushInHand 17 18 (.aload_n 0) 1 := ⟨by decide +kernel, rfl⟩
theorem dX3_pushInHand_18 : q_d cX3_pushInHand 18 21 (.getfield 33) 3 := ⟨by decide +kernel, rfl⟩
theorem dX3_pushInHand_21 : q_d cX3_pushInHand 21 22 (.aload_n 0) 1 := ⟨by decide +kernel, rfl⟩
theorem dX3_pushInHand_22 : q_d cX3_pushInHand 22 25 (.getfield 37) 3 := ⟨by decide +kernel, rfl⟩
theorem dX3_pushInHand_25 : q_d cX3_pushInHand 25 26 (.aaload) 1 := ⟨by decide +kernel, rfl⟩
theorem dX3_pushInHand_26 : q_d cX3_pushInHand 26 29 (.getstatic 269) 3 := ⟨by decide +kernel, rfl⟩
theorem dX3_pushInHand_29 : q_j cX3_pushInHand 29 32 35 (fun o => .if_acmp .ne o) := ⟨6, by decide +kernel, rfl, rfl⟩
theorem dX3_pushInHand_32 : q_d cX3_pushInHand 32 34 (.bipush (-2)) 2 := ⟨by decide +kernel, rfl⟩
theorem dX3_pushInHand_34 : q_d cX3_pushInHand 34 35 (.ireturn) 1 := ⟨by decide +kernel, rfl⟩
theorem dX3_pushInHand_35 : q_d cX3_pushInHand 35 36 (.aload_n 0) 1 := ⟨by decide +kernel, rfl⟩
theorem dX3_pushInHand_36 : q_d cX3_pushInHand 36 39 (.getfield 33) 3 := ⟨by decide +kernel, rfl⟩
theorem dX3_pushInHand_39 : q_d cX3_pushInHand 39 40 (.aload_n 0) 1 := ⟨by decide +kernel, rfl⟩
theorem dX3_pushInHand_40 : q_d cX3_pushInHand 40 43 (.getfield 37) 3 := ⟨by decide +kernel, rfl⟩
theorem dX3_pushInHand_43 : q_d cX3_pushInHand 43 44 (.aaload) 1 := ⟨by decide +kernel, rfl⟩
theorem dX3_pushInHand_44 : q_d cX3_pushInHand 44 47 (.getstatic 272) 3 := ⟨by decide +kernel, rfl⟩
theorem dX3_pushInHand_47 : q_j cX3_pushInHand 47 50 53 (fun o => .if_acmp .ne o) := ⟨6, by decide +kernel, rfl, rfl⟩
theorem dX3_pushInHand_50 : q_d cX3_pushInHand 50 52 (.bipush (-3)) 2 := ⟨by decide +kernel, rfl⟩
theorem dX3_pushInHand_52 : q_d cX3_pushInHand 52 53 (.ireturn) 1 := ⟨by decide +kernel, rfl⟩
theorem dX3_pushInHand_53 : q_d cX3_pushInHand 53 54 (.aload_n 0) 1 := ⟨by decide +kernel, rfl⟩
theorem dX3_pushInHand_54 : q_d cX3_pushInHand 54 57 (.getfield 33) 3 := ⟨by decide +kernel, rfl⟩
theorem dX3_pushInHand_57 : q_d cX3_pushInHand 57 58 (.aload_n 0) 1 := ⟨by decide +kernel, rfl⟩
theorem dX3_pushInHand_58 : q_d cX3_pushInHand 58 61 (.getfield 37) 3 := ⟨by decide +kernel, rfl⟩
theorem dX3_pushInHand_61 : q_d cX3_pushInHand 61 62 (.aaload) 1 := ⟨by decide +kernel, rfl⟩
theorem dX3_pushInHand_62 : q_d cX3_pushInHand 62 65 (.getstatic 275) 3 := ⟨by decide +kernel, rfl⟩
theorem dX3_pushInHand_65 : q_j cX3_pushInHand 65 68 73 (fun o => .if_acmp .ne o) := ⟨8, by decide +kernel, rfl, rfl⟩
theorem dX3_pushInHand_68 : q_d cX3_pushInHand 68 70 (.bipush (-4)) 2 := ⟨by decide +kernel, rfl⟩
theorem dX3_pushInHand_70 : q_j cX3_pushInHand 70 73 74 (fun o => .goto o) := ⟨4, by decide +kernel, rfl, rfl⟩
theorem dX3_pushInHand_73 : q_d cX3_pushInHand 73 74 (.iconst 0) 1 := ⟨by decide +kernel, rfl⟩
theorem dX3_pushInHand_74 : q_d cX3_pushInHand 74 75 (.ireturn) 1 := ⟨by decide +kernel, rfl⟩
theorem dX4_init_0 : q_d cX4_init 0 1 (.aload_n 0) 1 := ⟨by decide +kernel, rfl⟩
theorem dX4_init_1 : q_d cX4_init 1 4 (.invokespecial 3) 3 := ⟨by decide +kernel, rfl⟩
theorem dX4_init_4 : q_d cX4_init 4 5 (.aload_n 0) 1 := ⟨by decide +kernel, rfl⟩
theorem dX4_init_5 : q_d cX4_init 5 6 (.iconst 5) 1 := ⟨by decide +kernel, rfl⟩
theorem dX4_init_6 : q_d cX4_init 6 9 (.anewarray 9) 3 := ⟨by decide +kernel, rfl⟩
theorem dX4_init_9 : q_d cX4_init 9 12 (.putfield 11) 3 := ⟨by decide +kernel, rfl⟩
theorem dX4_init_12 : q_d cX4_init 12 13 (.aload_n 0) 1 := ⟨by decide +kernel, rfl⟩
theorem dX4_init_13 : q_d cX4_init 13 14 (.iconst 5) 1 := ⟨by decide +kernel, rfl⟩
theorem dX4_init_14 : q_d cX4_init 14 16 (.newarray .int) 2 := ⟨by decide +kernel, rfl⟩
theorem dX4_init_16 : q_d cX4_init 16 19 (.putfield 17) 3 := ⟨by decide +kernel, rfl⟩
theorem dX4_init_19 : q_d cX4_init 19 20 (.aload_n 0) 1 := ⟨by decide +kernel, rfl⟩
theorem dX4_init_20 : q_d cX4_init 20 21 (.iconst 3) 1 := ⟨by decide +kernel, rfl⟩
theorem dX4_init_21 : q_d cX4_init 21 23 (.newarray .int) 2 := ⟨by decide +kernel, rfl⟩
theorem dX4_init_23 : q_d cX4_init 23 26 (.putfield 21) 3 := ⟨by decide +kernel, rfl⟩
theorem dX4_init_26 : q_d cX4_init 26 27 (.aload_n 0) 1 := ⟨by decide +kernel, rfl⟩
theorem dX4_init_27 : q_d cX4_init 27 29 (.bipush 25) 2 := ⟨by decide +kernel, rfl⟩
theorem dX4_init_29 : q_d cX4_init 29 31 (.newarray .int) 2 := ⟨by decide +kernel, rfl⟩
theorem dX4_init_31 : q_d cX4_init 31 34 (.putfield 24) 3 := ⟨by decide +kernel, rfl⟩
theorem dX4_init_34 : q_d cX4_init 34 35 (.aload_n 0) 1 := ⟨by decide +kernel, rfl⟩
theorem dX4_init_35 : q_d cX4_init 35 37 (.bipush 25) 2 := ⟨by decide +kernel, rfl⟩
theorem dX4_init_37 : q_d cX4_init 37 39 (.newarray .int) 2 := ⟨by decide +kernel, rfl⟩
theorem dX4_init_39 : q_d cX4_init 39 42 (.putfield 27) 3 := ⟨by decide +kernel, rfl⟩
theorem dX4_init_42 : q_d cX4_init 42 43 (.aload_n 0) 1 := ⟨by decide +kernel, rfl⟩
theorem dX4_init_43 : q_d cX4_init 43 46 (.sipush 600) 3 := ⟨by decide +kernel, rfl⟩
theorem dX4_init_46 : q_d cX4_init 46 48 (.newarray .int) 2 := ⟨by decide +kernel, rfl⟩
theorem dX4_init_48 : q_d cX4_init 48 51 (.putfield 30) 3 := ⟨by decide +kernel, rfl⟩
theorem dX4_init_51 : q_d cX4_init 51 52 (.aload_n 0) 1 := ⟨by decide +kernel, rfl⟩
theorem dX4_init_52 : q_d cX4_init 52 54 (.bipush 32) 2 := ⟨by decide +kernel, rfl⟩
theorem dX4_init_54 : q_d cX4_init 54 56 (.newarray .long) 2 := ⟨by decide +kernel, rfl⟩
theorem dX4_init_56 : q_d cX4_init 56 59 (.putfield 33) 3 := ⟨by decide +kernel, rfl⟩
theorem dX4_init_59 : q_d cX4_init 59 60 (.iconst 0) 1 := ⟨by decide +kernel, rfl⟩
theorem dX4_init_60 : q_d cX4_init 60 61 (.istore_n 1) 1 := ⟨by decide +kernel, rfl⟩
theorem dX4_init_61 : q_d cX4_init 61 62 (.iload_n 1) 1 := ⟨by decide +kernel, rfl⟩
theorem dX4_init_62 : q_d cX4_init 62 63 (.iconst 5) 1 := ⟨by decide +kernel, rfl⟩
theorem dX4_init_63 : q_j cX4_init 63 66 85 (fun o => .if_icmp .ge o) := ⟨22, by decide +kernel, rfl, rfl⟩
theorem dX4_init_66 : q_d cX4_init 66 67 (.aload_n 0) 1 := ⟨by decide +kernel, rfl⟩
theorem dX4_init_67 : q_d cX4_init 67 70 (.getfield 11) 3 := ⟨by decide +kernel, rfl⟩
theorem dX4_init_70 : q_d cX4_init 70 71 (.iload_n 1) 1 := ⟨by decide +kernel, rfl⟩
theorem dX4_init_71 : q_d cX4_init 71 74 (.new 9) 3 := ⟨by decide +kernel, rfl⟩
theorem dX4_init_74 : q_d cX4_init 74 75 (.dup) 1 := ⟨by decide +kernel, rfl⟩
theorem dX4_init_75 : q_d cX4_init 75 78 (.invokespecial 37) 3 := ⟨by decide +kernel, rfl⟩
theorem dX4_init_78 : q_d cX4_init 78 79 (.aastore) 1 := ⟨by decide +kernel, rfl⟩
theorem dX4_init_79 : q_d cX4_init 79 82 (.iinc 1 1) 3 := ⟨by decide +kernel, rfl⟩
theorem dX4_init_82 : q_j cX4_init 82 85 61 (fun o => .goto o) := ⟨(-21), by decide +kernel, rfl, rfl⟩
theorem dX4_init_85 : q_d cX4_init 85 86 (.aload_n 0) 1 := ⟨by decide +kernel, rfl⟩
theorem dX4_init_86 : q_d cX4_init 86 89 (.invokevirtual 38) 3 := ⟨by decide +kernel, rfl⟩
theorem dX4_init_89 : q_d cX4_init 89 90 (.aload_n 0) 1 := ⟨by decide +kernel, rfl⟩
theorem dX4_init_90 : q_d cX4_init 90 93 (.invokevirtual 41) 3 := ⟨by decide +kernel, rfl⟩
theorem dX4_init_93 : q_d cX4_init 93 94 (.return_) 1 := ⟨by decide +kernel, rfl⟩
theorem dX4_clear_0 : q_d cX4_clear 0 1 (.aload_n 0) 1 := ⟨by decide +kernel, rfl⟩
theorem dX4_clear_1 : q_d cX4_clear 1 2 (.iconst 0) 1 := ⟨by decide +kernel, rfl⟩
theorem dX4_clear_2 : q_d cX4_clear 2 5 (.putfield 44) 3 := ⟨by decide +kernel, rfl⟩
theorem dX4_clear_5 : q_d cX4_clear 5 6 (.aload_n 0) 1 := ⟨by decide +kernel, rfl⟩
theorem dX4_clear_6 : q_d cX4_clear 6 7 (.iconst (-1)) 1 := ⟨by decide +kernel, rfl⟩
theorem dX4_clear_7 : q_d cX4_clear 7 10 (.putfield 48) 3 := ⟨by decide +kernel, rfl⟩
theorem dX4_clear_10 : q_d cX4_clear 10 11 (.aload_n 0) 1 := ⟨by decide +kernel, rfl⟩
theorem dX4_clear_11 : q_d cX4_clear 11 12 (.iconst (-1)) 1 := ⟨by decide +kernel, rfl⟩
theorem dX4_clear_12 : q_d cX4_clear 12 15 (.putfield 51) 3 := ⟨by decide +kernel, rfl⟩
theorem dX4_clear_15 : q_d cX4_clear 15 16 (.aload_n 0) 1 := ⟨by decide +kernel, rfl⟩
theorem dX4_clear_16 : q_d cX4_clear 16 17 (.iconst (-1)) 1 := ⟨by decide +kernel, rfl⟩
theorem dX4_clear_17 : q_d cX4_clear 17 20 (.putfield 54) 3 := ⟨by decide +kernel, rfl⟩
theorem dX4_clear_20 : q_d cX4_clear 20 21 (.aload_n 0) 1 := ⟨by decide +kernel, rfl⟩
theorem dX4_clear_21 : q_d cX4_clear 21 22 (.iconst 0) 1 := ⟨by decide +kernel, rfl⟩
theorem dX4_clear_22 : q_d cX4_clear 22 25 (.putfield 57) 3 := ⟨by decide +kernel, rfl⟩
theorem dX4_clear_25 : q_d cX4_clear 25 26 (.aload_n 0) 1 := ⟨by decide +kernel, rfl⟩
theorem dX4_clear_26 : q_d cX4_clear 26 27 (.iconst 0) 1 := ⟨by decide +kernel, rfl⟩
theorem dX4_clear_27 : q_d cX4_clear 27 30 (.putfield 60) 3 := ⟨by decide +kernel, rfl⟩
theorem dX4_clear_30 : q_d cX4_clear 30 31 (.iconst 0) 1 := ⟨by decide +kernel, rfl⟩
theorem dX4_clear_31 : q_d cX4_clear 31 32 (.istore_n 1) 1 := ⟨by decide +kernel, rfl⟩
theorem dX4_clear_32 : q_d cX4_clear 32 33 (.iload_n 1) 1 := ⟨by decide +kernel, rfl⟩
theorem dX4_clear_33 : q_d cX4_clear 33 34 (.iconst 5) 1 := ⟨by decide +kernel, rfl⟩
theorem dX4_clear_34 : q_j cX4_clear 34 37 50 (fun o => .if_icmp .ge o) := ⟨16, by decide +kernel, rfl, rfl⟩
theorem dX4_clear_37 : q_d cX4_clear 37 38 (.aload_n 0) 1 := ⟨by decide +kernel, rfl⟩
theorem dX4_clear_38 : q_d cX4_clear 38 41 (.getfield 17) 3 := ⟨by decide +kernel, rfl⟩
theorem dX4_clear_41 : q_d cX4_clear 41 42 (.iload_n 1) 1 := ⟨by decide +kernel, rfl⟩
theorem dX4_clear_42 : q_d cX4_clear 42 43 (.iconst (-1)) 1 := ⟨by decide +kernel, rfl⟩
theorem dX4_clear_43 : q_d cX4_clear 43 44 (.iastore) 1 := ⟨by decide +kernel, rfl⟩
theorem dX4_clear_44 : q_d cX4_clear 44 47 (.iinc 1 1) 3 := ⟨by decide +kernel, rfl⟩
theorem dX4_clear_47 : q_j cX4_clear 47 50 32 (fun o => .goto o) := ⟨(-15), by decide +kernel, rfl, rfl⟩
theorem dX4_clear_50 : q_d cX4_clear 50 51 (.iconst 0) 1 := ⟨by decide +kernel, rfl⟩
theorem dX4_clear_51 : q_d cX4_clear 51 52 (.istore_n 1) 1 := ⟨by decide +kernel, rfl⟩
theorem dX4_clear_52 : q_d cX4_clear 52 53 (.iload_n 1) 1 := ⟨by decide +kernel, rfl⟩
theorem dX4_clear_53 : q_d cX4_clear 53 54 (.aload_n 0) 1 := ⟨by decide +kernel, rfl⟩
theorem dX4_clear_54 : q_d cX4_clear 54 57 (.getfield 24) 3 := ⟨by decide +kernel, rfl⟩
theorem dX4_clear_57 : q_d cX4_clear 57 58 (.arraylength) 1 := ⟨by decide +kernel, rfl⟩
theorem dX4_clear_58 : q_j cX4_clear 58 61 81 (fun o => .if_icmp .ge o) := ⟨23, by decide +kernel, rfl, rfl⟩
theorem dX4_clear_61 : q_d cX4_clear 61 62 (.aload_n 0) 1 := ⟨by decide +kernel, rfl⟩
theorem dX4_clear_62 : q_d cX4_clear 62 65 (.getfield 24) 3 := ⟨by decide +kernel, rfl⟩
theorem dX4_clear_65 : q_d cX4_clear 65 66 (.iload_n 1) 1 := ⟨by decide +kernel, rfl⟩
theorem dX4_clear_66 : q_d cX4_clear 66 67 (.iconst (-1)) 1 := ⟨by decide +kernel, rfl⟩
theorem dX4_clear_67 : q_d cX4_clear 67 68 (.iastore) 1 := ⟨by decide +kernel, rfl⟩
theorem dX4_clear_68 : q_d cX4_clear 68 69 (.aload_n 0) 1 := ⟨by decide +kernel, rfl⟩
theorem dX4_clear_69 : q_d cX4_clear 69 72 (.getfield 27) 3 := ⟨by decide +kernel, rfl⟩
theorem dX4_clear_72 : q_d cX4_clear 72 73 (.iload_n 1) 1 := ⟨by decide +kernel, rfl⟩
theorem dX4_clear_73 : q_d cX4_clear 73 74 (.iconst (-1)) 1 := ⟨by decide +kernel, rfl⟩
theorem dX4_clear_74 : q_d cX4_clear 74 75 (.iastore) 1 := ⟨by decide +kernel, rfl⟩
theorem dX4_clear_75 : q_d cX4_clear 75 78 (.iinc 1 1) 3 := ⟨by decide +kernel, rfl⟩
theorem dX4_clear_78 : q_j cX4_clear 78 81 52 (fun o => .goto o) := ⟨(-26), by decide +kernel, rfl, rfl⟩
theorem dX4_clear_81 : q_d cX4_clear 81 82 (.return_) 1 := ⟨by decide +kernel, rfl⟩
theorem dX4_tellTheUntold_0 : q_d cX4_tellTheUntold 0 1 (.aload_n 0) 1 := ⟨by decide +kernel, rfl⟩
theorem dX4_tellTheUntold_1 : q_d cX4_tellTheUntold 1 2 (.aload_n 0) 1 := ⟨by decide +kernel, rfl⟩
theorem dX4_tellTheUntold_2 : q_d cX4_tellTheUntold 2 5 (.getfield 48) 3 := ⟨by decide +kernel, rfl⟩
theorem dX4_tellTheUntold_5 : q_d cX4_tellTheUntold 5 6 (.iconst (-1)) 1 := ⟨by decide +kernel, rfl⟩
theorem dX4_tellTheUntold_6 : q_j cX4_tellTheUntold 6 9 13 (fun o => .if_icmp .ne o) := ⟨7, by decide +kernel, rfl, rfl⟩
theorem dX4_tellTheUntold_9 : q_d cX4_tellTheUntold 9 10 (.iconst 3) 1 := ⟨by decide +kernel, rfl⟩
theorem dX4_tellTheUntold_10 : q_j cX4_tellTheUntold 10 13 17 (fun o => .goto o) := ⟨7, by decide +kernel, rfl, rfl⟩
theorem dX4_tellTheUntold_13 : q_d cX4_tellTheUntold 13 14 (.aload_n 0) 1 := ⟨by decide +kernel, rfl⟩
theorem dX4_tellTheUntold_14 : q_d cX4_tellTheUntold 14 17 (.getfield 48) 3 := ⟨by decide +kernel, rfl⟩
theorem dX4_tellTheUntold_17 : q_d cX4_tellTheUntold 17 20 (.putfield 48) 3 := ⟨by decide +kernel, rfl⟩
theorem dX4_tellTheUntold_20 : q_d cX4_tellTheUntold 20 21 (.aload_n 0) 1 := ⟨by decide +kernel, rfl⟩
theorem dX4_tellTheUntold_21 : q_d cX4_tellTheUntold 21 22 (.aload_n 0) 1 := ⟨by decide +kernel, rfl⟩
theorem dX4_tellTheUntold_22 : q_d cX4_tellTheUntold 22 25 (.getfield 51) 3 := ⟨by decide +kernel, rfl⟩
theorem dX4_tellTheUntold_25 : q_d cX4_tellTheUntold 25 26 (.iconst (-1)) 1 := ⟨by decide +kernel, rfl⟩
theorem dX4_tellTheUntold_26 : q_j cX4_tellTheUntold 26 29 33 (fun o => .if_icmp .ne o) := ⟨7, by decide +kernel, rfl, rfl⟩
theorem dX4_tellTheUntold_29 : q_d cX4_tellTheUntold 29 30 (.iconst 0) 1 := ⟨by decide +kernel, rfl⟩
theorem dX4_tellTheUntold_30 : q_j cX4_tellTheUntold 30 33 37 (fun o => .goto o) := ⟨7, by decide +kernel, rfl, rfl⟩
theorem dX4_tellTheUntold_33 : q_d cX4_tellTheUntold 33 34 (.aload_n 0) 1 := ⟨by decide +kernel, rfl⟩
theorem dX4_tellTheUntold_34 : q_d cX4_tellTheUntold 34 37 (.getfield 51) 3 := ⟨by decide +kernel, rfl⟩
theorem dX4_tellTheUntold_37 : q_d cX4_tellTheUntold 37 40 (.putfield 51) 3 := ⟨by decide +kernel, rfl⟩
theorem dX4_tellTheUntold_40 : q_d cX4_tellTheUntold 40 41 (.aload_n 0) 1 := ⟨by decide +kernel, rfl⟩
theorem dX4_tellTheUntold_41 : q_d cX4_tellTheUntold 41 42 (.aload_n 0) 1 := ⟨by decide +kernel, rfl⟩
theorem dX4_tellTheUntold_42 : q_d cX4_tellTheUntold 42 45 (.getfield 54) 3 := ⟨by decide +kernel, rfl⟩
theorem dX4_tellTheUntold_45 : q_d cX4_tellTheUntold 45 46 (.iconst (-1)) 1 := ⟨by decide +kernel, rfl⟩
theorem dX4_tellTheUntold_46 : q_j cX4_tellTheUntold 46 49 60 (fun o => .if_icmp .ne o) := ⟨14, by decide +kernel, rfl, rfl⟩
theorem dX4_tellTheUntold_49 : q_d cX4_tellTheUntold 49 50 (.aload_n 0) 1 := ⟨by decide +kernel, rfl⟩
theorem dX4_tellTheUntold_50 : q_d cX4_tellTheUntold 50 53 (.getfield 44) 3 := ⟨by decide +kernel, rfl⟩
theorem dX4_tellTheUntold_53 : q_j cX4_tellTheUntold 53 56 60 (fun o => .ifCond .le o) := ⟨7, by decide +kernel, rfl, rfl⟩
theorem dX4_tellTheUntold_56 : q_d cX4_tellTheUntold 56 57 (.iconst 0) 1 := ⟨by decide +kernel, rfl⟩
theorem dX4_tellTheUntold_57 : q_j cX4_tellTheUntold 57 60 64 (fun o => .goto o) := ⟨7, by decide +kernel, rfl, rfl⟩
theorem dX4_tellTheUntold_60 : q_d cX4_tellTheUntold 60 61 (.aload_n 0) 1 := ⟨by decide +kernel, rfl⟩
theorem dX4_tellTheUntold_61 : q_d cX4_tellTheUntold 61 64 (.getfield 54) 3 := ⟨by decide +kernel, rfl⟩
theorem dX4_tellTheUntold_64 : q_d cX4_tellTheUntold 64 67 (.putfield 54) 3 := ⟨by decide +kernel, rfl⟩
theorem dX4_tellTheUntold_67 : q_d cX4_tellTheUntold 67 68 (.aload_n 0) 1 := ⟨by decide +kernel, rfl⟩
theorem dX4_tellTheUntold_68 : q_d cX4_tellTheUntold 68 71 (.getfield 57) 3 := ⟨by decide +kernel, rfl⟩
theorem dX4_tellTheUntold_71 : q_j cX4_tellTheUntold 71 74 89 (fun o => .ifCond .ne o) := ⟨18, by decide +kernel, rfl, rfl⟩
theorem dX4_tellTheUntold_74 : q_d cX4_tellTheUntold 74 75 (.aload_n 0) 1 := ⟨by decide +kernel, rfl⟩
theorem dX4_tellTheUntold_75 : q_d cX4_tellTheUntold 75 76 (.iconst 0) 1 := ⟨by decide +kernel, rfl⟩
theorem dX4_tellTheUntold_76 : q_d cX4_tellTheUntold 76 79 (.invokevirtual 63) 3 := ⟨by decide +kernel, rfl⟩
theorem dX4_tellTheUntold_79 : q_d cX4_tellTheUntold 79 80 (.aload_n 0) 1 := ⟨by decide +kernel, rfl⟩
theorem dX4_tellTheUntold_80 : q_d cX4_tellTheUntold 80 81 (.iconst 1) 1 := ⟨by decide +kernel, rfl⟩
theorem dX4_tellTheUntold_81 : q_d cX4_tellTheUntold 81 84 (.invokevirtual 63) 3 := ⟨by decide +kernel, rfl⟩
theorem dX4_tellTheUntold_84 : q_d cX4_tellTheUntold 84 85 (.aload_n 0) 1 := ⟨by decide +kernel, rfl⟩
theorem dX4_tellTheUntold_85 : q_d cX4_tellTheUntold 85 86 (.iconst 2) 1 := ⟨by decide +kernel, rfl⟩
theorem dX4_tellTheUntold_86 : q_d cX4_tellTheUntold 86 89 (.invokevirtual 63) 3 := ⟨by decide +kernel, rfl⟩
theorem dX4_tellTheUntold_89 : q_d cX4_tellTheUntold 89 90 (.iconst 0) 1 := ⟨by decide +kernel, rfl⟩
theorem dX4_tellTheUntold_90 : q_d cX4_tellTheUntold 90 91 (.istore_n 1) 1 := ⟨by decide +kernel, rfl⟩
theorem dX4_tellTheUntold_91 : q_d cX4_tellTheUntold 91 92 (.iload_n 1) 1 := ⟨by decide +kernel, rfl⟩
theorem dX4_tellTheUntold_92 : q_d cX4_tellTheUntold 92 93 (.iconst 5) 1 := ⟨by decide +kernel, rfl⟩
theorem dX4_tellTheUntold_93 : q_j cX4_tellTheUntold 93 96 128 (fun o => .if_icmp .ge o) := ⟨35, by decide +kernel, rfl, rfl⟩
theorem dX4_tellTheUntold_96 : q_d cX4_tellTheUntold 96 97 (.aload_n 0) 1 := ⟨by decide +kernel, rfl⟩
theorem dX4_tellTheUntold_97 : q_d cX4_tellTheUntold 97 100 (.getfield 17) 3 := ⟨by decide +kernel, rfl⟩
theorem dX4_tellTheUntold_100 : q_d cX4_tellTheUntold 100 101 (.iload_n 1) 1 := ⟨by decide +kernel, rfl⟩
theorem dX4_tellTheUntold_101 : q_d cX4_tellTheUntold 101 102 (.aload_n 0) 1 := ⟨by decide +kernel, rfl⟩
theorem dX4_tellTheUntold_102 : q_d cX4_tellTheUntold 102 105 (.getfield 17) 3 := ⟨by decide +kernel, rfl⟩
theorem dX4_tellTheUntold_105 : q_d cX4_tellTheUntold 105 106 (.iload_n 1) 1 := ⟨by decide +kernel, rfl⟩
theorem dX4_tellTheUntold_106 : q_d cX4_tellTheUntold 106 107 (.iaload) 1 := ⟨by decide +kernel, rfl⟩
theorem dX4_tellTheUntold_107 : q_d cX4_tellTheUntold 107 108 (.iconst (-1)) 1 := ⟨by decide +kernel, rfl⟩
theorem dX4_tellTheUntold_108 : q_j cX4_tellTheUntold 108 111 115 (fun o => .if_icmp .ne o) := ⟨7, by decide +kernel, rfl, rfl⟩
theorem dX4_tellTheUntold_111 : q_d cX4_tellTheUntold 111 112 (.iconst 0) 1 := ⟨by decide +kernel, rfl⟩
theorem dX4_tellTheUntold_112 : q_j cX4_tellTheUntold 112 115 121 (fun o => .goto o) := ⟨9, by decide +kernel, rfl, rfl⟩
theorem dX4_tellTheUntold_115 : q_d cX4_tellTheUntold 115 116 (.aload_n 0) 1 := ⟨by decide +kernel, rfl⟩
theorem dX4_tellTheUntold_116 : q_d cX4_tellTheUntold 116 119 (.getfield 17) 3 := ⟨by decide +kernel, rfl⟩
theorem dX4_tellTheUntold_119 : q_d cX4_tellTheUntold 119 120 (.iload_n 1) 1 := ⟨by decide +kernel, rfl⟩
theorem dX4_tellTheUntold_120 : q_d cX4_tellTheUntold 120 121 (.iaload) 1 := ⟨by decide +kernel, rfl⟩
theorem dX4_tellTheUntold_121 : q_d cX4_tellTheUntold 121 122 (.iastore) 1 := ⟨by decide +kernel, rfl⟩
theorem dX4_tellTheUntold_122 : q_d cX4_tellTheUntold 122 125 (.iinc 1 1) 3 := ⟨by decide +kernel, rfl⟩
theorem dX4_tellTheUntold_125 : q_j cX4_tellTheUntold 125 128 91 (fun o => .goto o) := ⟨(-34), by decide +kernel, rfl, rfl⟩
theorem dX4_tellTheUntold_128 : q_d cX4_tellTheUntold 128 129 (.return_) 1 := ⟨by decide +kernel, rfl⟩
theorem dX4_copyFrom_0 : q_d cX4_copyFrom 0 1 (.iconst 0) 1 := ⟨by decide +kernel, rfl⟩
theorem dX4_copyFrom_1 : q_d cX4_copyFrom 1 2 (.istore_n 2) 1 := ⟨by decide +kernel, rfl⟩
theorem dX4_copyFrom_2 : q_d cX4_copyFrom 2 3 (.iload_n 2) 1 := ⟨by decide +kernel, rfl⟩
theorem dX4_copyFrom_3 : q_d cX4_copyFrom 3 4 (.aload_n 1) 1 := ⟨by decide +kernel, rfl⟩
theorem dX4_copyFrom_4 : q_d cX4_copyFrom 4 7 (.getfield 44) 3 := ⟨by decide +kernel, rfl⟩
theorem dX4_copyFrom_7 : q_j cX4_copyFrom 7 10 36 (fun o => .if_icmp .ge o) := ⟨29, by decide +kernel, rfl, rfl⟩
theorem dX4_copyFrom_10 : q_d cX4_copyFrom 10 11 (.iload_n 2) 1 := ⟨by decide +kernel, rfl⟩
theorem dX4_copyFrom_11 : q_d cX4_copyFrom 11 12 (.iconst 5) 1 := ⟨by decide +kernel, rfl⟩
theorem dX4_copyFrom_12 : q_j cX4_copyFrom 12 15 36 (fun o => .if_icmp .ge o) := ⟨24, by decide +kernel, rfl, rfl⟩
theorem dX4_copyFrom_15 : q_d cX4_copyFrom 15 16 (.aload_n 0) 1 := ⟨by decide +kernel, rfl⟩
theorem dX4_copyFrom_16 : q_d cX4_copyFrom 16 19 (.getfield 11) 3 := ⟨by decide +kernel, rfl⟩
theorem dX4_copyFrom_19 : q_d cX4_copyFrom 19 20 (.iload_n 2) 1 := ⟨by decide +kernel, rfl⟩
theorem dX4_copyFrom_20 : q_d cX4_copyFrom 20 21 (.aaload) 1 := ⟨by decide +kernel, rfl⟩
theorem dX4_copyFrom_21 : q_d cX4_copyFrom 21 22 (.aload_n 1) 1 := ⟨by decide +kernel, rfl⟩
theorem dX4_copyFrom_22 : q_d cX4_copyFrom 22 25 (.getfield 11) 3 := ⟨by decide +kernel, rfl⟩
theorem dX4_copyFrom_25 : q_d cX4_copyFrom 25 26 (.iload_n 2) 1 := ⟨by decide +kernel, rfl⟩
theorem dX4_copyFrom_26 : q_d cX4_copyFrom 26 27 (.aaload) 1 := ⟨by decide +kernel, rfl⟩
theorem dX4_copyFrom_27 : q_d cX4_copyFrom 27 30 (.invokevirtual 67) 3 := ⟨by decide +kernel, rfl⟩
theorem dX4_copyFrom_30 : q_d cX4_copyFrom 30 33 (.iinc 2 1) 3 := ⟨by decide +kernel, rfl⟩
theorem dX4_copyFrom_33 : q_j cX4_copyFrom 33 36 2 (fun o => .goto o) := ⟨(-31), by decide +kernel, rfl, rfl⟩
theorem dX4_copyFrom_36 : q_d cX4_copyFrom 36 37 (.aload_n 0) 1 := ⟨by decide +kernel, rfl⟩
theorem dX4_copyFrom_37 : q_d cX4_copyFrom 37 38 (.aload_n 1) 1 := ⟨by decide +kernel, rfl⟩
theorem dX4_copyFrom_38 : q_d cX4_copyFrom 38 41 (.getfield 44) 3 := ⟨by decide +kernel, rfl⟩
theorem dX4_copyFrom_41 : q_d cX4_copyFrom 41 44 (.putfield 44) 3 := ⟨by decide +kernel, rfl⟩
theorem dX4_copyFrom_44 : q_d cX4_copyFrom 44 45 (.aload_n 0) 1 := ⟨by decide +kernel, rfl⟩
theorem dX4_copyFrom_45 : q_d cX4_copyFrom 45 46 (.aload_n 1) 1 := ⟨by decide +kernel, rfl⟩
theorem dX4_copyFrom_46 : q_d cX4_copyFrom 46 49 (.getfield 48) 3 := ⟨by decide +kernel, rfl⟩
theorem dX4_copyFrom_49 : q_d cX4_copyFrom 49 52 (.putfield 48) 3 := ⟨by decide +kernel, rfl⟩
theorem dX4_copyFrom_52 : q_d cX4_copyFrom 52 53 (.aload_n 0) 1 := ⟨by decide +kernel, rfl⟩
theorem dX4_copyFrom_53 : q_d cX4_copyFrom 53 54 (.aload_n 1) 1 := ⟨by decide +kernel, rfl⟩
theorem dX4_copyFrom_54 : q_d cX4_copyFrom 54 57 (.getfield 51) 3 := ⟨by decide +kernel, rfl⟩
theorem dX4_copyFrom_57 : q_d cX4_copyFrom 57 60 (.putfield 51) 3 := ⟨by decide +kernel, rfl⟩
theorem dX4_copyFrom_60 : q_d cX4_copyFrom 60 61 (.aload_n 0) 1 := ⟨by decide +kernel, rfl⟩
theorem dX4_copyFrom_61 : q_d cX4_copyFrom 61 62 (.aload_n 1) 1 := ⟨by decide +kernel, rfl⟩
theorem dX4_copyFrom_62 : q_d cX4_copyFrom 62 65 (.getfield 54) 3 := ⟨by decide +kernel, rfl⟩
theorem dX4_copyFrom_65 : q_d cX4_copyFrom 65 68 (.putfield 54) 3 := ⟨by decide +kernel, rfl⟩
theorem dX4_copyFrom_68 : q_d cX4_copyFrom 68 69 (.aload_n 0) 1 := ⟨by decide +kernel, rfl⟩
theorem dX4_copyFrom_69 : q_d cX4_copyFrom 69 70 (.aload_n 1) 1 := ⟨by decide +kernel, rfl⟩
theorem dX4_copyFrom_70 : q_d cX4_copyFrom 70 73 (.getfield 57) 3 := ⟨by decide +kernel, rfl⟩
theorem dX4_copyFrom_73 : q_d cX4_copyFrom 73 76 (.putfield 57) 3 := ⟨by decide +kernel, rfl⟩
theorem dX4_copyFrom_76 : q_d cX4_copyFrom 76 77 (.aload_n 0) 1 := ⟨by decide +kernel, rfl⟩
theorem dX4_copyFrom_77 : q_d cX4_copyFrom 77 78 (.aload_n 1) 1 := ⟨by decide +kernel, rfl⟩
theorem dX4_copyFrom_78 : q_d cX4_copyFrom 78 81 (.getfield 60) 3 := ⟨by decide +kernel, rfl⟩
theorem dX4_copyFrom_81 : q_d cX4_copyFrom 81 84 (.putfield 60) 3 := ⟨by decide +kernel, rfl⟩
theorem dX4_copyFrom_84 : q_d cX4_copyFrom 84 85 (.aload_n 1) 1 := ⟨by decide +kernel, rfl⟩
theorem dX4_copyFrom_85 : q_d cX4_copyFrom 85 88 (.getfield 17) 3 := ⟨by decide +kernel, rfl⟩
theorem dX4_copyFrom_88 : q_d cX4_copyFrom 88 89 (.iconst 0) 1 := ⟨by decide +kernel, rfl⟩
theorem dX4_copyFrom_89 : q_d cX4_copyFrom 89 90 (.aload_n 0) 1 := ⟨by decide +kernel, rfl⟩
theorem dX4_copyFrom_90 : q_d cX4_copyFrom 90 93 (.getfield 17) 3 := ⟨by decide +kernel, rfl⟩
theorem dX4_copyFrom_93 : q_d cX4_copyFrom 93 94 (.iconst 0) 1 := ⟨by decide +kernel, rfl⟩
theorem dX4_copyFrom_94 : q_d cX4_copyFrom 94 95 (.iconst 5) 1 := ⟨by decide +kernel, rfl⟩
theorem dX4_copyFrom_95 : q_d cX4_copyFrom 95 98 (.invokestatic 71) 3 := ⟨by decide +kernel, rfl⟩
theorem dX4_copyFrom_98 : q_d cX4_copyFrom 98 99 (.aload_n 1) 1 := ⟨by decide +kernel, rfl⟩
theorem dX4_copyFrom_99 : q_d cX4_copyFrom 99 102 (.getfield 21) 3 := ⟨by decide +kernel, rfl⟩
theorem dX4_copyFrom_102 : q_d cX4_copyFrom 102 103 (.iconst 0) 1 := ⟨by decide +kernel, rfl⟩
theorem dX4_copyFrom_103 : q_d cX4_copyFrom 103 104 (.aload_n 0) 1 := ⟨by decide +kernel, rfl⟩
theorem dX4_copyFrom_104 : q_d cX4_copyFrom 104 107 (.getfield 21) 3 := ⟨by decide +kernel, rfl⟩
theorem dX4_copyFrom_107 : q_d cX4_copyFrom 107 108 (.iconst 0) 1 := ⟨by decide +kernel, rfl⟩
theorem dX4_copyFrom_108 : q_d cX4_copyFrom 108 109 (.iconst 3) 1 := ⟨by decide +kernel, rfl⟩
theorem dX4_copyFrom_109 : q_d cX4_copyFrom 109 112 (.invokestatic 71) 3 := ⟨by decide +kernel, rfl⟩
theorem dX4_copyFrom_112 : q_d cX4_copyFrom 112 113 (.aload_n 1) 1 := ⟨by decide +kernel, rfl⟩
theorem dX4_copyFrom_113 : q_d cX4_copyFrom 113 116 (.getfield 24) 3 := ⟨by decide +kernel, rfl⟩
theorem dX4_copyFrom_116 : q_d cX4_copyFrom 116 117 (.iconst 0) 1 := ⟨by decide +kernel, rfl⟩
theorem dX4_copyFrom_117 : q_d cX4_copyFrom 117 118 (.aload_n 0) 1 := ⟨by decide +kernel, rfl⟩
theorem dX4_copyFrom_118 : q_d cX4_copyFrom 118 121 (.getfield 24) 3 := ⟨by decide +kernel, rfl⟩
theorem dX4_copyFrom_121 : q_d cX4_copyFrom 121 122 (.iconst 0) 1 := ⟨by decide +kernel, rfl⟩
theorem dX4_copyFrom_122 : q_d cX4_copyFrom 122 123 (.aload_n 0) 1 := ⟨by decide +kernel, rfl⟩
theorem dX4_copyFrom_123 : q_d cX4_copyFrom 123 126 (.getfield 24) 3 := ⟨by decide +kernel, rfl⟩
theorem dX4_copyFrom_126 : q_d cX4_copyFrom 126 127 (.arraylength) 1 := ⟨by decide +kernel, rfl⟩
theorem dX4_copyFrom_127 : q_d cX4_copyFrom 127 130 (.invokestatic 71) 3 := ⟨by decide +kernel, rfl⟩
theorem dX4_copyFrom_130 : q_d cX4_copyFrom 130 131 (.aload_n 1) 1 := ⟨by decide +kernel, rfl⟩
theorem dX4_copyFrom_131 : q_d cX4_copyFrom 131 134 (.getfield 27) 3 := ⟨by decide +kernel, rfl⟩
theorem dX4_copyFrom_134 : q_d cX4_copyFrom 134 135 (.iconst 0) 1 := ⟨by decide +kernel, rfl⟩
theorem dX4_copyFrom_135 : q_d cX4_copyFrom 135 136 (.aload_n 0) 1 := ⟨by decide +kernel, rfl⟩
theorem dX4_copyFrom_136 : q_d cX4_copyFrom 136 139 (.getfield 27) 3 := ⟨by decide +kernel, rfl⟩
theorem dX4_copyFrom_139 : q_d cX4_copyFrom 139 140 (.iconst 0) 1 := ⟨by decide +kernel, rfl⟩
theorem dX4_copyFrom_140 : q_d cX4_copyFrom 140 141 (.aload_n 0) 1 := ⟨by decide +kernel, rfl⟩
theorem dX4_copyFrom_141 : q_d cX4_copyFrom 141 144 (.getfield 27) 3 := ⟨by decide +kernel, rfl⟩
theorem dX4_copyFrom_144 : q_d cX4_copyFrom 144 145 (.arraylength) 1 := ⟨by decide +kernel, rfl⟩
theorem dX4_copyFrom_145 : q_d cX4_copyFrom 145 148 (.invokestatic 71) 3 := ⟨by decide +kernel, rfl⟩
theorem dX4_copyFrom_148 : q_d cX4_copyFrom 148 149 (.aload_n 1) 1 := ⟨by decide +kernel, rfl⟩
theorem dX4_copyFrom_149 : q_d cX4_copyFrom 149 152 (.getfield 30) 3 := ⟨by decide +kernel, rfl⟩
theorem dX4_copyFrom_152 : q_d cX4_copyFrom 152 153 (.iconst 0) 1 := ⟨by decide +kernel, rfl⟩
theorem dX4_copyFrom_153 : q_d cX4_copyFrom 153 154 (.aload_n 0) 1 := ⟨by decide +kernel, rfl⟩
theorem dX4_copyFrom_154 : q_d cX4_copyFrom 154 157 (.getfield 30) 3 := ⟨by decide +kernel, rfl⟩
theorem dX4_copyFrom_157 : q_d cX4_copyFrom 157 158 (.iconst 0) 1 := ⟨by decide +kernel, rfl⟩
theorem dX4_copyFrom_158 : q_d cX4_copyFrom 158 159 (.aload_n 0) 1 := ⟨by decide +kernel, rfl⟩
theorem dX4_copyFrom_159 : q_d cX4_copyFrom 159 162 (.getfield 60) 3 := ⟨by decide +kernel, rfl⟩
theorem dX4_copyFrom_162 : q_d cX4_copyFrom 162 165 (.sipush 600) 3 := ⟨by decide +kernel, rfl⟩
theorem dX4_copyFrom_165 : q_d cX4_copyFrom 165 168 (.invokestatic 77) 3 := ⟨by decide +kernel, rfl⟩
theorem dX4_copyFrom_168 : q_d cX4_copyFrom 168 171 (.invokestatic 71) 3 := ⟨by decide +kernel, rfl⟩
theorem dX4_copyFrom_171 : q_d cX4_copyFrom 171 172 (.return_) 1 := ⟨by decide +kernel, rfl⟩
theorem dX4_isLand_0 : q_d cX4_isLand 0 1 (.iload_n 1) 1 := ⟨by decide +kernel, rfl⟩
theorem dX4_isLand_1 : q_j cX4_isLand 1 4 21 (fun o => .ifCond .lt o) := ⟨20, by decide +kernel, rfl, rfl⟩
theorem dX4_isLand_4 : q_d cX4_isLand 4 5 (.iload_n 1) 1 := ⟨by decide +kernel, rfl⟩
theorem dX4_isLand_5 : q_d cX4_isLand 5 6 (.aload_n 0) 1 := ⟨by decide +kernel, rfl⟩
theorem dX4_isLand_6 : q_d cX4_isLand 6 9 (.getfield 44) 3 := ⟨by decide +kernel, rfl⟩
theorem dX4_isLand_9 : q_j cX4_isLand 9 12 21 (fun o => .if_icmp .ge o) := ⟨12, by decide +kernel, rfl, rfl⟩
theorem dX4_isLand_12 : q_d cX4_isLand 12 13 (.iload_n 1) 1 := ⟨by decide +kernel, rfl⟩
theorem dX4_isLand_13 : q_d cX4_isLand 13 14 (.iconst 5) 1 := ⟨by decide +kernel, rfl⟩
theorem dX4_isLand_14 : q_j cX4_isLand 14 17 21 (fun o => .if_icmp .ge o) := ⟨7, by decide +kernel, rfl, rfl⟩
theorem dX4_isLand_17 : q_d cX4_isLand 17 18 (.iconst 1) 1 := ⟨by decide +kernel, rfl⟩
theorem dX4_isLand_18 : q_j cX4_isLand 18 21 22 (fun o => .goto o) := ⟨4, by decide +kernel, rfl, rfl⟩
theorem dX4_isLand_21 : q_d cX4_isLand 21 22 (.iconst 0) 1 := ⟨by decide +kernel, rfl⟩
theorem dX4_isLand_22 : q_d cX4_isLand 22 23 (.ireturn) 1 := ⟨by decide +kernel, rfl⟩
theorem dX4_isLandOrNone_0 : q_d cX4_isLandOrNone 0 1 (.iload_n 1) 1 := ⟨by decide +kernel, rfl⟩
theorem dX4_isLandOrNone_1 : q_d cX4_isLandOrNone 1 2 (.iconst (-1)) 1 := ⟨by decide +kernel, rfl⟩
theorem dX4_isLandOrNone_2 : q_j cX4_isLandOrNone 2 5 13 (fun o => .if_icmp .eq o) := ⟨11, by decide +kernel, rfl, rfl⟩
theorem dX4_isLandOrNone_5 : q_d cX4_isLandOrNone 5 6 (.aload_n 0) 1 := ⟨by decide +kernel, rfl⟩
theorem dX4_isLandOrNone_6 : q_d cX4_isLandOrNone 6 7 (.iload_n 1) 1 := ⟨by decide +kernel, rfl⟩
theorem dX4_isLandOrNone_7 : q_d cX4_isLandOrNone 7 10 (.invokevirtual 83) 3 := ⟨by decide +kernel, rfl⟩
theorem dX4_isLandOrNone_10 : q_j cX4_isLandOrNone 10 13 17 (fun o => .ifCond .eq o) := ⟨7, by decide +kernel, rfl, rfl⟩
theorem dX4_isLandOrNone_13 : q_d cX4_isLandOrNone 13 14 (.iconst 1) 1 := ⟨by decide +kernel, rfl⟩
theorem dX4_isLandOrNone_14 : q_j cX4_isLandOrNone 14 17 18 (fun o => .goto o) := ⟨4, by decide +kernel, rfl, rfl⟩
theorem dX4_isLandOrNone_17 : q_d cX4_isLandOrNone 17 18 (.iconst 0) 1 := ⟨by decide +kernel, rfl⟩
theorem dX4_isLandOrNone_18 : q_d cX4_isLandOrNone 18 19 (.ireturn) 1 := ⟨by decide +kernel, rfl⟩
theorem dX4_landCalled_0 : q_d cX4_landCalled 0 1 (.iconst 0) 1 := ⟨by decide +kernel, rfl⟩
theorem dX4_landCalled_1 : q_d cX4_landCalled 1 3 (.istore 4) 2 := ⟨by decide +kernel, rfl⟩
theorem dX4_landCalled_3 : q_d cX4_landCalled 3 5 (.iload 4) 2 := ⟨by decide +kernel, rfl⟩
theorem dX4_landCalled_5 : q_d cX4_landCalled 5 6 (.aload_n 0) 1 := ⟨by decide +kernel, rfl⟩
theorem dX4_landCalled_6 : q_d cX4_landCalled 6 9 (.getfield 44) 3 := ⟨by decide +kernel, rfl⟩
theorem dX4_landCalled_9 : q_j cX4_landCalled 9 12 43 (fun o => .if_icmp .ge o) := ⟨34, by decide +kernel, rfl, rfl⟩
theorem dX4_landCalled_12 : q_d cX4_landCalled 12 14 (.iload 4) 2 := ⟨by decide +kernel, rfl⟩
theorem dX4_landCalled_14 : q_d cX4_landCalled 14 15 (.iconst 5) 1 := ⟨by decide +kernel, rfl⟩
theorem dX4_landCalled_15 : q_j cX4_landCalled 15 18 43 (fun o => .if_icmp .ge o) := ⟨28, by decide +kernel, rfl, rfl⟩
theorem dX4_landCalled_18 : q_d cX4_landCalled 18 19 (.aload_n 0) 1 := ⟨by decide +kernel, rfl⟩
theorem dX4_landCalled_19 : q_d cX4_landCalled 19 22 (.getfield 11) 3 := ⟨by decide +kernel, rfl⟩
theorem dX4_landCalled_22 : q_d cX4_landCalled 22 24 (.iload 4) 2 := ⟨by decide +kernel, rfl⟩
theorem dX4_landCalled_24 : q_d cX4_landCalled 24 25 (.aaload) 1 := ⟨by decide +kernel, rfl⟩
theorem dX4_landCalled_25 : q_d cX4_landCalled 25 26 (.aload_n 1) 1 := ⟨by decide +kernel, rfl⟩
theorem dX4_landCalled_26 : q_d cX4_landCalled 26 27 (.iload_n 2) 1 := ⟨by decide +kernel, rfl⟩
theorem dX4_landCalled_27 : q_d cX4_landCalled 27 28 (.iload_n 3) 1 := ⟨by decide +kernel, rfl⟩
theorem dX4_landCalled_28 : q_d cX4_landCalled 28 31 (.invokevirtual 87) 3 := ⟨by decide +kernel, rfl⟩
theorem dX4_landCalled_31 : q_j cX4_landCalled 31 34 37 (fun o => .ifCond .eq o) := ⟨6, by decide +kernel, rfl, rfl⟩
theorem dX4_landCalled_34 : q_d cX4_landCalled 34 36 (.iload 4) 2 := ⟨by decide +kernel, rfl⟩
theorem dX4_landCalled_36 : q_d cX4_landCalled 36 37 (.ireturn) 1 := ⟨by decide +kernel, rfl⟩
theorem dX4_landCalled_37 : q_d cX4_landCalled 37 40 (.iinc 4 1) 3 := ⟨by decide +kernel, rfl⟩
theorem dX4_landCalled_40 : q_j cX4_landCalled 40 43 3 (fun o => .goto o) := ⟨(-37), by decide +kernel, rfl, rfl⟩
theorem dX4_landCalled_43 : q_d cX4_landCalled 43 44 (.iconst (-1)) 1 := ⟨by decide +kernel, rfl⟩
theorem dX4_landCalled_44 : q_d cX4_landCalled 44 45 (.ireturn) 1 := ⟨by decide +kernel, rfl⟩
theorem dX4_isInOrder_0 : q_d cX4_isInOrder 0 1 (.iconst 0) 1 := ⟨by decide +kernel, rfl⟩
theorem dX4_isInOrder_1 : q_d cX4_isInOrder 1 2 (.istore_n 2) 1 := ⟨by decide +kernel, rfl⟩
theorem dX4_isInOrder_2 : q_d cX4_isInOrder 2 3 (.iload_n 2) 1 := ⟨by decide +kernel, rfl⟩
theorem dX4_isInOrder_3 : q_d cX4_isInOrder 3 4 (.aload_n 0) 1 := ⟨by decide +kernel, rfl⟩
theorem dX4_isInOrder_4 : q_d cX4_isInOrder 4 7 (.getfield 57) 3 := ⟨by decide +kernel, rfl⟩
theorem dX4_isInOrder_7 : q_j cX4_isInOrder 7 10 33 (fun o => .if_icmp .ge o) := ⟨26, by decide +kernel, rfl, rfl⟩
theorem dX4_isInOrder_10 : q_d cX4_isInOrder 10 11 (.iload_n 2) 1 := ⟨by decide +kernel, rfl⟩
theorem dX4_isInOrder_11 : q_d cX4_isInOrder 11 12 (.iconst 3) 1 := ⟨by decide +kernel, rfl⟩
theorem dX4_isInOrder_12 : q_j cX4_isInOrder 12 15 33 (fun o => .if_icmp .ge o) := ⟨21, by decide +kernel, rfl, rfl⟩
theorem dX4_isInOrder_15 : q_d cX4_isInOrder 15 16 (.aload_n 0) 1 := ⟨by decide +kernel, rfl⟩
theorem dX4_isInOrder_16 : q_d cX4_isInOrder 16 19 (.getfield 21) 3 := ⟨by decide +kernel, rfl⟩
theorem dX4_isInOrder_19 : q_d cX4_isInOrder 19 20 (.iload_n 2) 1 := ⟨by decide +kernel, rfl⟩
theorem dX4_isInOrder_20 : q_d cX4_isInOrder 20 21 (.iaload) 1 := ⟨by decide +kernel, rfl⟩
theorem dX4_isInOrder_21 : q_d cX4_isInOrder 21 22 (.iload_n 1) 1 := ⟨by decide +kernel, rfl⟩
theorem dX4_isInOrder_22 : q_j cX4_isInOrder 22 25 27 (fun o => .if_icmp .ne o) := ⟨5, by decide +kernel, rfl, rfl⟩
theorem dX4_isInOrder_25 : q_d cX4_isInOrder 25 26 (.iconst 1) 1 := ⟨by decide +kernel, rfl⟩
theorem dX4_isInOrder_26 : q_d cX4_isInOrder 26 27 (.ireturn) 1 := ⟨by decide +kernel, rfl⟩
theorem dX4_isInOrder_27 : q_d cX4_isInOrder 27 30 (.iinc 2 1) 3 := ⟨by decide +kernel, rfl⟩
theorem dX4_isInOrder_30 : q_j cX4_isInOrder 30 33 2 (fun o => .goto o) := ⟨(-28), by decide +kernel, rfl, rfl⟩
theorem dX4_isInOrder_33 : q_d cX4_isInOrder 33 34 (.iconst 0) 1 := ⟨by decide +kernel, rfl⟩
theorem dX4_isInOrder_34 : q_d cX4_isInOrder 34 35 (.ireturn) 1 := ⟨by decide +kernel, rfl⟩
theorem dX4_addToOrder_0 : q_d cX4_addToOrder 0 1 (.aload_n 0) 1 := ⟨by decide +kernel, rfl⟩
theorem dX4_addToOrder_1 : q_d cX4_addToOrder 1 4 (.getfield 57) 3 := ⟨by decide +kernel, rfl⟩
theorem dX4_addToOrder_4 : q_d cX4_addToOrder 4 5 (.iconst 3) 1 := ⟨by decide +kernel, rfl⟩
theorem dX4_addToOrder_5 : q_j cX4_addToOrder 5 8 28 (fun o => .if_icmp .ge o) := ⟨23, by decide +kernel, rfl, rfl⟩
theorem dX4_addToOrder_8 : q_d cX4_addToOrder 8 9 (.aload_n 0) 1 := ⟨by decide +kernel, rfl⟩
theorem dX4_addToOrder_9 : q_d cX4_addToOrder 9 12 (.getfield 21) 3 := ⟨by decide +kernel, rfl⟩
theorem dX4_addToOrder_12 : q_d cX4_addToOrder 12 13 (.aload_n 0) 1 := ⟨by decide +kernel, rfl⟩
theorem dX4_addToOrder_13 : q_d cX4_addToOrder 13 16 (.getfield 57) 3 := ⟨by decide +kernel, rfl⟩
theorem dX4_addToOrder_16 : q_d cX4_addToOrder 16 17 (.iload_n 1) 1 := ⟨by decide +kernel, rfl⟩
theorem dX4_addToOrder_17 : q_d cX4_addToOrder 17 18 (.iastore) 1 := ⟨by decide +kernel, rfl⟩
theorem dX4_addToOrder_18 : q_d cX4_addToOrder 18 19 (.aload_n 0) 1 := ⟨by decide +kernel, rfl⟩
theorem dX4_addToOrder_19 : q_d cX4_addToOrder 19 20 (.dup) 1 := ⟨by decide +kernel, rfl⟩
theorem dX4_addToOrder_20 : q_d cX4_addToOrder 20 23 (.getfield 57) 3 := ⟨by decide +kernel, rfl⟩
theorem dX4_addToOrder_23 : q_d cX4_addToOrder 23 24 (.iconst 1) 1 := ⟨by decide +kernel, rfl⟩
theorem dX4_addToOrder_24 : q_d cX4_addToOrder 24 25 (.iadd) 1 := ⟨by decide +kernel, rfl⟩
theorem dX4_addToOrder_25 : q_d cX4_addToOrder 25 28 (.putfield 57) 3 := ⟨by decide +kernel, rfl⟩
theorem dX4_addToOrder_28 : q_d cX4_addToOrder 28 29 (.return_) 1 := ⟨by decide +kernel, rfl⟩
theorem dX4_addCode_0 : q_d cX4_addCode 0 1 (.aload_n 0) 1 := ⟨by decide +kernel, rfl⟩
theorem dX4_addCode_1 : q_d cX4_addCode 1 4 (.getfield 60) 3 := ⟨by decide +kernel, rfl⟩
theorem dX4_addCode_4 : q_d cX4_addCode 4 7 (.sipush 600) 3 := ⟨by decide +kernel, rfl⟩
theorem dX4_addCode_7 : q_j cX4_addCode 7 10 30 (fun o => .if_icmp .ge o) := ⟨23, by decide +kernel, rfl, rfl⟩
theorem dX4_addCode_10 : q_d cX4_addCode 10 11 (.aload_n 0) 1 := ⟨by decide +kernel, rfl⟩
theorem dX4_addCode_11 : q_d cX4_addCode 11 14 (.getfield 30) 3 := ⟨by decide +kernel, rfl⟩
theorem dX4_addCode_14 : q_d cX4_addCode 14 15 (.aload_n 0) 1 := ⟨by decide +kernel, rfl⟩
theorem dX4_addCode_15 : q_d cX4_addCode 15 18 (.getfield 60) 3 := ⟨by decide +kernel, rfl⟩
theorem dX4_addCode_18 : q_d cX4_addCode 18 19 (.iload_n 1) 1 := ⟨by decide +kernel, rfl⟩
theorem dX4_addCode_19 : q_d cX4_addCode 19 20 (.iastore) 1 := ⟨by decide +kernel, rfl⟩
theorem dX4_addCode_20 : q_d cX4_addCode 20 21 (.aload_n 0) 1 := ⟨by decide +kernel, rfl⟩
theorem dX4_addCode_21 : q_d cX4_addCode 21 22 (.dup) 1 := ⟨by decide +kernel, rfl⟩
theorem dX4_addCode_22 : q_d cX4_addCode 22 25 (.getfield 60) 3 := ⟨by decide +kernel, rfl⟩
theorem dX4_addCode_25 : q_d cX4_addCode 25 26 (.iconst 1) 1 := ⟨by decide +kernel, rfl⟩
theorem dX4_addCode_26 : q_d cX4_addCode 26 27 (.iadd) 1 := ⟨by decide +kernel, rfl⟩
theorem dX4_addCode_27 : q_d cX4_addCode 27 30 (.putfield 60) 3 := ⟨by decide +kernel, rfl⟩
theorem dX4_addCode_30 : q_d cX4_addCode 30 31 (.return_) 1 := ⟨by decide +kernel, rfl⟩
theorem dX4_addSign_0 : q_d cX4_addSign 0 1 (.iload_n 1) 1 := ⟨by decide +kernel, rfl⟩
theorem dX4_addSign_1 : q_j cX4_addSign 1 4 9 (fun o => .ifCond .eq o) := ⟨8, by decide +kernel, rfl, rfl⟩
theorem dX4_addSign_4 : q_d cX4_addSign 4 5 (.aload_n 0) 1 := ⟨by decide +kernel, rfl⟩
theorem dX4_addSign_5 : q_d cX4_addSign 5 6 (.iload_n 1) 1 := ⟨by decide +kernel, rfl⟩
theorem dX4_addSign_6 : q_d cX4_addSign 6 9 (.invokevirtual 91) 3 := ⟨by decide +kernel, rfl⟩
theorem dX4_addSign_9 : q_d cX4_addSign 9 10 (.return_) 1 := ⟨by decide +kernel, rfl⟩
theorem dX4_addLaw_0 : q_d cX4_addLaw 0 1 (.aload_n 0) 1 := ⟨by decide +kernel, rfl⟩
theorem dX4_addLaw_1 : q_d cX4_addLaw 1 2 (.iload_n 2) 1 := ⟨by decide +kernel, rfl⟩
theorem dX4_addLaw_2 : q_d cX4_addLaw 2 5 (.invokevirtual 83) 3 := ⟨by decide +kernel, rfl⟩
theorem dX4_addLaw_5 : q_j cX4_addLaw 5 8 42 (fun o => .ifCond .eq o) := ⟨37, by decide +kernel, rfl, rfl⟩
theorem dX4_addLaw_8 : q_d cX4_addLaw 8 9 (.iload_n 1) 1 := ⟨by decide +kernel, rfl⟩
theorem dX4_addLaw_9 : q_j cX4_addLaw 9 12 42 (fun o => .ifCond .lt o) := ⟨33, by decide +kernel, rfl, rfl⟩
theorem dX4_addLaw_12 : q_d cX4_addLaw 12 13 (.iload_n 1) 1 := ⟨by decide +kernel, rfl⟩
theorem dX4_addLaw_13 : q_d cX4_addLaw 13 14 (.iconst 5) 1 := ⟨by decide +kernel, rfl⟩
theorem dX4_addLaw_14 : q_j cX4_addLaw 14 17 42 (fun o => .if_icmp .ge o) := ⟨28, by decide +kernel, rfl, rfl⟩
theorem dX4_addLaw_17 : q_d cX4_addLaw 17 18 (.aload_n 0) 1 := ⟨by decide +kernel, rfl⟩
theorem dX4_addLaw_18 : q_d cX4_addLaw 18 21 (.getfield 24) 3 := ⟨by decide +kernel, rfl⟩
theorem dX4_addLaw_21 : q_d cX4_addLaw 21 22 (.iload_n 1) 1 := ⟨by decide +kernel, rfl⟩
theorem dX4_addLaw_22 : q_d cX4_addLaw 22 23 (.iconst 5) 1 := ⟨by decide +kernel, rfl⟩
theorem dX4_addLaw_23 : q_d cX4_addLaw 23 24 (.imul) 1 := ⟨by decide +kernel, rfl⟩
theorem dX4_addLaw_24 : q_d cX4_addLaw 24 25 (.iload_n 2) 1 := ⟨by decide +kernel, rfl⟩
theorem dX4_addLaw_25 : q_d cX4_addLaw 25 26 (.iadd) 1 := ⟨by decide +kernel, rfl⟩
theorem dX4_addLaw_26 : q_d cX4_addLaw 26 27 (.iload_n 3) 1 := ⟨by decide +kernel, rfl⟩
theorem dX4_addLaw_27 : q_d cX4_addLaw 27 28 (.iastore) 1 := ⟨by decide +kernel, rfl⟩
theorem dX4_addLaw_28 : q_d cX4_addLaw 28 29 (.aload_n 0) 1 := ⟨by decide +kernel, rfl⟩
theorem dX4_addLaw_29 : q_d cX4_addLaw 29 32 (.getfield 27) 3 := ⟨by decide +kernel, rfl⟩
theorem dX4_addLaw_32 : q_d cX4_addLaw 32 33 (.iload_n 1) 1 := ⟨by decide +kernel, rfl⟩
theorem dX4_addLaw_33 : q_d cX4_addLaw 33 34 (.iconst 5) 1 := ⟨by decide +kernel, rfl⟩
theorem dX4_addLaw_34 : q_d cX4_addLaw 34 35 (.imul) 1 := ⟨by decide +kernel, rfl⟩
theorem dX4_addLaw_35 : q_d cX4_addLaw 35 36 (.iload_n 2) 1 := ⟨by decide +kernel, rfl⟩
theorem dX4_addLaw_36 : q_d cX4_addLaw 36 37 (.iadd) 1 := ⟨by decide +kernel, rfl⟩
theorem dX4_addLaw_37 : q_d cX4_addLaw 37 38 (.aload_n 0) 1 := ⟨by decide +kernel, rfl⟩
theorem dX4_addLaw_38 : q_d cX4_addLaw 38 41 (.getfield 60) 3 := ⟨by decide +kernel, rfl⟩
theorem dX4_addLaw_41 : q_d cX4_addLaw 41 42 (.iastore) 1 := ⟨by decide +kernel, rfl⟩
theorem dX4_addLaw_42 : q_d cX4_addLaw 42 43 (.return_) 1 := ⟨by decide +kernel, rfl⟩
theorem dX4_takes_0 : q_d cX4_takes 0 1 (.aload_n 0) 1 := ⟨by decide +kernel, rfl⟩
theorem dX4_takes_1 : q_d cX4_takes 1 2 (.iload_n 2) 1 := ⟨by decide +kernel, rfl⟩
theorem dX4_takes_2 : q_d cX4_takes 2 5 (.invokevirtual 83) 3 := ⟨by decide +kernel, rfl⟩
theorem dX4_takes_5 : q_j cX4_takes 5 8 35 (fun o => .ifCond .eq o) := ⟨30, by decide +kernel, rfl, rfl⟩
theorem dX4_takes_8 : q_d cX4_takes 8 9 (.iload_n 1) 1 := ⟨by decide +kernel, rfl⟩
theorem dX4_takes_9 : q_j cX4_takes 9 12 35 (fun o => .ifCond .lt o) := ⟨26, by decide +kernel, rfl, rfl⟩
theorem dX4_takes_12 : q_d cX4_takes 12 13 (.iload_n 1) 1 := ⟨by decide +kernel, rfl⟩
theorem dX4_takes_13 : q_d cX4_takes 13 14 (.iconst 5) 1 := ⟨by decide +kernel, rfl⟩
theorem dX4_takes_14 : q_j cX4_takes 14 17 35 (fun o => .if_icmp .ge o) := ⟨21, by decide +kernel, rfl, rfl⟩
theorem dX4_takes_17 : q_d cX4_takes 17 18 (.aload_n 0) 1 := ⟨by decide +kernel, rfl⟩
theorem dX4_takes_18 : q_d cX4_takes 18 21 (.getfield 24) 3 := ⟨by decide +kernel, rfl⟩
theorem dX4_takes_21 : q_d cX4_takes 21 22 (.iload_n 1) 1 := ⟨by decide +kernel, rfl⟩
theorem dX4_takes_22 : q_d cX4_takes 22 23 (.iconst 5) 1 := ⟨by decide +kernel, rfl⟩
theorem dX4_takes_23 : q_d cX4_takes 23 24 (.imul) 1 := ⟨by decide +kernel, rfl⟩
theorem dX4_takes_24 : q_d cX4_takes 24 25 (.iload_n 2) 1 := ⟨by decide +kernel, rfl⟩
theorem dX4_takes_25 : q_d cX4_takes 25 26 (.iadd) 1 := ⟨by decide +kernel, rfl⟩
theorem dX4_takes_26 : q_d cX4_takes 26 27 (.iaload) 1 := ⟨by decide +kernel, rfl⟩
theorem dX4_takes_27 : q_d cX4_takes 27 28 (.iconst (-1)) 1 := ⟨by decide +kernel, rfl⟩
theorem dX4_takes_28 : q_j cX4_takes 28 31 35 (fun o => .if_icmp .eq o) := ⟨7, by decide +kernel, rfl, rfl⟩
theorem dX4_takes_31 : q_d cX4_takes 31 32 (.iconst 1) 1 := ⟨by decide +kernel, rfl⟩
theorem dX4_takes_32 : q_j cX4_takes 32 35 36 (fun o => .goto o) := ⟨4, by decide +kernel, rfl, rfl⟩
theorem dX4_takes_35 : q_d cX4_takes 35 36 (.iconst 0) 1 := ⟨by decide +kernel, rfl⟩
theorem dX4_takes_36 : q_d cX4_takes 36 37 (.ireturn) 1 := ⟨by decide +kernel, rfl⟩
theorem dX4_rateOf_0 : q_d cX4_rateOf 0 1 (.iload_n 1) 1 := ⟨by decide +kernel, rfl⟩
theorem dX4_rateOf_1 : q_j cX4_rateOf 1 4 18 (fun o => .ifCond .lt o) := ⟨17, by decide +kernel, rfl, rfl⟩
theorem dX4_rateOf_4 : q_d cX4_rateOf 4 5 (.iload_n 1) 1 := ⟨by decide +kernel, rfl⟩
theorem dX4_rateOf_5 : q_d cX4_rateOf 5 6 (.iconst 5) 1 := ⟨by decide +kernel, rfl⟩
theorem dX4_rateOf_6 : q_j cX4_rateOf 6 9 18 (fun o => .if_icmp .ge o) := ⟨12, by decide +kernel, rfl, rfl⟩
theorem dX4_rateOf_9 : q_d cX4_rateOf 9 10 (.aload_n 0) 1 := ⟨by decide +kernel, rfl⟩
theorem dX4_rateOf_10 : q_d cX4_rateOf 10 13 (.getfield 17) 3 := ⟨by decide +kernel, rfl⟩
theorem dX4_rateOf_13 : q_d cX4_rateOf 13 14 (.iload_n 1) 1 := ⟨by decide +kernel, rfl⟩
theorem dX4_rateOf_14 : q_d cX4_rateOf 14 15 (.iaload) 1 := ⟨by decide +kernel, rfl⟩
theorem dX4_rateOf_15 : q_j cX4_rateOf 15 18 19 (fun o => .goto o) := ⟨4, by decide +kernel, rfl, rfl⟩
theorem dX4_rateOf_18 : q_d cX4_rateOf 18 19 (.iconst 0) 1 := ⟨by decide +kernel, rfl⟩
theorem dX4_rateOf_19 : q_d cX4_rateOf 19 20 (.ireturn) 1 := ⟨by decide +kernel, rfl⟩
theorem dX4_kindsOf_0 : q_d cX4_kindsOf 0 1 (.iconst 0) 1 := ⟨by decide +kernel, rfl⟩
theorem dX4_kindsOf_1 : q_d cX4_kindsOf 1 2 (.istore_n 2) 1 := ⟨by decide +kernel, rfl⟩
theorem dX4_kindsOf_2 : q_d cX4_kindsOf 2 3 (.iconst 0) 1 := ⟨by decide +kernel, rfl⟩
theorem dX4_kindsOf_3 : q_d cX4_kindsOf 3 4 (.istore_n 3) 1 := ⟨by decide +kernel, rfl⟩
theorem dX4_kindsOf_4 : q_d cX4_kindsOf 4 5 (.iload_n 3) 1 := ⟨by decide +kernel, rfl⟩
theorem dX4_kindsOf_5 : q_d cX4_kindsOf 5 6 (.iconst 5) 1 := ⟨by decide +kernel, rfl⟩
theorem dX4_kindsOf_6 : q_j cX4_kindsOf 6 9 30 (fun o => .if_icmp .ge o) := ⟨24, by decide +kernel, rfl, rfl⟩
theorem dX4_kindsOf_9 : q_d cX4_kindsOf 9 10 (.aload_n 0) 1 := ⟨by decide +kernel, rfl⟩
theorem dX4_kindsOf_10 : q_d cX4_kindsOf 10 11 (.iload_n 3) 1 := ⟨by decide +kernel, rfl⟩
theorem dX4_kindsOf_11 : q_d cX4_kindsOf 11 12 (.iload_n 1) 1 := ⟨by decide +kernel, rfl⟩
theorem dX4_kindsOf_12 : q_d cX4_kindsOf 12 15 (.invokevirtual 94) 3 := ⟨by decide +kernel, rfl⟩
theorem dX4_kindsOf_15 : q_j cX4_kindsOf 15 18 24 (fun o => .ifCond .eq o) := ⟨9, by decide +kernel, rfl, rfl⟩
theorem dX4_kindsOf_18 : q_d cX4_kindsOf 18 19 (.iload_n 2) 1 := ⟨by decide +kernel, rfl⟩
theorem dX4_kindsOf_19 : q_d cX4_kindsOf 19 20 (.iconst 1) 1 := ⟨by decide +kernel, rfl⟩
theorem dX4_kindsOf_20 : q_d cX4_kindsOf 20 21 (.iload_n 3) 1 := ⟨by decide +kernel, rfl⟩
theorem dX4_kindsOf_21 : q_d cX4_kindsOf 21 22 (.ishl) 1 := ⟨by decide +kernel, rfl⟩
theorem dX4_kindsOf_22 : q_d cX4_kindsOf 22 23 (.ior) 1 := ⟨by decide +kernel, rfl⟩
theorem dX4_kindsOf_23 : q_d cX4_kindsOf 23 24 (.istore_n 2) 1 := ⟨by decide +kernel, rfl⟩
theorem dX4_kindsOf_24 : q_d cX4_kindsOf 24 27 (.iinc 3 1) 3 := ⟨by decide +kernel, rfl⟩
theorem dX4_kindsOf_27 : q_j cX4_kindsOf 27 30 4 (fun o => .goto o) := ⟨(-23), by decide +kernel, rfl, rfl⟩
theorem dX4_kindsOf_30 : q_d cX4_kindsOf 30 31 (.iload_n 2) 1 := ⟨by decide +kernel, rfl⟩
theorem dX4_kindsOf_31 : q_d cX4_kindsOf 31 32 (.ireturn) 1 := ⟨by decide +kernel, rfl⟩
theorem dX4_landOf_0 : q_d cX4_landOf 0 1 (.iconst 0) 1 := ⟨by decide +kernel, rfl⟩
theorem dX4_landOf_1 : q_d cX4_landOf 1 2 (.istore_n 2) 1 := ⟨by decide +kernel, rfl⟩
theorem dX4_landOf_2 : q_d cX4_landOf 2 3 (.iload_n 2) 1 := ⟨by decide +kernel, rfl⟩
theorem dX4_landOf_3 : q_d cX4_landOf 3 4 (.aload_n 0) 1 := ⟨by decide +kernel, rfl⟩
theorem dX4_landOf_4 : q_d cX4_landOf 4 7 (.getfield 57) 3 := ⟨by decide +kernel, rfl⟩
theorem dX4_landOf_7 : q_j cX4_landOf 7 10 72 (fun o => .if_icmp .ge o) := ⟨65, by decide +kernel, rfl, rfl⟩
theorem dX4_landOf_10 : q_d cX4_landOf 10 11 (.iload_n 2) 1 := ⟨by decide +kernel, rfl⟩
theorem dX4_landOf_11 : q_d cX4_landOf 11 12 (.iconst 3) 1 := ⟨by decide +kernel, rfl⟩
theorem dX4_landOf_12 : q_j cX4_landOf 12 15 72 (fun o => .if_icmp .ge o) := ⟨60, by decide +kernel, rfl, rfl⟩
theorem dX4_landOf_15 : q_d cX4_landOf 15 16 (.aload_n 0) 1 := ⟨by decide +kernel, rfl⟩
theorem dX4_landOf_16 : q_d cX4_landOf 16 19 (.getfield 54) 3 := ⟨by decide +kernel, rfl⟩
theorem dX4_landOf_19 : q_d cX4_landOf 19 20 (.istore_n 3) 1 := ⟨by decide +kernel, rfl⟩
theorem dX4_landOf_20 : q_d cX4_landOf 20 21 (.aload_n 0) 1 := ⟨by decide +kernel, rfl⟩
theorem dX4_landOf_21 : q_d cX4_landOf 21 24 (.getfield 21) 3 := ⟨by decide +kernel, rfl⟩
theorem dX4_landOf_24 : q_d cX4_landOf 24 25 (.iload_n 2) 1 := ⟨by decide +kernel, rfl⟩
theorem dX4_landOf_25 : q_d cX4_landOf 25 26 (.iaload) 1 := ⟨by decide +kernel, rfl⟩
theorem dX4_landOf_26 : q_j cX4_landOf 26 29 37 (fun o => .ifCond .ne o) := ⟨11, by decide +kernel, rfl, rfl⟩
theorem dX4_landOf_29 : q_d cX4_landOf 29 30 (.aload_n 1) 1 := ⟨by decide +kernel, rfl⟩
theorem dX4_landOf_30 : q_d cX4_landOf 30 33 (.getfield 98) 3 := ⟨by decide +kernel, rfl⟩
theorem dX4_landOf_33 : q_d cX4_landOf 33 34 (.istore_n 3) 1 := ⟨by decide +kernel, rfl⟩
theorem dX4_landOf_34 : q_j cX4_landOf 34 37 52 (fun o => .goto o) := ⟨18, by decide +kernel, rfl, rfl⟩
theorem dX4_landOf_37 : q_d cX4_landOf 37 38 (.aload_n 0) 1 := ⟨by decide +kernel, rfl⟩
theorem dX4_landOf_38 : q_d cX4_landOf 38 41 (.getfield 21) 3 := ⟨by decide +kernel, rfl⟩
theorem dX4_landOf_41 : q_d cX4_landOf 41 42 (.iload_n 2) 1 := ⟨by decide +kernel, rfl⟩
theorem dX4_landOf_42 : q_d cX4_landOf 42 43 (.iaload) 1 := ⟨by decide +kernel, rfl⟩
theorem dX4_landOf_43 : q_d cX4_landOf 43 44 (.iconst 1) 1 := ⟨by decide +kernel, rfl⟩
theorem dX4_landOf_44 : q_j cX4_landOf 44 47 52 (fun o => .if_icmp .ne o) := ⟨8, by decide +kernel, rfl, rfl⟩
theorem dX4_landOf_47 : q_d cX4_landOf 47 48 (.aload_n 1) 1 := ⟨by decide +kernel, rfl⟩
theorem dX4_landOf_48 : q_d cX4_landOf 48 51 (.getfield 103) 3 := ⟨by decide +kernel, rfl⟩
theorem dX4_landOf_51 : q_d cX4_landOf 51 52 (.istore_n 3) 1 := ⟨by decide +kernel, rfl⟩
theorem dX4_landOf_52 : q_d cX4_landOf 52 53 (.aload_n 0) 1 := ⟨by decide +kernel, rfl⟩
theorem dX4_landOf_53 : q_d cX4_landOf 53 54 (.aload_n 1) 1 := ⟨by decide +kernel, rfl⟩
theorem dX4_landOf_54 : q_d cX4_landOf 54 57 (.getfield 106) 3 := ⟨by decide +kernel, rfl⟩
theorem dX4_landOf_57 : q_d cX4_landOf 57 58 (.iload_n 3) 1 := ⟨by decide +kernel, rfl⟩
theorem dX4_landOf_58 : q_d cX4_landOf 58 61 (.invokevirtual 94) 3 := ⟨by decide +kernel, rfl⟩
theorem dX4_landOf_61 : q_j cX4_landOf 61 64 66 (fun o => .ifCond .eq o) := ⟨5, by decide +kernel, rfl, rfl⟩
theorem dX4_landOf_64 : q_d cX4_landOf 64 65 (.iload_n 3) 1 := ⟨by decide +kernel, rfl⟩
theorem dX4_landOf_65 : q_d cX4_landOf 65 66 (.ireturn) 1 := ⟨by decide +kernel, rfl⟩
theorem dX4_landOf_66 : q_d cX4_landOf 66 69 (.iinc 2 1) 3 := ⟨by decide +kernel, rfl⟩
theorem dX4_landOf_69 : q_j cX4_landOf 69 72 2 (fun o => .goto o) := ⟨(-67), by decide +kernel, rfl, rfl⟩
theorem dX4_landOf_72 : q_d cX4_landOf 72 73 (.iconst (-1)) 1 := ⟨by decide +kernel, rfl⟩
theorem dX4_landOf_73 : q_d cX4_landOf 73 74 (.ireturn) 1 := ⟨by decide +kernel, rfl⟩
theorem dX4_sleepOf_0 : q_d cX4_sleepOf 0 1 (.aload_n 0) 1 := ⟨by decide +kernel, rfl⟩
theorem dX4_sleepOf_1 : q_d cX4_sleepOf 1 2 (.aload_n 1) 1 := ⟨by decide +kernel, rfl⟩
theorem dX4_sleepOf_2 : q_d cX4_sleepOf 2 5 (.getfield 106) 3 := ⟨by decide +kernel, rfl⟩
theorem dX4_sleepOf_5 : q_d cX4_sleepOf 5 6 (.iload_n 2) 1 := ⟨by decide +kernel, rfl⟩
theorem dX4_sleepOf_6 : q_d cX4_sleepOf 6 9 (.invokevirtual 94) 3 := ⟨by decide +kernel, rfl⟩
theorem dX4_sleepOf_9 : q_j cX4_sleepOf 9 12 16 (fun o => .ifCond .ne o) := ⟨7, by decide +kernel, rfl, rfl⟩
theorem dX4_sleepOf_12 : q_d cX4_sleepOf 12 15 (.sipush 600) 3 := ⟨by decide +kernel, rfl⟩
theorem dX4_sleepOf_15 : q_d cX4_sleepOf 15 16 (.ireturn) 1 := ⟨by decide +kernel, rfl⟩
theorem dX4_sleepOf_16 : q_d cX4_sleepOf 16 17 (.aload_n 1) 1 := ⟨by decide +kernel, rfl⟩
theorem dX4_sleepOf_17 : q_d cX4_sleepOf 17 20 (.getfield 106) 3 := ⟨by decide +kernel, rfl⟩
theorem dX4_sleepOf_20 : q_d cX4_sleepOf 20 21 (.iconst 5) 1 := ⟨by decide +kernel, rfl⟩
theorem dX4_sleepOf_21 : q_d cX4_sleepOf 21 22 (.imul) 1 := ⟨by decide +kernel, rfl⟩
theorem dX4_sleepOf_22 : q_d cX4_sleepOf 22 23 (.iload_n 2) 1 := ⟨by decide +kernel, rfl⟩
theorem dX4_sleepOf_23 : q_d cX4_sleepOf 23 24 (.iadd) 1 := ⟨by decide +kernel, rfl⟩
theorem dX4_sleepOf_24 : q_d cX4_sleepOf 24 25 (.istore_n 3) 1 := ⟨by decide +kernel, rfl⟩
theorem dX4_sleepOf_25 : q_d cX4_sleepOf 25 26 (.iconst 0) 1 := ⟨by decide +kernel, rfl⟩
theorem dX4_sleepOf_26 : q_d cX4_sleepOf 26 28 (.istore 4) 2 := ⟨by decide +kernel, rfl⟩
theorem dX4_sleepOf_28 : q_d cX4_sleepOf 28 29 (.aload_n 0) 1 := ⟨by decide +kernel, rfl⟩
theorem dX4_sleepOf_29 : q_d cX4_sleepOf 29 32 (.getfield 24) 3 := ⟨by decide +kernel, rfl⟩
theorem dX4_sleepOf_32 : q_d cX4_sleepOf 32 33 (.iload_n 3) 1 := ⟨by decide +kernel, rfl⟩
theorem dX4_sleepOf_33 : q_d cX4_sleepOf 33 34 (.iaload) 1 := ⟨by decide +kernel, rfl⟩
theorem dX4_sleepOf_34 : q_d cX4_sleepOf 34 36 (.istore 5) 2 := ⟨by decide +kernel, rfl⟩
theorem dX4_sleepOf_36 : q_d cX4_sleepOf 36 38 (.iload 5) 2 := ⟨by decide +kernel, rfl⟩
theorem dX4_sleepOf_38 : q_d cX4_sleepOf 38 39 (.aload_n 0) 1 := ⟨by decide +kernel, rfl⟩
theorem dX4_sleepOf_39 : q_d cX4_sleepOf 39 42 (.getfield 27) 3 := ⟨by decide +kernel, rfl⟩
theorem dX4_sleepOf_42 : q_d cX4_sleepOf 42 43 (.iload_n 3) 1 := ⟨by decide +kernel, rfl⟩
theorem dX4_sleepOf_43 : q_d cX4_sleepOf 43 44 (.iaload) 1 := ⟨by decide +kernel, rfl⟩
theorem dX4_sleepOf_44 : q_j cX4_sleepOf 44 47 142 (fun o => .if_icmp .ge o) := ⟨98, by decide +kernel, rfl, rfl⟩
theorem dX4_sleepOf_47 : q_d cX4_sleepOf 47 49 (.iload 5) 2 := ⟨by decide +kernel, rfl⟩
theorem dX4_sleepOf_49 : q_d cX4_sleepOf 49 52 (.sipush 600) 3 := ⟨by decide +kernel, rfl⟩
theorem dX4_sleepOf_52 : q_j cX4_sleepOf 52 55 142 (fun o => .if_icmp .ge o) := ⟨90, by decide +kernel, rfl, rfl⟩
theorem dX4_sleepOf_55 : q_d cX4_sleepOf 55 57 (.iload 4) 2 := ⟨by decide +kernel, rfl⟩
theorem dX4_sleepOf_57 : q_d cX4_sleepOf 57 58 (.aload_n 0) 1 := ⟨by decide +kernel, rfl⟩
theorem dX4_sleepOf_58 : q_d cX4_sleepOf 58 61 (.getfield 30) 3 := ⟨by decide +kernel, rfl⟩
theorem dX4_sleepOf_61 : q_d cX4_sleepOf 61 63 (.iload 5) 2 := ⟨by decide +kernel, rfl⟩
theorem dX4_sleepOf_63 : q_d cX4_sleepOf 63 64 (.iaload) 1 := ⟨by decide +kernel, rfl⟩
theorem dX4_sleepOf_64 : q_d cX4_sleepOf 64 67 (.invokestatic 109) 3 := ⟨by decide +kernel, rfl⟩
theorem dX4_sleepOf_67 : q_d cX4_sleepOf 67 68 (.isub) 1 := ⟨by decide +kernel, rfl⟩
theorem dX4_sleepOf_68 : q_d cX4_sleepOf 68 70 (.istore 6) 2 := ⟨by decide +kernel, rfl⟩
theorem dX4_sleepOf_70 : q_d cX4_sleepOf 70 72 (.iload 6) 2 := ⟨by decide +kernel, rfl⟩
theorem dX4_sleepOf_72 : q_j cX4_sleepOf 72 75 84 (fun o => .ifCond .lt o) := ⟨12, by decide +kernel, rfl, rfl⟩
theorem dX4_sleepOf_75 : q_d cX4_sleepOf 75 77 (.iload 6) 2 := ⟨by decide +kernel, rfl⟩
theorem dX4_sleepOf_77 : q_d cX4_sleepOf 77 78 (.iconst 4) 1 := ⟨by decide +kernel, rfl⟩
theorem dX4_sleepOf_78 : q_d cX4_sleepOf 78 79 (.iadd) 1 := ⟨by decide +kernel, rfl⟩
theorem dX4_sleepOf_79 : q_d cX4_sleepOf 79 81 (.bipush 32) 2 := ⟨by decide +kernel, rfl⟩
theorem dX4_sleepOf_81 : q_j cX4_sleepOf 81 84 88 (fun o => .if_icmp .le o) := ⟨7, by decide +kernel, rfl, rfl⟩
theorem dX4_sleepOf_84 : q_d cX4_sleepOf 84 87 (.sipush 600) 3 := ⟨by decide +kernel, rfl⟩
theorem dX4_sleepOf_87 : q_d cX4_sleepOf 87 88 (.ireturn) 1 := ⟨by decide +kernel, rfl⟩
theorem dX4_sleepOf_88 : q_d cX4_sleepOf 88 89 (.aload_n 0) 1 := ⟨by decide +kernel, rfl⟩
theorem dX4_sleepOf_89 : q_d cX4_sleepOf 89 92 (.getfield 33) 3 := ⟨by decide +kernel, rfl⟩
theorem dX4_sleepOf_92 : q_d cX4_sleepOf 92 94 (.iload 6) 2 := ⟨by decide +kernel, rfl⟩
theorem dX4_sleepOf_94 : q_d cX4_sleepOf 94 95 (.aload_n 0) 1 := ⟨by decide +kernel, rfl⟩
theorem dX4_sleepOf_95 : q_d cX4_sleepOf 95 98 (.getfield 30) 3 := ⟨by decide +kernel, rfl⟩
theorem dX4_sleepOf_98 : q_d cX4_sleepOf 98 100 (.iload 5) 2 := ⟨by decide +kernel, rfl⟩
theorem dX4_sleepOf_100 : q_d cX4_sleepOf 100 101 (.iaload) 1 := ⟨by decide +kernel, rfl⟩
theorem dX4_sleepOf_101 : q_j cX4_sleepOf 101 104 115 (fun o => .ifCond .lt o) := ⟨14, by decide +kernel, rfl, rfl⟩
theorem dX4_sleepOf_104 : q_d cX4_sleepOf 104 105 (.aload_n 0) 1 := ⟨by decide +kernel, rfl⟩
theorem dX4_sleepOf_105 : q_d cX4_sleepOf 105 108 (.getfield 30) 3 := ⟨by decide +kernel, rfl⟩
theorem dX4_sleepOf_108 : q_d cX4_sleepOf 108 110 (.iload 5) 2 := ⟨by decide +kernel, rfl⟩
theorem dX4_sleepOf_110 : q_d cX4_sleepOf 110 111 (.iaload) 1 := ⟨by decide +kernel, rfl⟩
theorem dX4_sleepOf_111 : q_d cX4_sleepOf 111 112 (.i2l) 1 := ⟨by decide +kernel, rfl⟩
theorem dX4_sleepOf_112 : q_j cX4_sleepOf 112 115 129 (fun o => .goto o) := ⟨17, by decide +kernel, rfl, rfl⟩
theorem dX4_sleepOf_115 : q_d cX4_sleepOf 115 116 (.aload_n 0) 1 := ⟨by decide +kernel, rfl⟩
theorem dX4_sleepOf_116 : q_d cX4_sleepOf 116 117 (.aload_n 0) 1 := ⟨by decide +kernel, rfl⟩
theorem dX4_sleepOf_117 : q_d cX4_sleepOf 117 120 (.getfield 30) 3 := ⟨by decide +kernel, rfl⟩
theorem dX4_sleepOf_120 : q_d cX4_sleepOf 120 122 (.iload 5) 2 := ⟨by decide +kernel, rfl⟩
theorem dX4_sleepOf_122 : q_d cX4_sleepOf 122 123 (.iaload) 1 := ⟨by decide +kernel, rfl⟩
theorem dX4_sleepOf_123 : q_d cX4_sleepOf 123 125 (.iload 6) 2 := ⟨by decide +kernel, rfl⟩
theorem dX4_sleepOf_125 : q_d cX4_sleepOf 125 126 (.aload_n 1) 1 := ⟨by decide +kernel, rfl⟩
theorem dX4_sleepOf_126 : q_d cX4_sleepOf 126 129 (.invokevirtual 113) 3 := ⟨by decide +kernel, rfl⟩
theorem dX4_sleepOf_129 : q_d cX4_sleepOf 129 130 (.lastore) 1 := ⟨by decide +kernel, rfl⟩
theorem dX4_sleepOf_130 : q_d cX4_sleepOf 130 132 (.iload 6) 2 := ⟨by decide +kernel, rfl⟩
theorem dX4_sleepOf_132 : q_d cX4_sleepOf 132 133 (.iconst 1) 1 := ⟨by decide +kernel, rfl⟩
theorem dX4_sleepOf_133 : q_d cX4_sleepOf 133 134 (.iadd) 1 := ⟨by decide +kernel, rfl⟩
theorem dX4_sleepOf_134 : q_d cX4_sleepOf 134 136 (.istore 4) 2 := ⟨by decide +kernel, rfl⟩
theorem dX4_sleepOf_136 : q_d cX4_sleepOf 136 139 (.iinc 5 1) 3 := ⟨by decide +kernel, rfl⟩
theorem dX4_sleepOf_139 : q_j cX4_sleepOf 139 142 36 (fun o => .goto o) := ⟨(-103), by decide +kernel, rfl, rfl⟩
theorem dX4_sleepOf_142 : q_d cX4_sleepOf 142 144 (.iload 4) 2 := ⟨by decide +kernel, rfl⟩
theorem dX4_sleepOf_144 : q_j cX4_sleepOf 144 147 159 (fun o => .ifCond .le o) := ⟨15, by decide +kernel, rfl, rfl⟩
theorem dX4_sleepOf_147 : q_d cX4_sleepOf 147 148 (.aload_n 0) 1 := ⟨by decide +kernel, rfl⟩
theorem dX4_sleepOf_148 : q_d cX4_sleepOf 148 151 (.getfield 33) 3 := ⟨by decide +kernel, rfl⟩
theorem dX4_sleepOf_151 : q_d cX4_sleepOf 151 153 (.iload 4) 2 := ⟨by decide +kernel, rfl⟩
theorem dX4_sleepOf_153 : q_d cX4_sleepOf 153 154 (.iconst 1) 1 := ⟨by decide +kernel, rfl⟩
theorem dX4_sleepOf_154 : q_d cX4_sleepOf 154 155 (.isub) 1 := ⟨by decide +kernel, rfl⟩
theorem dX4_sleepOf_155 : q_d cX4_sleepOf 155 156 (.laload) 1 := ⟨by decide +kernel, rfl⟩
theorem dX4_sleepOf_156 : q_j cX4_sleepOf 156 159 160 (fun o => .goto o) := ⟨4, by decide +kernel, rfl, rfl⟩
theorem dX4_sleepOf_159 : q_d cX4_sleepOf 159 160 (.lconst 0) 1 := ⟨by decide +kernel, rfl⟩
theorem dX4_sleepOf_160 : q_d cX4_sleepOf 160 162 (.lstore 5) 2 := ⟨by decide +kernel, rfl⟩
theorem dX4_sleepOf_162 : q_d cX4_sleepOf 162 163 (.lconst 0) 1 := ⟨by decide +kernel, rfl⟩
theorem dX4_sleepOf_163 : q_d cX4_sleepOf 163 166 (.ldc2_w 117) 3 := ⟨by decide +kernel, rfl⟩
theorem dX4_sleepOf_166 : q_d cX4_sleepOf 166 168 (.lload 5) 2 := ⟨by decide +kernel, rfl⟩
theorem dX4_sleepOf_168 : q_d cX4_sleepOf 168 171 (.invokestatic 119) 3 := ⟨by decide +kernel, rfl⟩
theorem dX4_sleepOf_171 : q_d cX4_sleepOf 171 174 (.invokestatic 122) 3 := ⟨by decide +kernel, rfl⟩
theorem dX4_sleepOf_174 : q_d cX4_sleepOf 174 175 (.l2i) 1 := ⟨by decide +kernel, rfl⟩
theorem dX4_sleepOf_175 : q_d cX4_sleepOf 175 176 (.ireturn) 1 := ⟨by decide +kernel, rfl⟩
theorem dX4_operandsOf_0 : q_d cX4_operandsOf 0 1 (.iload_n 0) 1 := ⟨by decide +kernel, rfl⟩
theorem dX4_operandsOf_1 : q_d cX4_operandsOf 1 3 (.bipush (-10)) 2 := ⟨by decide +kernel, rfl⟩
theorem dX4_operandsOf_3 : q_j cX4_operandsOf 3 6 8 (fun o => .if_icmp .ne o) := ⟨5, by decide +kernel, rfl, rfl⟩
theorem dX4_operandsOf_6 : q_d cX4_operandsOf 6 7 (.iconst 4) 1 := ⟨by decide +kernel, rfl⟩
theorem dX4_operandsOf_7 : q_d cX4_operandsOf 7 8 (.ireturn) 1 := ⟨by decide +kernel, rfl⟩
theorem dX4_operandsOf_8 : q_d cX4_operandsOf 8 9 (.iload_n 0) 1 := ⟨by decide +kernel, rfl⟩
theorem dX4_operandsOf_9 : q_d cX4_operandsOf 9 11 (.bipush (-5)) 2 := ⟨by decide +kernel, rfl⟩
theorem dX4_operandsOf_11 : q_j cX4_operandsOf 11 14 18 (fun o => .if_icmp .gt o) := ⟨7, by decide +kernel, rfl, rfl⟩
theorem dX4_operandsOf_14 : q_d cX4_operandsOf 14 15 (.iconst 2) 1 := ⟨by decide +kernel, rfl⟩
theorem dX4_operandsOf_15 : q_j cX4_operandsOf 15 18 19 (fun o => .goto o) := ⟨4, by decide +kernel, rfl, rfl⟩
theorem dX4_operandsOf_18 : q_d cX4_operandsOf 18 19 (.iconst 0) 1 := ⟨by decide +kernel, rfl⟩
theorem dX4_operandsOf_19 : q_d cX4_operandsOf 19 20 (.ireturn) 1 := ⟨by decide +kernel, rfl⟩
theorem dX4_result_0 : q_d cX4_result 0 1 (.iload_n 1) 1 := ⟨by decide +kernel, rfl⟩
theorem dX4_result_1 : decode cX4_result 1 = .ok (.tableswitch 167 (-9) (-1) #[149, 131, 113, 94, 75, 69, 63, 57, 51], 51) := by decide +kernel
theorem dX4_result_52 : q_d cX4_result 52 53 (.aload_n 3) 1 := ⟨by decide +kernel, rfl⟩
theorem dX4_result_53 : q_d cX4_result 53 56 (.getfield 125) 3 := ⟨by decide +kernel, rfl⟩
theorem dX4_result_56 : q_d cX4_result 56 57 (.i2l) 1 := ⟨by decide +kernel, rfl⟩
theorem dX4_result_57 : q_d cX4_result 57 58 (.lreturn) 1 := ⟨by decide +kernel, rfl⟩
theorem dX4_result_58 : q_d cX4_result 58 59 (.aload_n 3) 1 := ⟨by decide +kernel, rfl⟩
theorem dX4_result_59 : q_d cX4_result 59 62 (.getfield 128) 3 := ⟨by decide +kernel, rfl⟩
theorem dX4_result_62 : q_d cX4_result 62 63 (.i2l) 1 := ⟨by decide +kernel, rfl⟩
theorem dX4_result_63 : q_d cX4_result 63 64 (.lreturn) 1 := ⟨by decide +kernel, rfl⟩
theorem dX4_result_64 : q_d cX4_result 64 65 (.aload_n 3) 1 := ⟨by decide +kernel, rfl⟩
theorem dX4_result_65 : q_d cX4_result 65 68 (.getfield 131) 3 := ⟨by decide +kernel, rfl⟩
theorem dX4_result_68 : q_d cX4_result 68 69 (.i2l) 1 := ⟨by decide +kernel, rfl⟩
theorem dX4_result_69 : q_d cX4_result 69 70 (.lreturn) 1 := ⟨by decide +kernel, rfl⟩
theorem dX4_result_70 : q_d cX4_result 70 71 (.aload_n 3) 1 := ⟨by decide +kernel, rfl⟩
theorem dX4_result_71 : q_d cX4_result 71 74 (.getfield 134) 3 := ⟨by decide +kernel, rfl⟩
theorem dX4_result_74 : q_d cX4_result 74 75 (.i2l) 1 := ⟨by decide +kernel, rfl⟩
theorem dX4_result_75 : q_d cX4_result 75 76 (.lreturn) 1 := ⟨by decide +kernel, rfl⟩
theorem dX4_result_76 : q_d cX4_result 76 77 (.aload_n 0) 1 := ⟨by decide +kernel, rfl⟩
theorem dX4_result_77 : q_d cX4_result 77 80 (.getfield 33) 3 := ⟨by decide +kernel, rfl⟩
theorem dX4_result_80 : q_d cX4_result 80 81 (.iload_n 2) 1 := ⟨by decide +kernel, rfl⟩
theorem dX4_result_81 : q_d cX4_result 81 82 (.laload) 1 := ⟨by decide +kernel, rfl⟩
theorem dX4_result_82 : q_d cX4_result 82 83 (.aload_n 0) 1 := ⟨by decide +kernel, rfl⟩
theorem dX4_result_83 : q_d cX4_result 83 86 (.getfield 33) 3 := ⟨by decide +kernel, rfl⟩
theorem dX4_result_86 : q_d cX4_result 86 87 (.iload_n 2) 1 := ⟨by decide +kernel, rfl⟩
theorem dX4_result_87 : q_d cX4_result 87 88 (.iconst 1) 1 := ⟨by decide +kernel, rfl⟩
theorem dX4_result_88 : q_d cX4_result 88 89 (.iadd) 1 := ⟨by decide +kernel, rfl⟩
theorem dX4_result_89 : q_d cX4_result 89 90 (.laload) 1 := ⟨by decide +kernel, rfl⟩
theorem dX4_result_90 : q_d cX4_result 90 91 (.ladd) 1 := ⟨by decide +kernel, rfl⟩
theorem dX4_result_91 : q_d cX4_result 91 94 (.invokestatic 137) 3 := ⟨by decide +kernel, rfl⟩
theorem dX4_result_94 : q_d cX4_result 94 95 (.lreturn) 1 := ⟨by decide +kernel, rfl⟩
theorem dX4_result_95 : q_d cX4_result 95 96 (.aload_n 0) 1 := ⟨by decide +kernel, rfl⟩
theorem dX4_result_96 : q_d cX4_result 96 99 (.getfield 33) 3 := ⟨by decide +kernel, rfl⟩
theorem dX4_result_99 : q_d cX4_result 99 100 (.iload_n 2) 1 := ⟨by decide +kernel, rfl⟩
theorem dX4_result_100 : q_d cX4_result 100 101 (.laload) 1 := ⟨by decide +kernel, rfl⟩
theorem dX4_result_101 : q_d cX4_result 101 102 (.aload_n 0) 1 := ⟨by decide +kernel, rfl⟩
theorem dX4_result_102 : q_d cX4_result 102 105 (.getfield 33) 3 := ⟨by decide +kernel, rfl⟩
theorem dX4_result_105 : q_d cX4_result 105 106 (.iload_n 2) 1 := ⟨by decide +kernel, rfl⟩
theorem dX4_result_106 : q_d cX4_result 106 107 (.iconst 1) 1 := ⟨by decide +kernel, rfl⟩
theorem dX4_result_107 : q_d cX4_result 107 108 (.iadd) 1 := ⟨by decide +kernel, rfl⟩
theorem dX4_result_108 : q_d cX4_result 108 109 (.laload) 1 := ⟨by decide +kernel, rfl⟩
theorem dX4_result_109 : q_d cX4_result 109 110 (.lsub) 1 := ⟨by decide +kernel, rfl⟩
theorem dX4_result_110 : q_d cX4_result 110 113 (.invokestatic 137) 3 := ⟨by decide +kernel, rfl⟩
theorem dX4_result_113 : q_d cX4_result 113 114 (.lreturn) 1 := ⟨by decide +kernel, rfl⟩
theorem dX4_result_114 : q_d cX4_result 114 115 (.aload_n 0) 1 := ⟨by decide +kernel, rfl⟩
theorem dX4_result_115 : q_d cX4_result 115 118 (.getfield 33) 3 := ⟨by decide +kernel, rfl⟩
theorem dX4_result_118 : q_d cX4_result 118 119 (.iload_n 2) 1 := ⟨by decide +kernel, rfl⟩
theorem dX4_result_119 : q_d cX4_result 119 120 (.laload) 1 := ⟨by decide +kernel, rfl⟩
theorem dX4_result_120 : q_d cX4_result 120 121 (.aload_n 0) 1 := ⟨by decide +kernel, rfl⟩
theorem dX4_result_121 : q_d cX4_result 121 124 (.getfield 33) 3 := ⟨by decide +kernel, rfl⟩
theorem dX4_result_124 : q_d cX4_result 124 125 (.iload_n 2) 1 := ⟨by decide +kernel, rfl⟩
theorem dX4_result_125 : q_d cX4_result 125 126 (.iconst 1) 1 := ⟨by decide +kernel, rfl⟩
theorem dX4_result_126 : q_d cX4_result 126 127 (.iadd) 1 := ⟨by decide +kernel, rfl⟩
theorem dX4_result_127 : q_d cX4_result 127 128 (.laload) 1 := ⟨by decide +kernel, rfl⟩
theorem dX4_result_128 : q_d cX4_result 128 131 (.invokestatic 141) 3 := ⟨by decide +kernel, rfl⟩
theorem dX4_result_131 : q_d cX4_result 131 132 (.lreturn) 1 := ⟨by decide +kernel, rfl⟩
theorem dX4_result_132 : q_d cX4_result 132 133 (.aload_n 0) 1 := ⟨by decide +kernel, rfl⟩
theorem dX4_result_133 : q_d cX4_result 133 136 (.getfield 33) 3 := ⟨by decide +kernel, rfl⟩
theorem dX4_result_136 : q_d cX4_result 136 137 (.iload_n 2) 1 := ⟨by decide +kernel, rfl⟩
theorem dX4_result_137 : q_d cX4_result 137 138 (.laload) 1 := ⟨by decide +kernel, rfl⟩
theorem dX4_result_138 : q_d cX4_result 138 139 (.aload_n 0) 1 := ⟨by decide +kernel, rfl⟩
theorem dX4_result_139 : q_d cX4_result 139 142 (.getfield 33) 3 := ⟨by decide +kernel, rfl⟩
theorem dX4_result_142 : q_d cX4_result 142 143 (.iload_n 2) 1 := ⟨by decide +kernel, rfl⟩
theorem dX4_result_143 : q_d cX4_result 143 144 (.iconst 1) 1 := ⟨by decide +kernel, rfl⟩
theorem dX4_result_144 : q_d cX4_result 144 145 (.iadd) 1 := ⟨by decide +kernel, rfl⟩
theorem dX4_result_145 : q_d cX4_result 145 146 (.laload) 1 := ⟨by decide +kernel, rfl⟩
theorem dX4_result_146 : q_d cX4_result 146 149 (.invokestatic 144) 3 := ⟨by decide +kernel, rfl⟩
theorem dX4_result_149 : q_d cX4_result 149 150 (.lreturn) 1 := ⟨by decide +kernel, rfl⟩
theorem dX4_result_150 : q_d cX4_result 150 151 (.aload_n 0) 1 := ⟨by decide +kernel, rfl⟩
theorem dX4_result_151 : q_d cX4_result 151 154 (.getfield 33) 3 := ⟨by decide +kernel, rfl⟩
theorem dX4_result_154 : q_d cX4_result 154 155 (.iload_n 2) 1 := ⟨by decide +kernel, rfl⟩
theorem dX4_result_155 : q_d cX4_result 155 156 (.laload) 1 := ⟨by decide +kernel, rfl⟩
theorem dX4_result_156 : q_d cX4_result 156 157 (.aload_n 0) 1 := ⟨by decide +kernel, rfl⟩
theorem dX4_result_157 : q_d cX4_result 157 160 (.getfield 33) 3 := ⟨by decide +kernel, rfl⟩
theorem dX4_result_160 : q_d cX4_result 160 161 (.iload_n 2) 1 := ⟨by decide +kernel, rfl⟩
theorem dX4_result_161 : q_d cX4_result 161 162 (.iconst 1) 1 := ⟨by decide +kernel, rfl⟩
theorem dX4_result_162 : q_d cX4_result 162 163 (.iadd) 1 := ⟨by decide +kernel, rfl⟩
theorem dX4_result_163 : q_d cX4_result 163 164 (.laload) 1 := ⟨by decide +kernel, rfl⟩
theorem dX4_result_164 : q_d cX4_result 164 167 (.invokestatic 119) 3 := ⟨by decide +kernel, rfl⟩
theorem dX4_result_167 : q_d cX4_result 167 168 (.lreturn) 1 := ⟨by decide +kernel, rfl⟩
theorem dX4_result_168 : q_d cX4_result 168 169 (.aload_n 0) 1 := ⟨by decide +kernel, rfl⟩
theorem dX4_result_169 : q_d cX4_result 169 172 (.getfield 33) 3 := ⟨by decide +kernel, rfl⟩
theorem dX4_result_172 : q_d cX4_result 172 173 (.iload_n 2) 1 := ⟨by decide +kernel, rfl⟩
theorem dX4_result_173 : q_d cX4_result 173 174 (.laload) 1 := ⟨by decide +kernel, rfl⟩
theorem dX4_result_174 : q_d cX4_result 174 175 (.aload_n 0) 1 := ⟨by decide +kernel, rfl⟩
theorem dX4_result_175 : q_d cX4_result 175 178 (.getfield 33) 3 := ⟨by decide +kernel, rfl⟩
theorem dX4_result_178 : q_d cX4_result 178 179 (.iload_n 2) 1 := ⟨by decide +kernel, rfl⟩
theorem dX4_result_179 : q_d cX4_result 179 180 (.iconst 1) 1 := ⟨by decide +kernel, rfl⟩
theorem dX4_result_180 : q_d cX4_result 180 181 (.iadd) 1 := ⟨by decide +kernel, rfl⟩
theorem dX4_result_181 : q_d cX4_result 181 182 (.laload) 1 := ⟨by decide +kernel, rfl⟩
theorem dX4_result_182 : q_d cX4_result 182 183 (.lcmp) 1 := ⟨by decide +kernel, rfl⟩
theorem dX4_result_183 : q_j cX4_result 183 186 197 (fun o => .ifCond .ge o) := ⟨14, by decide +kernel, rfl, rfl⟩
theorem dX4_result_186 : q_d cX4_result 186 187 (.aload_n 0) 1 := ⟨by decide +kernel, rfl⟩
theorem dX4_result_187 : q_d cX4_result 187 190 (.getfield 33) 3 := ⟨by decide +kernel, rfl⟩
theorem dX4_result_190 : q_d cX4_result 190 191 (.iload_n 2) 1 := ⟨by decide +kernel, rfl⟩
theorem dX4_result_191 : q_d cX4_result 191 192 (.iconst 2) 1 := ⟨by decide +kernel, rfl⟩
theorem dX4_result_192 : q_d cX4_result 192 193 (.iadd) 1 := ⟨by decide +kernel, rfl⟩
theorem dX4_result_193 : q_d cX4_result 193 194 (.laload) 1 := ⟨by decide +kernel, rfl⟩
theorem dX4_result_194 : q_j cX4_result 194 197 205 (fun o => .goto o) := ⟨11, by decide +kernel, rfl, rfl⟩
theorem dX4_result_197 : q_d cX4_result 197 198 (.aload_n 0) 1 := ⟨by decide +kernel, rfl⟩
theorem dX4_result_198 : q_d cX4_result 198 201 (.getfield 33) 3 := ⟨by decide +kernel, rfl⟩
theorem dX4_result_201 : q_d cX4_result 201 202 (.iload_n 2) 1 := ⟨by decide +kernel, rfl⟩
theorem dX4_result_202 : q_d cX4_result 202 203 (.iconst 3) 1 := ⟨by decide +kernel, rfl⟩
theorem dX4_result_203 : q_d cX4_result 203 204 (.iadd) 1 := ⟨by decide +kernel, rfl⟩
theorem dX4_result_204 : q_d cX4_result 204 205 (.laload) 1 := ⟨by decide +kernel, rfl⟩
theorem dX4_result_205 : q_d cX4_result 205 206 (.lreturn) 1 := ⟨by decide +kernel, rfl⟩
theorem dX4_bounded_0 : q_d cX4_bounded 0 3 (.ldc2_w 147) 3 := ⟨by decide +kernel, rfl⟩
theorem dX4_bounded_3 : q_d cX4_bounded 3 6 (.ldc2_w 149) 3 := ⟨by decide +kernel, rfl⟩
theorem dX4_bounded_6 : q_d cX4_bounded 6 7 (.lload_n 0) 1 := ⟨by decide +kernel, rfl⟩
theorem dX4_bounded_7 : q_d cX4_bounded 7 10 (.invokestatic 119) 3 := ⟨by decide +kernel, rfl⟩
theorem dX4_bounded_10 : q_d cX4_bounded 10 13 (.invokestatic 122) 3 := ⟨by decide +kernel, rfl⟩
theorem dX4_bounded_13 : q_d cX4_bounded 13 14 (.lreturn) 1 := ⟨by decide +kernel, rfl⟩
theorem dX4_product_0 : q_d cX4_product 0 1 (.lload_n 0) 1 := ⟨by decide +kernel, rfl⟩
theorem dX4_product_1 : q_d cX4_product 1 2 (.lconst 0) 1 := ⟨by decide +kernel, rfl⟩
theorem dX4_product_2 : q_d cX4_product 2 3 (.lcmp) 1 := ⟨by decide +kernel, rfl⟩
theorem dX4_product_3 : q_j cX4_product 3 6 12 (fun o => .ifCond .eq o) := ⟨9, by decide +kernel, rfl, rfl⟩
theorem dX4_product_6 : q_d cX4_product 6 7 (.lload_n 2) 1 := ⟨by decide +kernel, rfl⟩
theorem dX4_product_7 : q_d cX4_product 7 8 (.lconst 0) 1 := ⟨by decide +kernel, rfl⟩
theorem dX4_product_8 : q_d cX4_product 8 9 (.lcmp) 1 := ⟨by decide +kernel, rfl⟩
theorem dX4_product_9 : q_j cX4_product 9 12 14 (fun o => .ifCond .ne o) := ⟨5, by decide +kernel, rfl, rfl⟩
theorem dX4_product_12 : q_d cX4_product 12 13 (.lconst 0) 1 := ⟨by decide +kernel, rfl⟩
theorem dX4_product_13 : q_d cX4_product 13 14 (.lreturn) 1 := ⟨by decide +kernel, rfl⟩
theorem dX4_product_14 : q_d cX4_product 14 15 (.lload_n 0) 1 := ⟨by decide +kernel, rfl⟩
theorem dX4_product_15 : q_d cX4_product 15 18 (.invokestatic 151) 3 := ⟨by decide +kernel, rfl⟩
theorem dX4_product_18 : q_d cX4_product 18 21 (.ldc2_w 149) 3 := ⟨by decide +kernel, rfl⟩
theorem dX4_product_21 : q_d cX4_product 21 22 (.lload_n 2) 1 := ⟨by decide +kernel, rfl⟩
theorem dX4_product_22 : q_d cX4_product 22 25 (.invokestatic 151) 3 := ⟨by decide +kernel, rfl⟩
theorem dX4_product_25 : q_d cX4_product 25 26 (.ldiv) 1 := ⟨by decide +kernel, rfl⟩
theorem dX4_product_26 : q_d cX4_product 26 27 (.lcmp) 1 := ⟨by decide +kernel, rfl⟩
theorem dX4_product_27 : q_j cX4_product 27 30 65 (fun o => .ifCond .le o) := ⟨38, by decide +kernel, rfl, rfl⟩
theorem dX4_product_30 : q_d cX4_product 30 31 (.lload_n 0) 1 := ⟨by decide +kernel, rfl⟩
theorem dX4_product_31 : q_d cX4_product 31 32 (.lconst 0) 1 := ⟨by decide +kernel, rfl⟩
theorem dX4_product_32 : q_d cX4_product 32 33 (.lcmp) 1 := ⟨by decide +kernel, rfl⟩
theorem dX4_product_33 : q_j cX4_product 33 36 40 (fun o => .ifCond .ge o) := ⟨7, by decide +kernel, rfl, rfl⟩
theorem dX4_product_36 : q_d cX4_product 36 37 (.iconst 1) 1 := ⟨by decide +kernel, rfl⟩
theorem dX4_product_37 : q_j cX4_product 37 40 41 (fun o => .goto o) := ⟨4, by decide +kernel, rfl, rfl⟩
theorem dX4_product_40 : q_d cX4_product 40 41 (.iconst 0) 1 := ⟨by decide +kernel, rfl⟩
theorem dX4_product_41 : q_d cX4_product 41 42 (.lload_n 2) 1 := ⟨by decide +kernel, rfl⟩
theorem dX4_product_42 : q_d cX4_product 42 43 (.lconst 0) 1 := ⟨by decide +kernel, rfl⟩
theorem dX4_product_43 : q_d cX4_product 43 44 (.lcmp) 1 := ⟨by decide +kernel, rfl⟩
theorem dX4_product_44 : q_j cX4_product 44 47 51 (fun o => .ifCond .ge o) := ⟨7, by decide +kernel, rfl, rfl⟩
theorem dX4_product_47 : q_d cX4_product 47 48 (.iconst 1) 1 := ⟨by decide +kernel, rfl⟩
theorem dX4_product_48 : q_j cX4_product 48 51 52 (fun o => .goto o) := ⟨4, by decide +kernel, rfl, rfl⟩
theorem dX4_product_51 : q_d cX4_product 51 52 (.iconst 0) 1 := ⟨by decide +kernel, rfl⟩
theorem dX4_product_52 : q_j cX4_product 52 55 61 (fun o => .if_icmp .ne o) := ⟨9, by decide +kernel, rfl, rfl⟩
theorem dX4_product_55 : q_d cX4_product 55 58 (.ldc2_w 149) 3 := ⟨by decide +kernel, rfl⟩
theorem dX4_product_58 : q_j cX4_product 58 61 64 (fun o => .goto o) := ⟨6, by decide +kernel, rfl, rfl⟩
theorem dX4_product_61 : q_d cX4_product 61 64 (.ldc2_w 147) 3 := ⟨by decide +kernel, rfl⟩
theorem dX4_product_64 : q_d cX4_product 64 65 (.lreturn) 1 := ⟨by decide +kernel, rfl⟩
theorem dX4_product_65 : q_d cX4_product 65 66 (.lload_n 0) 1 := ⟨by decide +kernel, rfl⟩
theorem dX4_product_66 : q_d cX4_product 66 67 (.lload_n 2) 1 := ⟨by decide +kernel, rfl⟩
theorem dX4_product_67 : q_d cX4_product 67 68 (.lmul) 1 := ⟨by decide +kernel, rfl⟩
theorem dX4_product_68 : q_d cX4_product 68 69 (.lreturn) 1 := ⟨by decide +kernel, rfl⟩
theorem dX4_quotient_0 : q_d cX4_quotient 0 1 (.lload_n 2) 1 := ⟨by decide +kernel, rfl⟩
theorem dX4_quotient_1 : q_d cX4_quotient 1 2 (.lconst 0) 1 := ⟨by decide +kernel, rfl⟩
theorem dX4_quotient_2 : q_d cX4_quotient 2 3 (.lcmp) 1 := ⟨by decide +kernel, rfl⟩
theorem dX4_quotient_3 : q_j cX4_quotient 3 6 10 (fun o => .ifCond .ne o) := ⟨7, by decide +kernel, rfl, rfl⟩
theorem dX4_quotient_6 : q_d cX4_quotient 6 7 (.lconst 0) 1 := ⟨by decide +kernel, rfl⟩
theorem dX4_quotient_7 : q_j cX4_quotient 7 10 15 (fun o => .goto o) := ⟨8, by decide +kernel, rfl, rfl⟩
theorem dX4_quotient_10 : q_d cX4_quotient 10 11 (.lload_n 0) 1 := ⟨by decide +kernel, rfl⟩
theorem dX4_quotient_11 : q_d cX4_quotient 11 12 (.lload_n 2) 1 := ⟨by decide +kernel, rfl⟩
theorem dX4_quotient_12 : q_d cX4_quotient 12 15 (.invokestatic 154) 3 := ⟨by decide +kernel, rfl⟩
theorem dX4_quotient_15 : q_d cX4_quotient 15 16 (.lreturn) 1 := ⟨by decide +kernel, rfl⟩
theorem dX4_interestOf_0 : q_d cX4_interestOf 0 1 (.aload_n 0) 1 := ⟨by decide +kernel, rfl⟩
theorem dX4_interestOf_1 : q_d cX4_interestOf 1 2 (.aload_n 1) 1 := ⟨by decide +kernel, rfl⟩
theorem dX4_interestOf_2 : q_d cX4_interestOf 2 5 (.getfield 157) 3 := ⟨by decide +kernel, rfl⟩
theorem dX4_interestOf_5 : q_d cX4_interestOf 5 8 (.invokevirtual 83) 3 := ⟨by decide +kernel, rfl⟩
theorem dX4_interestOf_8 : q_j cX4_interestOf 8 11 13 (fun o => .ifCond .ne o) := ⟨5, by decide +kernel, rfl, rfl⟩
theorem dX4_interestOf_11 : q_d cX4_interestOf 11 12 (.lconst 0) 1 := ⟨by decide +kernel, rfl⟩
theorem dX4_interestOf_12 : q_d cX4_interestOf 12 13 (.lreturn) 1 := ⟨by decide +kernel, rfl⟩
theorem dX4_interestOf_13 : q_d cX4_interestOf 13 14 (.aload_n 0) 1 := ⟨by decide +kernel, rfl⟩
theorem dX4_interestOf_14 : q_d cX4_interestOf 14 17 (.getfield 11) 3 := ⟨by decide +kernel, rfl⟩
theorem dX4_interestOf_17 : q_d cX4_interestOf 17 18 (.aload_n 1) 1 := ⟨by decide +kernel, rfl⟩
theorem dX4_interestOf_18 : q_d cX4_interestOf 18 21 (.getfield 157) 3 := ⟨by decide +kernel, rfl⟩
theorem dX4_interestOf_21 : q_d cX4_interestOf 21 22 (.aaload) 1 := ⟨by decide +kernel, rfl⟩
theorem dX4_interestOf_22 : q_d cX4_interestOf 22 23 (.astore_n 3) 1 := ⟨by decide +kernel, rfl⟩
theorem dX4_interestOf_23 : q_d cX4_interestOf 23 24 (.iload_n 2) 1 := ⟨by decide +kernel, rfl⟩
theorem dX4_interestOf_24 : q_d cX4_interestOf 24 25 (.aload_n 1) 1 := ⟨by decide +kernel, rfl⟩
theorem dX4_interestOf_25 : q_d cX4_interestOf 25 28 (.getfield 160) 3 := ⟨by decide +kernel, rfl⟩
theorem dX4_interestOf_28 : q_d cX4_interestOf 28 29 (.isub) 1 := ⟨by decide +kernel, rfl⟩
theorem dX4_interestOf_29 : q_d cX4_interestOf 29 31 (.bipush 12) 2 := ⟨by decide +kernel, rfl⟩
theorem dX4_interestOf_31 : q_d cX4_interestOf 31 32 (.aload_n 3) 1 := ⟨by decide +kernel, rfl⟩
theorem dX4_interestOf_32 : q_d cX4_interestOf 32 35 (.getfield 163) 3 := ⟨by decide +kernel, rfl⟩
theorem dX4_interestOf_35 : q_d cX4_interestOf 35 36 (.imul) 1 := ⟨by decide +kernel, rfl⟩
theorem dX4_interestOf_36 : q_d cX4_interestOf 36 39 (.invokestatic 77) 3 := ⟨by decide +kernel, rfl⟩
theorem dX4_interestOf_39 : q_d cX4_interestOf 39 40 (.i2l) 1 := ⟨by decide +kernel, rfl⟩
theorem dX4_interestOf_40 : q_d cX4_interestOf 40 42 (.lstore 4) 2 := ⟨by decide +kernel, rfl⟩
theorem dX4_interestOf_42 : q_d cX4_interestOf 42 43 (.aload_n 1) 1 := ⟨by decide +kernel, rfl⟩
theorem dX4_interestOf_43 : q_d cX4_interestOf 43 46 (.getfield 125) 3 := ⟨by decide +kernel, rfl⟩
theorem dX4_interestOf_46 : q_d cX4_interestOf 46 47 (.i2l) 1 := ⟨by decide +kernel, rfl⟩
theorem dX4_interestOf_47 : q_d cX4_interestOf 47 48 (.aload_n 3) 1 := ⟨by decide +kernel, rfl⟩
theorem dX4_interestOf_48 : q_d cX4_interestOf 48 51 (.getfield 166) 3 := ⟨by decide +kernel, rfl⟩
theorem dX4_interestOf_51 : q_d cX4_interestOf 51 52 (.i2l) 1 := ⟨by decide +kernel, rfl⟩
theorem dX4_interestOf_52 : q_d cX4_interestOf 52 53 (.lmul) 1 := ⟨by decide +kernel, rfl⟩
theorem dX4_interestOf_53 : q_d cX4_interestOf 53 55 (.lload 4) 2 := ⟨by decide +kernel, rfl⟩
theorem dX4_interestOf_55 : q_d cX4_interestOf 55 56 (.lmul) 1 := ⟨by decide +kernel, rfl⟩
theorem dX4_interestOf_56 : q_d cX4_interestOf 56 59 (.ldc2_w 169) 3 := ⟨by decide +kernel, rfl⟩
theorem dX4_interestOf_59 : q_d cX4_interestOf 59 60 (.ldiv) 1 := ⟨by decide +kernel, rfl⟩
theorem dX4_interestOf_60 : q_d cX4_interestOf 60 61 (.lreturn) 1 := ⟨by decide +kernel, rfl⟩
theorem dX5_of_0 : q_d cX5_of 0 1 (.iconst 0) 1 := ⟨by decide +kernel, rfl⟩
theorem dX5_of_1 : q_d cX5_of 1 2 (.istore_n 3) 1 := ⟨by decide +kernel, rfl⟩
theorem dX5_of_2 : q_d cX5_of 2 3 (.iload_n 3) 1 := ⟨by decide +kernel, rfl⟩
theorem dX5_of_3 : q_d cX5_of 3 6 (.getstatic 102) 3 := ⟨by decide +kernel, rfl⟩
theorem dX5_of_6 : q_d cX5_of 6 7 (.arraylength) 1 := ⟨by decide +kernel, rfl⟩
theorem dX5_of_7 : q_j cX5_of 7 10 36 (fun o => .if_icmp .ge o) := ⟨29, by decide +kernel, rfl, rfl⟩
theorem dX5_of_10 : q_d cX5_of 10 13 (.getstatic 102) 3 := ⟨by decide +kernel, rfl⟩
theorem dX5_of_13 : q_d cX5_of 13 14 (.iload_n 3) 1 := ⟨by decide +kernel, rfl⟩
theorem dX5_of_14 : q_d cX5_of 14 15 (.aaload) 1 := ⟨by decide +kernel, rfl⟩
theorem dX5_of_15 : q_d cX5_of 15 16 (.aload_n 0) 1 := ⟨by decide +kernel, rfl⟩
theorem dX5_of_16 : q_d cX5_of 16 17 (.iload_n 1) 1 := ⟨by decide +kernel, rfl⟩
theorem dX5_of_17 : q_d cX5_of 17 18 (.iload_n 2) 1 := ⟨by decide +kernel, rfl⟩
theorem dX5_of_18 : q_d cX5_of 18 21 (.invokevirtual 105) 3 := ⟨by decide +kernel, rfl⟩
theorem dX5_of_21 : q_j cX5_of 21 24 30 (fun o => .ifCond .eq o) := ⟨9, by decide +kernel, rfl, rfl⟩
theorem dX5_of_24 : q_d cX5_of 24 27 (.getstatic 102) 3 := ⟨by decide +kernel, rfl⟩
theorem dX5_of_27 : q_d cX5_of 27 28 (.iload_n 3) 1 := ⟨by decide +kernel, rfl⟩
theorem dX5_of_28 : q_d cX5_of 28 29 (.aaload) 1 := ⟨by decide +kernel, rfl⟩
theorem dX5_of_29 : q_d cX5_of 29 30 (.areturn) 1 := ⟨by decide +kernel, rfl⟩
theorem dX5_of_30 : q_d cX5_of 30 33 (.iinc 3 1) 3 := ⟨by decide +kernel, rfl⟩
theorem dX5_of_33 : q_j cX5_of 33 36 2 (fun o => .goto o) := ⟨(-31), by decide +kernel, rfl, rfl⟩
theorem dX5_of_36 : q_d cX5_of 36 37 (.aconst_null) 1 := ⟨by decide +kernel, rfl⟩
theorem dX5_of_37 : q_d cX5_of 37 38 (.areturn) 1 := ⟨by decide +kernel, rfl⟩
theorem dX5_stands_0 : q_d cX5_stands 0 1 (.iload_n 3) 1 := ⟨by decide +kernel, rfl⟩
theorem dX5_stands_1 : q_d cX5_stands 1 2 (.iload_n 2) 1 := ⟨by decide +kernel, rfl⟩
theorem dX5_stands_2 : q_d cX5_stands 2 3 (.isub) 1 := ⟨by decide +kernel, rfl⟩
theorem dX5_stands_3 : q_d cX5_stands 3 4 (.aload_n 0) 1 := ⟨by decide +kernel, rfl⟩
theorem dX5_stands_4 : q_d cX5_stands 4 7 (.getfield 94) 3 := ⟨by decide +kernel, rfl⟩
theorem dX5_stands_7 : q_d cX5_stands 7 10 (.invokevirtual 109) 3 := ⟨by decide +kernel, rfl⟩
theorem dX5_stands_10 : q_j cX5_stands 10 13 23 (fun o => .if_icmp .ne o) := ⟨13, by decide +kernel, rfl, rfl⟩
theorem dX5_stands_13 : q_d cX5_stands 13 14 (.iload_n 2) 1 := ⟨by decide +kernel, rfl⟩
theorem dX5_stands_14 : q_j cX5_stands 14 17 23 (fun o => .ifCond .lt o) := ⟨9, by decide +kernel, rfl, rfl⟩
theorem dX5_stands_17 : q_d cX5_stands 17 18 (.iload_n 3) 1 := ⟨by decide +kernel, rfl⟩
theorem dX5_stands_18 : q_d cX5_stands 18 19 (.aload_n 1) 1 := ⟨by decide +kernel, rfl⟩
theorem dX5_stands_19 : q_d cX5_stands 19 20 (.arraylength) 1 := ⟨by decide +kernel, rfl⟩
theorem dX5_stands_20 : q_j cX5_stands 20 23 25 (fun o => .if_icmp .le o) := ⟨5, by decide +kernel, rfl, rfl⟩
theorem dX5_stands_23 : q_d cX5_stands 23 24 (.iconst 0) 1 := ⟨by decide +kernel, rfl⟩
theorem dX5_stands_24 : q_d cX5_stands 24 25 (.ireturn) 1 := ⟨by decide +kernel, rfl⟩
theorem dX5_stands_25 : q_d cX5_stands 25 26 (.iconst 0) 1 := ⟨by decide +kernel, rfl⟩
theorem dX5_stands_26 : q_d cX5_stands 26 28 (.istore 4) 2 := ⟨by decide +kernel, rfl⟩
theorem dX5_stands_28 : q_d cX5_stands 28 30 (.iload 4) 2 := ⟨by decide +kernel, rfl⟩
theorem dX5_stands_30 : q_d cX5_stands 30 31 (.aload_n 0) 1 := ⟨by decide +kernel, rfl⟩
theorem dX5_stands_31 : q_d cX5_stands 31 34 (.getfield 94) 3 := ⟨by decide +kernel, rfl⟩
theorem dX5_stands_34 : q_d cX5_stands 34 37 (.invokevirtual 109) 3 := ⟨by decide +kernel, rfl⟩
theorem dX5_stands_37 : q_j cX5_stands 37 40 66 (fun o => .if_icmp .ge o) := ⟨29, by decide +kernel, rfl, rfl⟩
theorem dX5_stands_40 : q_d cX5_stands 40 41 (.aload_n 1) 1 := ⟨by decide +kernel, rfl⟩
theorem dX5_stands_41 : q_d cX5_stands 41 42 (.iload_n 2) 1 := ⟨by decide +kernel, rfl⟩
theorem dX5_stands_42 : q_d cX5_stands 42 44 (.iload 4) 2 := ⟨by decide +kernel, rfl⟩
theorem dX5_stands_44 : q_d cX5_stands 44 45 (.iadd) 1 := ⟨by decide +kernel, rfl⟩
theorem dX5_stands_45 : q_d cX5_stands 45 46 (.iaload) 1 := ⟨by decide +kernel, rfl⟩
theorem dX5_stands_46 : q_d cX5_stands 46 47 (.aload_n 0) 1 := ⟨by decide +kernel, rfl⟩
theorem dX5_stands_47 : q_d cX5_stands 47 50 (.getfield 94) 3 := ⟨by decide +kernel, rfl⟩
theorem dX5_stands_50 : q_d cX5_stands 50 52 (.iload 4) 2 := ⟨by decide +kernel, rfl⟩
theorem dX5_stands_52 : q_d cX5_stands 52 55 (.invokevirtual 115) 3 := ⟨by decide +kernel, rfl⟩
theorem dX5_stands_55 : q_j cX5_stands 55 58 60 (fun o => .if_icmp .eq o) := ⟨5, by decide +kernel, rfl, rfl⟩
theorem dX5_stands_58 : q_d cX5_stands 58 59 (.iconst 0) 1 := ⟨by decide +kernel, rfl⟩
theorem dX5_stands_59 : q_d cX5_stands 59 60 (.ireturn) 1 := ⟨by decide +kernel, rfl⟩
theorem dX5_stands_60 : q_d cX5_stands 60 63 (.iinc 4 1) 3 := ⟨by decide +kernel, rfl⟩
theorem dX5_stands_63 : q_j cX5_stands 63 66 28 (fun o => .goto o) := ⟨(-35), by decide +kernel, rfl, rfl⟩
theorem dX5_stands_66 : q_d cX5_stands 66 67 (.iconst 1) 1 := ⟨by decide +kernel, rfl⟩
theorem dX5_stands_67 : q_d cX5_stands 67 68 (.ireturn) 1 := ⟨by decide +kernel, rfl⟩
theorem dX6_init_0 : q_d cX6_init 0 1 (.aload_n 0) 1 := ⟨by decide +kernel, rfl⟩
theorem dX6_init_1 : q_d cX6_init 1 4 (.invokespecial 3) 3 := ⟨by decide +kernel, rfl⟩
theorem dX6_init_4 : q_d cX6_init 4 5 (.aload_n 0) 1 := ⟨by decide +kernel, rfl⟩
theorem dX6_init_5 : q_d cX6_init 5 8 (.new 9) 3 := ⟨by decide +kernel, rfl⟩
theorem dX6_init_8 : q_d cX6_init 8 9 (.dup) 1 := ⟨by decide +kernel, rfl⟩
theorem dX6_init_9 : q_d cX6_init 9 12 (.invokespecial 11) 3 := ⟨by decide +kernel, rfl⟩
theorem dX6_init_12 : q_d cX6_init 12 15 (.putfield 12) 3 := ⟨by decide +kernel, rfl⟩
theorem dX6_init_15 : q_d cX6_init 15 16 (.aload_n 0) 1 := ⟨by decide +kernel, rfl⟩
theorem dX6_init_16 : q_d cX6_init 16 18 (.bipush 12) 2 := ⟨by decide +kernel, rfl⟩
theorem dX6_init_18 : q_d cX6_init 18 21 (.anewarray 18) 3 := ⟨by decide +kernel, rfl⟩
theorem dX6_init_21 : q_d cX6_init 21 24 (.putfield 20) 3 := ⟨by decide +kernel, rfl⟩
theorem dX6_init_24 : q_d cX6_init 24 25 (.aload_n 0) 1 := ⟨by decide +kernel, rfl⟩
theorem dX6_init_25 : q_d cX6_init 25 27 (.bipush 12) 2 := ⟨by decide +kernel, rfl⟩
theorem dX6_init_27 : q_d cX6_init 27 28 (.iconst 5) 1 := ⟨by decide +kernel, rfl⟩
theorem dX6_init_28 : q_d cX6_init 28 32 (.multianewarray 24 2) 4 := ⟨by decide +kernel, rfl⟩
theorem dX6_init_32 : q_d cX6_init 32 35 (.putfield 26) 3 := ⟨by decide +kernel, rfl⟩
theorem dX6_init_35 : q_d cX6_init 35 36 (.aload_n 0) 1 := ⟨by decide +kernel, rfl⟩
