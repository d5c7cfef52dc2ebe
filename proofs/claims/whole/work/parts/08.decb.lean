theorem dX4_interestOf_39 : q_d cX4_interestOf 39 40 (.i2l) 1 := ⟨by decide +kernel, rfl⟩
theorem dX4_interestOf_40 : q_d cX4_interestOf 40 42 (.lstore 4) 2 := ⟨by decide +kernel, rfl⟩
theorem dX4_interestOf_42 : q_d cX4_interestOf 42 43 (.aload_n 1) 1 := ⟨by decide +kernel, rfl⟩
theorem dX4_interestOf_43 : q_d cX4_interestOf 43 46 (.getfield 125) 3 := ⟨by decide +kernel, rfl⟩
theorem dX4_interestOf_46 : q_d cX4_interestOf 46 47 (.i2l) 1 := ⟨by decide +kernel, rfl⟩
theorem dX4_interestOf_47 : q_d cX4_interestOf 47 48 (.aload_n 3) 1 := ⟨by decide +kernel, rfl⟩
theorem dX4_interestOf_48 : q_d cX4_interestOf 48 51 (.getfield 166) 3 := ⟨by decide +kernel, rfl⟩
theorem dX4_interestOf_51 : q_d cX4_interestOf 51 52 (.i2l) 1 := ⟨by decide +kernel, rfl⟩
theorem dX4_interestOf_52 : q_d cX4_interestOf 52 53 (.lmul) 1 := ⟨by decide +kernel, rfl⟩
theorem dX4_interestOf_53 : q_d cX4_interestOf 53 55 (.lload 4) 2 := ⟨by decide +kernel, rfl⟩
theorem dX4_interestOf_55 : q_d cX4_interestOf 55 56 (.lmul) 1 := ⟨by decide +kernel, rfl⟩
theorem dX4_interestOf_56 : q_d cX4_interestOf 56 59 (.ldc2_w 169) 3 := ⟨by decide +kernel, rfl⟩
theorem dX4_interestOf_59 : q_d cX4_interestOf 59 60 (.ldiv) 1 := ⟨by decide +kernel, rfl⟩
theorem dX4_interestOf_60 : q_d cX4_interestOf 60 61 (.lreturn) 1 := ⟨by decide +kernel, rfl⟩
theorem dX5_of_0 : q_d cX5_of 0 1 (.iconst 0) 1 := ⟨by decide +kernel, rfl⟩
theorem dX5_of_1 : q_d cX5_of 1 2 (.istore_n 3) 1 := ⟨by decide +kernel, rfl⟩
theorem dX5_of_2 : q_d cX5_of 2 3 (.iload_n 3) 1 := ⟨by decide +kernel, rfl⟩
theorem dX5_of_3 : q_d cX5_of 3 6 (.getstatic 102) 3 := ⟨by decide +kernel, rfl⟩
theorem dX5_of_6 : q_d cX5_of 6 7 (.arraylength) 1 := ⟨by decide +kernel, rfl⟩
theorem dX5_of_7 : q_j cX5_of 7 10 36 (fun o => .if_icmp .ge o) := ⟨29, by decide +kernel, rfl, rfl⟩
theorem dX5_of_10 : q_d cX5_of 10 13 (.getstatic 102) 3 := ⟨by decide +kernel, rfl⟩
theorem dX5_of_13 : q_d cX5_of 13 14 (.iload_n 3) 1 := ⟨by decide +kernel, rfl⟩
theorem dX5_of_14 : q_d cX5_of 14 15 (.aaload) 1 := ⟨by decide +kernel, rfl⟩
theorem dX5_of_15 : q_d cX5_of 15 16 (.aload_n 0) 1 := ⟨by decide +kernel, rfl⟩
theorem dX5_of_16 : q_d cX5_of 16 17 (.iload_n 1) 1 := ⟨by decide +kernel, rfl⟩
theorem dX5_of_17 : q_d cX5_of 17 18 (.iload_n 2) 1 := ⟨by decide +kernel, rfl⟩
theorem dX5_of_18 : q_d cX5_of 18 21 (.invokevirtual 105) 3 := ⟨by decide +kernel, rfl⟩
theorem dX5_of_21 : q_j cX5_of 21 24 30 (fun o => .ifCond .eq o) := ⟨9, by decide +kernel, rfl, rfl⟩
theorem dX5_of_24 : q_d cX5_of 24 27 (.getstatic 102) 3 := ⟨by decide +kernel, rfl⟩
theorem dX5_of_27 : q_d cX5_of 27 28 (.iload_n 3) 1 := ⟨by decide +kernel, rfl⟩
theorem dX5_of_28 : q_d cX5_of 28 29 (.aaload) 1 := ⟨by decide +kernel, rfl⟩
theorem dX5_of_29 : q_d cX5_of 29 30 (.areturn) 1 := ⟨by decide +kernel, rfl⟩
theorem dX5_of_30 : q_d cX5_of 30 33 (.iinc 3 1) 3 := ⟨by decide +kernel, rfl⟩
theorem dX5_of_33 : q_j cX5_of 33 36 2 (fun o => .goto o) := ⟨(-31), by decide +kernel, rfl, rfl⟩
theorem dX5_of_36 : q_d cX5_of 36 37 (.aconst_null) 1 := ⟨by decide +kernel, rfl⟩
theorem dX5_of_37 : q_d cX5_of 37 38 (.areturn) 1 := ⟨by decide +kernel, rfl⟩
theorem dX5_stands_0 : q_d cX5_stands 0 1 (.iload_n 3) 1 := ⟨by decide +kernel, rfl⟩
theorem dX5_stands_1 : q_d cX5_stands 1 2 (.iload_n 2) 1 := ⟨by decide +kernel, rfl⟩
theorem dX5_stands_2 : q_d cX5_stands 2 3 (.isub) 1 := ⟨by decide +kernel, rfl⟩
theorem dX5_stands_3 : q_d cX5_stands 3 4 (.aload_n 0) 1 := ⟨by decide +kernel, rfl⟩
theorem dX5_stands_4 : q_d cX5_stands 4 7 (.getfield 94) 3 := ⟨by decide +kernel, rfl⟩
theorem dX5_stands_7 : q_d cX5_stands 7 10 (.invokevirtual 109) 3 := ⟨by decide +kernel, rfl⟩
theorem dX5_stands_10 : q_j cX5_stands 10 13 23 (fun o => .if_icmp .ne o) := ⟨13, by decide +kernel, rfl, rfl⟩
theorem dX5_stands_13 : q_d cX5_stands 13 14 (.iload_n 2) 1 := ⟨by decide +kernel, rfl⟩
theorem dX5_stands_14 : q_j cX5_stands 14 17 23 (fun o => .ifCond .lt o) := ⟨9, by decide +kernel, rfl, rfl⟩
theorem dX5_stands_17 : q_d cX5_stands 17 18 (.iload_n 3) 1 := ⟨by decide +kernel, rfl⟩
theorem dX5_stands_18 : q_d cX5_stands 18 19 (.aload_n 1) 1 := ⟨by decide +kernel, rfl⟩
theorem dX5_stands_19 : q_d cX5_stands 19 20 (.arraylength) 1 := ⟨by decide +kernel, rfl⟩
theorem dX5_stands_20 : q_j cX5_stands 20 23 25 (fun o => .if_icmp .le o) := ⟨5, by decide +kernel, rfl, rfl⟩
theorem dX5_stands_23 : q_d cX5_stands 23 24 (.iconst 0) 1 := ⟨by decide +kernel, rfl⟩
theorem dX5_stands_24 : q_d cX5_stands 24 25 (.ireturn) 1 := ⟨by decide +kernel, rfl⟩
theorem dX5_stands_25 : q_d cX5_stands 25 26 (.iconst 0) 1 := ⟨by decide +kernel, rfl⟩
theorem dX5_stands_26 : q_d cX5_stands 26 28 (.istore 4) 2 := ⟨by decide +kernel, rfl⟩
theorem dX5_stands_28 : q_d cX5_stands 28 30 (.iload 4) 2 := ⟨by decide +kernel, rfl⟩
theorem dX5_stands_30 : q_d cX5_stands 30 31 (.aload_n 0) 1 := ⟨by decide +kernel, rfl⟩
theorem dX5_stands_31 : q_d cX5_stands 31 34 (.getfield 94) 3 := ⟨by decide +kernel, rfl⟩
theorem dX5_stands_34 : q_d cX5_stands 34 37 (.invokevirtual 109) 3 := ⟨by decide +kernel, rfl⟩
theorem dX5_stands_37 : q_j cX5_stands 37 40 66 (fun o => .if_icmp .ge o) := ⟨29, by decide +kernel, rfl, rfl⟩
theorem dX5_stands_40 : q_d cX5_stands 40 41 (.aload_n 1) 1 := ⟨by decide +kernel, rfl⟩
theorem dX5_stands_41 : q_d cX5_stands 41 42 (.iload_n 2) 1 := ⟨by decide +kernel, rfl⟩
theorem dX5_stands_42 : q_d cX5_stands 42 44 (.iload 4) 2 := ⟨by decide +kernel, rfl⟩
theorem dX5_stands_44 : q_d cX5_stands 44 45 (.iadd) 1 := ⟨by decide +kernel, rfl⟩
theorem dX5_stands_45 : q_d cX5_stands 45 46 (.iaload) 1 := ⟨by decide +kernel, rfl⟩
theorem dX5_stands_46 : q_d cX5_stands 46 47 (.aload_n 0) 1 := ⟨by decide +kernel, rfl⟩
theorem dX5_stands_47 : q_d cX5_stands 47 50 (.getfield 94) 3 := ⟨by decide +kernel, rfl⟩
theorem dX5_stands_50 : q_d cX5_stands 50 52 (.iload 4) 2 := ⟨by decide +kernel, rfl⟩
theorem dX5_stands_52 : q_d cX5_stands 52 55 (.invokevirtual 115) 3 := ⟨by decide +kernel, rfl⟩
theorem dX5_stands_55 : q_j cX5_stands 55 58 60 (fun o => .if_icmp .eq o) := ⟨5, by decide +kernel, rfl, rfl⟩
theorem dX5_stands_58 : q_d cX5_stands 58 59 (.iconst 0) 1 := ⟨by decide +kernel, rfl⟩
theorem dX5_stands_59 : q_d cX5_stands 59 60 (.ireturn) 1 := ⟨by decide +kernel, rfl⟩
theorem dX5_stands_60 : q_d cX5_stands 60 63 (.iinc 4 1) 3 := ⟨by decide +kernel, rfl⟩
theorem dX5_stands_63 : q_j cX5_stands 63 66 28 (fun o => .goto o) := ⟨(-35), by decide +kernel, rfl, rfl⟩
theorem dX5_stands_66 : q_d cX5_stands 66 67 (.iconst 1) 1 := ⟨by decide +kernel, rfl⟩
theorem dX5_stands_67 : q_d cX5_stands 67 68 (.ireturn) 1 := ⟨by decide +kernel, rfl⟩
theorem dX6_init_0 : q_d cX6_init 0 1 (.aload_n 0) 1 := ⟨by decide +kernel, rfl⟩
theorem dX6_init_1 : q_d cX6_init 1 4 (.invokespecial 3) 3 := ⟨by decide +kernel, rfl⟩
theorem dX6_init_4 : q_d cX6_init 4 5 (.aload_n 0) 1 := ⟨by decide +kernel, rfl⟩
theorem dX6_init_5 : q_d cX6_init 5 8 (.new 9) 3 := ⟨by decide +kernel, rfl⟩
theorem dX6_init_8 : q_d cX6_init 8 9 (.dup) 1 := ⟨by decide +kernel, rfl⟩
theorem dX6_init_9 : q_d cX6_init 9 12 (.invokespecial 11) 3 := ⟨by decide +kernel, rfl⟩
theorem dX6_init_12 : q_d cX6_init 12 15 (.putfield 12) 3 := ⟨by decide +kernel, rfl⟩
theorem dX6_init_15 : q_d cX6_init 15 16 (.aload_n 0) 1 := ⟨by decide +kernel, rfl⟩
theorem dX6_init_16 : q_d cX6_init 16 18 (.bipush 12) 2 := ⟨by decide +kernel, rfl⟩
theorem dX6_init_18 : q_d cX6_init 18 21 (.anewarray 18) 3 := ⟨by decide +kernel, rfl⟩
theorem dX6_init_21 : q_d cX6_init 21 24 (.putfield 20) 3 := ⟨by decide +kernel, rfl⟩
theorem dX6_init_24 : q_d cX6_init 24 25 (.aload_n 0) 1 := ⟨by decide +kernel, rfl⟩
theorem dX6_init_25 : q_d cX6_init 25 27 (.bipush 12) 2 := ⟨by decide +kernel, rfl⟩
theorem dX6_init_27 : q_d cX6_init 27 28 (.iconst 5) 1 := ⟨by decide +kernel, rfl⟩
theorem dX6_init_28 : q_d cX6_init 28 32 (.multianewarray 24 2) 4 := ⟨by decide +kernel, rfl⟩
theorem dX6_init_32 : q_d cX6_init 32 35 (.putfield 26) 3 := ⟨by decide +kernel, rfl⟩
theorem dX6_init_35 : q_d cX6_init 35 36 (.aload_n 0) 1 := ⟨by decide +kernel, rfl⟩
theorem dX6_init_36 : q_d cX6_init 36 37 (.iconst 5) 1 := ⟨by decide +kernel, rfl⟩
theorem dX6_init_37 : q_d cX6_init 37 39 (.newarray .long) 2 := ⟨by decide +kernel, rfl⟩
theorem dX6_init_39 : q_d cX6_init 39 42 (.putfield 29) 3 := ⟨by decide +kernel, rfl⟩
theorem dX6_init_42 : q_d cX6_init 42 43 (.aload_n 0) 1 := ⟨by decide +kernel, rfl⟩
theorem dX6_init_43 : q_d cX6_init 43 44 (.iconst 5) 1 := ⟨by decide +kernel, rfl⟩
theorem dX6_init_44 : q_d cX6_init 44 46 (.newarray .long) 2 := ⟨by decide +kernel, rfl⟩
theorem dX6_init_46 : q_d cX6_init 46 49 (.putfield 33) 3 := ⟨by decide +kernel, rfl⟩
theorem dX6_init_49 : q_d cX6_init 49 50 (.iconst 0) 1 := ⟨by decide +kernel, rfl⟩
theorem dX6_init_50 : q_d cX6_init 50 51 (.istore_n 1) 1 := ⟨by decide +kernel, rfl⟩
theorem dX6_init_51 : q_d cX6_init 51 52 (.iload_n 1) 1 := ⟨by decide +kernel, rfl⟩
theorem dX6_init_52 : q_d cX6_init 52 54 (.bipush 12) 2 := ⟨by decide +kernel, rfl⟩
theorem dX6_init_54 : q_j cX6_init 54 57 76 (fun o => .if_icmp .ge o) := ⟨22, by decide +kernel, rfl, rfl⟩
theorem dX6_init_57 : q_d cX6_init 57 58 (.aload_n 0) 1 := ⟨by decide +kernel, rfl⟩
theorem dX6_init_58 : q_d cX6_init 58 61 (.getfield 20) 3 := ⟨by decide +kernel, rfl⟩
theorem dX6_init_61 : q_d cX6_init 61 62 (.iload_n 1) 1 := ⟨by decide +kernel, rfl⟩
theorem dX6_init_62 : q_d cX6_init 62 65 (.new 18) 3 := ⟨by decide +kernel, rfl⟩
theorem dX6_init_65 : q_d cX6_init 65 66 (.dup) 1 := ⟨by decide +kernel, rfl⟩
theorem dX6_init_66 : q_d cX6_init 66 69 (.invokespecial 36) 3 := ⟨by decide +kernel, rfl⟩
theorem dX6_init_69 : q_d cX6_init 69 70 (.aastore) 1 := ⟨by decide +kernel, rfl⟩
theorem dX6_init_70 : q_d cX6_init 70 73 (.iinc 1 1) 3 := ⟨by decide +kernel, rfl⟩
theorem dX6_init_73 : q_j cX6_init 73 76 51 (fun o => .goto o) := ⟨(-22), by decide +kernel, rfl, rfl⟩
theorem dX6_init_76 : q_d cX6_init 76 77 (.return_) 1 := ⟨by decide +kernel, rfl⟩
theorem dX6_begin_0 : q_d cX6_begin 0 1 (.aload_n 0) 1 := ⟨by decide +kernel, rfl⟩
theorem dX6_begin_1 : q_d cX6_begin 1 4 (.getfield 12) 3 := ⟨by decide +kernel, rfl⟩
theorem dX6_begin_4 : q_d cX6_begin 4 5 (.aload_n 1) 1 := ⟨by decide +kernel, rfl⟩
theorem dX6_begin_5 : q_d cX6_begin 5 8 (.invokevirtual 37) 3 := ⟨by decide +kernel, rfl⟩
theorem dX6_begin_8 : q_d cX6_begin 8 9 (.aload_n 0) 1 := ⟨by decide +kernel, rfl⟩
theorem dX6_begin_9 : q_d cX6_begin 9 10 (.iconst 0) 1 := ⟨by decide +kernel, rfl⟩
theorem dX6_begin_10 : q_d cX6_begin 10 13 (.putfield 41) 3 := ⟨by decide +kernel, rfl⟩
theorem dX6_begin_13 : q_d cX6_begin 13 14 (.aload_n 0) 1 := ⟨by decide +kernel, rfl⟩
theorem dX6_begin_14 : q_d cX6_begin 14 15 (.iconst 0) 1 := ⟨by decide +kernel, rfl⟩
theorem dX6_begin_15 : q_d cX6_begin 15 18 (.putfield 45) 3 := ⟨by decide +kernel, rfl⟩
theorem dX6_begin_18 : q_d cX6_begin 18 19 (.aload_n 0) 1 := ⟨by decide +kernel, rfl⟩
theorem dX6_begin_19 : q_d cX6_begin 19 20 (.iconst 0) 1 := ⟨by decide +kernel, rfl⟩
theorem dX6_begin_20 : q_d cX6_begin 20 23 (.putfield 48) 3 := ⟨by decide +kernel, rfl⟩
theorem dX6_begin_23 : q_d cX6_begin 23 24 (.iconst 0) 1 := ⟨by decide +kernel, rfl⟩
theorem dX6_begin_24 : q_d cX6_begin 24 25 (.istore_n 2) 1 := ⟨by decide +kernel, rfl⟩
theorem dX6_begin_25 : q_d cX6_begin 25 26 (.iload_n 2) 1 := ⟨by decide +kernel, rfl⟩
theorem dX6_begin_26 : q_d cX6_begin 26 27 (.iconst 5) 1 := ⟨by decide +kernel, rfl⟩
theorem dX6_begin_27 : q_j cX6_begin 27 30 50 (fun o => .if_icmp .ge o) := ⟨23, by decide +kernel, rfl, rfl⟩
theorem dX6_begin_30 : q_d cX6_begin 30 31 (.aload_n 0) 1 := ⟨by decide +kernel, rfl⟩
theorem dX6_begin_31 : q_d cX6_begin 31 34 (.getfield 29) 3 := ⟨by decide +kernel, rfl⟩
theorem dX6_begin_34 : q_d cX6_begin 34 35 (.iload_n 2) 1 := ⟨by decide +kernel, rfl⟩
theorem dX6_begin_35 : q_d cX6_begin 35 36 (.lconst 0) 1 := ⟨by decide +kernel, rfl⟩
theorem dX6_begin_36 : q_d cX6_begin 36 37 (.lastore) 1 := ⟨by decide +kernel, rfl⟩
theorem dX6_begin_37 : q_d cX6_begin 37 38 (.aload_n 0) 1 := ⟨by decide +kernel, rfl⟩
theorem dX6_begin_38 : q_d cX6_begin 38 41 (.getfield 33) 3 := ⟨by decide +kernel, rfl⟩
theorem dX6_begin_41 : q_d cX6_begin 41 42 (.iload_n 2) 1 := ⟨by decide +kernel, rfl⟩
theorem dX6_begin_42 : q_d cX6_begin 42 43 (.lconst 0) 1 := ⟨by decide +kernel, rfl⟩
theorem dX6_begin_43 : q_d cX6_begin 43 44 (.lastore) 1 := ⟨by decide +kernel, rfl⟩
theorem dX6_begin_44 : q_d cX6_begin 44 47 (.iinc 2 1) 3 := ⟨by decide +kernel, rfl⟩
theorem dX6_begin_47 : q_j cX6_begin 47 50 25 (fun o => .goto o) := ⟨(-22), by decide +kernel, rfl, rfl⟩
theorem dX6_begin_50 : q_d cX6_begin 50 51 (.return_) 1 := ⟨by decide +kernel, rfl⟩
theorem dX6_copyFrom_0 : q_d cX6_copyFrom 0 1 (.aload_n 0) 1 := ⟨by decide +kernel, rfl⟩
theorem dX6_copyFrom_1 : q_d cX6_copyFrom 1 4 (.getfield 12) 3 := ⟨by decide +kernel, rfl⟩
theorem dX6_copyFrom_4 : q_d cX6_copyFrom 4 5 (.aload_n 1) 1 := ⟨by decide +kernel, rfl⟩
theorem dX6_copyFrom_5 : q_d cX6_copyFrom 5 8 (.getfield 12) 3 := ⟨by decide +kernel, rfl⟩
theorem dX6_copyFrom_8 : q_d cX6_copyFrom 8 11 (.invokevirtual 37) 3 := ⟨by decide +kernel, rfl⟩
theorem dX6_copyFrom_11 : q_d cX6_copyFrom 11 12 (.iconst 0) 1 := ⟨by decide +kernel, rfl⟩
theorem dX6_copyFrom_12 : q_d cX6_copyFrom 12 13 (.istore_n 2) 1 := ⟨by decide +kernel, rfl⟩
theorem dX6_copyFrom_13 : q_d cX6_copyFrom 13 14 (.iload_n 2) 1 := ⟨by decide +kernel, rfl⟩
theorem dX6_copyFrom_14 : q_d cX6_copyFrom 14 15 (.aload_n 1) 1 := ⟨by decide +kernel, rfl⟩
theorem dX6_copyFrom_15 : q_d cX6_copyFrom 15 18 (.getfield 41) 3 := ⟨by decide +kernel, rfl⟩
theorem dX6_copyFrom_18 : q_j cX6_copyFrom 18 21 48 (fun o => .if_icmp .ge o) := ⟨30, by decide +kernel, rfl, rfl⟩
theorem dX6_copyFrom_21 : q_d cX6_copyFrom 21 22 (.iload_n 2) 1 := ⟨by decide +kernel, rfl⟩
theorem dX6_copyFrom_22 : q_d cX6_copyFrom 22 24 (.bipush 12) 2 := ⟨by decide +kernel, rfl⟩
theorem dX6_copyFrom_24 : q_j cX6_copyFrom 24 27 48 (fun o => .if_icmp .ge o) := ⟨24, by decide +kernel, rfl, rfl⟩
theorem dX6_copyFrom_27 : q_d cX6_copyFrom 27 28 (.aload_n 0) 1 := ⟨by decide +kernel, rfl⟩
theorem dX6_copyFrom_28 : q_d cX6_copyFrom 28 31 (.getfield 20) 3 := ⟨by decide +kernel, rfl⟩
theorem dX6_copyFrom_31 : q_d cX6_copyFrom 31 32 (.iload_n 2) 1 := ⟨by decide +kernel, rfl⟩
theorem dX6_copyFrom_32 : q_d cX6_copyFrom 32 33 (.aaload) 1 := ⟨by decide +kernel, rfl⟩
theorem dX6_copyFrom_33 : q_d cX6_copyFrom 33 34 (.aload_n 1) 1 := ⟨by decide +kernel, rfl⟩
theorem dX6_copyFrom_34 : q_d cX6_copyFrom 34 37 (.getfield 20) 3 := ⟨by decide +kernel, rfl⟩
theorem dX6_copyFrom_37 : q_d cX6_copyFrom 37 38 (.iload_n 2) 1 := ⟨by decide +kernel, rfl⟩
theorem dX6_copyFrom_38 : q_d cX6_copyFrom 38 39 (.aaload) 1 := ⟨by decide +kernel, rfl⟩
theorem dX6_copyFrom_39 : q_d cX6_copyFrom 39 42 (.invokevirtual 51) 3 := ⟨by decide +kernel, rfl⟩
theorem dX6_copyFrom_42 : q_d cX6_copyFrom 42 45 (.iinc 2 1) 3 := ⟨by decide +kernel, rfl⟩
theorem dX6_copyFrom_45 : q_j cX6_copyFrom 45 48 13 (fun o => .goto o) := ⟨(-32), by decide +kernel, rfl, rfl⟩
theorem dX6_copyFrom_48 : q_d cX6_copyFrom 48 49 (.iconst 0) 1 := ⟨by decide +kernel, rfl⟩
theorem dX6_copyFrom_49 : q_d cX6_copyFrom 49 50 (.istore_n 2) 1 := ⟨by decide +kernel, rfl⟩
theorem dX6_copyFrom_50 : q_d cX6_copyFrom 50 51 (.iload_n 2) 1 := ⟨by decide +kernel, rfl⟩
theorem dX6_copyFrom_51 : q_d cX6_copyFrom 51 52 (.aload_n 1) 1 := ⟨by decide +kernel, rfl⟩
theorem dX6_copyFrom_52 : q_d cX6_copyFrom 52 55 (.getfield 48) 3 := ⟨by decide +kernel, rfl⟩
theorem dX6_copyFrom_55 : q_j cX6_copyFrom 55 58 88 (fun o => .if_icmp .ge o) := ⟨33, by decide +kernel, rfl, rfl⟩
theorem dX6_copyFrom_58 : q_d cX6_copyFrom 58 59 (.iload_n 2) 1 := ⟨by decide +kernel, rfl⟩
theorem dX6_copyFrom_59 : q_d cX6_copyFrom 59 61 (.bipush 12) 2 := ⟨by decide +kernel, rfl⟩
theorem dX6_copyFrom_61 : q_j cX6_copyFrom 61 64 88 (fun o => .if_icmp .ge o) := ⟨27, by decide +kernel, rfl, rfl⟩
theorem dX6_copyFrom_64 : q_d cX6_copyFrom 64 65 (.aload_n 1) 1 := ⟨by decide +kernel, rfl⟩
theorem dX6_copyFrom_65 : q_d cX6_copyFrom 65 68 (.getfield 26) 3 := ⟨by decide +kernel, rfl⟩
theorem dX6_copyFrom_68 : q_d cX6_copyFrom 68 69 (.iload_n 2) 1 := ⟨by decide +kernel, rfl⟩
theorem dX6_copyFrom_69 : q_d cX6_copyFrom 69 70 (.aaload) 1 := ⟨by decide +kernel, rfl⟩
theorem dX6_copyFrom_70 : q_d cX6_copyFrom 70 71 (.iconst 0) 1 := ⟨by decide +kernel, rfl⟩
theorem dX6_copyFrom_71 : q_d cX6_copyFrom 71 72 (.aload_n 0) 1 := ⟨by decide +kernel, rfl⟩
theorem dX6_copyFrom_72 : q_d cX6_copyFrom 72 75 (.getfield 26) 3 := ⟨by decide +kernel, rfl⟩
theorem dX6_copyFrom_75 : q_d cX6_copyFrom 75 76 (.iload_n 2) 1 := ⟨by decide +kernel, rfl⟩
theorem dX6_copyFrom_76 : q_d cX6_copyFrom 76 77 (.aaload) 1 := ⟨by decide +kernel, rfl⟩
theorem dX6_copyFrom_77 : q_d cX6_copyFrom 77 78 (.iconst 0) 1 := ⟨by decide +kernel, rfl⟩
theorem dX6_copyFrom_78 : q_d cX6_copyFrom 78 79 (.iconst 5) 1 := ⟨by decide +kernel, rfl⟩
theorem dX6_copyFrom_79 : q_d cX6_copyFrom 79 82 (.invokestatic 54) 3 := ⟨by decide +kernel, rfl⟩
theorem dX6_copyFrom_82 : q_d cX6_copyFrom 82 85 (.iinc 2 1) 3 := ⟨by decide +kernel, rfl⟩
theorem dX6_copyFrom_85 : q_j cX6_copyFrom 85 88 50 (fun o => .goto o) := ⟨(-35), by decide +kernel, rfl, rfl⟩
theorem dX6_copyFrom_88 : q_d cX6_copyFrom 88 89 (.aload_n 0) 1 := ⟨by decide +kernel, rfl⟩
theorem dX6_copyFrom_89 : q_d cX6_copyFrom 89 90 (.aload_n 1) 1 := ⟨by decide +kernel, rfl⟩
theorem dX6_copyFrom_90 : q_d cX6_copyFrom 90 93 (.getfield 41) 3 := ⟨by decide +kernel, rfl⟩
theorem dX6_copyFrom_93 : q_d cX6_copyFrom 93 96 (.putfield 41) 3 := ⟨by decide +kernel, rfl⟩
theorem dX6_copyFrom_96 : q_d cX6_copyFrom 96 97 (.aload_n 0) 1 := ⟨by decide +kernel, rfl⟩
theorem dX6_copyFrom_97 : q_d cX6_copyFrom 97 98 (.aload_n 1) 1 := ⟨by decide +kernel, rfl⟩
theorem dX6_copyFrom_98 : q_d cX6_copyFrom 98 101 (.getfield 45) 3 := ⟨by decide +kernel, rfl⟩
theorem dX6_copyFrom_101 : q_d cX6_copyFrom 101 104 (.putfield 45) 3 := ⟨by decide +kernel, rfl⟩
theorem dX6_copyFrom_104 : q_d cX6_copyFrom 104 105 (.aload_n 0) 1 := ⟨by decide +kernel, rfl⟩
theorem dX6_copyFrom_105 : q_d cX6_copyFrom 105 106 (.aload_n 1) 1 := ⟨by decide +kernel, rfl⟩
theorem dX6_copyFrom_106 : q_d cX6_copyFrom 106 109 (.getfield 48) 3 := ⟨by decide +kernel, rfl⟩
theorem dX6_copyFrom_109 : q_d cX6_copyFrom 109 112 (.putfield 48) 3 := ⟨by decide +kernel, rfl⟩
theorem dX6_copyFrom_112 : q_d cX6_copyFrom 112 113 (.aload_n 1) 1 := ⟨by decide +kernel, rfl⟩
theorem dX6_copyFrom_113 : q_d cX6_copyFrom 113 116 (.getfield 29) 3 := ⟨by decide +kernel, rfl⟩
theorem dX6_copyFrom_116 : q_d cX6_copyFrom 116 117 (.iconst 0) 1 := ⟨by decide +kernel, rfl⟩
theorem dX6_copyFrom_117 : q_d cX6_copyFrom 117 118 (.aload_n 0) 1 := ⟨by decide +kernel, rfl⟩
theorem dX6_copyFrom_118 : q_d cX6_copyFrom 118 121 (.getfield 29) 3 := ⟨by decide +kernel, rfl⟩
theorem dX6_copyFrom_121 : q_d cX6_copyFrom 121 122 (.iconst 0) 1 := ⟨by decide +kernel, rfl⟩
theorem dX6_copyFrom_122 : q_d cX6_copyFrom 122 123 (.iconst 5) 1 := ⟨by decide +kernel, rfl⟩
theorem dX6_copyFrom_123 : q_d cX6_copyFrom 123 126 (.invokestatic 54) 3 := ⟨by decide +kernel, rfl⟩
theorem dX6_copyFrom_126 : q_d cX6_copyFrom 126 127 (.aload_n 1) 1 := ⟨by decide +kernel, rfl⟩
theorem dX6_copyFrom_127 : q_d cX6_copyFrom 127 130 (.getfield 33) 3 := ⟨by decide +kernel, rfl⟩
theorem dX6_copyFrom_130 : q_d cX6_copyFrom 130 131 (.iconst 0) 1 := ⟨by decide +kernel, rfl⟩
theorem dX6_copyFrom_131 : q_d cX6_copyFrom 131 132 (.aload_n 0) 1 := ⟨by decide +kernel, rfl⟩
theorem dX6_copyFrom_132 : q_d cX6_copyFrom 132 135 (.getfield 33) 3 := ⟨by decide +kernel, rfl⟩
theorem dX6_copyFrom_135 : q_d cX6_copyFrom 135 136 (.iconst 0) 1 := ⟨by decide +kernel, rfl⟩
theorem dX6_copyFrom_136 : q_d cX6_copyFrom 136 137 (.iconst 5) 1 := ⟨by decide +kernel, rfl⟩
theorem dX6_copyFrom_137 : q_d cX6_copyFrom 137 140 (.invokestatic 54) 3 := ⟨by decide +kernel, rfl⟩
theorem dX6_copyFrom_140 : q_d cX6_copyFrom 140 141 (.return_) 1 := ⟨by decide +kernel, rfl⟩
theorem dX6_hasAccount_0 : q_d cX6_hasAccount 0 1 (.iload_n 1) 1 := ⟨by decide +kernel, rfl⟩
theorem dX6_hasAccount_1 : q_j cX6_hasAccount 1 4 22 (fun o => .ifCond .lt o) := ⟨21, by decide +kernel, rfl, rfl⟩
theorem dX6_hasAccount_4 : q_d cX6_hasAccount 4 5 (.iload_n 1) 1 := ⟨by decide +kernel, rfl⟩
theorem dX6_hasAccount_5 : q_d cX6_hasAccount 5 6 (.aload_n 0) 1 := ⟨by decide +kernel, rfl⟩
theorem dX6_hasAccount_6 : q_d cX6_hasAccount 6 9 (.getfield 41) 3 := ⟨by decide +kernel, rfl⟩
theorem dX6_hasAccount_9 : q_j cX6_hasAccount 9 12 22 (fun o => .if_icmp .ge o) := ⟨13, by decide +kernel, rfl, rfl⟩
theorem dX6_hasAccount_12 : q_d cX6_hasAccount 12 13 (.iload_n 1) 1 := ⟨by decide +kernel, rfl⟩
theorem dX6_hasAccount_13 : q_d cX6_hasAccount 13 15 (.bipush 12) 2 := ⟨by decide +kernel, rfl⟩
theorem dX6_hasAccount_15 : q_j cX6_hasAccount 15 18 22 (fun o => .if_icmp .ge o) := ⟨7, by decide +kernel, rfl, rfl⟩
theorem dX6_hasAccount_18 : q_d cX6_hasAccount 18 19 (.iconst 1) 1 := ⟨by decide +kernel, rfl⟩
theorem dX6_hasAccount_19 : q_j cX6_hasAccount 19 22 23 (fun o => .goto o) := ⟨4, by decide +kernel, rfl, rfl⟩
theorem dX6_hasAccount_22 : q_d cX6_hasAccount 22 23 (.iconst 0) 1 := ⟨by decide +kernel, rfl⟩
theorem dX6_hasAccount_23 : q_d cX6_hasAccount 23 24 (.ireturn) 1 := ⟨by decide +kernel, rfl⟩
theorem dX6_hasRow_0 : q_d cX6_hasRow 0 1 (.iload_n 1) 1 := ⟨by decide +kernel, rfl⟩
theorem dX6_hasRow_1 : q_j cX6_hasRow 1 4 22 (fun o => .ifCond .lt o) := ⟨21, by decide +kernel, rfl, rfl⟩
theorem dX6_hasRow_4 : q_d cX6_hasRow 4 5 (.iload_n 1) 1 := ⟨by decide +kernel, rfl⟩
theorem dX6_hasRow_5 : q_d cX6_hasRow 5 6 (.aload_n 0) 1 := ⟨by decide +kernel, rfl⟩
theorem dX6_hasRow_6 : q_d cX6_hasRow 6 9 (.getfield 48) 3 := ⟨by decide +kernel, rfl⟩
theorem dX6_hasRow_9 : q_j cX6_hasRow 9 12 22 (fun o => .if_icmp .ge o) := ⟨13, by decide +kernel, rfl, rfl⟩
theorem dX6_hasRow_12 : q_d cX6_hasRow 12 13 (.iload_n 1) 1 := ⟨by decide +kernel, rfl⟩
theorem dX6_hasRow_13 : q_d cX6_hasRow 13 15 (.bipush 12) 2 := ⟨by decide +kernel, rfl⟩
theorem dX6_hasRow_15 : q_j cX6_hasRow 15 18 22 (fun o => .if_icmp .ge o) := ⟨7, by decide +kernel, rfl, rfl⟩
theorem dX6_hasRow_18 : q_d cX6_hasRow 18 19 (.iconst 1) 1 := ⟨by decide +kernel, rfl⟩
theorem dX6_hasRow_19 : q_j cX6_hasRow 19 22 23 (fun o => .goto o) := ⟨4, by decide +kernel, rfl, rfl⟩
theorem dX6_hasRow_22 : q_d cX6_hasRow 22 23 (.iconst 0) 1 := ⟨by decide +kernel, rfl⟩
theorem dX6_hasRow_23 : q_d cX6_hasRow 23 24 (.ireturn) 1 := ⟨by decide +kernel, rfl⟩
theorem dX6_goMonth_0 : q_d cX6_goMonth 0 1 (.iconst 0) 1 := ⟨by decide +kernel, rfl⟩
theorem dX6_goMonth_1 : q_d cX6_goMonth 1 2 (.istore_n 1) 1 := ⟨by decide +kernel, rfl⟩
theorem dX6_goMonth_2 : q_d cX6_goMonth 2 3 (.aload_n 0) 1 := ⟨by decide +kernel, rfl⟩
theorem dX6_goMonth_3 : q_d cX6_goMonth 3 4 (.dup) 1 := ⟨by decide +kernel, rfl⟩
theorem dX6_goMonth_4 : q_d cX6_goMonth 4 7 (.getfield 45) 3 := ⟨by decide +kernel, rfl⟩
theorem dX6_goMonth_7 : q_d cX6_goMonth 7 8 (.iconst 1) 1 := ⟨by decide +kernel, rfl⟩
theorem dX6_goMonth_8 : q_d cX6_goMonth 8 9 (.iadd) 1 := ⟨by decide +kernel, rfl⟩
theorem dX6_goMonth_9 : q_d cX6_goMonth 9 12 (.putfield 45) 3 := ⟨by decide +kernel, rfl⟩
theorem dX6_goMonth_12 : q_d cX6_goMonth 12 13 (.iconst 0) 1 := ⟨by decide +kernel, rfl⟩
theorem dX6_goMonth_13 : q_d cX6_goMonth 13 14 (.istore_n 2) 1 := ⟨by decide +kernel, rfl⟩
theorem dX6_goMonth_14 : q_d cX6_goMonth 14 15 (.iload_n 2) 1 := ⟨by decide +kernel, rfl⟩
theorem dX6_goMonth_15 : q_d cX6_goMonth 15 16 (.aload_n 0) 1 := ⟨by decide +kernel, rfl⟩
theorem dX6_goMonth_16 : q_d cX6_goMonth 16 19 (.getfield 41) 3 := ⟨by decide +kernel, rfl⟩
theorem dX6_goMonth_19 : q_j cX6_goMonth 19 22 77 (fun o => .if_icmp .ge o) := ⟨58, by decide +kernel, rfl, rfl⟩
theorem dX6_goMonth_22 : q_d cX6_goMonth 22 23 (.iload_n 2) 1 := ⟨by decide +kernel, rfl⟩
theorem dX6_goMonth_23 : q_d cX6_goMonth 23 25 (.bipush 12) 2 := ⟨by decide +kernel, rfl⟩
theorem dX6_goMonth_25 : q_j cX6_goMonth 25 28 77 (fun o => .if_icmp .ge o) := ⟨52, by decide +kernel, rfl, rfl⟩
theorem dX6_goMonth_28 : q_d cX6_goMonth 28 29 (.aload_n 0) 1 := ⟨by decide +kernel, rfl⟩
theorem dX6_goMonth_29 : q_d cX6_goMonth 29 32 (.getfield 20) 3 := ⟨by decide +kernel, rfl⟩
theorem dX6_goMonth_32 : q_d cX6_goMonth 32 33 (.iload_n 2) 1 := ⟨by decide +kernel, rfl⟩
theorem dX6_goMonth_33 : q_d cX6_goMonth 33 34 (.aaload) 1 := ⟨by decide +kernel, rfl⟩
theorem dX6_goMonth_34 : q_d cX6_goMonth 34 35 (.astore_n 3) 1 := ⟨by decide +kernel, rfl⟩
theorem dX6_goMonth_35 : q_d cX6_goMonth 35 36 (.aload_n 3) 1 := ⟨by decide +kernel, rfl⟩
theorem dX6_goMonth_36 : q_d cX6_goMonth 36 39 (.invokevirtual 60) 3 := ⟨by decide +kernel, rfl⟩
theorem dX6_goMonth_39 : q_j cX6_goMonth 39 42 71 (fun o => .ifCond .eq o) := ⟨32, by decide +kernel, rfl, rfl⟩
theorem dX6_goMonth_42 : q_d cX6_goMonth 42 43 (.aload_n 3) 1 := ⟨by decide +kernel, rfl⟩
theorem dX6_goMonth_43 : q_d cX6_goMonth 43 44 (.aload_n 0) 1 := ⟨by decide +kernel, rfl⟩
theorem dX6_goMonth_44 : q_d cX6_goMonth 44 47 (.getfield 12) 3 := ⟨by decide +kernel, rfl⟩
theorem dX6_goMonth_47 : q_d cX6_goMonth 47 48 (.aload_n 0) 1 := ⟨by decide +kernel, rfl⟩
theorem dX6_goMonth_48 : q_d cX6_goMonth 48 51 (.getfield 45) 3 := ⟨by decide +kernel, rfl⟩
theorem dX6_goMonth_51 : q_d cX6_goMonth 51 54 (.invokevirtual 64) 3 := ⟨by decide +kernel, rfl⟩
theorem dX6_goMonth_54 : q_d cX6_goMonth 54 55 (.aload_n 3) 1 := ⟨by decide +kernel, rfl⟩
theorem dX6_goMonth_55 : q_d cX6_goMonth 55 58 (.getfield 68) 3 := ⟨by decide +kernel, rfl⟩
theorem dX6_goMonth_58 : q_d cX6_goMonth 58 59 (.iconst 2) 1 := ⟨by decide +kernel, rfl⟩
theorem dX6_goMonth_59 : q_j cX6_goMonth 59 62 71 (fun o => .if_icmp .ne o) := ⟨12, by decide +kernel, rfl, rfl⟩
theorem dX6_goMonth_62 : q_d cX6_goMonth 62 63 (.aload_n 0) 1 := ⟨by decide +kernel, rfl⟩
theorem dX6_goMonth_63 : q_d cX6_goMonth 63 64 (.iload_n 2) 1 := ⟨by decide +kernel, rfl⟩
theorem dX6_goMonth_64 : q_d cX6_goMonth 64 65 (.aload_n 3) 1 := ⟨by decide +kernel, rfl⟩
theorem dX6_goMonth_65 : q_d cX6_goMonth 65 68 (.invokevirtual 71) 3 := ⟨by decide +kernel, rfl⟩
theorem dX6_goMonth_68 : q_d cX6_goMonth 68 71 (.iinc 1 1) 3 := ⟨by decide +kernel, rfl⟩
theorem dX6_goMonth_71 : q_d cX6_goMonth 71 74 (.iinc 2 1) 3 := ⟨by decide +kernel, rfl⟩
theorem dX6_goMonth_74 : q_j cX6_goMonth 74 77 14 (fun o => .goto o) := ⟨(-60), by decide +kernel, rfl, rfl⟩
theorem dX6_goMonth_77 : q_d cX6_goMonth 77 78 (.iload_n 1) 1 := ⟨by decide +kernel, rfl⟩
theorem dX6_goMonth_78 : q_d cX6_goMonth 78 79 (.ireturn) 1 := ⟨by decide +kernel, rfl⟩
theorem dX6_writeRow_0 : q_d cX6_writeRow 0 1 (.aload_n 0) 1 := ⟨by decide +kernel, rfl⟩
theorem dX6_writeRow_1 : q_d cX6_writeRow 1 4 (.getfield 48) 3 := ⟨by decide +kernel, rfl⟩
theorem dX6_writeRow_4 : q_d cX6_writeRow 4 6 (.bipush 12) 2 := ⟨by decide +kernel, rfl⟩
theorem dX6_writeRow_6 : q_j cX6_writeRow 6 9 69 (fun o => .if_icmp .ge o) := ⟨63, by decide +kernel, rfl, rfl⟩
theorem dX6_writeRow_9 : q_d cX6_writeRow 9 10 (.aload_n 0) 1 := ⟨by decide +kernel, rfl⟩
theorem dX6_writeRow_10 : q_d cX6_writeRow 10 13 (.getfield 26) 3 := ⟨by decide +kernel, rfl⟩
theorem dX6_writeRow_13 : q_d cX6_writeRow 13 14 (.aload_n 0) 1 := ⟨by decide +kernel, rfl⟩
theorem dX6_writeRow_14 : q_d cX6_writeRow 14 17 (.getfield 48) 3 := ⟨by decide +kernel, rfl⟩
theorem dX6_writeRow_17 : q_d cX6_writeRow 17 18 (.aaload) 1 := ⟨by decide +kernel, rfl⟩
theorem dX6_writeRow_18 : q_d cX6_writeRow 18 19 (.astore_n 3) 1 := ⟨by decide +kernel, rfl⟩
theorem dX6_writeRow_19 : q_d cX6_writeRow 19 20 (.aload_n 3) 1 := ⟨by decide +kernel, rfl⟩
theorem dX6_writeRow_20 : q_d cX6_writeRow 20 21 (.iconst 0) 1 := ⟨by decide +kernel, rfl⟩
theorem dX6_writeRow_21 : q_d cX6_writeRow 21 22 (.aload_n 2) 1 := ⟨by decide +kernel, rfl⟩
theorem dX6_writeRow_22 : q_d cX6_writeRow 22 25 (.getfield 75) 3 := ⟨by decide +kernel, rfl⟩
theorem dX6_writeRow_25 : q_d cX6_writeRow 25 26 (.iastore) 1 := ⟨by decide +kernel, rfl⟩
theorem dX6_writeRow_26 : q_d cX6_writeRow 26 27 (.aload_n 3) 1 := ⟨by decide +kernel, rfl⟩
theorem dX6_writeRow_27 : q_d cX6_writeRow 27 28 (.iconst 1) 1 := ⟨by decide +kernel, rfl⟩
theorem dX6_writeRow_28 : q_d cX6_writeRow 28 29 (.iload_n 1) 1 := ⟨by decide +kernel, rfl⟩
theorem dX6_writeRow_29 : q_d cX6_writeRow 29 30 (.iastore) 1 := ⟨by decide +kernel, rfl⟩
theorem dX6_writeRow_30 : q_d cX6_writeRow 30 31 (.aload_n 3) 1 := ⟨by decide +kernel, rfl⟩
theorem dX6_writeRow_31 : q_d cX6_writeRow 31 32 (.iconst 2) 1 := ⟨by decide +kernel, rfl⟩
theorem dX6_writeRow_32 : q_d cX6_writeRow 32 33 (.aload_n 2) 1 := ⟨by decide +kernel, rfl⟩
theorem dX6_writeRow_33 : q_d cX6_writeRow 33 36 (.getfield 78) 3 := ⟨by decide +kernel, rfl⟩
theorem dX6_writeRow_36 : q_d cX6_writeRow 36 37 (.iastore) 1 := ⟨by decide +kernel, rfl⟩
theorem dX6_writeRow_37 : q_d cX6_writeRow 37 38 (.aload_n 3) 1 := ⟨by decide +kernel, rfl⟩
theorem dX6_writeRow_38 : q_d cX6_writeRow 38 39 (.iconst 3) 1 := ⟨by decide +kernel, rfl⟩
theorem dX6_writeRow_39 : q_d cX6_writeRow 39 40 (.aload_n 2) 1 := ⟨by decide +kernel, rfl⟩
theorem dX6_writeRow_40 : q_d cX6_writeRow 40 43 (.getfield 81) 3 := ⟨by decide +kernel, rfl⟩
theorem dX6_writeRow_43 : q_d cX6_writeRow 43 44 (.iastore) 1 := ⟨by decide +kernel, rfl⟩
theorem dX6_writeRow_44 : q_d cX6_writeRow 44 45 (.aload_n 3) 1 := ⟨by decide +kernel, rfl⟩
theorem dX6_writeRow_45 : q_d cX6_writeRow 45 46 (.iconst 4) 1 := ⟨by decide +kernel, rfl⟩
theorem dX6_writeRow_46 : q_d cX6_writeRow 46 47 (.aload_n 2) 1 := ⟨by decide +kernel, rfl⟩
theorem dX6_writeRow_47 : q_d cX6_writeRow 47 50 (.getfield 84) 3 := ⟨by decide +kernel, rfl⟩
theorem dX6_writeRow_50 : q_j cX6_writeRow 50 53 57 (fun o => .ifCond .eq o) := ⟨7, by decide +kernel, rfl, rfl⟩
theorem dX6_writeRow_53 : q_d cX6_writeRow 53 54 (.iconst 1) 1 := ⟨by decide +kernel, rfl⟩
theorem dX6_writeRow_54 : q_j cX6_writeRow 54 57 58 (fun o => .goto o) := ⟨4, by decide +kernel, rfl, rfl⟩
theorem dX6_writeRow_57 : q_d cX6_writeRow 57 58 (.iconst 0) 1 := ⟨by decide +kernel, rfl⟩
theorem dX6_writeRow_58 : q_d cX6_writeRow 58 59 (.iastore) 1 := ⟨by decide +kernel, rfl⟩
theorem dX6_writeRow_59 : q_d cX6_writeRow 59 60 (.aload_n 0) 1 := ⟨by decide +kernel, rfl⟩
theorem dX6_writeRow_60 : q_d cX6_writeRow 60 61 (.dup) 1 := ⟨by decide +kernel, rfl⟩
theorem dX6_writeRow_61 : q_d cX6_writeRow 61 64 (.getfield 48) 3 := ⟨by decide +kernel, rfl⟩
theorem dX6_writeRow_64 : q_d cX6_writeRow 64 65 (.iconst 1) 1 := ⟨by decide +kernel, rfl⟩
theorem dX6_writeRow_65 : q_d cX6_writeRow 65 66 (.iadd) 1 := ⟨by decide +kernel, rfl⟩
theorem dX6_writeRow_66 : q_d cX6_writeRow 66 69 (.putfield 48) 3 := ⟨by decide +kernel, rfl⟩
theorem dX6_writeRow_69 : q_d cX6_writeRow 69 70 (.return_) 1 := ⟨by decide +kernel, rfl⟩
theorem dX6_giveBack_0 : q_d cX6_giveBack 0 1 (.aload_n 0) 1 := ⟨by decide +kernel, rfl⟩
theorem dX6_giveBack_1 : q_d cX6_giveBack 1 4 (.getfield 12) 3 := ⟨by decide +kernel, rfl⟩
theorem dX6_giveBack_4 : q_d cX6_giveBack 4 5 (.aload_n 1) 1 := ⟨by decide +kernel, rfl⟩
theorem dX6_giveBack_5 : q_d cX6_giveBack 5 6 (.aload_n 0) 1 := ⟨by decide +kernel, rfl⟩
theorem dX6_giveBack_6 : q_d cX6_giveBack 6 9 (.getfield 45) 3 := ⟨by decide +kernel, rfl⟩
theorem dX6_giveBack_9 : q_d cX6_giveBack 9 12 (.invokevirtual 88) 3 := ⟨by decide +kernel, rfl⟩
theorem dX6_giveBack_12 : q_d cX6_giveBack 12 13 (.lstore_n 2) 1 := ⟨by decide +kernel, rfl⟩
theorem dX6_giveBack_13 : q_d cX6_giveBack 13 14 (.aload_n 0) 1 := ⟨by decide +kernel, rfl⟩
theorem dX6_giveBack_14 : q_d cX6_giveBack 14 17 (.getfield 12) 3 := ⟨by decide +kernel, rfl⟩
theorem dX6_giveBack_17 : q_d cX6_giveBack 17 18 (.aload_n 1) 1 := ⟨by decide +kernel, rfl⟩
theorem dX6_giveBack_18 : q_d cX6_giveBack 18 21 (.getfield 78) 3 := ⟨by decide +kernel, rfl⟩
theorem dX6_giveBack_21 : q_d cX6_giveBack 21 24 (.invokevirtual 92) 3 := ⟨by decide +kernel, rfl⟩
theorem dX6_giveBack_24 : q_j cX6_giveBack 24 27 40 (fun o => .ifCond .eq o) := ⟨16, by decide +kernel, rfl, rfl⟩
theorem dX6_giveBack_27 : q_d cX6_giveBack 27 28 (.aload_n 0) 1 := ⟨by decide +kernel, rfl⟩
theorem dX6_giveBack_28 : q_d cX6_giveBack 28 31 (.getfield 29) 3 := ⟨by decide +kernel, rfl⟩
theorem dX6_giveBack_31 : q_d cX6_giveBack 31 32 (.aload_n 1) 1 := ⟨by decide +kernel, rfl⟩
theorem dX6_giveBack_32 : q_d cX6_giveBack 32 35 (.getfield 78) 3 := ⟨by decide +kernel, rfl⟩
theorem dX6_giveBack_35 : q_d cX6_giveBack 35 36 (.dup2) 1 := ⟨by decide +kernel, rfl⟩
theorem dX6_giveBack_36 : q_d cX6_giveBack 36 37 (.laload) 1 := ⟨by decide +kernel, rfl⟩
theorem dX6_giveBack_37 : q_d cX6_giveBack 37 38 (.lload_n 2) 1 := ⟨by decide +kernel, rfl⟩
theorem dX6_giveBack_38 : q_d cX6_giveBack 38 39 (.ladd) 1 := ⟨by decide +kernel, rfl⟩
theorem dX6_giveBack_39 : q_d cX6_giveBack 39 40 (.lastore) 1 := ⟨by decide +kernel, rfl⟩
theorem dX6_giveBack_40 : q_d cX6_giveBack 40 41 (.aload_n 1) 1 := ⟨by decide +kernel, rfl⟩
theorem dX6_giveBack_41 : q_d cX6_giveBack 41 44 (.invokevirtual 96) 3 := ⟨by decide +kernel, rfl⟩
theorem dX6_giveBack_44 : q_d cX6_giveBack 44 45 (.i2l) 1 := ⟨by decide +kernel, rfl⟩
theorem dX6_giveBack_45 : q_d cX6_giveBack 45 46 (.lload_n 2) 1 := ⟨by decide +kernel, rfl⟩
theorem dX6_giveBack_46 : q_d cX6_giveBack 46 47 (.ladd) 1 := ⟨by decide +kernel, rfl⟩
theorem dX6_giveBack_47 : q_d cX6_giveBack 47 48 (.lreturn) 1 := ⟨by decide +kernel, rfl⟩
theorem dX6_passOn_0 : q_d cX6_passOn 0 1 (.aload_n 0) 1 := ⟨by decide +kernel, rfl⟩
theorem dX6_passOn_1 : q_d cX6_passOn 1 4 (.getfield 12) 3 := ⟨by decide +kernel, rfl⟩
theorem dX6_passOn_4 : q_d cX6_passOn 4 5 (.iload_n 2) 1 := ⟨by decide +kernel, rfl⟩
theorem dX6_passOn_5 : q_d cX6_passOn 5 8 (.invokevirtual 92) 3 := ⟨by decide +kernel, rfl⟩
theorem dX6_passOn_8 : q_j cX6_passOn 8 11 30 (fun o => .ifCond .eq o) := ⟨22, by decide +kernel, rfl, rfl⟩
theorem dX6_passOn_11 : q_d cX6_passOn 11 12 (.aload_n 1) 1 := ⟨by decide +kernel, rfl⟩
theorem dX6_passOn_12 : q_d cX6_passOn 12 13 (.iload_n 2) 1 := ⟨by decide +kernel, rfl⟩
theorem dX6_passOn_13 : q_d cX6_passOn 13 16 (.putfield 78) 3 := ⟨by decide +kernel, rfl⟩
theorem dX6_passOn_16 : q_d cX6_passOn 16 17 (.aload_n 0) 1 := ⟨by decide +kernel, rfl⟩
theorem dX6_passOn_17 : q_d cX6_passOn 17 20 (.getfield 33) 3 := ⟨by decide +kernel, rfl⟩
theorem dX6_passOn_20 : q_d cX6_passOn 20 21 (.iload_n 2) 1 := ⟨by decide +kernel, rfl⟩
theorem dX6_passOn_21 : q_d cX6_passOn 21 22 (.dup2) 1 := ⟨by decide +kernel, rfl⟩
theorem dX6_passOn_22 : q_d cX6_passOn 22 23 (.laload) 1 := ⟨by decide +kernel, rfl⟩
theorem dX6_passOn_23 : q_d cX6_passOn 23 24 (.aload_n 1) 1 := ⟨by decide +kernel, rfl⟩
theorem dX6_passOn_24 : q_d cX6_passOn 24 27 (.getfield 81) 3 := ⟨by decide +kernel, rfl⟩
theorem dX6_passOn_27 : q_d cX6_passOn 27 28 (.i2l) 1 := ⟨by decide +kernel, rfl⟩
theorem dX6_passOn_28 : q_d cX6_passOn 28 29 (.ladd) 1 := ⟨by decide +kernel, rfl⟩
theorem dX6_passOn_29 : q_d cX6_passOn 29 30 (.lastore) 1 := ⟨by decide +kernel, rfl⟩
theorem dX6_passOn_30 : q_d cX6_passOn 30 31 (.return_) 1 := ⟨by decide +kernel, rfl⟩
theorem dX6_landNowOf_0 : q_d cX6_landNowOf 0 1 (.aload_n 1) 1 := ⟨by decide +kernel, rfl⟩
theorem dX6_landNowOf_1 : q_d cX6_landNowOf 1 4 (.invokevirtual 60) 3 := ⟨by decide +kernel, rfl⟩
theorem dX6_landNowOf_4 : q_j cX6_landNowOf 4 7 16 (fun o => .ifCond .eq o) := ⟨12, by decide +kernel, rfl, rfl⟩
theorem dX6_landNowOf_7 : q_d cX6_landNowOf 7 8 (.aload_n 0) 1 := ⟨by decide +kernel, rfl⟩
theorem dX6_landNowOf_8 : q_d cX6_landNowOf 8 11 (.getfield 12) 3 := ⟨by decide +kernel, rfl⟩
theorem dX6_landNowOf_11 : q_d cX6_landNowOf 11 12 (.aload_n 1) 1 := ⟨by decide +kernel, rfl⟩
theorem dX6_landNowOf_12 : q_d cX6_landNowOf 12 15 (.invokevirtual 100) 3 := ⟨by decide +kernel, rfl⟩
theorem dX6_landNowOf_15 : q_d cX6_landNowOf 15 16 (.ireturn) 1 := ⟨by decide +kernel, rfl⟩
theorem dX6_landNowOf_16 : q_d cX6_landNowOf 16 17 (.aload_n 1) 1 := ⟨by decide +kernel, rfl⟩
theorem dX6_landNowOf_17 : q_d cX6_landNowOf 17 20 (.getfield 68) 3 := ⟨by decide +kernel, rfl⟩
theorem dX6_landNowOf_20 : q_d cX6_landNowOf 20 21 (.iconst 2) 1 := ⟨by decide +kernel, rfl⟩
theorem dX6_landNowOf_21 : q_j cX6_landNowOf 21 24 31 (fun o => .if_icmp .ne o) := ⟨10, by decide +kernel, rfl, rfl⟩
theorem dX6_landNowOf_24 : q_d cX6_landNowOf 24 25 (.aload_n 1) 1 := ⟨by decide +kernel, rfl⟩
theorem dX6_landNowOf_25 : q_d cX6_landNowOf 25 28 (.getfield 78) 3 := ⟨by decide +kernel, rfl⟩
theorem dX6_landNowOf_28 : q_j cX6_landNowOf 28 31 32 (fun o => .goto o) := ⟨4, by decide +kernel, rfl, rfl⟩
theorem dX6_landNowOf_31 : q_d cX6_landNowOf 31 32 (.iconst (-1)) 1 := ⟨by decide +kernel, rfl⟩
theorem dX6_landNowOf_32 : q_d cX6_landNowOf 32 33 (.ireturn) 1 := ⟨by decide +kernel, rfl⟩
theorem dX6_accountsHeldBy_0 : q_d cX6_accountsHeldBy 0 1 (.iconst 0) 1 := ⟨by decide +kernel, rfl⟩
theorem dX6_accountsHeldBy_1 : q_d cX6_accountsHeldBy 1 2 (.istore_n 2) 1 := ⟨by decide +kernel, rfl⟩
theorem dX6_accountsHeldBy_2 : q_d cX6_accountsHeldBy 2 3 (.iconst 0) 1 := ⟨by decide +kernel, rfl⟩
theorem dX6_accountsHeldBy_3 : q_d cX6_accountsHeldBy 3 4 (.istore_n 3) 1 := ⟨by decide +kernel, rfl⟩
theorem dX6_accountsHeldBy_4 : q_d cX6_accountsHeldBy 4 5 (.iload_n 3) 1 := ⟨by decide +kernel, rfl⟩
theorem dX6_accountsHeldBy_5 : q_d cX6_accountsHeldBy 5 6 (.aload_n 0) 1 := ⟨by decide +kernel, rfl⟩
theorem dX6_accountsHeldBy_6 : q_d cX6_accountsHeldBy 6 9 (.getfield 41) 3 := ⟨by decide +kernel, rfl⟩
theorem dX6_accountsHeldBy_9 : q_j cX6_accountsHeldBy 9 12 43 (fun o => .if_icmp .ge o) := ⟨34, by decide +kernel, rfl, rfl⟩
theorem dX6_accountsHeldBy_12 : q_d cX6_accountsHeldBy 12 13 (.iload_n 3) 1 := ⟨by decide +kernel, rfl⟩
theorem dX6_accountsHeldBy_13 : q_d cX6_accountsHeldBy 13 15 (.bipush 12) 2 := ⟨by decide +kernel, rfl⟩
theorem dX6_accountsHeldBy_15 : q_j cX6_accountsHeldBy 15 18 43 (fun o => .if_icmp .ge o) := ⟨28, by decide +kernel, rfl, rfl⟩
theorem dX6_accountsHeldBy_18 : q_d cX6_accountsHeldBy 18 19 (.aload_n 0) 1 := ⟨by decide +kernel, rfl⟩
theorem dX6_accountsHeldBy_19 : q_d cX6_accountsHeldBy 19 22 (.getfield 20) 3 := ⟨by decide +kernel, rfl⟩
theorem dX6_accountsHeldBy_22 : q_d cX6_accountsHeldBy 22 23 (.iload_n 3) 1 := ⟨by decide +kernel, rfl⟩
theorem dX6_accountsHeldBy_23 : q_d cX6_accountsHeldBy 23 24 (.aaload) 1 := ⟨by decide +kernel, rfl⟩
theorem dX6_accountsHeldBy_24 : q_d cX6_accountsHeldBy 24 25 (.iload_n 1) 1 := ⟨by decide +kernel, rfl⟩
theorem dX6_accountsHeldBy_25 : q_d cX6_accountsHeldBy 25 28 (.invokevirtual 104) 3 := ⟨by decide +kernel, rfl⟩
theorem dX6_accountsHeldBy_28 : q_j cX6_accountsHeldBy 28 31 37 (fun o => .ifCond .eq o) := ⟨9, by decide +kernel, rfl, rfl⟩
theorem dX6_accountsHeldBy_31 : q_d cX6_accountsHeldBy 31 32 (.iload_n 2) 1 := ⟨by decide +kernel, rfl⟩
theorem dX6_accountsHeldBy_32 : q_d cX6_accountsHeldBy 32 33 (.iconst 1) 1 := ⟨by decide +kernel, rfl⟩
theorem dX6_accountsHeldBy_33 : q_d cX6_accountsHeldBy 33 34 (.iload_n 3) 1 := ⟨by decide +kernel, rfl⟩
theorem dX6_accountsHeldBy_34 : q_d cX6_accountsHeldBy 34 35 (.ishl) 1 := ⟨by decide +kernel, rfl⟩
theorem dX6_accountsHeldBy_35 : q_d cX6_accountsHeldBy 35 36 (.ior) 1 := ⟨by decide +kernel, rfl⟩
theorem dX6_accountsHeldBy_36 : q_d cX6_accountsHeldBy 36 37 (.istore_n 2) 1 := ⟨by decide +kernel, rfl⟩
theorem dX6_accountsHeldBy_37 : q_d cX6_accountsHeldBy 37 40 (.iinc 3 1) 3 := ⟨by decide +kernel, rfl⟩
theorem dX6_accountsHeldBy_40 : q_j cX6_accountsHeldBy 40 43 4 (fun o => .goto o) := ⟨(-36), by decide +kernel, rfl, rfl⟩
theorem dX6_accountsHeldBy_43 : q_d cX6_accountsHeldBy 43 44 (.iload_n 2) 1 := ⟨by decide +kernel, rfl⟩
theorem dX6_accountsHeldBy_44 : q_d cX6_accountsHeldBy 44 45 (.ireturn) 1 := ⟨by decide +kernel, rfl⟩
theorem dX6_centsHeldBy_0 : q_d cX6_centsHeldBy 0 1 (.lconst 0) 1 := ⟨by decide +kernel, rfl⟩
theorem dX6_centsHeldBy_1 : q_d cX6_centsHeldBy 1 2 (.lstore_n 2) 1 := ⟨by decide +kernel, rfl⟩
theorem dX6_centsHeldBy_2 : q_d cX6_centsHeldBy 2 3 (.iconst 0) 1 := ⟨by decide +kernel, rfl⟩
theorem dX6_centsHeldBy_3 : q_d cX6_centsHeldBy 3 5 (.istore 4) 2 := ⟨by decide +kernel, rfl⟩
theorem dX6_centsHeldBy_5 : q_d cX6_centsHeldBy 5 7 (.iload 4) 2 := ⟨by decide +kernel, rfl⟩
theorem dX6_centsHeldBy_7 : q_d cX6_centsHeldBy 7 8 (.aload_n 0) 1 := ⟨by decide +kernel, rfl⟩
theorem dX6_centsHeldBy_8 : q_d cX6_centsHeldBy 8 11 (.getfield 41) 3 := ⟨by decide +kernel, rfl⟩
theorem dX6_centsHeldBy_11 : q_j cX6_centsHeldBy 11 14 59 (fun o => .if_icmp .ge o) := ⟨48, by decide +kernel, rfl, rfl⟩
theorem dX6_centsHeldBy_14 : q_d cX6_centsHeldBy 14 16 (.iload 4) 2 := ⟨by decide +kernel, rfl⟩
theorem dX6_centsHeldBy_16 : q_d cX6_centsHeldBy 16 18 (.bipush 12) 2 := ⟨by decide +kernel, rfl⟩
theorem dX6_centsHeldBy_18 : q_j cX6_centsHeldBy 18 21 59 (fun o => .if_icmp .ge o) := ⟨41, by decide +kernel, rfl, rfl⟩
theorem dX6_centsHeldBy_21 : q_d cX6_centsHeldBy 21 22 (.lload_n 2) 1 := ⟨by decide +kernel, rfl⟩
theorem dX6_centsHeldBy_22 : q_d cX6_centsHeldBy 22 23 (.aload_n 0) 1 := ⟨by decide +kernel, rfl⟩
theorem dX6_centsHeldBy_23 : q_d cX6_centsHeldBy 23 26 (.getfield 20) 3 := ⟨by decide +kernel, rfl⟩
theorem dX6_centsHeldBy_26 : q_d cX6_centsHeldBy 26 28 (.iload 4) 2 := ⟨by decide +kernel, rfl⟩
theorem dX6_centsHeldBy_28 : q_d cX6_centsHeldBy 28 29 (.aaload) 1 := ⟨by decide +kernel, rfl⟩
theorem dX6_centsHeldBy_29 : q_d cX6_centsHeldBy 29 30 (.iload_n 1) 1 := ⟨by decide +kernel, rfl⟩
theorem dX6_centsHeldBy_30 : q_d cX6_centsHeldBy 30 33 (.invokevirtual 104) 3 := ⟨by decide +kernel, rfl⟩
theorem dX6_centsHeldBy_33 : q_j cX6_centsHeldBy 33 36 50 (fun o => .ifCond .eq o) := ⟨17, by decide +kernel, rfl, rfl⟩
theorem dX6_centsHeldBy_36 : q_d cX6_centsHeldBy 36 37 (.aload_n 0) 1 := ⟨by decide +kernel, rfl⟩
theorem dX6_centsHeldBy_37 : q_d cX6_centsHeldBy 37 40 (.getfield 20) 3 := ⟨by decide +kernel, rfl⟩
theorem dX6_centsHeldBy_40 : q_d cX6_centsHeldBy 40 42 (.iload 4) 2 := ⟨by decide +kernel, rfl⟩
theorem dX6_centsHeldBy_42 : q_d cX6_centsHeldBy 42 43 (.aaload) 1 := ⟨by decide +kernel, rfl⟩
theorem dX6_centsHeldBy_43 : q_d cX6_centsHeldBy 43 46 (.getfield 81) 3 := ⟨by decide +kernel, rfl⟩
theorem dX6_centsHeldBy_46 : q_d cX6_centsHeldBy 46 47 (.i2l) 1 := ⟨by decide +kernel, rfl⟩
theorem dX6_centsHeldBy_47 : q_j cX6_centsHeldBy 47 50 51 (fun o => .goto o) := ⟨4, by decide +kernel, rfl, rfl⟩
theorem dX6_centsHeldBy_50 : q_d cX6_centsHeldBy 50 51 (.lconst 0) 1 := ⟨by decide +kernel, rfl⟩
theorem dX6_centsHeldBy_51 : q_d cX6_centsHeldBy 51 52 (.ladd) 1 := ⟨by decide +kernel, rfl⟩
theorem dX6_centsHeldBy_52 : q_d cX6_centsHeldBy 52 53 (.lstore_n 2) 1 := ⟨by decide +kernel, rfl⟩
theorem dX6_centsHeldBy_53 : q_d cX6_centsHeldBy 53 56 (.iinc 4 1) 3 := ⟨by decide +kernel, rfl⟩
theorem dX6_centsHeldBy_56 : q_j cX6_centsHeldBy 56 59 5 (fun o => .goto o) := ⟨(-51), by decide +kernel, rfl, rfl⟩
theorem dX6_centsHeldBy_59 : q_d cX6_centsHeldBy 59 60 (.lload_n 2) 1 := ⟨by decide +kernel, rfl⟩
theorem dX6_centsHeldBy_60 : q_d cX6_centsHeldBy 60 61 (.lreturn) 1 := ⟨by decide +kernel, rfl⟩
theorem dX6_centsInRowsOf_0 : q_d cX6_centsInRowsOf 0 1 (.lconst 0) 1 := ⟨by decide +kernel, rfl⟩
theorem dX6_centsInRowsOf_1 : q_d cX6_centsInRowsOf 1 2 (.lstore_n 2) 1 := ⟨by decide +kernel, rfl⟩
theorem dX6_centsInRowsOf_2 : q_d cX6_centsInRowsOf 2 3 (.iconst 0) 1 := ⟨by decide +kernel, rfl⟩
theorem dX6_centsInRowsOf_3 : q_d cX6_centsInRowsOf 3 5 (.istore 4) 2 := ⟨by decide +kernel, rfl⟩
theorem dX6_centsInRowsOf_5 : q_d cX6_centsInRowsOf 5 7 (.iload 4) 2 := ⟨by decide +kernel, rfl⟩
theorem dX6_centsInRowsOf_7 : q_d cX6_centsInRowsOf 7 8 (.aload_n 0) 1 := ⟨by decide +kernel, rfl⟩
theorem dX6_centsInRowsOf_8 : q_d cX6_centsInRowsOf 8 11 (.getfield 48) 3 := ⟨by decide +kernel, rfl⟩
theorem dX6_centsInRowsOf_11 : q_j cX6_centsInRowsOf 11 14 57 (fun o => .if_icmp .ge o) := ⟨46, by decide +kernel, rfl, rfl⟩
theorem dX6_centsInRowsOf_14 : q_d cX6_centsInRowsOf 14 16 (.iload 4) 2 := ⟨by decide +kernel, rfl⟩
theorem dX6_centsInRowsOf_16 : q_d cX6_centsInRowsOf 16 18 (.bipush 12) 2 := ⟨by decide +kernel, rfl⟩
theorem dX6_centsInRowsOf_18 : q_j cX6_centsInRowsOf 18 21 57 (fun o => .if_icmp .ge o) := ⟨39, by decide +kernel, rfl, rfl⟩
theorem dX6_centsInRowsOf_21 : q_d cX6_centsInRowsOf 21 22 (.lload_n 2) 1 := ⟨by decide +kernel, rfl⟩
theorem dX6_centsInRowsOf_22 : q_d cX6_centsInRowsOf 22 23 (.aload_n 0) 1 := ⟨by decide +kernel, rfl⟩
theorem dX6_centsInRowsOf_23 : q_d cX6_centsInRowsOf 23 26 (.getfield 26) 3 := ⟨by decide +kernel, rfl⟩
theorem dX6_centsInRowsOf_26 : q_d cX6_centsInRowsOf 26 28 (.iload 4) 2 := ⟨by decide +kernel, rfl⟩
theorem dX6_centsInRowsOf_28 : q_d cX6_centsInRowsOf 28 29 (.aaload) 1 := ⟨by decide +kernel, rfl⟩
theorem dX6_centsInRowsOf_29 : q_d cX6_centsInRowsOf 29 30 (.iconst 2) 1 := ⟨by decide +kernel, rfl⟩
theorem dX6_centsInRowsOf_30 : q_d cX6_centsInRowsOf 30 31 (.iaload) 1 := ⟨by decide +kernel, rfl⟩
theorem dX6_centsInRowsOf_31 : q_d cX6_centsInRowsOf 31 32 (.iload_n 1) 1 := ⟨by decide +kernel, rfl⟩
theorem dX6_centsInRowsOf_32 : q_j cX6_centsInRowsOf 32 35 48 (fun o => .if_icmp .ne o) := ⟨16, by decide +kernel, rfl, rfl⟩
theorem dX6_centsInRowsOf_35 : q_d cX6_centsInRowsOf 35 36 (.aload_n 0) 1 := ⟨by decide +kernel, rfl⟩
theorem dX6_centsInRowsOf_36 : q_d cX6_centsInRowsOf 36 39 (.getfield 26) 3 := ⟨by decide +kernel, rfl⟩
theorem dX6_centsInRowsOf_39 : q_d cX6_centsInRowsOf 39 41 (.iload 4) 2 := ⟨by decide +kernel, rfl⟩
theorem dX6_centsInRowsOf_41 : q_d cX6_centsInRowsOf 41 42 (.aaload) 1 := ⟨by decide +kernel, rfl⟩
theorem dX6_centsInRowsOf_42 : q_d cX6_centsInRowsOf 42 43 (.iconst 3) 1 := ⟨by decide +kernel, rfl⟩
theorem dX6_centsInRowsOf_43 : q_d cX6_centsInRowsOf 43 44 (.iaload) 1 := ⟨by decide +kernel, rfl⟩
theorem dX6_centsInRowsOf_44 : q_d cX6_centsInRowsOf 44 45 (.i2l) 1 := ⟨by decide +kernel, rfl⟩
theorem dX6_centsInRowsOf_45 : q_j cX6_centsInRowsOf 45 48 49 (fun o => .goto o) := ⟨4, by decide +kernel, rfl, rfl⟩
theorem dX6_centsInRowsOf_48 : q_d cX6_centsInRowsOf 48 49 (.lconst 0) 1 := ⟨by decide +kernel, rfl⟩
theorem dX6_centsInRowsOf_49 : q_d cX6_centsInRowsOf 49 50 (.ladd) 1 := ⟨by decide +kernel, rfl⟩
theorem dX6_centsInRowsOf_50 : q_d cX6_centsInRowsOf 50 51 (.lstore_n 2) 1 := ⟨by decide +kernel, rfl⟩
theorem dX6_centsInRowsOf_51 : q_d cX6_centsInRowsOf 51 54 (.iinc 4 1) 3 := ⟨by decide +kernel, rfl⟩
theorem dX6_centsInRowsOf_54 : q_j cX6_centsInRowsOf 54 57 5 (fun o => .goto o) := ⟨(-49), by decide +kernel, rfl, rfl⟩
theorem dX6_centsInRowsOf_57 : q_d cX6_centsInRowsOf 57 58 (.lload_n 2) 1 := ⟨by decide +kernel, rfl⟩
theorem dX6_centsInRowsOf_58 : q_d cX6_centsInRowsOf 58 59 (.lreturn) 1 := ⟨by decide +kernel, rfl⟩
theorem dX6_lettersSent_0 : q_d cX6_lettersSent 0 1 (.iconst 0) 1 := ⟨by decide +kernel, rfl⟩
theorem dX6_lettersSent_1 : q_d cX6_lettersSent 1 2 (.istore_n 1) 1 := ⟨by decide +kernel, rfl⟩
theorem dX6_lettersSent_2 : q_d cX6_lettersSent 2 3 (.iconst 0) 1 := ⟨by decide +kernel, rfl⟩
theorem dX6_lettersSent_3 : q_d cX6_lettersSent 3 4 (.istore_n 2) 1 := ⟨by decide +kernel, rfl⟩
theorem dX6_lettersSent_4 : q_d cX6_lettersSent 4 5 (.iload_n 2) 1 := ⟨by decide +kernel, rfl⟩
theorem dX6_lettersSent_5 : q_d cX6_lettersSent 5 6 (.aload_n 0) 1 := ⟨by decide +kernel, rfl⟩
theorem dX6_lettersSent_6 : q_d cX6_lettersSent 6 9 (.getfield 41) 3 := ⟨by decide +kernel, rfl⟩
theorem dX6_lettersSent_9 : q_j cX6_lettersSent 9 12 36 (fun o => .if_icmp .ge o) := ⟨27, by decide +kernel, rfl, rfl⟩
theorem dX6_lettersSent_12 : q_d cX6_lettersSent 12 13 (.iload_n 2) 1 := ⟨by decide +kernel, rfl⟩
theorem dX6_lettersSent_13 : q_d cX6_lettersSent 13 15 (.bipush 12) 2 := ⟨by decide +kernel, rfl⟩
theorem dX6_lettersSent_15 : q_j cX6_lettersSent 15 18 36 (fun o => .if_icmp .ge o) := ⟨21, by decide +kernel, rfl, rfl⟩
theorem dX6_lettersSent_18 : q_d cX6_lettersSent 18 19 (.iload_n 1) 1 := ⟨by decide +kernel, rfl⟩
theorem dX6_lettersSent_19 : q_d cX6_lettersSent 19 20 (.aload_n 0) 1 := ⟨by decide +kernel, rfl⟩
theorem dX6_lettersSent_20 : q_d cX6_lettersSent 20 23 (.getfield 20) 3 := ⟨by decide +kernel, rfl⟩
theorem dX6_lettersSent_23 : q_d cX6_lettersSent 23 24 (.iload_n 2) 1 := ⟨by decide +kernel, rfl⟩
theorem dX6_lettersSent_24 : q_d cX6_lettersSent 24 25 (.aaload) 1 := ⟨by decide +kernel, rfl⟩
theorem dX6_lettersSent_25 : q_d cX6_lettersSent 25 28 (.getfield 107) 3 := ⟨by decide +kernel, rfl⟩
theorem dX6_lettersSent_28 : q_d cX6_lettersSent 28 29 (.iadd) 1 := ⟨by decide +kernel, rfl⟩
theorem dX6_lettersSent_29 : q_d cX6_lettersSent 29 30 (.istore_n 1) 1 := ⟨by decide +kernel, rfl⟩
theorem dX6_lettersSent_30 : q_d cX6_lettersSent 30 33 (.iinc 2 1) 3 := ⟨by decide +kernel, rfl⟩
theorem dX6_lettersSent_33 : q_j cX6_lettersSent 33 36 4 (fun o => .goto o) := ⟨(-29), by decide +kernel, rfl, rfl⟩
theorem dX6_lettersSent_36 : q_d cX6_lettersSent 36 37 (.iload_n 1) 1 := ⟨by decide +kernel, rfl⟩
theorem dX6_lettersSent_37 : q_d cX6_lettersSent 37 38 (.ireturn) 1 := ⟨by decide +kernel, rfl⟩
theorem dX6_inBooks_0 : q_d cX6_inBooks 0 1 (.lconst 0) 1 := ⟨by decide +kernel, rfl⟩
theorem dX6_inBooks_1 : q_d cX6_inBooks 1 2 (.lstore_n 2) 1 := ⟨by decide +kernel, rfl⟩
theorem dX6_inBooks_2 : q_d cX6_inBooks 2 3 (.iconst 0) 1 := ⟨by decide +kernel, rfl⟩
theorem dX6_inBooks_3 : q_d cX6_inBooks 3 5 (.istore 4) 2 := ⟨by decide +kernel, rfl⟩
theorem dX6_inBooks_5 : q_d cX6_inBooks 5 7 (.iload 4) 2 := ⟨by decide +kernel, rfl⟩
theorem dX6_inBooks_7 : q_d cX6_inBooks 7 8 (.aload_n 0) 1 := ⟨by decide +kernel, rfl⟩
theorem dX6_inBooks_8 : q_d cX6_inBooks 8 11 (.getfield 41) 3 := ⟨by decide +kernel, rfl⟩
theorem dX6_inBooks_11 : q_j cX6_inBooks 11 14 41 (fun o => .if_icmp .ge o) := ⟨30, by decide +kernel, rfl, rfl⟩
theorem dX6_inBooks_14 : q_d cX6_inBooks 14 16 (.iload 4) 2 := ⟨by decide +kernel, rfl⟩
theorem dX6_inBooks_16 : q_d cX6_inBooks 16 18 (.bipush 12) 2 := ⟨by decide +kernel, rfl⟩
theorem dX6_inBooks_18 : q_j cX6_inBooks 18 21 41 (fun o => .if_icmp .ge o) := ⟨23, by decide +kernel, rfl, rfl⟩
theorem dX6_inBooks_21 : q_d cX6_inBooks 21 22 (.lload_n 2) 1 := ⟨by decide +kernel, rfl⟩
theorem dX6_inBooks_22 : q_d cX6_inBooks 22 23 (.aload_n 0) 1 := ⟨by decide +kernel, rfl⟩
theorem dX6_inBooks_23 : q_d cX6_inBooks 23 26 (.getfield 20) 3 := ⟨by decide +kernel, rfl⟩
theorem dX6_inBooks_26 : q_d cX6_inBooks 26 28 (.iload 4) 2 := ⟨by decide +kernel, rfl⟩
theorem dX6_inBooks_28 : q_d cX6_inBooks 28 29 (.aaload) 1 := ⟨by decide +kernel, rfl⟩
theorem dX6_inBooks_29 : q_d cX6_inBooks 29 30 (.iload_n 1) 1 := ⟨by decide +kernel, rfl⟩
theorem dX6_inBooks_30 : q_d cX6_inBooks 30 33 (.invokevirtual 110) 3 := ⟨by decide +kernel, rfl⟩
theorem dX6_inBooks_33 : q_d cX6_inBooks 33 34 (.ladd) 1 := ⟨by decide +kernel, rfl⟩
theorem dX6_inBooks_34 : q_d cX6_inBooks 34 35 (.lstore_n 2) 1 := ⟨by decide +kernel, rfl⟩
theorem dX6_inBooks_35 : q_d cX6_inBooks 35 38 (.iinc 4 1) 3 := ⟨by decide +kernel, rfl⟩
theorem dX6_inBooks_38 : q_j cX6_inBooks 38 41 5 (fun o => .goto o) := ⟨(-33), by decide +kernel, rfl, rfl⟩
theorem dX6_inBooks_41 : q_d cX6_inBooks 41 42 (.lload_n 2) 1 := ⟨by decide +kernel, rfl⟩
theorem dX6_inBooks_42 : q_d cX6_inBooks 42 43 (.lreturn) 1 := ⟨by decide +kernel, rfl⟩
theorem dX7_init_0 : q_d cX7_init 0 1 (.aload_n 0) 1 := ⟨by decide +kernel, rfl⟩
theorem dX7_init_1 : q_d cX7_init 1 4 (.invokespecial 1) 3 := ⟨by decide +kernel, rfl⟩
theorem dX7_init_4 : q_d cX7_init 4 5 (.aload_n 0) 1 := ⟨by decide +kernel, rfl⟩
theorem dX7_init_5 : q_d cX7_init 5 8 (.new 7) 3 := ⟨by decide +kernel, rfl⟩
theorem dX7_init_8 : q_d cX7_init 8 9 (.dup) 1 := ⟨by decide +kernel, rfl⟩
theorem dX7_init_9 : q_d cX7_init 9 12 (.invokespecial 9) 3 := ⟨by decide +kernel, rfl⟩
theorem dX7_init_12 : q_d cX7_init 12 15 (.putfield 10) 3 := ⟨by decide +kernel, rfl⟩
theorem dX7_init_15 : q_d cX7_init 15 16 (.aload_n 0) 1 := ⟨by decide +kernel, rfl⟩
theorem dX7_init_16 : q_d cX7_init 16 19 (.new 16) 3 := ⟨by decide +kernel, rfl⟩
theorem dX7_init_19 : q_d cX7_init 19 20 (.dup) 1 := ⟨by decide +kernel, rfl⟩
theorem dX7_init_20 : q_d cX7_init 20 23 (.invokespecial 18) 3 := ⟨by decide +kernel, rfl⟩
theorem dX7_init_23 : q_d cX7_init 23 26 (.putfield 19) 3 := ⟨by decide +kernel, rfl⟩
theorem dX7_init_26 : q_d cX7_init 26 27 (.aload_n 0) 1 := ⟨by decide +kernel, rfl⟩
theorem dX7_init_27 : q_d cX7_init 27 30 (.new 23) 3 := ⟨by decide +kernel, rfl⟩
theorem dX7_init_30 : q_d cX7_init 30 31 (.dup) 1 := ⟨by decide +kernel, rfl⟩
theorem dX7_init_31 : q_d cX7_init 31 34 (.invokespecial 25) 3 := ⟨by decide +kernel, rfl⟩
theorem dX7_init_34 : q_d cX7_init 34 37 (.putfield 26) 3 := ⟨by decide +kernel, rfl⟩
theorem dX7_init_37 : q_d cX7_init 37 38 (.aload_n 0) 1 := ⟨by decide +kernel, rfl⟩
theorem dX7_init_38 : q_d cX7_init 38 40 (.bipush 8) 2 := ⟨by decide +kernel, rfl⟩
theorem dX7_init_40 : q_d cX7_init 40 43 (.anewarray 23) 3 := ⟨by decide +kernel, rfl⟩
theorem dX7_init_43 : q_d cX7_init 43 46 (.putfield 30) 3 := ⟨by decide +kernel, rfl⟩
theorem dX7_init_46 : q_d cX7_init 46 47 (.iconst 0) 1 := ⟨by decide +kernel, rfl⟩
theorem dX7_init_47 : q_d cX7_init 47 48 (.istore_n 1) 1 := ⟨by decide +kernel, rfl⟩
theorem dX7_init_48 : q_d cX7_init 48 49 (.iload_n 1) 1 := ⟨by decide +kernel, rfl⟩
theorem dX7_init_49 : q_d cX7_init 49 50 (.aload_n 0) 1 := ⟨by decide +kernel, rfl⟩
theorem dX7_init_50 : q_d cX7_init 50 53 (.getfield 30) 3 := ⟨by decide +kernel, rfl⟩
theorem dX7_init_53 : q_d cX7_init 53 54 (.arraylength) 1 := ⟨by decide +kernel, rfl⟩
theorem dX7_init_54 : q_j cX7_init 54 57 76 (fun o => .if_icmp .ge o) := ⟨22, by decide +kernel, rfl, rfl⟩
theorem dX7_init_57 : q_d cX7_init 57 58 (.aload_n 0) 1 := ⟨by decide +kernel, rfl⟩
theorem dX7_init_58 : q_d cX7_init 58 61 (.getfield 30) 3 := ⟨by decide +kernel, rfl⟩
theorem dX7_init_61 : q_d cX7_init 61 62 (.iload_n 1) 1 := ⟨by decide +kernel, rfl⟩
theorem dX7_init_62 : q_d cX7_init 62 65 (.new 23) 3 := ⟨by decide +kernel, rfl⟩
theorem dX7_init_65 : q_d cX7_init 65 66 (.dup) 1 := ⟨by decide +kernel, rfl⟩
theorem dX7_init_66 : q_d cX7_init 66 69 (.invokespecial 25) 3 := ⟨by decide +kernel, rfl⟩
theorem dX7_init_69 : q_d cX7_init 69 70 (.aastore) 1 := ⟨by decide +kernel, rfl⟩
theorem dX7_init_70 : q_d cX7_init 70 73 (.iinc 1 1) 3 := ⟨by decide +kernel, rfl⟩
theorem dX7_init_73 : q_j cX7_init 73 76 48 (fun o => .goto o) := ⟨(-25), by decide +kernel, rfl, rfl⟩
theorem dX7_init_76 : q_d cX7_init 76 77 (.aload_n 0) 1 := ⟨by decide +kernel, rfl⟩
theorem dX7_init_77 : q_d cX7_init 77 78 (.iconst (-1)) 1 := ⟨by decide +kernel, rfl⟩
theorem dX7_init_78 : q_d cX7_init 78 81 (.putfield 34) 3 := ⟨by decide +kernel, rfl⟩
theorem dX7_init_81 : q_d cX7_init 81 82 (.return_) 1 := ⟨by decide +kernel, rfl⟩
theorem dX7_feed_0 : q_d cX7_feed 0 1 (.aload_n 0) 1 := ⟨by decide +kernel, rfl⟩
theorem dX7_feed_1 : q_d cX7_feed 1 4 (.getfield 38) 3 := ⟨by decide +kernel, rfl⟩
theorem dX7_feed_4 : q_d cX7_feed 4 6 (.bipush 20) 2 := ⟨by decide +kernel, rfl⟩
theorem dX7_feed_6 : q_d cX7_feed 6 7 (.iadd) 1 := ⟨by decide +kernel, rfl⟩
theorem dX7_feed_7 : q_d cX7_feed 7 10 (.sipush 600) 3 := ⟨by decide +kernel, rfl⟩
theorem dX7_feed_10 : q_j cX7_feed 10 13 15 (fun o => .if_icmp .le o) := ⟨5, by decide +kernel, rfl, rfl⟩
theorem dX7_feed_13 : q_d cX7_feed 13 14 (.iconst (-1)) 1 := ⟨by decide +kernel, rfl⟩
theorem dX7_feed_14 : q_d cX7_feed 14 15 (.ireturn) 1 := ⟨by decide +kernel, rfl⟩
theorem dX7_feed_15 : q_d cX7_feed 15 16 (.aload_n 0) 1 := ⟨by decide +kernel, rfl⟩
theorem dX7_feed_16 : q_d cX7_feed 16 17 (.iload_n 1) 1 := ⟨by decide +kernel, rfl⟩
theorem dX7_feed_17 : q_d cX7_feed 17 20 (.invokevirtual 41) 3 := ⟨by decide +kernel, rfl⟩
theorem dX7_feed_20 : q_d cX7_feed 20 21 (.aload_n 0) 1 := ⟨by decide +kernel, rfl⟩
theorem dX7_feed_21 : q_d cX7_feed 21 22 (.iload_n 2) 1 := ⟨by decide +kernel, rfl⟩
theorem dX7_feed_22 : q_d cX7_feed 22 25 (.invokevirtual 41) 3 := ⟨by decide +kernel, rfl⟩
theorem dX7_feed_25 : q_d cX7_feed 25 26 (.aload_n 0) 1 := ⟨by decide +kernel, rfl⟩
theorem dX7_feed_26 : q_d cX7_feed 26 27 (.iload_n 3) 1 := ⟨by decide +kernel, rfl⟩
theorem dX7_feed_27 : q_d cX7_feed 27 30 (.invokevirtual 41) 3 := ⟨by decide +kernel, rfl⟩
theorem dX7_feed_30 : q_d cX7_feed 30 31 (.aload_n 0) 1 := ⟨by decide +kernel, rfl⟩
theorem dX7_feed_31 : q_d cX7_feed 31 33 (.iload 4) 2 := ⟨by decide +kernel, rfl⟩
theorem dX7_feed_33 : q_d cX7_feed 33 36 (.invokevirtual 41) 3 := ⟨by decide +kernel, rfl⟩
theorem dX7_feed_36 : q_d cX7_feed 36 37 (.aload_n 0) 1 := ⟨by decide +kernel, rfl⟩
theorem dX7_feed_37 : q_d cX7_feed 37 39 (.iload 5) 2 := ⟨by decide +kernel, rfl⟩
theorem dX7_feed_39 : q_d cX7_feed 39 42 (.invokevirtual 41) 3 := ⟨by decide +kernel, rfl⟩
theorem dX7_feed_42 : q_d cX7_feed 42 43 (.aload_n 0) 1 := ⟨by decide +kernel, rfl⟩
theorem dX7_feed_43 : q_d cX7_feed 43 46 (.getfield 38) 3 := ⟨by decide +kernel, rfl⟩
theorem dX7_feed_46 : q_d cX7_feed 46 47 (.ireturn) 1 := ⟨by decide +kernel, rfl⟩
theorem dX7_text_0 : q_d cX7_text 0 1 (.aload_n 0) 1 := ⟨by decide +kernel, rfl⟩
theorem dX7_text_1 : q_d cX7_text 1 2 (.iload_n 1) 1 := ⟨by decide +kernel, rfl⟩
theorem dX7_text_2 : q_j cX7_text 2 5 13 (fun o => .ifCond .lt o) := ⟨11, by decide +kernel, rfl, rfl⟩
theorem dX7_text_5 : q_d cX7_text 5 6 (.iload_n 1) 1 := ⟨by decide +kernel, rfl⟩
theorem dX7_text_6 : q_d cX7_text 6 7 (.aload_n 0) 1 := ⟨by decide +kernel, rfl⟩
theorem dX7_text_7 : q_d cX7_text 7 10 (.getfield 38) 3 := ⟨by decide +kernel, rfl⟩
theorem dX7_text_10 : q_j cX7_text 10 13 17 (fun o => .if_icmp .le o) := ⟨7, by decide +kernel, rfl, rfl⟩
theorem dX7_text_13 : q_d cX7_text 13 14 (.iconst 1) 1 := ⟨by decide +kernel, rfl⟩
theorem dX7_text_14 : q_j cX7_text 14 17 18 (fun o => .goto o) := ⟨4, by decide +kernel, rfl, rfl⟩
theorem dX7_text_17 : q_d cX7_text 17 18 (.iconst 0) 1 := ⟨by decide +kernel, rfl⟩
theorem dX7_text_18 : q_d cX7_text 18 21 (.invokevirtual 45) 3 := ⟨by decide +kernel, rfl⟩
theorem dX7_text_21 : q_d cX7_text 21 22 (.aload_n 0) 1 := ⟨by decide +kernel, rfl⟩
theorem dX7_text_22 : q_d cX7_text 22 23 (.iconst 0) 1 := ⟨by decide +kernel, rfl⟩
theorem dX7_text_23 : q_d cX7_text 23 26 (.putfield 38) 3 := ⟨by decide +kernel, rfl⟩
theorem dX7_text_26 : q_d cX7_text 26 27 (.aload_n 0) 1 := ⟨by decide +kernel, rfl⟩
theorem dX7_text_27 : q_d cX7_text 27 30 (.getfield 10) 3 := ⟨by decide +kernel, rfl⟩
theorem dX7_text_30 : q_d cX7_text 30 31 (.iload_n 1) 1 := ⟨by decide +kernel, rfl⟩
theorem dX7_text_31 : q_d cX7_text 31 34 (.invokevirtual 49) 3 := ⟨by decide +kernel, rfl⟩
theorem dX7_text_34 : q_d cX7_text 34 35 (.istore_n 2) 1 := ⟨by decide +kernel, rfl⟩
theorem dX7_text_35 : q_d cX7_text 35 36 (.iload_n 2) 1 := ⟨by decide +kernel, rfl⟩
theorem dX7_text_36 : q_j cX7_text 36 39 55 (fun o => .ifCond .eq o) := ⟨19, by decide +kernel, rfl, rfl⟩
theorem dX7_text_39 : q_d cX7_text 39 40 (.aload_n 0) 1 := ⟨by decide +kernel, rfl⟩
theorem dX7_text_40 : q_d cX7_text 40 41 (.aload_n 0) 1 := ⟨by decide +kernel, rfl⟩
theorem dX7_text_41 : q_d cX7_text 41 44 (.getfield 10) 3 := ⟨by decide +kernel, rfl⟩
theorem dX7_text_44 : q_d cX7_text 44 47 (.getfield 53) 3 := ⟨by decide +kernel, rfl⟩
theorem dX7_text_47 : q_d cX7_text 47 50 (.putfield 34) 3 := ⟨by decide +kernel, rfl⟩
theorem dX7_text_50 : q_d cX7_text 50 51 (.iload_n 2) 1 := ⟨by decide +kernel, rfl⟩
theorem dX7_text_51 : q_d cX7_text 51 53 (.bipush 10) 2 := ⟨by decide +kernel, rfl⟩
theorem dX7_text_53 : q_d cX7_text 53 54 (.isub) 1 := ⟨by decide +kernel, rfl⟩
theorem dX7_text_54 : q_d cX7_text 54 55 (.ireturn) 1 := ⟨by decide +kernel, rfl⟩
theorem dX7_text_55 : q_d cX7_text 55 56 (.aload_n 0) 1 := ⟨by decide +kernel, rfl⟩
theorem dX7_text_56 : q_d cX7_text 56 57 (.iconst (-1)) 1 := ⟨by decide +kernel, rfl⟩
theorem dX7_text_57 : q_d cX7_text 57 60 (.putfield 34) 3 := ⟨by decide +kernel, rfl⟩
theorem dX7_text_60 : q_d cX7_text 60 61 (.aload_n 0) 1 := ⟨by decide +kernel, rfl⟩
theorem dX7_text_61 : q_d cX7_text 61 64 (.invokevirtual 56) 3 := ⟨by decide +kernel, rfl⟩
theorem dX7_text_64 : q_d cX7_text 64 65 (.aload_n 0) 1 := ⟨by decide +kernel, rfl⟩
theorem dX7_text_65 : q_d cX7_text 65 68 (.getfield 26) 3 := ⟨by decide +kernel, rfl⟩
theorem dX7_text_68 : q_d cX7_text 68 69 (.aload_n 0) 1 := ⟨by decide +kernel, rfl⟩
theorem dX7_text_69 : q_d cX7_text 69 72 (.getfield 10) 3 := ⟨by decide +kernel, rfl⟩
theorem dX7_text_72 : q_d cX7_text 72 75 (.getfield 59) 3 := ⟨by decide +kernel, rfl⟩
theorem dX7_text_75 : q_d cX7_text 75 78 (.invokevirtual 63) 3 := ⟨by decide +kernel, rfl⟩
theorem dX7_text_78 : q_d cX7_text 78 79 (.aload_n 0) 1 := ⟨by decide +kernel, rfl⟩
theorem dX7_text_79 : q_d cX7_text 79 82 (.getfield 26) 3 := ⟨by decide +kernel, rfl⟩
theorem dX7_text_82 : q_d cX7_text 82 85 (.getfield 67) 3 := ⟨by decide +kernel, rfl⟩
theorem dX7_text_85 : q_d cX7_text 85 88 (.getfield 68) 3 := ⟨by decide +kernel, rfl⟩
theorem dX7_text_88 : q_d cX7_text 88 89 (.ireturn) 1 := ⟨by decide +kernel, rfl⟩
theorem dX7_fault_0 : q_d cX7_fault 0 1 (.aload_n 0) 1 := ⟨by decide +kernel, rfl⟩
theorem dX7_fault_1 : q_d cX7_fault 1 4 (.getfield 34) 3 := ⟨by decide +kernel, rfl⟩
theorem dX7_fault_4 : q_d cX7_fault 4 5 (.ireturn) 1 := ⟨by decide +kernel, rfl⟩
theorem dX7_open_0 : q_d cX7_open 0 1 (.aload_n 0) 1 := ⟨by decide +kernel, rfl⟩
theorem dX7_open_1 : q_d cX7_open 1 2 (.aload_n 0) 1 := ⟨by decide +kernel, rfl⟩
theorem dX7_open_2 : q_d cX7_open 2 5 (.getfield 26) 3 := ⟨by decide +kernel, rfl⟩
theorem dX7_open_5 : q_d cX7_open 5 8 (.getfield 67) 3 := ⟨by decide +kernel, rfl⟩
theorem dX7_open_8 : q_d cX7_open 8 9 (.iload_n 2) 1 := ⟨by decide +kernel, rfl⟩
theorem dX7_open_9 : q_d cX7_open 9 12 (.invokevirtual 73) 3 := ⟨by decide +kernel, rfl⟩
theorem dX7_open_12 : q_j cX7_open 12 15 29 (fun o => .ifCond .eq o) := ⟨17, by decide +kernel, rfl, rfl⟩
theorem dX7_open_15 : q_d cX7_open 15 16 (.aload_n 0) 1 := ⟨by decide +kernel, rfl⟩
theorem dX7_open_16 : q_d cX7_open 16 19 (.getfield 26) 3 := ⟨by decide +kernel, rfl⟩
theorem dX7_open_19 : q_d cX7_open 19 22 (.getfield 67) 3 := ⟨by decide +kernel, rfl⟩
theorem dX7_open_22 : q_d cX7_open 22 23 (.iload_n 3) 1 := ⟨by decide +kernel, rfl⟩
theorem dX7_open_23 : q_d cX7_open 23 26 (.invokevirtual 73) 3 := ⟨by decide +kernel, rfl⟩
theorem dX7_open_26 : q_j cX7_open 26 29 33 (fun o => .ifCond .ne o) := ⟨7, by decide +kernel, rfl, rfl⟩
theorem dX7_open_29 : q_d cX7_open 29 30 (.iconst 1) 1 := ⟨by decide +kernel, rfl⟩
theorem dX7_open_30 : q_j cX7_open 30 33 34 (fun o => .goto o) := ⟨4, by decide +kernel, rfl, rfl⟩
theorem dX7_open_33 : q_d cX7_open 33 34 (.iconst 0) 1 := ⟨by decide +kernel, rfl⟩
theorem dX7_open_34 : q_d cX7_open 34 37 (.invokevirtual 77) 3 := ⟨by decide +kernel, rfl⟩
theorem dX7_open_37 : q_d cX7_open 37 38 (.aload_n 0) 1 := ⟨by decide +kernel, rfl⟩
theorem dX7_open_38 : q_d cX7_open 38 39 (.iload_n 1) 1 := ⟨by decide +kernel, rfl⟩
theorem dX7_open_39 : q_d cX7_open 39 40 (.iconst 0) 1 := ⟨by decide +kernel, rfl⟩
theorem dX7_open_40 : q_d cX7_open 40 41 (.iconst 4) 1 := ⟨by decide +kernel, rfl⟩
theorem dX7_open_41 : q_d cX7_open 41 44 (.invokestatic 80) 3 := ⟨by decide +kernel, rfl⟩
theorem dX7_open_44 : q_j cX7_open 44 47 58 (fun o => .ifCond .eq o) := ⟨14, by decide +kernel, rfl, rfl⟩
theorem dX7_open_47 : q_d cX7_open 47 49 (.iload 4) 2 := ⟨by decide +kernel, rfl⟩
theorem dX7_open_49 : q_d cX7_open 49 50 (.iconst 0) 1 := ⟨by decide +kernel, rfl⟩
theorem dX7_open_50 : q_d cX7_open 50 52 (.ldc 84) 2 := ⟨by decide +kernel, rfl⟩
theorem dX7_open_52 : q_d cX7_open 52 55 (.invokestatic 80) 3 := ⟨by decide +kernel, rfl⟩
theorem dX7_open_55 : q_j cX7_open 55 58 62 (fun o => .ifCond .ne o) := ⟨7, by decide +kernel, rfl, rfl⟩
theorem dX7_open_58 : q_d cX7_open 58 59 (.iconst 1) 1 := ⟨by decide +kernel, rfl⟩
theorem dX7_open_59 : q_j cX7_open 59 62 63 (fun o => .goto o) := ⟨4, by decide +kernel, rfl, rfl⟩
theorem dX7_open_62 : q_d cX7_open 62 63 (.iconst 0) 1 := ⟨by decide +kernel, rfl⟩
theorem dX7_open_63 : q_d cX7_open 63 66 (.invokevirtual 45) 3 := ⟨by decide +kernel, rfl⟩
theorem dX7_open_66 : q_d cX7_open 66 67 (.aload_n 0) 1 := ⟨by decide +kernel, rfl⟩
theorem dX7_open_67 : q_d cX7_open 67 68 (.aload_n 0) 1 := ⟨by decide +kernel, rfl⟩
theorem dX7_open_68 : q_d cX7_open 68 71 (.getfield 26) 3 := ⟨by decide +kernel, rfl⟩
theorem dX7_open_71 : q_d cX7_open 71 74 (.getfield 85) 3 := ⟨by decide +kernel, rfl⟩
theorem dX7_open_74 : q_d cX7_open 74 76 (.bipush 12) 2 := ⟨by decide +kernel, rfl⟩
theorem dX7_open_76 : q_j cX7_open 76 79 83 (fun o => .if_icmp .lt o) := ⟨7, by decide +kernel, rfl, rfl⟩
theorem dX7_open_79 : q_d cX7_open 79 80 (.iconst 1) 1 := ⟨by decide +kernel, rfl⟩
theorem dX7_open_80 : q_j cX7_open 80 83 84 (fun o => .goto o) := ⟨4, by decide +kernel, rfl, rfl⟩
theorem dX7_open_83 : q_d cX7_open 83 84 (.iconst 0) 1 := ⟨by decide +kernel, rfl⟩
theorem dX7_open_84 : q_d cX7_open 84 87 (.invokevirtual 88) 3 := ⟨by decide +kernel, rfl⟩
theorem dX7_open_87 : q_d cX7_open 87 88 (.aload_n 0) 1 := ⟨by decide +kernel, rfl⟩
theorem dX7_open_88 : q_d cX7_open 88 91 (.invokevirtual 56) 3 := ⟨by decide +kernel, rfl⟩
theorem dX7_open_91 : q_d cX7_open 91 92 (.aload_n 0) 1 := ⟨by decide +kernel, rfl⟩
theorem dX7_open_92 : q_d cX7_open 92 95 (.getfield 26) 3 := ⟨by decide +kernel, rfl⟩
theorem dX7_open_95 : q_d cX7_open 95 98 (.getfield 91) 3 := ⟨by decide +kernel, rfl⟩
theorem dX7_open_98 : q_d cX7_open 98 99 (.aload_n 0) 1 := ⟨by decide +kernel, rfl⟩
theorem dX7_open_99 : q_d cX7_open 99 102 (.getfield 26) 3 := ⟨by decide +kernel, rfl⟩
theorem dX7_open_102 : q_d cX7_open 102 105 (.getfield 85) 3 := ⟨by decide +kernel, rfl⟩
theorem dX7_open_105 : q_d cX7_open 105 106 (.aaload) 1 := ⟨by decide +kernel, rfl⟩
theorem dX7_open_106 : q_d cX7_open 106 107 (.iload_n 1) 1 := ⟨by decide +kernel, rfl⟩
theorem dX7_open_107 : q_d cX7_open 107 108 (.iload_n 2) 1 := ⟨by decide +kernel, rfl⟩
theorem dX7_open_108 : q_d cX7_open 108 109 (.iload_n 3) 1 := ⟨by decide +kernel, rfl⟩
theorem dX7_open_109 : q_d cX7_open 109 111 (.iload 4) 2 := ⟨by decide +kernel, rfl⟩
theorem dX7_open_111 : q_d cX7_open 111 114 (.invokevirtual 95) 3 := ⟨by decide +kernel, rfl⟩
theorem dX7_open_114 : q_d cX7_open 114 115 (.aload_n 0) 1 := ⟨by decide +kernel, rfl⟩
theorem dX7_open_115 : q_d cX7_open 115 118 (.getfield 26) 3 := ⟨by decide +kernel, rfl⟩
theorem dX7_open_118 : q_d cX7_open 118 119 (.dup) 1 := ⟨by decide +kernel, rfl⟩
theorem dX7_open_119 : q_d cX7_open 119 122 (.getfield 85) 3 := ⟨by decide +kernel, rfl⟩
theorem dX7_open_122 : q_d cX7_open 122 123 (.iconst 1) 1 := ⟨by decide +kernel, rfl⟩
theorem dX7_open_123 : q_d cX7_open 123 124 (.iadd) 1 := ⟨by decide +kernel, rfl⟩
theorem dX7_open_124 : q_d cX7_open 124 127 (.putfield 85) 3 := ⟨by decide +kernel, rfl⟩
theorem dX7_open_127 : q_d cX7_open 127 128 (.aload_n 0) 1 := ⟨by decide +kernel, rfl⟩
theorem dX7_open_128 : q_d cX7_open 128 131 (.getfield 26) 3 := ⟨by decide +kernel, rfl⟩
theorem dX7_open_131 : q_d cX7_open 131 134 (.getfield 85) 3 := ⟨by decide +kernel, rfl⟩
theorem dX7_open_134 : q_d cX7_open 134 135 (.iconst 1) 1 := ⟨by decide +kernel, rfl⟩
theorem dX7_open_135 : q_d cX7_open 135 136 (.isub) 1 := ⟨by decide +kernel, rfl⟩
theorem dX7_open_136 : q_d cX7_open 136 137 (.ireturn) 1 := ⟨by decide +kernel, rfl⟩
theorem dX7_contact_0 : q_d cX7_contact 0 1 (.aload_n 0) 1 := ⟨by decide +kernel, rfl⟩
theorem dX7_contact_1 : q_d cX7_contact 1 2 (.aload_n 0) 1 := ⟨by decide +kernel, rfl⟩
theorem dX7_contact_2 : q_d cX7_contact 2 5 (.getfield 26) 3 := ⟨by decide +kernel, rfl⟩
theorem dX7_contact_5 : q_d cX7_contact 5 6 (.iload_n 1) 1 := ⟨by decide +kernel, rfl⟩
theorem dX7_contact_6 : q_d cX7_contact 6 9 (.invokevirtual 101) 3 := ⟨by decide +kernel, rfl⟩
theorem dX7_contact_9 : q_j cX7_contact 9 12 16 (fun o => .ifCond .ne o) := ⟨7, by decide +kernel, rfl, rfl⟩
theorem dX7_contact_12 : q_d cX7_contact 12 13 (.iconst 1) 1 := ⟨by decide +kernel, rfl⟩
theorem dX7_contact_13 : q_j cX7_contact 13 16 17 (fun o => .goto o) := ⟨4, by decide +kernel, rfl, rfl⟩
theorem dX7_contact_16 : q_d cX7_contact 16 17 (.iconst 0) 1 := ⟨by decide +kernel, rfl⟩
theorem dX7_contact_17 : q_d cX7_contact 17 20 (.invokevirtual 77) 3 := ⟨by decide +kernel, rfl⟩
theorem dX7_contact_20 : q_d cX7_contact 20 21 (.aload_n 0) 1 := ⟨by decide +kernel, rfl⟩
theorem dX7_contact_21 : q_d cX7_contact 21 24 (.getfield 26) 3 := ⟨by decide +kernel, rfl⟩
theorem dX7_contact_24 : q_d cX7_contact 24 27 (.getfield 91) 3 := ⟨by decide +kernel, rfl⟩
theorem dX7_contact_27 : q_d cX7_contact 27 28 (.iload_n 1) 1 := ⟨by decide +kernel, rfl⟩
theorem dX7_contact_28 : q_d cX7_contact 28 29 (.aaload) 1 := ⟨by decide +kernel, rfl⟩
theorem dX7_contact_29 : q_d cX7_contact 29 30 (.astore_n 2) 1 := ⟨by decide +kernel, rfl⟩
theorem dX7_contact_30 : q_d cX7_contact 30 31 (.aload_n 0) 1 := ⟨by decide +kernel, rfl⟩
theorem dX7_contact_31 : q_d cX7_contact 31 32 (.aload_n 2) 1 := ⟨by decide +kernel, rfl⟩
theorem dX7_contact_32 : q_d cX7_contact 32 35 (.invokevirtual 104) 3 := ⟨by decide +kernel, rfl⟩
theorem dX7_contact_35 : q_j cX7_contact 35 38 42 (fun o => .ifCond .ne o) := ⟨7, by decide +kernel, rfl, rfl⟩
theorem dX7_contact_38 : q_d cX7_contact 38 39 (.iconst 1) 1 := ⟨by decide +kernel, rfl⟩
theorem dX7_contact_39 : q_j cX7_contact 39 42 43 (fun o => .goto o) := ⟨4, by decide +kernel, rfl, rfl⟩
theorem dX7_contact_42 : q_d cX7_contact 42 43 (.iconst 0) 1 := ⟨by decide +kernel, rfl⟩
theorem dX7_contact_43 : q_d cX7_contact 43 46 (.invokevirtual 88) 3 := ⟨by decide +kernel, rfl⟩
theorem dX7_contact_46 : q_d cX7_contact 46 47 (.aload_n 0) 1 := ⟨by decide +kernel, rfl⟩
theorem dX7_contact_47 : q_d cX7_contact 47 50 (.invokevirtual 56) 3 := ⟨by decide +kernel, rfl⟩
theorem dX7_contact_50 : q_d cX7_contact 50 51 (.aload_n 2) 1 := ⟨by decide +kernel, rfl⟩
theorem dX7_contact_51 : q_d cX7_contact 51 54 (.getfield 108) 3 := ⟨by decide +kernel, rfl⟩
theorem dX7_contact_54 : q_d cX7_contact 54 55 (.istore_n 3) 1 := ⟨by decide +kernel, rfl⟩
theorem dX7_contact_55 : q_d cX7_contact 55 56 (.aload_n 2) 1 := ⟨by decide +kernel, rfl⟩
theorem dX7_contact_56 : q_d cX7_contact 56 59 (.invokevirtual 111) 3 := ⟨by decide +kernel, rfl⟩
theorem dX7_contact_59 : q_d cX7_contact 59 60 (.iload_n 3) 1 := ⟨by decide +kernel, rfl⟩
theorem dX7_contact_60 : q_d cX7_contact 60 61 (.ireturn) 1 := ⟨by decide +kernel, rfl⟩
theorem dX7_deposit_0 : q_d cX7_deposit 0 1 (.aload_n 0) 1 := ⟨by decide +kernel, rfl⟩
theorem dX7_deposit_1 : q_d cX7_deposit 1 2 (.aload_n 0) 1 := ⟨by decide +kernel, rfl⟩
theorem dX7_deposit_2 : q_d cX7_deposit 2 5 (.getfield 26) 3 := ⟨by decide +kernel, rfl⟩
theorem dX7_deposit_5 : q_d cX7_deposit 5 6 (.iload_n 1) 1 := ⟨by decide +kernel, rfl⟩
theorem dX7_deposit_6 : q_d cX7_deposit 6 9 (.invokevirtual 101) 3 := ⟨by decide +kernel, rfl⟩
theorem dX7_deposit_9 : q_j cX7_deposit 9 12 16 (fun o => .ifCond .ne o) := ⟨7, by decide +kernel, rfl, rfl⟩
theorem dX7_deposit_12 : q_d cX7_deposit 12 13 (.iconst 1) 1 := ⟨by decide +kernel, rfl⟩
theorem dX7_deposit_13 : q_j cX7_deposit 13 16 17 (fun o => .goto o) := ⟨4, by decide +kernel, rfl, rfl⟩
theorem dX7_deposit_16 : q_d cX7_deposit 16 17 (.iconst 0) 1 := ⟨by decide +kernel, rfl⟩
theorem dX7_deposit_17 : q_d cX7_deposit 17 20 (.invokevirtual 77) 3 := ⟨by decide +kernel, rfl⟩
theorem dX7_deposit_20 : q_d cX7_deposit 20 21 (.aload_n 0) 1 := ⟨by decide +kernel, rfl⟩
theorem dX7_deposit_21 : q_d cX7_deposit 21 22 (.iload_n 2) 1 := ⟨by decide +kernel, rfl⟩
theorem dX7_deposit_22 : q_d cX7_deposit 22 23 (.iconst 1) 1 := ⟨by decide +kernel, rfl⟩
theorem dX7_deposit_23 : q_d cX7_deposit 23 25 (.ldc 114) 2 := ⟨by decide +kernel, rfl⟩
theorem dX7_deposit_25 : q_d cX7_deposit 25 28 (.invokestatic 80) 3 := ⟨by decide +kernel, rfl⟩
theorem dX7_deposit_28 : q_j cX7_deposit 28 31 35 (fun o => .ifCond .ne o) := ⟨7, by decide +kernel, rfl, rfl⟩
theorem dX7_deposit_31 : q_d cX7_deposit 31 32 (.iconst 1) 1 := ⟨by decide +kernel, rfl⟩
theorem dX7_deposit_32 : q_j cX7_deposit 32 35 36 (fun o => .goto o) := ⟨4, by decide +kernel, rfl, rfl⟩
theorem dX7_deposit_35 : q_d cX7_deposit 35 36 (.iconst 0) 1 := ⟨by decide +kernel, rfl⟩
theorem dX7_deposit_36 : q_d cX7_deposit 36 39 (.invokevirtual 45) 3 := ⟨by decide +kernel, rfl⟩
theorem dX7_deposit_39 : q_d cX7_deposit 39 40 (.aload_n 0) 1 := ⟨by decide +kernel, rfl⟩
theorem dX7_deposit_40 : q_d cX7_deposit 40 43 (.getfield 26) 3 := ⟨by decide +kernel, rfl⟩
theorem dX7_deposit_43 : q_d cX7_deposit 43 46 (.getfield 91) 3 := ⟨by decide +kernel, rfl⟩
theorem dX7_deposit_46 : q_d cX7_deposit 46 47 (.iload_n 1) 1 := ⟨by decide +kernel, rfl⟩
theorem dX7_deposit_47 : q_d cX7_deposit 47 48 (.aaload) 1 := ⟨by decide +kernel, rfl⟩
theorem dX7_deposit_48 : q_d cX7_deposit 48 49 (.astore_n 3) 1 := ⟨by decide +kernel, rfl⟩
theorem dX7_deposit_49 : q_d cX7_deposit 49 50 (.aload_n 0) 1 := ⟨by decide +kernel, rfl⟩
theorem dX7_deposit_50 : q_d cX7_deposit 50 51 (.aload_n 3) 1 := ⟨by decide +kernel, rfl⟩
theorem dX7_deposit_51 : q_d cX7_deposit 51 54 (.invokevirtual 104) 3 := ⟨by decide +kernel, rfl⟩
theorem dX7_deposit_54 : q_j cX7_deposit 54 57 68 (fun o => .ifCond .eq o) := ⟨14, by decide +kernel, rfl, rfl⟩
theorem dX7_deposit_57 : q_d cX7_deposit 57 58 (.aload_n 3) 1 := ⟨by decide +kernel, rfl⟩
theorem dX7_deposit_58 : q_d cX7_deposit 58 61 (.getfield 115) 3 := ⟨by decide +kernel, rfl⟩
theorem dX7_deposit_61 : q_d cX7_deposit 61 63 (.ldc 84) 2 := ⟨by decide +kernel, rfl⟩
theorem dX7_deposit_63 : q_d cX7_deposit 63 64 (.iload_n 2) 1 := ⟨by decide +kernel, rfl⟩
theorem dX7_deposit_64 : q_d cX7_deposit 64 65 (.isub) 1 := ⟨by decide +kernel, rfl⟩
theorem dX7_deposit_65 : q_j cX7_deposit 65 68 72 (fun o => .if_icmp .le o) := ⟨7, by decide +kernel, rfl, rfl⟩
theorem dX7_deposit_68 : q_d cX7_deposit 68 69 (.iconst 1) 1 := ⟨by decide +kernel, rfl⟩
theorem dX7_deposit_69 : q_j cX7_deposit 69 72 73 (fun o => .goto o) := ⟨4, by decide +kernel, rfl, rfl⟩
theorem dX7_deposit_72 : q_d cX7_deposit 72 73 (.iconst 0) 1 := ⟨by decide +kernel, rfl⟩
theorem dX7_deposit_73 : q_d cX7_deposit 73 76 (.invokevirtual 88) 3 := ⟨by decide +kernel, rfl⟩
theorem dX7_deposit_76 : q_d cX7_deposit 76 77 (.aload_n 0) 1 := ⟨by decide +kernel, rfl⟩
theorem dX7_deposit_77 : q_d cX7_deposit 77 80 (.invokevirtual 56) 3 := ⟨by decide +kernel, rfl⟩
theorem dX7_deposit_80 : q_d cX7_deposit 80 81 (.aload_n 3) 1 := ⟨by decide +kernel, rfl⟩
theorem dX7_deposit_81 : q_d cX7_deposit 81 82 (.iload_n 2) 1 := ⟨by decide +kernel, rfl⟩
theorem dX7_deposit_82 : q_d cX7_deposit 82 85 (.invokevirtual 118) 3 := ⟨by decide +kernel, rfl⟩
theorem dX7_deposit_85 : q_d cX7_deposit 85 86 (.aload_n 3) 1 := ⟨by decide +kernel, rfl⟩
theorem dX7_deposit_86 : q_d cX7_deposit 86 89 (.invokevirtual 111) 3 := ⟨by decide +kernel, rfl⟩
theorem dX7_deposit_89 : q_d cX7_deposit 89 90 (.aload_n 3) 1 := ⟨by decide +kernel, rfl⟩
theorem dX7_deposit_90 : q_d cX7_deposit 90 93 (.getfield 115) 3 := ⟨by decide +kernel, rfl⟩
theorem dX7_deposit_93 : q_d cX7_deposit 93 94 (.ireturn) 1 := ⟨by decide +kernel, rfl⟩
theorem dX7_draw_0 : q_d cX7_draw 0 1 (.aload_n 0) 1 := ⟨by decide +kernel, rfl⟩
theorem dX7_draw_1 : q_d cX7_draw 1 2 (.aload_n 0) 1 := ⟨by decide +kernel, rfl⟩
theorem dX7_draw_2 : q_d cX7_draw 2 5 (.getfield 26) 3 := ⟨by decide +kernel, rfl⟩
theorem dX7_draw_5 : q_d cX7_draw 5 6 (.iload_n 1) 1 := ⟨by decide +kernel, rfl⟩
theorem dX7_draw_6 : q_d cX7_draw 6 9 (.invokevirtual 101) 3 := ⟨by decide +kernel, rfl⟩
theorem dX7_draw_9 : q_j cX7_draw 9 12 16 (fun o => .ifCond .ne o) := ⟨7, by decide +kernel, rfl, rfl⟩
theorem dX7_draw_12 : q_d cX7_draw 12 13 (.iconst 1) 1 := ⟨by decide +kernel, rfl⟩
theorem dX7_draw_13 : q_j cX7_draw 13 16 17 (fun o => .goto o) := ⟨4, by decide +kernel, rfl, rfl⟩
theorem dX7_draw_16 : q_d cX7_draw 16 17 (.iconst 0) 1 := ⟨by decide +kernel, rfl⟩
theorem dX7_draw_17 : q_d cX7_draw 17 20 (.invokevirtual 77) 3 := ⟨by decide +kernel, rfl⟩
theorem dX7_draw_20 : q_d cX7_draw 20 21 (.aload_n 0) 1 := ⟨by decide +kernel, rfl⟩
theorem dX7_draw_21 : q_d cX7_draw 21 22 (.iload_n 2) 1 := ⟨by decide +kernel, rfl⟩
theorem dX7_draw_22 : q_d cX7_draw 22 23 (.iconst 1) 1 := ⟨by decide +kernel, rfl⟩
theorem dX7_draw_23 : q_d cX7_draw 23 25 (.ldc 114) 2 := ⟨by decide +kernel, rfl⟩
theorem dX7_draw_25 : q_d cX7_draw 25 28 (.invokestatic 80) 3 := ⟨by decide +kernel, rfl⟩
theorem dX7_draw_28 : q_j cX7_draw 28 31 35 (fun o => .ifCond .ne o) := ⟨7, by decide +kernel, rfl, rfl⟩
theorem dX7_draw_31 : q_d cX7_draw 31 32 (.iconst 1) 1 := ⟨by decide +kernel, rfl⟩
theorem dX7_draw_32 : q_j cX7_draw 32 35 36 (fun o => .goto o) := ⟨4, by decide +kernel, rfl, rfl⟩
theorem dX7_draw_35 : q_d cX7_draw 35 36 (.iconst 0) 1 := ⟨by decide +kernel, rfl⟩
theorem dX7_draw_36 : q_d cX7_draw 36 39 (.invokevirtual 45) 3 := ⟨by decide +kernel, rfl⟩
theorem dX7_draw_39 : q_d cX7_draw 39 40 (.aload_n 0) 1 := ⟨by decide +kernel, rfl⟩
theorem dX7_draw_40 : q_d cX7_draw 40 43 (.getfield 26) 3 := ⟨by decide +kernel, rfl⟩
theorem dX7_draw_43 : q_d cX7_draw 43 46 (.getfield 91) 3 := ⟨by decide +kernel, rfl⟩
theorem dX7_draw_46 : q_d cX7_draw 46 47 (.iload_n 1) 1 := ⟨by decide +kernel, rfl⟩
theorem dX7_draw_47 : q_d cX7_draw 47 48 (.aaload) 1 := ⟨by decide +kernel, rfl⟩
theorem dX7_draw_48 : q_d cX7_draw 48 49 (.astore_n 3) 1 := ⟨by decide +kernel, rfl⟩
theorem dX7_draw_49 : q_d cX7_draw 49 50 (.aload_n 0) 1 := ⟨by decide +kernel, rfl⟩
theorem dX7_draw_50 : q_d cX7_draw 50 51 (.aload_n 3) 1 := ⟨by decide +kernel, rfl⟩
theorem dX7_draw_51 : q_d cX7_draw 51 54 (.invokevirtual 104) 3 := ⟨by decide +kernel, rfl⟩
theorem dX7_draw_54 : q_j cX7_draw 54 57 65 (fun o => .ifCond .eq o) := ⟨11, by decide +kernel, rfl, rfl⟩
theorem dX7_draw_57 : q_d cX7_draw 57 58 (.aload_n 3) 1 := ⟨by decide +kernel, rfl⟩
theorem dX7_draw_58 : q_d cX7_draw 58 61 (.getfield 115) 3 := ⟨by decide +kernel, rfl⟩
theorem dX7_draw_61 : q_d cX7_draw 61 62 (.iload_n 2) 1 := ⟨by decide +kernel, rfl⟩
theorem dX7_draw_62 : q_j cX7_draw 62 65 69 (fun o => .if_icmp .ge o) := ⟨7, by decide +kernel, rfl, rfl⟩
theorem dX7_draw_65 : q_d cX7_draw 65 66 (.iconst 1) 1 := ⟨by decide +kernel, rfl⟩
theorem dX7_draw_66 : q_j cX7_draw 66 69 70 (fun o => .goto o) := ⟨4, by decide +kernel, rfl, rfl⟩
theorem dX7_draw_69 : q_d cX7_draw 69 70 (.iconst 0) 1 := ⟨by decide +kernel, rfl⟩
theorem dX7_draw_70 : q_d cX7_draw 70 73 (.invokevirtual 88) 3 := ⟨by decide +kernel, rfl⟩
theorem dX7_draw_73 : q_d cX7_draw 73 74 (.aload_n 0) 1 := ⟨by decide +kernel, rfl⟩
theorem dX7_draw_74 : q_d cX7_draw 74 77 (.invokevirtual 56) 3 := ⟨by decide +kernel, rfl⟩
theorem dX7_draw_77 : q_d cX7_draw 77 78 (.aload_n 3) 1 := ⟨by decide +kernel, rfl⟩
theorem dX7_draw_78 : q_d cX7_draw 78 79 (.iload_n 2) 1 := ⟨by decide +kernel, rfl⟩
theorem dX7_draw_79 : q_d cX7_draw 79 82 (.invokevirtual 121) 3 := ⟨by decide +kernel, rfl⟩
theorem dX7_draw_82 : q_d cX7_draw 82 83 (.aload_n 3) 1 := ⟨by decide +kernel, rfl⟩
theorem dX7_draw_83 : q_d cX7_draw 83 86 (.invokevirtual 111) 3 := ⟨by decide +kernel, rfl⟩
theorem dX7_draw_86 : q_d cX7_draw 86 87 (.aload_n 3) 1 := ⟨by decide +kernel, rfl⟩
theorem dX7_draw_87 : q_d cX7_draw 87 90 (.getfield 115) 3 := ⟨by decide +kernel, rfl⟩
theorem dX7_draw_90 : q_d cX7_draw 90 91 (.ireturn) 1 := ⟨by decide +kernel, rfl⟩
theorem dX7_address_0 : q_d cX7_address 0 1 (.aload_n 0) 1 := ⟨by decide +kernel, rfl⟩
theorem dX7_address_1 : q_d cX7_address 1 2 (.aload_n 0) 1 := ⟨by decide +kernel, rfl⟩
theorem dX7_address_2 : q_d cX7_address 2 5 (.getfield 26) 3 := ⟨by decide +kernel, rfl⟩
theorem dX7_address_5 : q_d cX7_address 5 6 (.iload_n 1) 1 := ⟨by decide +kernel, rfl⟩
theorem dX7_address_6 : q_d cX7_address 6 9 (.invokevirtual 101) 3 := ⟨by decide +kernel, rfl⟩
theorem dX7_address_9 : q_j cX7_address 9 12 26 (fun o => .ifCond .eq o) := ⟨17, by decide +kernel, rfl, rfl⟩
theorem dX7_address_12 : q_d cX7_address 12 13 (.aload_n 0) 1 := ⟨by decide +kernel, rfl⟩
theorem dX7_address_13 : q_d cX7_address 13 16 (.getfield 26) 3 := ⟨by decide +kernel, rfl⟩
theorem dX7_address_16 : q_d cX7_address 16 19 (.getfield 67) 3 := ⟨by decide +kernel, rfl⟩
theorem dX7_address_19 : q_d cX7_address 19 20 (.iload_n 2) 1 := ⟨by decide +kernel, rfl⟩
theorem dX7_address_20 : q_d cX7_address 20 23 (.invokevirtual 73) 3 := ⟨by decide +kernel, rfl⟩
theorem dX7_address_23 : q_j cX7_address 23 26 30 (fun o => .ifCond .ne o) := ⟨7, by decide +kernel, rfl, rfl⟩
theorem dX7_address_26 : q_d cX7_address 26 27 (.iconst 1) 1 := ⟨by decide +kernel, rfl⟩
theorem dX7_address_27 : q_j cX7_address 27 30 31 (fun o => .goto o) := ⟨4, by decide +kernel, rfl, rfl⟩
theorem dX7_address_30 : q_d cX7_address 30 31 (.iconst 0) 1 := ⟨by decide +kernel, rfl⟩
theorem dX7_address_31 : q_d cX7_address 31 34 (.invokevirtual 77) 3 := ⟨by decide +kernel, rfl⟩
theorem dX7_address_34 : q_d cX7_address 34 35 (.aload_n 0) 1 := ⟨by decide +kernel, rfl⟩
theorem dX7_address_35 : q_d cX7_address 35 38 (.invokevirtual 56) 3 := ⟨by decide +kernel, rfl⟩
theorem dX7_address_38 : q_d cX7_address 38 39 (.aload_n 0) 1 := ⟨by decide +kernel, rfl⟩
theorem dX7_address_39 : q_d cX7_address 39 42 (.getfield 26) 3 := ⟨by decide +kernel, rfl⟩
theorem dX7_address_42 : q_d cX7_address 42 45 (.getfield 91) 3 := ⟨by decide +kernel, rfl⟩
theorem dX7_address_45 : q_d cX7_address 45 46 (.iload_n 1) 1 := ⟨by decide +kernel, rfl⟩
theorem dX7_address_46 : q_d cX7_address 46 47 (.aaload) 1 := ⟨by decide +kernel, rfl⟩
theorem dX7_address_47 : q_d cX7_address 47 48 (.astore_n 3) 1 := ⟨by decide +kernel, rfl⟩
theorem dX7_address_48 : q_d cX7_address 48 49 (.aload_n 3) 1 := ⟨by decide +kernel, rfl⟩
theorem dX7_address_49 : q_d cX7_address 49 52 (.getfield 124) 3 := ⟨by decide +kernel, rfl⟩
theorem dX7_address_52 : q_d cX7_address 52 54 (.istore 4) 2 := ⟨by decide +kernel, rfl⟩
theorem dX7_address_54 : q_d cX7_address 54 55 (.aload_n 3) 1 := ⟨by decide +kernel, rfl⟩
theorem dX7_address_55 : q_d cX7_address 55 56 (.iload_n 2) 1 := ⟨by decide +kernel, rfl⟩
theorem dX7_address_56 : q_d cX7_address 56 59 (.putfield 124) 3 := ⟨by decide +kernel, rfl⟩
theorem dX7_address_59 : q_d cX7_address 59 61 (.iload 4) 2 := ⟨by decide +kernel, rfl⟩
theorem dX7_address_61 : q_d cX7_address 61 62 (.ireturn) 1 := ⟨by decide +kernel, rfl⟩
theorem dX7_close_0 : q_d cX7_close 0 1 (.aload_n 0) 1 := ⟨by decide +kernel, rfl⟩
theorem dX7_close_1 : q_d cX7_close 1 2 (.aload_n 0) 1 := ⟨by decide +kernel, rfl⟩
theorem dX7_close_2 : q_d cX7_close 2 5 (.getfield 26) 3 := ⟨by decide +kernel, rfl⟩
theorem dX7_close_5 : q_d cX7_close 5 6 (.iload_n 1) 1 := ⟨by decide +kernel, rfl⟩
theorem dX7_close_6 : q_d cX7_close 6 9 (.invokevirtual 101) 3 := ⟨by decide +kernel, rfl⟩
theorem dX7_close_9 : q_j cX7_close 9 12 16 (fun o => .ifCond .ne o) := ⟨7, by decide +kernel, rfl, rfl⟩
theorem dX7_close_12 : q_d cX7_close 12 13 (.iconst 1) 1 := ⟨by decide +kernel, rfl⟩
theorem dX7_close_13 : q_j cX7_close 13 16 17 (fun o => .goto o) := ⟨4, by decide +kernel, rfl, rfl⟩
theorem dX7_close_16 : q_d cX7_close 16 17 (.iconst 0) 1 := ⟨by decide +kernel, rfl⟩
theorem dX7_close_17 : q_d cX7_close 17 20 (.invokevirtual 77) 3 := ⟨by decide +kernel, rfl⟩
theorem dX7_close_20 : q_d cX7_close 20 21 (.aload_n 0) 1 := ⟨by decide +kernel, rfl⟩
theorem dX7_close_21 : q_d cX7_close 21 24 (.getfield 26) 3 := ⟨by decide +kernel, rfl⟩
theorem dX7_close_24 : q_d cX7_close 24 27 (.getfield 91) 3 := ⟨by decide +kernel, rfl⟩
theorem dX7_close_27 : q_d cX7_close 27 28 (.iload_n 1) 1 := ⟨by decide +kernel, rfl⟩
theorem dX7_close_28 : q_d cX7_close 28 29 (.aaload) 1 := ⟨by decide +kernel, rfl⟩
theorem dX7_close_29 : q_d cX7_close 29 30 (.astore_n 2) 1 := ⟨by decide +kernel, rfl⟩
theorem dX7_close_30 : q_d cX7_close 30 31 (.aload_n 0) 1 := ⟨by decide +kernel, rfl⟩
theorem dX7_close_31 : q_d cX7_close 31 32 (.aload_n 2) 1 := ⟨by decide +kernel, rfl⟩
theorem dX7_close_32 : q_d cX7_close 32 35 (.invokevirtual 104) 3 := ⟨by decide +kernel, rfl⟩
theorem dX7_close_35 : q_j cX7_close 35 38 42 (fun o => .ifCond .ne o) := ⟨7, by decide +kernel, rfl, rfl⟩
theorem dX7_close_38 : q_d cX7_close 38 39 (.iconst 1) 1 := ⟨by decide +kernel, rfl⟩
theorem dX7_close_39 : q_j cX7_close 39 42 43 (fun o => .goto o) := ⟨4, by decide +kernel, rfl, rfl⟩
theorem dX7_close_42 : q_d cX7_close 42 43 (.iconst 0) 1 := ⟨by decide +kernel, rfl⟩
theorem dX7_close_43 : q_d cX7_close 43 46 (.invokevirtual 88) 3 := ⟨by decide +kernel, rfl⟩
theorem dX7_close_46 : q_d cX7_close 46 47 (.aload_n 0) 1 := ⟨by decide +kernel, rfl⟩
theorem dX7_close_47 : q_d cX7_close 47 50 (.invokevirtual 56) 3 := ⟨by decide +kernel, rfl⟩
theorem dX7_close_50 : q_d cX7_close 50 51 (.aload_n 2) 1 := ⟨by decide +kernel, rfl⟩
theorem dX7_close_51 : q_d cX7_close 51 54 (.getfield 115) 3 := ⟨by decide +kernel, rfl⟩
theorem dX7_close_54 : q_d cX7_close 54 55 (.istore_n 3) 1 := ⟨by decide +kernel, rfl⟩
theorem dX7_close_55 : q_d cX7_close 55 56 (.aload_n 2) 1 := ⟨by decide +kernel, rfl⟩
theorem dX7_close_56 : q_d cX7_close 56 57 (.iload_n 3) 1 := ⟨by decide +kernel, rfl⟩
theorem dX7_close_57 : q_d cX7_close 57 60 (.invokevirtual 121) 3 := ⟨by decide +kernel, rfl⟩
theorem dX7_close_60 : q_d cX7_close 60 61 (.aload_n 2) 1 := ⟨by decide +kernel, rfl⟩
theorem dX7_close_61 : q_d cX7_close 61 62 (.iconst 4) 1 := ⟨by decide +kernel, rfl⟩
theorem dX7_close_62 : q_d cX7_close 62 65 (.putfield 127) 3 := ⟨by decide +kernel, rfl⟩
theorem dX7_close_65 : q_d cX7_close 65 66 (.iload_n 3) 1 := ⟨by decide +kernel, rfl⟩
theorem dX7_close_66 : q_d cX7_close 66 67 (.ireturn) 1 := ⟨by decide +kernel, rfl⟩
theorem dX7_months_0 : q_d cX7_months 0 1 (.aload_n 0) 1 := ⟨by decide +kernel, rfl⟩
theorem dX7_months_1 : q_d cX7_months 1 2 (.iload_n 1) 1 := ⟨by decide +kernel, rfl⟩
theorem dX7_months_2 : q_d cX7_months 2 3 (.iconst 1) 1 := ⟨by decide +kernel, rfl⟩
theorem dX7_months_3 : q_d cX7_months 3 5 (.bipush 120) 2 := ⟨by decide +kernel, rfl⟩
theorem dX7_months_5 : q_d cX7_months 5 8 (.invokestatic 80) 3 := ⟨by decide +kernel, rfl⟩
theorem dX7_months_8 : q_j cX7_months 8 11 15 (fun o => .ifCond .ne o) := ⟨7, by decide +kernel, rfl, rfl⟩
theorem dX7_months_11 : q_d cX7_months 11 12 (.iconst 1) 1 := ⟨by decide +kernel, rfl⟩
theorem dX7_months_12 : q_j cX7_months 12 15 16 (fun o => .goto o) := ⟨4, by decide +kernel, rfl, rfl⟩
theorem dX7_months_15 : q_d cX7_months 15 16 (.iconst 0) 1 := ⟨by decide +kernel, rfl⟩
theorem dX7_months_16 : q_d cX7_months 16 19 (.invokevirtual 45) 3 := ⟨by decide +kernel, rfl⟩
theorem dX7_months_19 : q_d cX7_months 19 20 (.aload_n 0) 1 := ⟨by decide +kernel, rfl⟩
theorem dX7_months_20 : q_d cX7_months 20 21 (.aload_n 0) 1 := ⟨by decide +kernel, rfl⟩
theorem dX7_months_21 : q_d cX7_months 21 24 (.getfield 26) 3 := ⟨by decide +kernel, rfl⟩
theorem dX7_months_24 : q_d cX7_months 24 27 (.getfield 130) 3 := ⟨by decide +kernel, rfl⟩
theorem dX7_months_27 : q_d cX7_months 27 28 (.iload_n 1) 1 := ⟨by decide +kernel, rfl⟩
theorem dX7_months_28 : q_d cX7_months 28 29 (.iadd) 1 := ⟨by decide +kernel, rfl⟩
theorem dX7_months_29 : q_d cX7_months 29 32 (.sipush 6000) 3 := ⟨by decide +kernel, rfl⟩
theorem dX7_months_32 : q_j cX7_months 32 35 39 (fun o => .if_icmp .le o) := ⟨7, by decide +kernel, rfl, rfl⟩
theorem dX7_months_35 : q_d cX7_months 35 36 (.iconst 1) 1 := ⟨by decide +kernel, rfl⟩
theorem dX7_months_36 : q_j cX7_months 36 39 40 (fun o => .goto o) := ⟨4, by decide +kernel, rfl, rfl⟩
theorem dX7_months_39 : q_d cX7_months 39 40 (.iconst 0) 1 := ⟨by decide +kernel, rfl⟩
theorem dX7_months_40 : q_d cX7_months 40 43 (.invokevirtual 88) 3 := ⟨by decide +kernel, rfl⟩
theorem dX7_months_43 : q_d cX7_months 43 44 (.aload_n 0) 1 := ⟨by decide +kernel, rfl⟩
theorem dX7_months_44 : q_d cX7_months 44 47 (.invokevirtual 56) 3 := ⟨by decide +kernel, rfl⟩
theorem dX7_months_47 : q_d cX7_months 47 48 (.iconst 0) 1 := ⟨by decide +kernel, rfl⟩
theorem dX7_months_48 : q_d cX7_months 48 49 (.istore_n 2) 1 := ⟨by decide +kernel, rfl⟩
theorem dX7_months_49 : q_d cX7_months 49 50 (.iconst 0) 1 := ⟨by decide +kernel, rfl⟩
theorem dX7_months_50 : q_d cX7_months 50 51 (.istore_n 3) 1 := ⟨by decide +kernel, rfl⟩
theorem dX7_months_51 : q_d cX7_months 51 52 (.iload_n 3) 1 := ⟨by decide +kernel, rfl⟩
theorem dX7_months_52 : q_d cX7_months 52 53 (.iload_n 1) 1 := ⟨by decide +kernel, rfl⟩
theorem dX7_months_53 : q_j cX7_months 53 56 72 (fun o => .if_icmp .ge o) := ⟨19, by decide +kernel, rfl, rfl⟩
theorem dX7_months_56 : q_d cX7_months 56 57 (.iload_n 2) 1 := ⟨by decide +kernel, rfl⟩
theorem dX7_months_57 : q_d cX7_months 57 58 (.aload_n 0) 1 := ⟨by decide +kernel, rfl⟩
theorem dX7_months_58 : q_d cX7_months 58 61 (.getfield 26) 3 := ⟨by decide +kernel, rfl⟩
theorem dX7_months_61 : q_d cX7_months 61 64 (.invokevirtual 133) 3 := ⟨by decide +kernel, rfl⟩
theorem dX7_months_64 : q_d cX7_months 64 65 (.iadd) 1 := ⟨by decide +kernel, rfl⟩
theorem dX7_months_65 : q_d cX7_months 65 66 (.istore_n 2) 1 := ⟨by decide +kernel, rfl⟩
theorem dX7_months_66 : q_d cX7_months 66 69 (.iinc 3 1) 3 := ⟨by decide +kernel, rfl⟩
theorem dX7_months_69 : q_j cX7_months 69 72 51 (fun o => .goto o) := ⟨(-18), by decide +kernel, rfl, rfl⟩
theorem dX7_months_72 : q_d cX7_months 72 73 (.iload_n 2) 1 := ⟨by decide +kernel, rfl⟩
theorem dX7_months_73 : q_d cX7_months 73 74 (.ireturn) 1 := ⟨by decide +kernel, rfl⟩
theorem dX7_claim_0 : q_d cX7_claim 0 1 (.aload_n 0) 1 := ⟨by decide +kernel, rfl⟩
theorem dX7_claim_1 : q_d cX7_claim 1 2 (.aload_n 0) 1 := ⟨by decide +kernel, rfl⟩
theorem dX7_claim_2 : q_d cX7_claim 2 5 (.getfield 26) 3 := ⟨by decide +kernel, rfl⟩
theorem dX7_claim_5 : q_d cX7_claim 5 6 (.iload_n 1) 1 := ⟨by decide +kernel, rfl⟩
theorem dX7_claim_6 : q_d cX7_claim 6 9 (.invokevirtual 101) 3 := ⟨by decide +kernel, rfl⟩
theorem dX7_claim_9 : q_j cX7_claim 9 12 16 (fun o => .ifCond .ne o) := ⟨7, by decide +kernel, rfl, rfl⟩
theorem dX7_claim_12 : q_d cX7_claim 12 13 (.iconst 1) 1 := ⟨by decide +kernel, rfl⟩
theorem dX7_claim_13 : q_j cX7_claim 13 16 17 (fun o => .goto o) := ⟨4, by decide +kernel, rfl, rfl⟩
theorem dX7_claim_16 : q_d cX7_claim 16 17 (.iconst 0) 1 := ⟨by decide +kernel, rfl⟩
theorem dX7_claim_17 : q_d cX7_claim 17 20 (.invokevirtual 77) 3 := ⟨by decide +kernel, rfl⟩
theorem dX7_claim_20 : q_d cX7_claim 20 21 (.aload_n 0) 1 := ⟨by decide +kernel, rfl⟩
theorem dX7_claim_21 : q_d cX7_claim 21 24 (.getfield 26) 3 := ⟨by decide +kernel, rfl⟩
theorem dX7_claim_24 : q_d cX7_claim 24 27 (.getfield 91) 3 := ⟨by decide +kernel, rfl⟩
theorem dX7_claim_27 : q_d cX7_claim 27 28 (.iload_n 1) 1 := ⟨by decide +kernel, rfl⟩
theorem dX7_claim_28 : q_d cX7_claim 28 29 (.aaload) 1 := ⟨by decide +kernel, rfl⟩
theorem dX7_claim_29 : q_d cX7_claim 29 30 (.astore_n 2) 1 := ⟨by decide +kernel, rfl⟩
theorem dX7_claim_30 : q_d cX7_claim 30 31 (.aload_n 0) 1 := ⟨by decide +kernel, rfl⟩
theorem dX7_claim_31 : q_d cX7_claim 31 32 (.aload_n 2) 1 := ⟨by decide +kernel, rfl⟩
theorem dX7_claim_32 : q_d cX7_claim 32 35 (.invokevirtual 137) 3 := ⟨by decide +kernel, rfl⟩
theorem dX7_claim_35 : q_j cX7_claim 35 38 42 (fun o => .ifCond .ne o) := ⟨7, by decide +kernel, rfl, rfl⟩
theorem dX7_claim_38 : q_d cX7_claim 38 39 (.iconst 1) 1 := ⟨by decide +kernel, rfl⟩
theorem dX7_claim_39 : q_j cX7_claim 39 42 43 (fun o => .goto o) := ⟨4, by decide +kernel, rfl, rfl⟩
theorem dX7_claim_42 : q_d cX7_claim 42 43 (.iconst 0) 1 := ⟨by decide +kernel, rfl⟩
theorem dX7_claim_43 : q_d cX7_claim 43 46 (.invokevirtual 88) 3 := ⟨by decide +kernel, rfl⟩
theorem dX7_claim_46 : q_d cX7_claim 46 47 (.aload_n 0) 1 := ⟨by decide +kernel, rfl⟩
theorem dX7_claim_47 : q_d cX7_claim 47 50 (.invokevirtual 56) 3 := ⟨by decide +kernel, rfl⟩
theorem dX7_claim_50 : q_d cX7_claim 50 51 (.aload_n 0) 1 := ⟨by decide +kernel, rfl⟩
theorem dX7_claim_51 : q_d cX7_claim 51 54 (.getfield 26) 3 := ⟨by decide +kernel, rfl⟩
theorem dX7_claim_54 : q_d cX7_claim 54 55 (.aload_n 2) 1 := ⟨by decide +kernel, rfl⟩
theorem dX7_claim_55 : q_d cX7_claim 55 58 (.invokevirtual 140) 3 := ⟨by decide +kernel, rfl⟩
theorem dX7_claim_58 : q_d cX7_claim 58 59 (.lreturn) 1 := ⟨by decide +kernel, rfl⟩
theorem dX7_pass_0 : q_d cX7_pass 0 1 (.aload_n 0) 1 := ⟨by decide +kernel, rfl⟩
theorem dX7_pass_1 : q_d cX7_pass 1 2 (.aload_n 0) 1 := ⟨by decide +kernel, rfl⟩
theorem dX7_pass_2 : q_d cX7_pass 2 5 (.getfield 26) 3 := ⟨by decide +kernel, rfl⟩
theorem dX7_pass_5 : q_d cX7_pass 5 6 (.iload_n 1) 1 := ⟨by decide +kernel, rfl⟩
theorem dX7_pass_6 : q_d cX7_pass 6 9 (.invokevirtual 101) 3 := ⟨by decide +kernel, rfl⟩
theorem dX7_pass_9 : q_j cX7_pass 9 12 16 (fun o => .ifCond .ne o) := ⟨7, by decide +kernel, rfl, rfl⟩
theorem dX7_pass_12 : q_d cX7_pass 12 13 (.iconst 1) 1 := ⟨by decide +kernel, rfl⟩
theorem dX7_pass_13 : q_j cX7_pass 13 16 17 (fun o => .goto o) := ⟨4, by decide +kernel, rfl, rfl⟩
theorem dX7_pass_16 : q_d cX7_pass 16 17 (.iconst 0) 1 := ⟨by decide +kernel, rfl⟩
theorem dX7_pass_17 : q_d cX7_pass 17 20 (.invokevirtual 77) 3 := ⟨by decide +kernel, rfl⟩
theorem dX7_pass_20 : q_d cX7_pass 20 21 (.aload_n 0) 1 := ⟨by decide +kernel, rfl⟩
theorem dX7_pass_21 : q_d cX7_pass 21 24 (.getfield 26) 3 := ⟨by decide +kernel, rfl⟩
theorem dX7_pass_24 : q_d cX7_pass 24 27 (.getfield 91) 3 := ⟨by decide +kernel, rfl⟩
theorem dX7_pass_27 : q_d cX7_pass 27 28 (.iload_n 1) 1 := ⟨by decide +kernel, rfl⟩
theorem dX7_pass_28 : q_d cX7_pass 28 29 (.aaload) 1 := ⟨by decide +kernel, rfl⟩
theorem dX7_pass_29 : q_d cX7_pass 29 30 (.astore_n 2) 1 := ⟨by decide +kernel, rfl⟩
theorem dX7_pass_30 : q_d cX7_pass 30 31 (.aload_n 0) 1 := ⟨by decide +kernel, rfl⟩
theorem dX7_pass_31 : q_d cX7_pass 31 34 (.getfield 26) 3 := ⟨by decide +kernel, rfl⟩
theorem dX7_pass_34 : q_d cX7_pass 34 37 (.getfield 67) 3 := ⟨by decide +kernel, rfl⟩
theorem dX7_pass_37 : q_d cX7_pass 37 38 (.aload_n 2) 1 := ⟨by decide +kernel, rfl⟩
theorem dX7_pass_38 : q_d cX7_pass 38 41 (.invokevirtual 144) 3 := ⟨by decide +kernel, rfl⟩
theorem dX7_pass_41 : q_d cX7_pass 41 42 (.istore_n 3) 1 := ⟨by decide +kernel, rfl⟩
theorem dX7_pass_42 : q_d cX7_pass 42 43 (.aload_n 0) 1 := ⟨by decide +kernel, rfl⟩
theorem dX7_pass_43 : q_d cX7_pass 43 44 (.aload_n 2) 1 := ⟨by decide +kernel, rfl⟩
theorem dX7_pass_44 : q_d cX7_pass 44 47 (.getfield 127) 3 := ⟨by decide +kernel, rfl⟩
theorem dX7_pass_47 : q_d cX7_pass 47 48 (.iconst 2) 1 := ⟨by decide +kernel, rfl⟩
theorem dX7_pass_48 : q_j cX7_pass 48 51 73 (fun o => .if_icmp .ne o) := ⟨25, by decide +kernel, rfl, rfl⟩
theorem dX7_pass_51 : q_d cX7_pass 51 52 (.aload_n 0) 1 := ⟨by decide +kernel, rfl⟩
theorem dX7_pass_52 : q_d cX7_pass 52 55 (.getfield 26) 3 := ⟨by decide +kernel, rfl⟩
theorem dX7_pass_55 : q_d cX7_pass 55 58 (.getfield 67) 3 := ⟨by decide +kernel, rfl⟩
theorem dX7_pass_58 : q_d cX7_pass 58 59 (.iload_n 3) 1 := ⟨by decide +kernel, rfl⟩
theorem dX7_pass_59 : q_d cX7_pass 59 62 (.invokevirtual 148) 3 := ⟨by decide +kernel, rfl⟩
theorem dX7_pass_62 : q_j cX7_pass 62 65 73 (fun o => .ifCond .eq o) := ⟨11, by decide +kernel, rfl, rfl⟩
theorem dX7_pass_65 : q_d cX7_pass 65 66 (.iload_n 3) 1 := ⟨by decide +kernel, rfl⟩
theorem dX7_pass_66 : q_d cX7_pass 66 67 (.aload_n 2) 1 := ⟨by decide +kernel, rfl⟩
theorem dX7_pass_67 : q_d cX7_pass 67 70 (.getfield 151) 3 := ⟨by decide +kernel, rfl⟩
theorem dX7_pass_70 : q_j cX7_pass 70 73 77 (fun o => .if_icmp .ne o) := ⟨7, by decide +kernel, rfl, rfl⟩
theorem dX7_pass_73 : q_d cX7_pass 73 74 (.iconst 1) 1 := ⟨by decide +kernel, rfl⟩
theorem dX7_pass_74 : q_j cX7_pass 74 77 78 (fun o => .goto o) := ⟨4, by decide +kernel, rfl, rfl⟩
theorem dX7_pass_77 : q_d cX7_pass 77 78 (.iconst 0) 1 := ⟨by decide +kernel, rfl⟩
theorem dX7_pass_78 : q_d cX7_pass 78 81 (.invokevirtual 88) 3 := ⟨by decide +kernel, rfl⟩
theorem dX7_pass_81 : q_d cX7_pass 81 82 (.aload_n 0) 1 := ⟨by decide +kernel, rfl⟩
theorem dX7_pass_82 : q_d cX7_pass 82 85 (.invokevirtual 56) 3 := ⟨by decide +kernel, rfl⟩
theorem dX7_pass_85 : q_d cX7_pass 85 86 (.aload_n 0) 1 := ⟨by decide +kernel, rfl⟩
theorem dX7_pass_86 : q_d cX7_pass 86 89 (.getfield 26) 3 := ⟨by decide +kernel, rfl⟩
theorem dX7_pass_89 : q_d cX7_pass 89 90 (.aload_n 2) 1 := ⟨by decide +kernel, rfl⟩
theorem dX7_pass_90 : q_d cX7_pass 90 91 (.iload_n 3) 1 := ⟨by decide +kernel, rfl⟩
theorem dX7_pass_91 : q_d cX7_pass 91 94 (.invokevirtual 154) 3 := ⟨by decide +kernel, rfl⟩
theorem dX7_pass_94 : q_d cX7_pass 94 95 (.iload_n 3) 1 := ⟨by decide +kernel, rfl⟩
theorem dX7_pass_95 : q_d cX7_pass 95 96 (.ireturn) 1 := ⟨by decide +kernel, rfl⟩
theorem dX7_undo_0 : q_d cX7_undo 0 1 (.aload_n 0) 1 := ⟨by decide +kernel, rfl⟩
theorem dX7_undo_1 : q_d cX7_undo 1 4 (.getfield 158) 3 := ⟨by decide +kernel, rfl⟩
theorem dX7_undo_4 : q_j cX7_undo 4 7 19 (fun o => .ifCond .le o) := ⟨15, by decide +kernel, rfl, rfl⟩
theorem dX7_undo_7 : q_d cX7_undo 7 8 (.aload_n 0) 1 := ⟨by decide +kernel, rfl⟩
theorem dX7_undo_8 : q_d cX7_undo 8 11 (.getfield 158) 3 := ⟨by decide +kernel, rfl⟩
theorem dX7_undo_11 : q_d cX7_undo 11 12 (.aload_n 0) 1 := ⟨by decide +kernel, rfl⟩
theorem dX7_undo_12 : q_d cX7_undo 12 15 (.getfield 30) 3 := ⟨by decide +kernel, rfl⟩
theorem dX7_undo_15 : q_d cX7_undo 15 16 (.arraylength) 1 := ⟨by decide +kernel, rfl⟩
theorem dX7_undo_16 : q_j cX7_undo 16 19 21 (fun o => .if_icmp .le o) := ⟨5, by decide +kernel, rfl, rfl⟩
theorem dX7_undo_19 : q_d cX7_undo 19 20 (.iconst (-1)) 1 := ⟨by decide +kernel, rfl⟩
theorem dX7_undo_20 : q_d cX7_undo 20 21 (.ireturn) 1 := ⟨by decide +kernel, rfl⟩
theorem dX7_undo_21 : q_d cX7_undo 21 22 (.aload_n 0) 1 := ⟨by decide +kernel, rfl⟩
theorem dX7_undo_22 : q_d cX7_undo 22 23 (.dup) 1 := ⟨by decide +kernel, rfl⟩
theorem dX7_undo_23 : q_d cX7_undo 23 26 (.getfield 158) 3 := ⟨by decide +kernel, rfl⟩
theorem dX7_undo_26 : q_d cX7_undo 26 27 (.iconst 1) 1 := ⟨by decide +kernel, rfl⟩
theorem dX7_undo_27 : q_d cX7_undo 27 28 (.isub) 1 := ⟨by decide +kernel, rfl⟩
theorem dX7_undo_28 : q_d cX7_undo 28 31 (.putfield 158) 3 := ⟨by decide +kernel, rfl⟩
theorem dX7_undo_31 : q_d cX7_undo 31 32 (.aload_n 0) 1 := ⟨by decide +kernel, rfl⟩
theorem dX7_undo_32 : q_d cX7_undo 32 35 (.getfield 26) 3 := ⟨by decide +kernel, rfl⟩
theorem dX7_undo_35 : q_d cX7_undo 35 36 (.astore_n 1) 1 := ⟨by decide +kernel, rfl⟩
theorem dX7_undo_36 : q_d cX7_undo 36 37 (.aload_n 0) 1 := ⟨by decide +kernel, rfl⟩
theorem dX7_undo_37 : q_d cX7_undo 37 38 (.aload_n 0) 1 := ⟨by decide +kernel, rfl⟩
theorem dX7_undo_38 : q_d cX7_undo 38 41 (.getfield 30) 3 := ⟨by decide +kernel, rfl⟩
theorem dX7_undo_41 : q_d cX7_undo 41 42 (.aload_n 0) 1 := ⟨by decide +kernel, rfl⟩
theorem dX7_undo_42 : q_d cX7_undo 42 45 (.getfield 158) 3 := ⟨by decide +kernel, rfl⟩
theorem dX7_undo_45 : q_d cX7_undo 45 46 (.aaload) 1 := ⟨by decide +kernel, rfl⟩
theorem dX7_undo_46 : q_d cX7_undo 46 49 (.putfield 26) 3 := ⟨by decide +kernel, rfl⟩
theorem dX7_undo_49 : q_d cX7_undo 49 50 (.aload_n 0) 1 := ⟨by decide +kernel, rfl⟩
theorem dX7_undo_50 : q_d cX7_undo 50 53 (.getfield 30) 3 := ⟨by decide +kernel, rfl⟩
theorem dX7_undo_53 : q_d cX7_undo 53 54 (.aload_n 0) 1 := ⟨by decide +kernel, rfl⟩
theorem dX7_undo_54 : q_d cX7_undo 54 57 (.getfield 158) 3 := ⟨by decide +kernel, rfl⟩
theorem dX7_undo_57 : q_d cX7_undo 57 58 (.aload_n 1) 1 := ⟨by decide +kernel, rfl⟩
theorem dX7_undo_58 : q_d cX7_undo 58 59 (.aastore) 1 := ⟨by decide +kernel, rfl⟩
theorem dX7_undo_59 : q_d cX7_undo 59 60 (.aload_n 0) 1 := ⟨by decide +kernel, rfl⟩
theorem dX7_undo_60 : q_d cX7_undo 60 63 (.getfield 158) 3 := ⟨by decide +kernel, rfl⟩
theorem dX7_undo_63 : q_d cX7_undo 63 64 (.ireturn) 1 := ⟨by decide +kernel, rfl⟩
theorem dX7_told_0 : q_d cX7_told 0 1 (.aload_n 0) 1 := ⟨by decide +kernel, rfl⟩
theorem dX7_told_1 : q_d cX7_told 1 2 (.iload_n 1) 1 := ⟨by decide +kernel, rfl⟩
theorem dX7_told_2 : q_d cX7_told 2 3 (.iconst 0) 1 := ⟨by decide +kernel, rfl⟩
theorem dX7_told_3 : q_d cX7_told 3 5 (.bipush 9) 2 := ⟨by decide +kernel, rfl⟩
theorem dX7_told_5 : q_d cX7_told 5 8 (.invokestatic 80) 3 := ⟨by decide +kernel, rfl⟩
theorem dX7_told_8 : q_j cX7_told 8 11 15 (fun o => .ifCond .ne o) := ⟨7, by decide +kernel, rfl, rfl⟩
theorem dX7_told_11 : q_d cX7_told 11 12 (.iconst 1) 1 := ⟨by decide +kernel, rfl⟩
theorem dX7_told_12 : q_j cX7_told 12 15 16 (fun o => .goto o) := ⟨4, by decide +kernel, rfl, rfl⟩
theorem dX7_told_15 : q_d cX7_told 15 16 (.iconst 0) 1 := ⟨by decide +kernel, rfl⟩
theorem dX7_told_16 : q_d cX7_told 16 19 (.invokevirtual 45) 3 := ⟨by decide +kernel, rfl⟩
theorem dX7_told_19 : q_d cX7_told 19 20 (.iload_n 1) 1 := ⟨by decide +kernel, rfl⟩
theorem dX7_told_20 : decode cX7_told 20 = .ok (.tableswitch 133 0 8 #[52, 63, 71, 79, 90, 101, 112, 120, 128], 52) := by decide +kernel
theorem dX7_told_72 : q_d cX7_told 72 73 (.aload_n 0) 1 := ⟨by decide +kernel, rfl⟩
theorem dX7_told_73 : q_d cX7_told 73 76 (.getfield 26) 3 := ⟨by decide +kernel, rfl⟩
theorem dX7_told_76 : q_d cX7_told 76 79 (.getfield 67) 3 := ⟨by decide +kernel, rfl⟩
theorem dX7_told_79 : q_d cX7_told 79 82 (.getfield 68) 3 := ⟨by decide +kernel, rfl⟩
theorem dX7_told_82 : q_d cX7_told 82 83 (.ireturn) 1 := ⟨by decide +kernel, rfl⟩
theorem dX7_told_83 : q_d cX7_told 83 84 (.aload_n 0) 1 := ⟨by decide +kernel, rfl⟩
theorem dX7_told_84 : q_d cX7_told 84 87 (.getfield 26) 3 := ⟨by decide +kernel, rfl⟩
theorem dX7_told_87 : q_d cX7_told 87 90 (.getfield 85) 3 := ⟨by decide +kernel, rfl⟩
theorem dX7_told_90 : q_d cX7_told 90 91 (.ireturn) 1 := ⟨by decide +kernel, rfl⟩
theorem dX7_told_91 : q_d cX7_told 91 92 (.aload_n 0) 1 := ⟨by decide +kernel, rfl⟩
theorem dX7_told_92 : q_d cX7_told 92 95 (.getfield 26) 3 := ⟨by decide +kernel, rfl⟩
theorem dX7_told_95 : q_d cX7_told 95 98 (.getfield 130) 3 := ⟨by decide +kernel, rfl⟩
theorem dX7_told_98 : q_d cX7_told 98 99 (.ireturn) 1 := ⟨by decide +kernel, rfl⟩
theorem dX7_told_99 : q_d cX7_told 99 100 (.aload_n 0) 1 := ⟨by decide +kernel, rfl⟩
theorem dX7_told_100 : q_d cX7_told 100 103 (.getfield 26) 3 := ⟨by decide +kernel, rfl⟩
theorem dX7_told_103 : q_d cX7_told 103 106 (.getfield 67) 3 := ⟨by decide +kernel, rfl⟩
theorem dX7_told_106 : q_d cX7_told 106 109 (.getfield 161) 3 := ⟨by decide +kernel, rfl⟩
theorem dX7_told_109 : q_d cX7_told 109 110 (.ireturn) 1 := ⟨by decide +kernel, rfl⟩
theorem dX7_told_110 : q_d cX7_told 110 111 (.aload_n 0) 1 := ⟨by decide +kernel, rfl⟩
theorem dX7_told_111 : q_d cX7_told 111 114 (.getfield 26) 3 := ⟨by decide +kernel, rfl⟩
theorem dX7_told_114 : q_d cX7_told 114 117 (.getfield 67) 3 := ⟨by decide +kernel, rfl⟩
theorem dX7_told_117 : q_d cX7_told 117 120 (.getfield 164) 3 := ⟨by decide +kernel, rfl⟩
theorem dX7_told_120 : q_d cX7_told 120 121 (.ireturn) 1 := ⟨by decide +kernel, rfl⟩
theorem dX7_told_121 : q_d cX7_told 121 122 (.aload_n 0) 1 := ⟨by decide +kernel, rfl⟩
theorem dX7_told_122 : q_d cX7_told 122 125 (.getfield 26) 3 := ⟨by decide +kernel, rfl⟩
theorem dX7_told_125 : q_d cX7_told 125 128 (.getfield 67) 3 := ⟨by decide +kernel, rfl⟩
theorem dX7_told_128 : q_d cX7_told 128 131 (.getfield 167) 3 := ⟨by decide +kernel, rfl⟩
theorem dX7_told_131 : q_d cX7_told 131 132 (.ireturn) 1 := ⟨by decide +kernel, rfl⟩
theorem dX7_told_132 : q_d cX7_told 132 133 (.aload_n 0) 1 := ⟨by decide +kernel, rfl⟩
theorem dX7_told_133 : q_d cX7_told 133 136 (.getfield 26) 3 := ⟨by decide +kernel, rfl⟩
theorem dX7_told_136 : q_d cX7_told 136 139 (.getfield 170) 3 := ⟨by decide +kernel, rfl⟩
theorem dX7_told_139 : q_d cX7_told 139 140 (.ireturn) 1 := ⟨by decide +kernel, rfl⟩
theorem dX7_told_140 : q_d cX7_told 140 141 (.aload_n 0) 1 := ⟨by decide +kernel, rfl⟩
theorem dX7_told_141 : q_d cX7_told 141 144 (.getfield 26) 3 := ⟨by decide +kernel, rfl⟩
theorem dX7_told_144 : q_d cX7_told 144 147 (.invokevirtual 173) 3 := ⟨by decide +kernel, rfl⟩
theorem dX7_told_147 : q_d cX7_told 147 148 (.ireturn) 1 := ⟨by decide +kernel, rfl⟩
theorem dX7_told_148 : q_d cX7_told 148 149 (.aload_n 0) 1 := ⟨by decide +kernel, rfl⟩
theorem dX7_told_149 : q_d cX7_told 149 152 (.getfield 38) 3 := ⟨by decide +kernel, rfl⟩
theorem dX7_told_152 : q_d cX7_told 152 153 (.ireturn) 1 := ⟨by decide +kernel, rfl⟩
theorem dX7_told_153 : q_d cX7_told 153 154 (.aload_n 0) 1 := ⟨by decide +kernel, rfl⟩
theorem dX7_told_154 : q_d cX7_told 154 157 (.getfield 158) 3 := ⟨by decide +kernel, rfl⟩
theorem dX7_told_157 : q_d cX7_told 157 158 (.ireturn) 1 := ⟨by decide +kernel, rfl⟩
theorem dX7_land_0 : q_d cX7_land 0 1 (.aload_n 0) 1 := ⟨by decide +kernel, rfl⟩
theorem dX7_land_1 : q_d cX7_land 1 2 (.aload_n 0) 1 := ⟨by decide +kernel, rfl⟩
theorem dX7_land_2 : q_d cX7_land 2 5 (.getfield 26) 3 := ⟨by decide +kernel, rfl⟩
theorem dX7_land_5 : q_d cX7_land 5 8 (.getfield 67) 3 := ⟨by decide +kernel, rfl⟩
theorem dX7_land_8 : q_d cX7_land 8 9 (.iload_n 1) 1 := ⟨by decide +kernel, rfl⟩
theorem dX7_land_9 : q_d cX7_land 9 12 (.invokevirtual 148) 3 := ⟨by decide +kernel, rfl⟩
theorem dX7_land_12 : q_j cX7_land 12 15 19 (fun o => .ifCond .ne o) := ⟨7, by decide +kernel, rfl, rfl⟩
theorem dX7_land_15 : q_d cX7_land 15 16 (.iconst 1) 1 := ⟨by decide +kernel, rfl⟩
theorem dX7_land_16 : q_j cX7_land 16 19 20 (fun o => .goto o) := ⟨4, by decide +kernel, rfl, rfl⟩
theorem dX7_land_19 : q_d cX7_land 19 20 (.iconst 0) 1 := ⟨by decide +kernel, rfl⟩
theorem dX7_land_20 : q_d cX7_land 20 23 (.invokevirtual 77) 3 := ⟨by decide +kernel, rfl⟩
theorem dX7_land_23 : q_d cX7_land 23 24 (.aload_n 0) 1 := ⟨by decide +kernel, rfl⟩
theorem dX7_land_24 : q_d cX7_land 24 25 (.iload_n 2) 1 := ⟨by decide +kernel, rfl⟩
theorem dX7_land_25 : q_d cX7_land 25 26 (.iconst 0) 1 := ⟨by decide +kernel, rfl⟩
theorem dX7_land_26 : q_d cX7_land 26 27 (.iconst 5) 1 := ⟨by decide +kernel, rfl⟩
theorem dX7_land_27 : q_d cX7_land 27 30 (.invokestatic 80) 3 := ⟨by decide +kernel, rfl⟩
theorem dX7_land_30 : q_j cX7_land 30 33 37 (fun o => .ifCond .ne o) := ⟨7, by decide +kernel, rfl, rfl⟩
theorem dX7_land_33 : q_d cX7_land 33 34 (.iconst 1) 1 := ⟨by decide +kernel, rfl⟩
theorem dX7_land_34 : q_j cX7_land 34 37 38 (fun o => .goto o) := ⟨4, by decide +kernel, rfl, rfl⟩
theorem dX7_land_37 : q_d cX7_land 37 38 (.iconst 0) 1 := ⟨by decide +kernel, rfl⟩
theorem dX7_land_38 : q_d cX7_land 38 41 (.invokevirtual 45) 3 := ⟨by decide +kernel, rfl⟩
theorem dX7_land_41 : q_d cX7_land 41 42 (.aload_n 0) 1 := ⟨by decide +kernel, rfl⟩
theorem dX7_land_42 : q_d cX7_land 42 45 (.getfield 26) 3 := ⟨by decide +kernel, rfl⟩
theorem dX7_land_45 : q_d cX7_land 45 48 (.getfield 67) 3 := ⟨by decide +kernel, rfl⟩
theorem dX7_land_48 : q_d cX7_land 48 51 (.getfield 176) 3 := ⟨by decide +kernel, rfl⟩
theorem dX7_land_51 : q_d cX7_land 51 52 (.iload_n 1) 1 := ⟨by decide +kernel, rfl⟩
theorem dX7_land_52 : q_d cX7_land 52 53 (.aaload) 1 := ⟨by decide +kernel, rfl⟩
theorem dX7_land_53 : q_d cX7_land 53 54 (.astore_n 3) 1 := ⟨by decide +kernel, rfl⟩
theorem dX7_land_54 : q_d cX7_land 54 55 (.iload_n 2) 1 := ⟨by decide +kernel, rfl⟩
theorem dX7_land_55 : decode cX7_land 55 = .ok (.tableswitch 65 0 4 #[33, 38, 43, 48, 53], 33) := by decide +kernel
theorem dX7_land_88 : q_d cX7_land 88 89 (.aload_n 3) 1 := ⟨by decide +kernel, rfl⟩
theorem dX7_land_89 : q_d cX7_land 89 92 (.getfield 180) 3 := ⟨by decide +kernel, rfl⟩
theorem dX7_land_92 : q_d cX7_land 92 93 (.ireturn) 1 := ⟨by decide +kernel, rfl⟩
theorem dX7_land_93 : q_d cX7_land 93 94 (.aload_n 3) 1 := ⟨by decide +kernel, rfl⟩
theorem dX7_land_94 : q_d cX7_land 94 97 (.getfield 183) 3 := ⟨by decide +kernel, rfl⟩
theorem dX7_land_97 : q_d cX7_land 97 98 (.ireturn) 1 := ⟨by decide +kernel, rfl⟩
theorem dX7_land_98 : q_d cX7_land 98 99 (.aload_n 3) 1 := ⟨by decide +kernel, rfl⟩
theorem dX7_land_99 : q_d cX7_land 99 102 (.getfield 186) 3 := ⟨by decide +kernel, rfl⟩
theorem dX7_land_102 : q_d cX7_land 102 103 (.ireturn) 1 := ⟨by decide +kernel, rfl⟩
theorem dX7_land_103 : q_d cX7_land 103 104 (.aload_n 3) 1 := ⟨by decide +kernel, rfl⟩
theorem dX7_land_104 : q_d cX7_land 104 107 (.getfield 189) 3 := ⟨by decide +kernel, rfl⟩
theorem dX7_land_107 : q_d cX7_land 107 108 (.ireturn) 1 := ⟨by decide +kernel, rfl⟩
theorem dX7_land_108 : q_d cX7_land 108 109 (.aload_n 0) 1 := ⟨by decide +kernel, rfl⟩
theorem dX7_land_109 : q_d cX7_land 109 112 (.getfield 26) 3 := ⟨by decide +kernel, rfl⟩
theorem dX7_land_112 : q_d cX7_land 112 115 (.getfield 67) 3 := ⟨by decide +kernel, rfl⟩
theorem dX7_land_115 : q_d cX7_land 115 116 (.iload_n 1) 1 := ⟨by decide +kernel, rfl⟩
theorem dX7_land_116 : q_d cX7_land 116 119 (.invokevirtual 192) 3 := ⟨by decide +kernel, rfl⟩
theorem dX7_land_119 : q_d cX7_land 119 120 (.ireturn) 1 := ⟨by decide +kernel, rfl⟩
theorem dX7_land_120 : q_d cX7_land 120 121 (.aload_n 0) 1 := ⟨by decide +kernel, rfl⟩
theorem dX7_land_121 : q_d cX7_land 121 124 (.getfield 26) 3 := ⟨by decide +kernel, rfl⟩
theorem dX7_land_124 : q_d cX7_land 124 125 (.iload_n 1) 1 := ⟨by decide +kernel, rfl⟩
theorem dX7_land_125 : q_d cX7_land 125 128 (.invokevirtual 195) 3 := ⟨by decide +kernel, rfl⟩
theorem dX7_land_128 : q_d cX7_land 128 129 (.ireturn) 1 := ⟨by decide +kernel, rfl⟩
theorem dX7_purse_0 : q_d cX7_purse 0 1 (.aload_n 0) 1 := ⟨by decide +kernel, rfl⟩
theorem dX7_purse_1 : q_d cX7_purse 1 2 (.aload_n 0) 1 := ⟨by decide +kernel, rfl⟩
theorem dX7_purse_2 : q_d cX7_purse 2 5 (.getfield 26) 3 := ⟨by decide +kernel, rfl⟩
theorem dX7_purse_5 : q_d cX7_purse 5 8 (.getfield 67) 3 := ⟨by decide +kernel, rfl⟩
theorem dX7_purse_8 : q_d cX7_purse 8 9 (.iload_n 1) 1 := ⟨by decide +kernel, rfl⟩
theorem dX7_purse_9 : q_d cX7_purse 9 12 (.invokevirtual 148) 3 := ⟨by decide +kernel, rfl⟩
theorem dX7_purse_12 : q_j cX7_purse 12 15 19 (fun o => .ifCond .ne o) := ⟨7, by decide +kernel, rfl, rfl⟩
theorem dX7_purse_15 : q_d cX7_purse 15 16 (.iconst 1) 1 := ⟨by decide +kernel, rfl⟩
theorem dX7_purse_16 : q_j cX7_purse 16 19 20 (fun o => .goto o) := ⟨4, by decide +kernel, rfl, rfl⟩
theorem dX7_purse_19 : q_d cX7_purse 19 20 (.iconst 0) 1 := ⟨by decide +kernel, rfl⟩
theorem dX7_purse_20 : q_d cX7_purse 20 23 (.invokevirtual 77) 3 := ⟨by decide +kernel, rfl⟩
theorem dX7_purse_23 : q_d cX7_purse 23 24 (.aload_n 0) 1 := ⟨by decide +kernel, rfl⟩
theorem dX7_purse_24 : q_d cX7_purse 24 25 (.iload_n 2) 1 := ⟨by decide +kernel, rfl⟩
theorem dX7_purse_25 : q_d cX7_purse 25 26 (.iconst 0) 1 := ⟨by decide +kernel, rfl⟩
theorem dX7_purse_26 : q_d cX7_purse 26 27 (.iconst 3) 1 := ⟨by decide +kernel, rfl⟩
theorem dX7_purse_27 : q_d cX7_purse 27 30 (.invokestatic 80) 3 := ⟨by decide +kernel, rfl⟩
theorem dX7_purse_30 : q_j cX7_purse 30 33 37 (fun o => .ifCond .ne o) := ⟨7, by decide +kernel, rfl, rfl⟩
theorem dX7_purse_33 : q_d cX7_purse 33 34 (.iconst 1) 1 := ⟨by decide +kernel, rfl⟩
theorem dX7_purse_34 : q_j cX7_purse 34 37 38 (fun o => .goto o) := ⟨4, by decide +kernel, rfl, rfl⟩
theorem dX7_purse_37 : q_d cX7_purse 37 38 (.iconst 0) 1 := ⟨by decide +kernel, rfl⟩
theorem dX7_purse_38 : q_d cX7_purse 38 41 (.invokevirtual 45) 3 := ⟨by decide +kernel, rfl⟩
theorem dX7_purse_41 : q_d cX7_purse 41 42 (.iload_n 2) 1 := ⟨by decide +kernel, rfl⟩
theorem dX7_purse_42 : decode cX7_purse 42 = .ok (.tableswitch 54 0 2 #[26, 35, 45], 26) := by decide +kernel
theorem dX7_purse_68 : q_d cX7_purse 68 69 (.aload_n 0) 1 := ⟨by decide +kernel, rfl⟩
theorem dX7_purse_69 : q_d cX7_purse 69 72 (.getfield 26) 3 := ⟨by decide +kernel, rfl⟩
theorem dX7_purse_72 : q_d cX7_purse 72 73 (.iload_n 1) 1 := ⟨by decide +kernel, rfl⟩
theorem dX7_purse_73 : q_d cX7_purse 73 76 (.invokevirtual 198) 3 := ⟨by decide +kernel, rfl⟩
theorem dX7_purse_76 : q_d cX7_purse 76 77 (.lreturn) 1 := ⟨by decide +kernel, rfl⟩
theorem dX7_purse_77 : q_d cX7_purse 77 78 (.aload_n 0) 1 := ⟨by decide +kernel, rfl⟩
theorem dX7_purse_78 : q_d cX7_purse 78 81 (.getfield 26) 3 := ⟨by decide +kernel, rfl⟩
theorem dX7_purse_81 : q_d cX7_purse 81 84 (.getfield 202) 3 := ⟨by decide +kernel, rfl⟩
theorem dX7_purse_84 : q_d cX7_purse 84 85 (.iload_n 1) 1 := ⟨by decide +kernel, rfl⟩
theorem dX7_purse_85 : q_d cX7_purse 85 86 (.laload) 1 := ⟨by decide +kernel, rfl⟩
theorem dX7_purse_86 : q_d cX7_purse 86 87 (.lreturn) 1 := ⟨by decide +kernel, rfl⟩
theorem dX7_purse_87 : q_d cX7_purse 87 88 (.aload_n 0) 1 := ⟨by decide +kernel, rfl⟩
theorem dX7_purse_88 : q_d cX7_purse 88 91 (.getfield 26) 3 := ⟨by decide +kernel, rfl⟩
theorem dX7_purse_91 : q_d cX7_purse 91 92 (.iload_n 1) 1 := ⟨by decide +kernel, rfl⟩
theorem dX7_purse_92 : q_d cX7_purse 92 95 (.invokevirtual 206) 3 := ⟨by decide +kernel, rfl⟩
theorem dX7_purse_95 : q_d cX7_purse 95 96 (.lreturn) 1 := ⟨by decide +kernel, rfl⟩
theorem dX7_purse_96 : q_d cX7_purse 96 97 (.aload_n 0) 1 := ⟨by decide +kernel, rfl⟩
theorem dX7_purse_97 : q_d cX7_purse 97 100 (.getfield 26) 3 := ⟨by decide +kernel, rfl⟩
theorem dX7_purse_100 : q_d cX7_purse 100 103 (.getfield 209) 3 := ⟨by decide +kernel, rfl⟩
theorem dX7_purse_103 : q_d cX7_purse 103 104 (.iload_n 1) 1 := ⟨by decide +kernel, rfl⟩
theorem dX7_purse_104 : q_d cX7_purse 104 105 (.laload) 1 := ⟨by decide +kernel, rfl⟩
theorem dX7_purse_105 : q_d cX7_purse 105 106 (.lreturn) 1 := ⟨by decide +kernel, rfl⟩
theorem dX7_letter_0 : q_d cX7_letter 0 1 (.aload_n 0) 1 := ⟨by decide +kernel, rfl⟩
theorem dX7_letter_1 : q_d cX7_letter 1 2 (.aload_n 0) 1 := ⟨by decide +kernel, rfl⟩
theorem dX7_letter_2 : q_d cX7_letter 2 5 (.getfield 26) 3 := ⟨by decide +kernel, rfl⟩
theorem dX7_letter_5 : q_d cX7_letter 5 8 (.getfield 67) 3 := ⟨by decide +kernel, rfl⟩
theorem dX7_letter_8 : q_d cX7_letter 8 9 (.iload_n 1) 1 := ⟨by decide +kernel, rfl⟩
theorem dX7_letter_9 : q_d cX7_letter 9 12 (.invokevirtual 148) 3 := ⟨by decide +kernel, rfl⟩
theorem dX7_letter_12 : q_j cX7_letter 12 15 19 (fun o => .ifCond .ne o) := ⟨7, by decide +kernel, rfl, rfl⟩
theorem dX7_letter_15 : q_d cX7_letter 15 16 (.iconst 1) 1 := ⟨by decide +kernel, rfl⟩
theorem dX7_letter_16 : q_j cX7_letter 16 19 20 (fun o => .goto o) := ⟨4, by decide +kernel, rfl, rfl⟩
theorem dX7_letter_19 : q_d cX7_letter 19 20 (.iconst 0) 1 := ⟨by decide +kernel, rfl⟩
theorem dX7_letter_20 : q_d cX7_letter 20 23 (.invokevirtual 77) 3 := ⟨by decide +kernel, rfl⟩
theorem dX7_letter_23 : q_d cX7_letter 23 24 (.aload_n 0) 1 := ⟨by decide +kernel, rfl⟩
theorem dX7_letter_24 : q_d cX7_letter 24 27 (.getfield 26) 3 := ⟨by decide +kernel, rfl⟩
theorem dX7_letter_27 : q_d cX7_letter 27 30 (.getfield 67) 3 := ⟨by decide +kernel, rfl⟩
theorem dX7_letter_30 : q_d cX7_letter 30 33 (.getfield 176) 3 := ⟨by decide +kernel, rfl⟩
theorem dX7_letter_33 : q_d cX7_letter 33 34 (.iload_n 1) 1 := ⟨by decide +kernel, rfl⟩
theorem dX7_letter_34 : q_d cX7_letter 34 35 (.aaload) 1 := ⟨by decide +kernel, rfl⟩
theorem dX7_letter_35 : q_d cX7_letter 35 36 (.astore_n 3) 1 := ⟨by decide +kernel, rfl⟩
theorem dX7_letter_36 : q_d cX7_letter 36 37 (.aload_n 0) 1 := ⟨by decide +kernel, rfl⟩
theorem dX7_letter_37 : q_d cX7_letter 37 38 (.aload_n 3) 1 := ⟨by decide +kernel, rfl⟩
theorem dX7_letter_38 : q_d cX7_letter 38 39 (.iload_n 2) 1 := ⟨by decide +kernel, rfl⟩
theorem dX7_letter_39 : q_d cX7_letter 39 42 (.invokevirtual 212) 3 := ⟨by decide +kernel, rfl⟩
theorem dX7_letter_42 : q_j cX7_letter 42 45 49 (fun o => .ifCond .ne o) := ⟨7, by decide +kernel, rfl, rfl⟩
theorem dX7_letter_45 : q_d cX7_letter 45 46 (.iconst 1) 1 := ⟨by decide +kernel, rfl⟩
theorem dX7_letter_46 : q_j cX7_letter 46 49 50 (fun o => .goto o) := ⟨4, by decide +kernel, rfl, rfl⟩
theorem dX7_letter_49 : q_d cX7_letter 49 50 (.iconst 0) 1 := ⟨by decide +kernel, rfl⟩
theorem dX7_letter_50 : q_d cX7_letter 50 53 (.invokevirtual 77) 3 := ⟨by decide +kernel, rfl⟩
theorem dX7_letter_53 : q_d cX7_letter 53 54 (.aload_n 3) 1 := ⟨by decide +kernel, rfl⟩
theorem dX7_letter_54 : q_d cX7_letter 54 57 (.getfield 215) 3 := ⟨by decide +kernel, rfl⟩
theorem dX7_letter_57 : q_d cX7_letter 57 58 (.iload_n 2) 1 := ⟨by decide +kernel, rfl⟩
theorem dX7_letter_58 : q_d cX7_letter 58 59 (.iaload) 1 := ⟨by decide +kernel, rfl⟩
theorem dX7_letter_59 : q_d cX7_letter 59 60 (.ireturn) 1 := ⟨by decide +kernel, rfl⟩
theorem dX7_pays_0 : q_d cX7_pays 0 1 (.aload_n 0) 1 := ⟨by decide +kernel, rfl⟩
theorem dX7_pays_1 : q_d cX7_pays 1 2 (.iload_n 1) 1 := ⟨by decide +kernel, rfl⟩
theorem dX7_pays_2 : q_d cX7_pays 2 3 (.iconst 0) 1 := ⟨by decide +kernel, rfl⟩
theorem dX7_pays_3 : q_d cX7_pays 3 4 (.iconst 4) 1 := ⟨by decide +kernel, rfl⟩
theorem dX7_pays_4 : q_d cX7_pays 4 7 (.invokestatic 80) 3 := ⟨by decide +kernel, rfl⟩
theorem dX7_pays_7 : q_j cX7_pays 7 10 14 (fun o => .ifCond .ne o) := ⟨7, by decide +kernel, rfl, rfl⟩
theorem dX7_pays_10 : q_d cX7_pays 10 11 (.iconst 1) 1 := ⟨by decide +kernel, rfl⟩
theorem dX7_pays_11 : q_j cX7_pays 11 14 15 (fun o => .goto o) := ⟨4, by decide +kernel, rfl, rfl⟩
theorem dX7_pays_14 : q_d cX7_pays 14 15 (.iconst 0) 1 := ⟨by decide +kernel, rfl⟩
theorem dX7_pays_15 : q_d cX7_pays 15 18 (.invokevirtual 45) 3 := ⟨by decide +kernel, rfl⟩
theorem dX7_pays_18 : q_d cX7_pays 18 19 (.aload_n 0) 1 := ⟨by decide +kernel, rfl⟩
theorem dX7_pays_19 : q_d cX7_pays 19 22 (.getfield 26) 3 := ⟨by decide +kernel, rfl⟩
theorem dX7_pays_22 : q_d cX7_pays 22 25 (.getfield 67) 3 := ⟨by decide +kernel, rfl⟩
theorem dX7_pays_25 : q_d cX7_pays 25 26 (.iload_n 1) 1 := ⟨by decide +kernel, rfl⟩
theorem dX7_pays_26 : q_d cX7_pays 26 29 (.invokevirtual 219) 3 := ⟨by decide +kernel, rfl⟩
theorem dX7_pays_29 : q_d cX7_pays 29 30 (.ireturn) 1 := ⟨by decide +kernel, rfl⟩
theorem dX7_account_0 : q_d cX7_account 0 1 (.aload_n 0) 1 := ⟨by decide +kernel, rfl⟩
theorem dX7_account_1 : q_d cX7_account 1 2 (.aload_n 0) 1 := ⟨by decide +kernel, rfl⟩
theorem dX7_account_2 : q_d cX7_account 2 5 (.getfield 26) 3 := ⟨by decide +kernel, rfl⟩
theorem dX7_account_5 : q_d cX7_account 5 6 (.iload_n 1) 1 := ⟨by decide +kernel, rfl⟩
theorem dX7_account_6 : q_d cX7_account 6 9 (.invokevirtual 101) 3 := ⟨by decide +kernel, rfl⟩
theorem dX7_account_9 : q_j cX7_account 9 12 16 (fun o => .ifCond .ne o) := ⟨7, by decide +kernel, rfl, rfl⟩
theorem dX7_account_12 : q_d cX7_account 12 13 (.iconst 1) 1 := ⟨by decide +kernel, rfl⟩
theorem dX7_account_13 : q_j cX7_account 13 16 17 (fun o => .goto o) := ⟨4, by decide +kernel, rfl, rfl⟩
theorem dX7_account_16 : q_d cX7_account 16 17 (.iconst 0) 1 := ⟨by decide +kernel, rfl⟩
theorem dX7_account_17 : q_d cX7_account 17 20 (.invokevirtual 77) 3 := ⟨by decide +kernel, rfl⟩
theorem dX7_account_20 : q_d cX7_account 20 21 (.aload_n 0) 1 := ⟨by decide +kernel, rfl⟩
theorem dX7_account_21 : q_d cX7_account 21 22 (.iload_n 2) 1 := ⟨by decide +kernel, rfl⟩
theorem dX7_account_22 : q_d cX7_account 22 23 (.iconst 0) 1 := ⟨by decide +kernel, rfl⟩
theorem dX7_account_23 : q_d cX7_account 23 25 (.bipush 10) 2 := ⟨by decide +kernel, rfl⟩
theorem dX7_account_25 : q_d cX7_account 25 28 (.invokestatic 80) 3 := ⟨by decide +kernel, rfl⟩
theorem dX7_account_28 : q_j cX7_account 28 31 35 (fun o => .ifCond .ne o) := ⟨7, by decide +kernel, rfl, rfl⟩
theorem dX7_account_31 : q_d cX7_account 31 32 (.iconst 1) 1 := ⟨by decide +kernel, rfl⟩
theorem dX7_account_32 : q_j cX7_account 32 35 36 (fun o => .goto o) := ⟨4, by decide +kernel, rfl, rfl⟩
theorem dX7_account_35 : q_d cX7_account 35 36 (.iconst 0) 1 := ⟨by decide +kernel, rfl⟩
theorem dX7_account_36 : q_d cX7_account 36 39 (.invokevirtual 45) 3 := ⟨by decide +kernel, rfl⟩
theorem dX7_account_39 : q_d cX7_account 39 40 (.aload_n 0) 1 := ⟨by decide +kernel, rfl⟩
theorem dX7_account_40 : q_d cX7_account 40 43 (.getfield 26) 3 := ⟨by decide +kernel, rfl⟩
theorem dX7_account_43 : q_d cX7_account 43 46 (.getfield 91) 3 := ⟨by decide +kernel, rfl⟩
theorem dX7_account_46 : q_d cX7_account 46 47 (.iload_n 1) 1 := ⟨by decide +kernel, rfl⟩
theorem dX7_account_47 : q_d cX7_account 47 48 (.aaload) 1 := ⟨by decide +kernel, rfl⟩
theorem dX7_account_48 : q_d cX7_account 48 49 (.astore_n 3) 1 := ⟨by decide +kernel, rfl⟩
theorem dX7_account_49 : q_d cX7_account 49 50 (.iload_n 2) 1 := ⟨by decide +kernel, rfl⟩
theorem dX7_account_50 : decode cX7_account 50 = .ok (.tableswitch 108 0 9 #[54, 59, 64, 69, 74, 79, 84, 89, 94, 103], 54) := by decide +kernel
theorem dX7_account_104 : q_d cX7_account 104 105 (.aload_n 3) 1 := ⟨by decide +kernel, rfl⟩
theorem dX7_account_105 : q_d cX7_account 105 108 (.getfield 222) 3 := ⟨by decide +kernel, rfl⟩
theorem dX7_account_108 : q_d cX7_account 108 109 (.ireturn) 1 := ⟨by decide +kernel, rfl⟩
theorem dX7_account_109 : q_d cX7_account 109 110 (.aload_n 3) 1 := ⟨by decide +kernel, rfl⟩
theorem dX7_account_110 : q_d cX7_account 110 113 (.getfield 124) 3 := ⟨by decide +kernel, rfl⟩
theorem dX7_account_113 : q_d cX7_account 113 114 (.ireturn) 1 := ⟨by decide +kernel, rfl⟩
theorem dX7_account_114 : q_d cX7_account 114 115 (.aload_n 3) 1 := ⟨by decide +kernel, rfl⟩
theorem dX7_account_115 : q_d cX7_account 115 118 (.getfield 225) 3 := ⟨by decide +kernel, rfl⟩
theorem dX7_account_118 : q_d cX7_account 118 119 (.ireturn) 1 := ⟨by decide +kernel, rfl⟩
theorem dX7_account_119 : q_d cX7_account 119 120 (.aload_n 3) 1 := ⟨by decide +kernel, rfl⟩
theorem dX7_account_120 : q_d cX7_account 120 123 (.getfield 115) 3 := ⟨by decide +kernel, rfl⟩
theorem dX7_account_123 : q_d cX7_account 123 124 (.ireturn) 1 := ⟨by decide +kernel, rfl⟩
theorem dX7_account_124 : q_d cX7_account 124 125 (.aload_n 3) 1 := ⟨by decide +kernel, rfl⟩
theorem dX7_account_125 : q_d cX7_account 125 128 (.getfield 127) 3 := ⟨by decide +kernel, rfl⟩
theorem dX7_account_128 : q_d cX7_account 128 129 (.ireturn) 1 := ⟨by decide +kernel, rfl⟩
theorem dX7_account_129 : q_d cX7_account 129 130 (.aload_n 3) 1 := ⟨by decide +kernel, rfl⟩
theorem dX7_account_130 : q_d cX7_account 130 133 (.getfield 228) 3 := ⟨by decide +kernel, rfl⟩
theorem dX7_account_133 : q_d cX7_account 133 134 (.ireturn) 1 := ⟨by decide +kernel, rfl⟩
theorem dX7_account_134 : q_d cX7_account 134 135 (.aload_n 3) 1 := ⟨by decide +kernel, rfl⟩
theorem dX7_account_135 : q_d cX7_account 135 138 (.getfield 108) 3 := ⟨by decide +kernel, rfl⟩
theorem dX7_account_138 : q_d cX7_account 138 139 (.ireturn) 1 := ⟨by decide +kernel, rfl⟩
theorem dX7_account_139 : q_d cX7_account 139 140 (.aload_n 3) 1 := ⟨by decide +kernel, rfl⟩
theorem dX7_account_140 : q_d cX7_account 140 143 (.getfield 231) 3 := ⟨by decide +kernel, rfl⟩
theorem dX7_account_143 : q_d cX7_account 143 144 (.ireturn) 1 := ⟨by decide +kernel, rfl⟩
theorem dX7_account_144 : q_d cX7_account 144 145 (.aload_n 0) 1 := ⟨by decide +kernel, rfl⟩
theorem dX7_account_145 : q_d cX7_account 145 148 (.getfield 26) 3 := ⟨by decide +kernel, rfl⟩
theorem dX7_account_148 : q_d cX7_account 148 149 (.aload_n 3) 1 := ⟨by decide +kernel, rfl⟩
theorem dX7_account_149 : q_d cX7_account 149 152 (.invokevirtual 234) 3 := ⟨by decide +kernel, rfl⟩
theorem dX7_account_152 : q_d cX7_account 152 153 (.ireturn) 1 := ⟨by decide +kernel, rfl⟩
theorem dX7_account_153 : q_d cX7_account 153 154 (.aload_n 3) 1 := ⟨by decide +kernel, rfl⟩
theorem dX7_account_154 : q_d cX7_account 154 157 (.getfield 237) 3 := ⟨by decide +kernel, rfl⟩
theorem dX7_account_157 : q_d cX7_account 157 158 (.ireturn) 1 := ⟨by decide +kernel, rfl⟩
theorem dX7_account_158 : q_d cX7_account 158 159 (.aload_n 3) 1 := ⟨by decide +kernel, rfl⟩
theorem dX7_account_159 : q_d cX7_account 159 162 (.getfield 240) 3 := ⟨by decide +kernel, rfl⟩
theorem dX7_account_162 : q_j cX7_account 162 165 169 (fun o => .ifCond .eq o) := ⟨7, by decide +kernel, rfl, rfl⟩
theorem dX7_account_165 : q_d cX7_account 165 166 (.iconst 1) 1 := ⟨by decide +kernel, rfl⟩
theorem dX7_account_166 : q_j cX7_account 166 169 170 (fun o => .goto o) := ⟨4, by decide +kernel, rfl, rfl⟩
theorem dX7_account_169 : q_d cX7_account 169 170 (.iconst 0) 1 := ⟨by decide +kernel, rfl⟩
theorem dX7_account_170 : q_d cX7_account 170 171 (.ireturn) 1 := ⟨by decide +kernel, rfl⟩
theorem dX7_sleep_0 : q_d cX7_sleep 0 1 (.aload_n 0) 1 := ⟨by decide +kernel, rfl⟩
theorem dX7_sleep_1 : q_d cX7_sleep 1 2 (.aload_n 0) 1 := ⟨by decide +kernel, rfl⟩
theorem dX7_sleep_2 : q_d cX7_sleep 2 5 (.getfield 26) 3 := ⟨by decide +kernel, rfl⟩
theorem dX7_sleep_5 : q_d cX7_sleep 5 6 (.iload_n 1) 1 := ⟨by decide +kernel, rfl⟩
theorem dX7_sleep_6 : q_d cX7_sleep 6 9 (.invokevirtual 101) 3 := ⟨by decide +kernel, rfl⟩
theorem dX7_sleep_9 : q_j cX7_sleep 9 12 16 (fun o => .ifCond .ne o) := ⟨7, by decide +kernel, rfl, rfl⟩
theorem dX7_sleep_12 : q_d cX7_sleep 12 13 (.iconst 1) 1 := ⟨by decide +kernel, rfl⟩
theorem dX7_sleep_13 : q_j cX7_sleep 13 16 17 (fun o => .goto o) := ⟨4, by decide +kernel, rfl, rfl⟩
theorem dX7_sleep_16 : q_d cX7_sleep 16 17 (.iconst 0) 1 := ⟨by decide +kernel, rfl⟩
theorem dX7_sleep_17 : q_d cX7_sleep 17 20 (.invokevirtual 77) 3 := ⟨by decide +kernel, rfl⟩
theorem dX7_sleep_20 : q_d cX7_sleep 20 21 (.aload_n 0) 1 := ⟨by decide +kernel, rfl⟩
theorem dX7_sleep_21 : q_d cX7_sleep 21 24 (.getfield 26) 3 := ⟨by decide +kernel, rfl⟩
theorem dX7_sleep_24 : q_d cX7_sleep 24 27 (.getfield 91) 3 := ⟨by decide +kernel, rfl⟩
theorem dX7_sleep_27 : q_d cX7_sleep 27 28 (.iload_n 1) 1 := ⟨by decide +kernel, rfl⟩
theorem dX7_sleep_28 : q_d cX7_sleep 28 29 (.aaload) 1 := ⟨by decide +kernel, rfl⟩
theorem dX7_sleep_29 : q_d cX7_sleep 29 30 (.astore_n 2) 1 := ⟨by decide +kernel, rfl⟩
theorem dX7_sleep_30 : q_d cX7_sleep 30 31 (.aload_n 0) 1 := ⟨by decide +kernel, rfl⟩
theorem dX7_sleep_31 : q_d cX7_sleep 31 34 (.getfield 26) 3 := ⟨by decide +kernel, rfl⟩
theorem dX7_sleep_34 : q_d cX7_sleep 34 37 (.getfield 67) 3 := ⟨by decide +kernel, rfl⟩
theorem dX7_sleep_37 : q_d cX7_sleep 37 38 (.aload_n 2) 1 := ⟨by decide +kernel, rfl⟩
theorem dX7_sleep_38 : q_d cX7_sleep 38 41 (.invokevirtual 144) 3 := ⟨by decide +kernel, rfl⟩
theorem dX7_sleep_41 : q_d cX7_sleep 41 42 (.istore_n 3) 1 := ⟨by decide +kernel, rfl⟩
theorem dX7_sleep_42 : q_d cX7_sleep 42 43 (.aload_n 2) 1 := ⟨by decide +kernel, rfl⟩
theorem dX7_sleep_43 : q_d cX7_sleep 43 46 (.invokevirtual 104) 3 := ⟨by decide +kernel, rfl⟩
theorem dX7_sleep_46 : q_j cX7_sleep 46 49 69 (fun o => .ifCond .eq o) := ⟨23, by decide +kernel, rfl, rfl⟩
theorem dX7_sleep_49 : q_d cX7_sleep 49 50 (.iload_n 3) 1 := ⟨by decide +kernel, rfl⟩
theorem dX7_sleep_50 : q_d cX7_sleep 50 51 (.iconst (-1)) 1 := ⟨by decide +kernel, rfl⟩
theorem dX7_sleep_51 : q_j cX7_sleep 51 54 69 (fun o => .if_icmp .eq o) := ⟨18, by decide +kernel, rfl, rfl⟩
theorem dX7_sleep_54 : q_d cX7_sleep 54 55 (.aload_n 0) 1 := ⟨by decide +kernel, rfl⟩
theorem dX7_sleep_55 : q_d cX7_sleep 55 58 (.getfield 26) 3 := ⟨by decide +kernel, rfl⟩
theorem dX7_sleep_58 : q_d cX7_sleep 58 61 (.getfield 67) 3 := ⟨by decide +kernel, rfl⟩
theorem dX7_sleep_61 : q_d cX7_sleep 61 62 (.aload_n 2) 1 := ⟨by decide +kernel, rfl⟩
theorem dX7_sleep_62 : q_d cX7_sleep 62 63 (.iload_n 3) 1 := ⟨by decide +kernel, rfl⟩
theorem dX7_sleep_63 : q_d cX7_sleep 63 66 (.invokevirtual 244) 3 := ⟨by decide +kernel, rfl⟩
theorem dX7_sleep_66 : q_j cX7_sleep 66 69 70 (fun o => .goto o) := ⟨4, by decide +kernel, rfl, rfl⟩
theorem dX7_sleep_69 : q_d cX7_sleep 69 70 (.iconst (-1)) 1 := ⟨by decide +kernel, rfl⟩
theorem dX7_sleep_70 : q_d cX7_sleep 70 71 (.ireturn) 1 := ⟨by decide +kernel, rfl⟩
theorem dX7_soon_0 : q_d cX7_soon 0 1 (.aload_n 0) 1 := ⟨by decide +kernel, rfl⟩
theorem dX7_soon_1 : q_d cX7_soon 1 2 (.aload_n 0) 1 := ⟨by decide +kernel, rfl⟩
theorem dX7_soon_2 : q_d cX7_soon 2 5 (.getfield 26) 3 := ⟨by decide +kernel, rfl⟩
theorem dX7_soon_5 : q_d cX7_soon 5 6 (.iload_n 1) 1 := ⟨by decide +kernel, rfl⟩
theorem dX7_soon_6 : q_d cX7_soon 6 9 (.invokevirtual 101) 3 := ⟨by decide +kernel, rfl⟩
theorem dX7_soon_9 : q_j cX7_soon 9 12 16 (fun o => .ifCond .ne o) := ⟨7, by decide +kernel, rfl, rfl⟩
theorem dX7_soon_12 : q_d cX7_soon 12 13 (.iconst 1) 1 := ⟨by decide +kernel, rfl⟩
theorem dX7_soon_13 : q_j cX7_soon 13 16 17 (fun o => .goto o) := ⟨4, by decide +kernel, rfl, rfl⟩
theorem dX7_soon_16 : q_d cX7_soon 16 17 (.iconst 0) 1 := ⟨by decide +kernel, rfl⟩
theorem dX7_soon_17 : q_d cX7_soon 17 20 (.invokevirtual 77) 3 := ⟨by decide +kernel, rfl⟩
theorem dX7_soon_20 : q_d cX7_soon 20 21 (.aload_n 0) 1 := ⟨by decide +kernel, rfl⟩
theorem dX7_soon_21 : q_d cX7_soon 21 24 (.getfield 19) 3 := ⟨by decide +kernel, rfl⟩
theorem dX7_soon_24 : q_d cX7_soon 24 25 (.aload_n 0) 1 := ⟨by decide +kernel, rfl⟩
theorem dX7_soon_25 : q_d cX7_soon 25 28 (.getfield 26) 3 := ⟨by decide +kernel, rfl⟩
theorem dX7_soon_28 : q_d cX7_soon 28 29 (.aload_n 0) 1 := ⟨by decide +kernel, rfl⟩
theorem dX7_soon_29 : q_d cX7_soon 29 32 (.getfield 26) 3 := ⟨by decide +kernel, rfl⟩
theorem dX7_soon_32 : q_d cX7_soon 32 35 (.getfield 91) 3 := ⟨by decide +kernel, rfl⟩
theorem dX7_soon_35 : q_d cX7_soon 35 36 (.iload_n 1) 1 := ⟨by decide +kernel, rfl⟩
theorem dX7_soon_36 : q_d cX7_soon 36 37 (.aaload) 1 := ⟨by decide +kernel, rfl⟩
theorem dX7_soon_37 : q_d cX7_soon 37 40 (.invokevirtual 248) 3 := ⟨by decide +kernel, rfl⟩
theorem dX7_soon_40 : q_d cX7_soon 40 41 (.ireturn) 1 := ⟨by decide +kernel, rfl⟩
theorem dX7_worth_0 : q_d cX7_worth 0 1 (.aload_n 0) 1 := ⟨by decide +kernel, rfl⟩
theorem dX7_worth_1 : q_d cX7_worth 1 2 (.aload_n 0) 1 := ⟨by decide +kernel, rfl⟩
theorem dX7_worth_2 : q_d cX7_worth 2 5 (.getfield 26) 3 := ⟨by decide +kernel, rfl⟩
theorem dX7_worth_5 : q_d cX7_worth 5 6 (.iload_n 1) 1 := ⟨by decide +kernel, rfl⟩
theorem dX7_worth_6 : q_d cX7_worth 6 9 (.invokevirtual 101) 3 := ⟨by decide +kernel, rfl⟩
theorem dX7_worth_9 : q_j cX7_worth 9 12 16 (fun o => .ifCond .ne o) := ⟨7, by decide +kernel, rfl, rfl⟩
theorem dX7_worth_12 : q_d cX7_worth 12 13 (.iconst 1) 1 := ⟨by decide +kernel, rfl⟩
theorem dX7_worth_13 : q_j cX7_worth 13 16 17 (fun o => .goto o) := ⟨4, by decide +kernel, rfl, rfl⟩
theorem dX7_worth_16 : q_d cX7_worth 16 17 (.iconst 0) 1 := ⟨by decide +kernel, rfl⟩
theorem dX7_worth_17 : q_d cX7_worth 17 20 (.invokevirtual 77) 3 := ⟨by decide +kernel, rfl⟩
theorem dX7_worth_20 : q_d cX7_worth 20 21 (.aload_n 0) 1 := ⟨by decide +kernel, rfl⟩
theorem dX7_worth_21 : q_d cX7_worth 21 22 (.iload_n 2) 1 := ⟨by decide +kernel, rfl⟩
theorem dX7_worth_22 : q_d cX7_worth 22 23 (.iconst 0) 1 := ⟨by decide +kernel, rfl⟩
theorem dX7_worth_23 : q_d cX7_worth 23 26 (.sipush 600) 3 := ⟨by decide +kernel, rfl⟩
theorem dX7_worth_26 : q_d cX7_worth 26 29 (.invokestatic 80) 3 := ⟨by decide +kernel, rfl⟩
theorem dX7_worth_29 : q_j cX7_worth 29 32 36 (fun o => .ifCond .ne o) := ⟨7, by decide +kernel, rfl, rfl⟩
theorem dX7_worth_32 : q_d cX7_worth 32 33 (.iconst 1) 1 := ⟨by decide +kernel, rfl⟩
theorem dX7_worth_33 : q_j cX7_worth 33 36 37 (fun o => .goto o) := ⟨4, by decide +kernel, rfl, rfl⟩
theorem dX7_worth_36 : q_d cX7_worth 36 37 (.iconst 0) 1 := ⟨by decide +kernel, rfl⟩
theorem dX7_worth_37 : q_d cX7_worth 37 40 (.invokevirtual 45) 3 := ⟨by decide +kernel, rfl⟩
theorem dX7_worth_40 : q_d cX7_worth 40 41 (.aload_n 0) 1 := ⟨by decide +kernel, rfl⟩
theorem dX7_worth_41 : q_d cX7_worth 41 44 (.getfield 26) 3 := ⟨by decide +kernel, rfl⟩
theorem dX7_worth_44 : q_d cX7_worth 44 47 (.getfield 91) 3 := ⟨by decide +kernel, rfl⟩
theorem dX7_worth_47 : q_d cX7_worth 47 48 (.iload_n 1) 1 := ⟨by decide +kernel, rfl⟩
theorem dX7_worth_48 : q_d cX7_worth 48 49 (.aaload) 1 := ⟨by decide +kernel, rfl⟩
theorem dX7_worth_49 : q_d cX7_worth 49 50 (.astore_n 3) 1 := ⟨by decide +kernel, rfl⟩
theorem dX7_worth_50 : q_d cX7_worth 50 51 (.aload_n 3) 1 := ⟨by decide +kernel, rfl⟩
theorem dX7_worth_51 : q_d cX7_worth 51 54 (.invokevirtual 137) 3 := ⟨by decide +kernel, rfl⟩
theorem dX7_worth_54 : q_j cX7_worth 54 57 86 (fun o => .ifCond .eq o) := ⟨32, by decide +kernel, rfl, rfl⟩
theorem dX7_worth_57 : q_d cX7_worth 57 58 (.aload_n 3) 1 := ⟨by decide +kernel, rfl⟩
theorem dX7_worth_58 : q_d cX7_worth 58 61 (.getfield 115) 3 := ⟨by decide +kernel, rfl⟩
theorem dX7_worth_61 : q_d cX7_worth 61 62 (.i2l) 1 := ⟨by decide +kernel, rfl⟩
theorem dX7_worth_62 : q_d cX7_worth 62 63 (.aload_n 0) 1 := ⟨by decide +kernel, rfl⟩
theorem dX7_worth_63 : q_d cX7_worth 63 66 (.getfield 26) 3 := ⟨by decide +kernel, rfl⟩
theorem dX7_worth_66 : q_d cX7_worth 66 69 (.getfield 67) 3 := ⟨by decide +kernel, rfl⟩
theorem dX7_worth_69 : q_d cX7_worth 69 70 (.aload_n 3) 1 := ⟨by decide +kernel, rfl⟩
theorem dX7_worth_70 : q_d cX7_worth 70 71 (.aload_n 0) 1 := ⟨by decide +kernel, rfl⟩
theorem dX7_worth_71 : q_d cX7_worth 71 74 (.getfield 26) 3 := ⟨by decide +kernel, rfl⟩
theorem dX7_worth_74 : q_d cX7_worth 74 77 (.getfield 130) 3 := ⟨by decide +kernel, rfl⟩
theorem dX7_worth_77 : q_d cX7_worth 77 78 (.iload_n 2) 1 := ⟨by decide +kernel, rfl⟩
theorem dX7_worth_78 : q_d cX7_worth 78 79 (.iadd) 1 := ⟨by decide +kernel, rfl⟩
theorem dX7_worth_79 : q_d cX7_worth 79 82 (.invokevirtual 252) 3 := ⟨by decide +kernel, rfl⟩
theorem dX7_worth_82 : q_d cX7_worth 82 83 (.ladd) 1 := ⟨by decide +kernel, rfl⟩
theorem dX7_worth_83 : q_j cX7_worth 83 86 89 (fun o => .goto o) := ⟨6, by decide +kernel, rfl, rfl⟩
theorem dX7_worth_86 : q_d cX7_worth 86 89 (.ldc2_w 256) 3 := ⟨by decide +kernel, rfl⟩
theorem dX7_worth_89 : q_d cX7_worth 89 90 (.lreturn) 1 := ⟨by decide +kernel, rfl⟩
theorem dX7_row_0 : q_d cX7_row 0 1 (.aload_n 0) 1 := ⟨by decide +kernel, rfl⟩
theorem dX7_row_1 : q_d cX7_row 1 2 (.aload_n 0) 1 := ⟨by decide +kernel, rfl⟩
theorem dX7_row_2 : q_d cX7_row 2 5 (.getfield 26) 3 := ⟨by decide +kernel, rfl⟩
theorem dX7_row_5 : q_d cX7_row 5 6 (.iload_n 1) 1 := ⟨by decide +kernel, rfl⟩
theorem dX7_row_6 : q_d cX7_row 6 9 (.invokevirtual 258) 3 := ⟨by decide +kernel, rfl⟩
theorem dX7_row_9 : q_j cX7_row 9 12 16 (fun o => .ifCond .ne o) := ⟨7, by decide +kernel, rfl, rfl⟩
theorem dX7_row_12 : q_d cX7_row 12 13 (.iconst 1) 1 := ⟨by decide +kernel, rfl⟩
theorem dX7_row_13 : q_j cX7_row 13 16 17 (fun o => .goto o) := ⟨4, by decide +kernel, rfl, rfl⟩
theorem dX7_row_16 : q_d cX7_row 16 17 (.iconst 0) 1 := ⟨by decide +kernel, rfl⟩
theorem dX7_row_17 : q_d cX7_row 17 20 (.invokevirtual 77) 3 := ⟨by decide +kernel, rfl⟩
theorem dX7_row_20 : q_d cX7_row 20 21 (.aload_n 0) 1 := ⟨by decide +kernel, rfl⟩
theorem dX7_row_21 : q_d cX7_row 21 22 (.iload_n 2) 1 := ⟨by decide +kernel, rfl⟩
theorem dX7_row_22 : q_d cX7_row 22 23 (.iconst 0) 1 := ⟨by decide +kernel, rfl⟩
theorem dX7_row_23 : q_d cX7_row 23 24 (.iconst 4) 1 := ⟨by decide +kernel, rfl⟩
theorem dX7_row_24 : q_d cX7_row 24 27 (.invokestatic 80) 3 := ⟨by decide +kernel, rfl⟩
theorem dX7_row_27 : q_j cX7_row 27 30 34 (fun o => .ifCond .ne o) := ⟨7, by decide +kernel, rfl, rfl⟩
theorem dX7_row_30 : q_d cX7_row 30 31 (.iconst 1) 1 := ⟨by decide +kernel, rfl⟩
theorem dX7_row_31 : q_j cX7_row 31 34 35 (fun o => .goto o) := ⟨4, by decide +kernel, rfl, rfl⟩
theorem dX7_row_34 : q_d cX7_row 34 35 (.iconst 0) 1 := ⟨by decide +kernel, rfl⟩
theorem dX7_row_35 : q_d cX7_row 35 38 (.invokevirtual 45) 3 := ⟨by decide +kernel, rfl⟩
theorem dX7_row_38 : q_d cX7_row 38 39 (.aload_n 0) 1 := ⟨by decide +kernel, rfl⟩
theorem dX7_row_39 : q_d cX7_row 39 42 (.getfield 26) 3 := ⟨by decide +kernel, rfl⟩
theorem dX7_row_42 : q_d cX7_row 42 45 (.getfield 261) 3 := ⟨by decide +kernel, rfl⟩
theorem dX7_row_45 : q_d cX7_row 45 46 (.iload_n 1) 1 := ⟨by decide +kernel, rfl⟩
theorem dX7_row_46 : q_d cX7_row 46 47 (.aaload) 1 := ⟨by decide +kernel, rfl⟩
theorem dX7_row_47 : q_d cX7_row 47 48 (.iload_n 2) 1 := ⟨by decide +kernel, rfl⟩
theorem dX7_row_48 : q_d cX7_row 48 49 (.iaload) 1 := ⟨by decide +kernel, rfl⟩
theorem dX7_row_49 : q_d cX7_row 49 50 (.ireturn) 1 := ⟨by decide +kernel, rfl⟩
theorem dX7_ahead_0 : q_d cX7_ahead 0 1 (.aload_n 0) 1 := ⟨by decide +kernel, rfl⟩
theorem dX7_ahead_1 : q_d cX7_ahead 1 2 (.aload_n 0) 1 := ⟨by decide +kernel, rfl⟩
theorem dX7_ahead_2 : q_d cX7_ahead 2 5 (.getfield 26) 3 := ⟨by decide +kernel, rfl⟩
theorem dX7_ahead_5 : q_d cX7_ahead 5 8 (.getfield 67) 3 := ⟨by decide +kernel, rfl⟩
theorem dX7_ahead_8 : q_d cX7_ahead 8 9 (.iload_n 1) 1 := ⟨by decide +kernel, rfl⟩
theorem dX7_ahead_9 : q_d cX7_ahead 9 12 (.invokevirtual 73) 3 := ⟨by decide +kernel, rfl⟩
theorem dX7_ahead_12 : q_j cX7_ahead 12 15 19 (fun o => .ifCond .ne o) := ⟨7, by decide +kernel, rfl, rfl⟩
theorem dX7_ahead_15 : q_d cX7_ahead 15 16 (.iconst 1) 1 := ⟨by decide +kernel, rfl⟩
theorem dX7_ahead_16 : q_j cX7_ahead 16 19 20 (fun o => .goto o) := ⟨4, by decide +kernel, rfl, rfl⟩
theorem dX7_ahead_19 : q_d cX7_ahead 19 20 (.iconst 0) 1 := ⟨by decide +kernel, rfl⟩
theorem dX7_ahead_20 : q_d cX7_ahead 20 23 (.invokevirtual 77) 3 := ⟨by decide +kernel, rfl⟩
theorem dX7_ahead_23 : q_d cX7_ahead 23 24 (.aload_n 0) 1 := ⟨by decide +kernel, rfl⟩
theorem dX7_ahead_24 : q_d cX7_ahead 24 25 (.iload_n 2) 1 := ⟨by decide +kernel, rfl⟩
theorem dX7_ahead_25 : q_d cX7_ahead 25 26 (.iconst 1) 1 := ⟨by decide +kernel, rfl⟩
theorem dX7_ahead_26 : q_d cX7_ahead 26 28 (.bipush 120) 2 := ⟨by decide +kernel, rfl⟩
theorem dX7_ahead_28 : q_d cX7_ahead 28 31 (.invokestatic 80) 3 := ⟨by decide +kernel, rfl⟩
theorem dX7_ahead_31 : q_j cX7_ahead 31 34 38 (fun o => .ifCond .ne o) := ⟨7, by decide +kernel, rfl, rfl⟩
theorem dX7_ahead_34 : q_d cX7_ahead 34 35 (.iconst 1) 1 := ⟨by decide +kernel, rfl⟩
theorem dX7_ahead_35 : q_j cX7_ahead 35 38 39 (fun o => .goto o) := ⟨4, by decide +kernel, rfl, rfl⟩
theorem dX7_ahead_38 : q_d cX7_ahead 38 39 (.iconst 0) 1 := ⟨by decide +kernel, rfl⟩
theorem dX7_ahead_39 : q_d cX7_ahead 39 42 (.invokevirtual 45) 3 := ⟨by decide +kernel, rfl⟩
theorem dX7_ahead_42 : q_d cX7_ahead 42 43 (.aload_n 0) 1 := ⟨by decide +kernel, rfl⟩
theorem dX7_ahead_43 : q_d cX7_ahead 43 46 (.getfield 19) 3 := ⟨by decide +kernel, rfl⟩
theorem dX7_ahead_46 : q_d cX7_ahead 46 47 (.aload_n 0) 1 := ⟨by decide +kernel, rfl⟩
theorem dX7_ahead_47 : q_d cX7_ahead 47 50 (.getfield 26) 3 := ⟨by decide +kernel, rfl⟩
theorem dX7_ahead_50 : q_d cX7_ahead 50 51 (.iload_n 1) 1 := ⟨by decide +kernel, rfl⟩
theorem dX7_ahead_51 : q_d cX7_ahead 51 52 (.iload_n 2) 1 := ⟨by decide +kernel, rfl⟩
theorem dX7_ahead_52 : q_d cX7_ahead 52 55 (.invokevirtual 265) 3 := ⟨by decide +kernel, rfl⟩
theorem dX7_ahead_55 : q_d cX7_ahead 55 56 (.lreturn) 1 := ⟨by decide +kernel, rfl⟩
theorem dX7_letters_0 : q_d cX7_letters 0 1 (.aload_n 0) 1 := ⟨by decide +kernel, rfl⟩
theorem dX7_letters_1 : q_d cX7_letters 1 2 (.iload_n 1) 1 := ⟨by decide +kernel, rfl⟩
theorem dX7_letters_2 : q_d cX7_letters 2 3 (.iconst 1) 1 := ⟨by decide +kernel, rfl⟩
theorem dX7_letters_3 : q_d cX7_letters 3 5 (.bipush 120) 2 := ⟨by decide +kernel, rfl⟩
theorem dX7_letters_5 : q_d cX7_letters 5 8 (.invokestatic 80) 3 := ⟨by decide +kernel, rfl⟩
theorem dX7_letters_8 : q_j cX7_letters 8 11 15 (fun o => .ifCond .ne o) := ⟨7, by decide +kernel, rfl, rfl⟩
theorem dX7_letters_11 : q_d cX7_letters 11 12 (.iconst 1) 1 := ⟨by decide +kernel, rfl⟩
theorem dX7_letters_12 : q_j cX7_letters 12 15 16 (fun o => .goto o) := ⟨4, by decide +kernel, rfl, rfl⟩
theorem dX7_letters_15 : q_d cX7_letters 15 16 (.iconst 0) 1 := ⟨by decide +kernel, rfl⟩
theorem dX7_letters_16 : q_d cX7_letters 16 19 (.invokevirtual 45) 3 := ⟨by decide +kernel, rfl⟩
theorem dX7_letters_19 : q_d cX7_letters 19 20 (.aload_n 0) 1 := ⟨by decide +kernel, rfl⟩
theorem dX7_letters_20 : q_d cX7_letters 20 23 (.getfield 19) 3 := ⟨by decide +kernel, rfl⟩
theorem dX7_letters_23 : q_d cX7_letters 23 24 (.aload_n 0) 1 := ⟨by decide +kernel, rfl⟩
theorem dX7_letters_24 : q_d cX7_letters 24 27 (.getfield 26) 3 := ⟨by decide +kernel, rfl⟩
theorem dX7_letters_27 : q_d cX7_letters 27 28 (.iload_n 1) 1 := ⟨by decide +kernel, rfl⟩
theorem dX7_letters_28 : q_d cX7_letters 28 31 (.invokevirtual 269) 3 := ⟨by decide +kernel, rfl⟩
theorem dX7_letters_31 : q_d cX7_letters 31 32 (.ireturn) 1 := ⟨by decide +kernel, rfl⟩
theorem dX7_rescue_0 : q_d cX7_rescue 0 1 (.aload_n 0) 1 := ⟨by decide +kernel, rfl⟩
theorem dX7_rescue_1 : q_d cX7_rescue 1 2 (.iload_n 1) 1 := ⟨by decide +kernel, rfl⟩
theorem dX7_rescue_2 : q_d cX7_rescue 2 3 (.iconst 1) 1 := ⟨by decide +kernel, rfl⟩
theorem dX7_rescue_3 : q_d cX7_rescue 3 4 (.iconst 3) 1 := ⟨by decide +kernel, rfl⟩
theorem dX7_rescue_4 : q_d cX7_rescue 4 7 (.invokestatic 80) 3 := ⟨by decide +kernel, rfl⟩
theorem dX7_rescue_7 : q_j cX7_rescue 7 10 29 (fun o => .ifCond .eq o) := ⟨22, by decide +kernel, rfl, rfl⟩
theorem dX7_rescue_10 : q_d cX7_rescue 10 11 (.iload_n 2) 1 := ⟨by decide +kernel, rfl⟩
theorem dX7_rescue_11 : q_d cX7_rescue 11 12 (.iconst 1) 1 := ⟨by decide +kernel, rfl⟩
theorem dX7_rescue_12 : q_d cX7_rescue 12 14 (.bipush 120) 2 := ⟨by decide +kernel, rfl⟩
theorem dX7_rescue_14 : q_d cX7_rescue 14 17 (.invokestatic 80) 3 := ⟨by decide +kernel, rfl⟩
theorem dX7_rescue_17 : q_j cX7_rescue 17 20 29 (fun o => .ifCond .eq o) := ⟨12, by decide +kernel, rfl, rfl⟩
theorem dX7_rescue_20 : q_d cX7_rescue 20 21 (.iload_n 3) 1 := ⟨by decide +kernel, rfl⟩
theorem dX7_rescue_21 : q_d cX7_rescue 21 22 (.iconst 0) 1 := ⟨by decide +kernel, rfl⟩
theorem dX7_rescue_22 : q_d cX7_rescue 22 23 (.iconst 1) 1 := ⟨by decide +kernel, rfl⟩
theorem dX7_rescue_23 : q_d cX7_rescue 23 26 (.invokestatic 80) 3 := ⟨by decide +kernel, rfl⟩
theorem dX7_rescue_26 : q_j cX7_rescue 26 29 33 (fun o => .ifCond .ne o) := ⟨7, by decide +kernel, rfl, rfl⟩
theorem dX7_rescue_29 : q_d cX7_rescue 29 30 (.iconst 1) 1 := ⟨by decide +kernel, rfl⟩
theorem dX7_rescue_30 : q_j cX7_rescue 30 33 34 (fun o => .goto o) := ⟨4, by decide +kernel, rfl, rfl⟩
theorem dX7_rescue_33 : q_d cX7_rescue 33 34 (.iconst 0) 1 := ⟨by decide +kernel, rfl⟩
theorem dX7_rescue_34 : q_d cX7_rescue 34 37 (.invokevirtual 45) 3 := ⟨by decide +kernel, rfl⟩
theorem dX7_rescue_37 : q_d cX7_rescue 37 38 (.aload_n 0) 1 := ⟨by decide +kernel, rfl⟩
theorem dX7_rescue_38 : q_d cX7_rescue 38 41 (.getfield 19) 3 := ⟨by decide +kernel, rfl⟩
theorem dX7_rescue_41 : q_d cX7_rescue 41 42 (.aload_n 0) 1 := ⟨by decide +kernel, rfl⟩
theorem dX7_rescue_42 : q_d cX7_rescue 42 45 (.getfield 26) 3 := ⟨by decide +kernel, rfl⟩
theorem dX7_rescue_45 : q_d cX7_rescue 45 46 (.iload_n 1) 1 := ⟨by decide +kernel, rfl⟩
theorem dX7_rescue_46 : q_d cX7_rescue 46 47 (.iload_n 2) 1 := ⟨by decide +kernel, rfl⟩
theorem dX7_rescue_47 : q_d cX7_rescue 47 50 (.invokevirtual 272) 3 := ⟨by decide +kernel, rfl⟩
theorem dX7_rescue_50 : q_d cX7_rescue 50 51 (.iload_n 3) 1 := ⟨by decide +kernel, rfl⟩
theorem dX7_rescue_51 : q_j cX7_rescue 51 54 65 (fun o => .ifCond .ne o) := ⟨14, by decide +kernel, rfl, rfl⟩
theorem dX7_rescue_54 : q_d cX7_rescue 54 55 (.aload_n 0) 1 := ⟨by decide +kernel, rfl⟩
theorem dX7_rescue_55 : q_d cX7_rescue 55 58 (.getfield 19) 3 := ⟨by decide +kernel, rfl⟩
theorem dX7_rescue_58 : q_d cX7_rescue 58 61 (.getfield 276) 3 := ⟨by decide +kernel, rfl⟩
theorem dX7_rescue_61 : q_d cX7_rescue 61 62 (.i2l) 1 := ⟨by decide +kernel, rfl⟩
theorem dX7_rescue_62 : q_j cX7_rescue 62 65 72 (fun o => .goto o) := ⟨10, by decide +kernel, rfl, rfl⟩
theorem dX7_rescue_65 : q_d cX7_rescue 65 66 (.aload_n 0) 1 := ⟨by decide +kernel, rfl⟩
theorem dX7_rescue_66 : q_d cX7_rescue 66 69 (.getfield 19) 3 := ⟨by decide +kernel, rfl⟩
theorem dX7_rescue_69 : q_d cX7_rescue 69 72 (.getfield 279) 3 := ⟨by decide +kernel, rfl⟩
theorem dX7_rescue_72 : q_d cX7_rescue 72 73 (.lreturn) 1 := ⟨by decide +kernel, rfl⟩
theorem dX7_books_0 : q_d cX7_books 0 1 (.aload_n 0) 1 := ⟨by decide +kernel, rfl⟩
theorem dX7_books_1 : q_d cX7_books 1 2 (.iload_n 1) 1 := ⟨by decide +kernel, rfl⟩
theorem dX7_books_2 : q_d cX7_books 2 3 (.iconst 0) 1 := ⟨by decide +kernel, rfl⟩
theorem dX7_books_3 : q_d cX7_books 3 5 (.bipush 6) 2 := ⟨by decide +kernel, rfl⟩
theorem dX7_books_5 : q_d cX7_books 5 8 (.invokestatic 80) 3 := ⟨by decide +kernel, rfl⟩
theorem dX7_books_8 : q_j cX7_books 8 11 15 (fun o => .ifCond .ne o) := ⟨7, by decide +kernel, rfl, rfl⟩
theorem dX7_books_11 : q_d cX7_books 11 12 (.iconst 1) 1 := ⟨by decide +kernel, rfl⟩
theorem dX7_books_12 : q_j cX7_books 12 15 16 (fun o => .goto o) := ⟨4, by decide +kernel, rfl, rfl⟩
theorem dX7_books_15 : q_d cX7_books 15 16 (.iconst 0) 1 := ⟨by decide +kernel, rfl⟩
theorem dX7_books_16 : q_d cX7_books 16 19 (.invokevirtual 45) 3 := ⟨by decide +kernel, rfl⟩
theorem dX7_books_19 : q_d cX7_books 19 20 (.aload_n 0) 1 := ⟨by decide +kernel, rfl⟩
theorem dX7_books_20 : q_d cX7_books 20 23 (.getfield 26) 3 := ⟨by decide +kernel, rfl⟩
theorem dX7_books_23 : q_d cX7_books 23 24 (.iload_n 1) 1 := ⟨by decide +kernel, rfl⟩
theorem dX7_books_24 : q_d cX7_books 24 27 (.invokevirtual 283) 3 := ⟨by decide +kernel, rfl⟩
theorem dX7_books_27 : q_d cX7_books 27 28 (.lreturn) 1 := ⟨by decide +kernel, rfl⟩
theorem dX7_print_0 : q_d cX7_print 0 1 (.lconst 0) 1 := ⟨by decide +kernel, rfl⟩
theorem dX7_print_1 : q_d cX7_print 1 2 (.lstore_n 1) 1 := ⟨by decide +kernel, rfl⟩
theorem dX7_print_2 : q_d cX7_print 2 3 (.iconst 0) 1 := ⟨by decide +kernel, rfl⟩
theorem dX7_print_3 : q_d cX7_print 3 4 (.istore_n 3) 1 := ⟨by decide +kernel, rfl⟩
theorem dX7_print_4 : q_d cX7_print 4 5 (.iload_n 3) 1 := ⟨by decide +kernel, rfl⟩
theorem dX7_print_5 : q_d cX7_print 5 6 (.aload_n 0) 1 := ⟨by decide +kernel, rfl⟩
theorem dX7_print_6 : q_d cX7_print 6 9 (.getfield 26) 3 := ⟨by decide +kernel, rfl⟩
theorem dX7_print_9 : q_d cX7_print 9 12 (.getfield 85) 3 := ⟨by decide +kernel, rfl⟩
theorem dX7_print_12 : q_j cX7_print 12 15 77 (fun o => .if_icmp .ge o) := ⟨65, by decide +kernel, rfl, rfl⟩
theorem dX7_print_15 : q_d cX7_print 15 16 (.iload_n 3) 1 := ⟨by decide +kernel, rfl⟩
theorem dX7_print_16 : q_d cX7_print 16 18 (.bipush 12) 2 := ⟨by decide +kernel, rfl⟩
theorem dX7_print_18 : q_j cX7_print 18 21 77 (fun o => .if_icmp .ge o) := ⟨59, by decide +kernel, rfl, rfl⟩
theorem dX7_print_21 : q_d cX7_print 21 22 (.aload_n 0) 1 := ⟨by decide +kernel, rfl⟩
theorem dX7_print_22 : q_d cX7_print 22 25 (.getfield 26) 3 := ⟨by decide +kernel, rfl⟩
theorem dX7_print_25 : q_d cX7_print 25 28 (.getfield 91) 3 := ⟨by decide +kernel, rfl⟩
theorem dX7_print_28 : q_d cX7_print 28 29 (.iload_n 3) 1 := ⟨by decide +kernel, rfl⟩
theorem dX7_print_29 : q_d cX7_print 29 30 (.aaload) 1 := ⟨by decide +kernel, rfl⟩
theorem dX7_print_30 : q_d cX7_print 30 32 (.astore 4) 2 := ⟨by decide +kernel, rfl⟩
theorem dX7_print_32 : q_d cX7_print 32 35 (.ldc2_w 286) 3 := ⟨by decide +kernel, rfl⟩
theorem dX7_print_35 : q_d cX7_print 35 36 (.lload_n 1) 1 := ⟨by decide +kernel, rfl⟩
theorem dX7_print_36 : q_d cX7_print 36 37 (.lmul) 1 := ⟨by decide +kernel, rfl⟩
theorem dX7_print_37 : q_d cX7_print 37 39 (.aload 4) 2 := ⟨by decide +kernel, rfl⟩
theorem dX7_print_39 : q_d cX7_print 39 42 (.getfield 115) 3 := ⟨by decide +kernel, rfl⟩
theorem dX7_print_42 : q_d cX7_print 42 43 (.i2l) 1 := ⟨by decide +kernel, rfl⟩
theorem dX7_print_43 : q_d cX7_print 43 44 (.ladd) 1 := ⟨by decide +kernel, rfl⟩
theorem dX7_print_44 : q_d cX7_print 44 45 (.lstore_n 1) 1 := ⟨by decide +kernel, rfl⟩
theorem dX7_print_45 : q_d cX7_print 45 48 (.ldc2_w 286) 3 := ⟨by decide +kernel, rfl⟩
theorem dX7_print_48 : q_d cX7_print 48 49 (.lload_n 1) 1 := ⟨by decide +kernel, rfl⟩
theorem dX7_print_49 : q_d cX7_print 49 50 (.lmul) 1 := ⟨by decide +kernel, rfl⟩
theorem dX7_print_50 : q_d cX7_print 50 52 (.aload 4) 2 := ⟨by decide +kernel, rfl⟩
theorem dX7_print_52 : q_d cX7_print 52 55 (.getfield 127) 3 := ⟨by decide +kernel, rfl⟩
theorem dX7_print_55 : q_d cX7_print 55 56 (.i2l) 1 := ⟨by decide +kernel, rfl⟩
theorem dX7_print_56 : q_d cX7_print 56 57 (.ladd) 1 := ⟨by decide +kernel, rfl⟩
theorem dX7_print_57 : q_d cX7_print 57 58 (.lstore_n 1) 1 := ⟨by decide +kernel, rfl⟩
theorem dX7_print_58 : q_d cX7_print 58 61 (.ldc2_w 286) 3 := ⟨by decide +kernel, rfl⟩
theorem dX7_print_61 : q_d cX7_print 61 62 (.lload_n 1) 1 := ⟨by decide +kernel, rfl⟩
theorem dX7_print_62 : q_d cX7_print 62 63 (.lmul) 1 := ⟨by decide +kernel, rfl⟩
theorem dX7_print_63 : q_d cX7_print 63 65 (.aload 4) 2 := ⟨by decide +kernel, rfl⟩
theorem dX7_print_65 : q_d cX7_print 65 68 (.getfield 108) 3 := ⟨by decide +kernel, rfl⟩
theorem dX7_print_68 : q_d cX7_print 68 69 (.i2l) 1 := ⟨by decide +kernel, rfl⟩
theorem dX7_print_69 : q_d cX7_print 69 70 (.ladd) 1 := ⟨by decide +kernel, rfl⟩
theorem dX7_print_70 : q_d cX7_print 70 71 (.lstore_n 1) 1 := ⟨by decide +kernel, rfl⟩
theorem dX7_print_71 : q_d cX7_print 71 74 (.iinc 3 1) 3 := ⟨by decide +kernel, rfl⟩
theorem dX7_print_74 : q_j cX7_print 74 77 4 (fun o => .goto o) := ⟨(-70), by decide +kernel, rfl, rfl⟩
theorem dX7_print_77 : q_d cX7_print 77 78 (.lload_n 1) 1 := ⟨by decide +kernel, rfl⟩
theorem dX7_print_78 : q_d cX7_print 78 79 (.lreturn) 1 := ⟨by decide +kernel, rfl⟩
theorem dX7_status_0 : q_d cX7_status 0 1 (.iload_n 1) 1 := ⟨by decide +kernel, rfl⟩
theorem dX7_status_1 : decode cX7_status 1 = .ok (.tableswitch 42 0 2 #[27, 32, 37], 27) := by decide +kernel
theorem dX7_status_28 : q_d cX7_status 28 29 (.aload_n 0) 1 := ⟨by decide +kernel, rfl⟩
theorem dX7_status_29 : q_d cX7_status 29 32 (.getfield 288) 3 := ⟨by decide +kernel, rfl⟩
theorem dX7_status_32 : q_d cX7_status 32 33 (.ireturn) 1 := ⟨by decide +kernel, rfl⟩
theorem dX7_status_33 : q_d cX7_status 33 34 (.aload_n 0) 1 := ⟨by decide +kernel, rfl⟩
theorem dX7_status_34 : q_d cX7_status 34 37 (.getfield 291) 3 := ⟨by decide +kernel, rfl⟩
theorem dX7_status_37 : q_d cX7_status 37 38 (.ireturn) 1 := ⟨by decide +kernel, rfl⟩
theorem dX7_status_38 : q_d cX7_status 38 39 (.aload_n 0) 1 := ⟨by decide +kernel, rfl⟩
theorem dX7_status_39 : q_d cX7_status 39 42 (.getfield 294) 3 := ⟨by decide +kernel, rfl⟩
theorem dX7_status_42 : q_d cX7_status 42 43 (.ireturn) 1 := ⟨by decide +kernel, rfl⟩
theorem dX7_status_43 : q_d cX7_status 43 44 (.iconst (-1)) 1 := ⟨by decide +kernel, rfl⟩
theorem dX7_status_44 : q_d cX7_status 44 45 (.ireturn) 1 := ⟨by decide +kernel, rfl⟩
theorem dX7_refuseNoSuch_0 : q_d cX7_refuseNoSuch 0 1 (.iload_n 1) 1 := ⟨by decide +kernel, rfl⟩
theorem dX7_refuseNoSuch_1 : q_j cX7_refuseNoSuch 1 4 25 (fun o => .ifCond .eq o) := ⟨24, by decide +kernel, rfl, rfl⟩
theorem dX7_refuseNoSuch_4 : q_d cX7_refuseNoSuch 4 5 (.aload_n 0) 1 := ⟨by decide +kernel, rfl⟩
theorem dX7_refuseNoSuch_5 : q_d cX7_refuseNoSuch 5 6 (.dup) 1 := ⟨by decide +kernel, rfl⟩
theorem dX7_refuseNoSuch_6 : q_d cX7_refuseNoSuch 6 9 (.getfield 288) 3 := ⟨by decide +kernel, rfl⟩
theorem dX7_refuseNoSuch_9 : q_d cX7_refuseNoSuch 9 10 (.iconst 1) 1 := ⟨by decide +kernel, rfl⟩
theorem dX7_refuseNoSuch_10 : q_d cX7_refuseNoSuch 10 11 (.iadd) 1 := ⟨by decide +kernel, rfl⟩
theorem dX7_refuseNoSuch_11 : q_d cX7_refuseNoSuch 11 14 (.putfield 288) 3 := ⟨by decide +kernel, rfl⟩
theorem dX7_refuseNoSuch_14 : q_d cX7_refuseNoSuch 14 17 (.new 297) 3 := ⟨by decide +kernel, rfl⟩
theorem dX7_refuseNoSuch_17 : q_d cX7_refuseNoSuch 17 18 (.dup) 1 := ⟨by decide +kernel, rfl⟩
theorem dX7_refuseNoSuch_18 : q_d cX7_refuseNoSuch 18 21 (.ldc_w 299) 3 := ⟨by decide +kernel, rfl⟩
theorem dX7_refuseNoSuch_21 : q_d cX7_refuseNoSuch 21 24 (.invokespecial 301) 3 := ⟨by decide +kernel, rfl⟩
theorem dX7_refuseNoSuch_24 : q_d cX7_refuseNoSuch 24 25 (.athrow) 1 := ⟨by decide +kernel, rfl⟩
theorem dX7_refuseNoSuch_25 : q_d cX7_refuseNoSuch 25 26 (.return_) 1 := ⟨by decide +kernel, rfl⟩
theorem dX7_refuseArgument_0 : q_d cX7_refuseArgument 0 1 (.iload_n 1) 1 := ⟨by decide +kernel, rfl⟩
theorem dX7_refuseArgument_1 : q_j cX7_refuseArgument 1 4 25 (fun o => .ifCond .eq o) := ⟨24, by decide +kernel, rfl, rfl⟩
theorem dX7_refuseArgument_4 : q_d cX7_refuseArgument 4 5 (.aload_n 0) 1 := ⟨by decide +kernel, rfl⟩
theorem dX7_refuseArgument_5 : q_d cX7_refuseArgument 5 6 (.dup) 1 := ⟨by decide +kernel, rfl⟩
theorem dX7_refuseArgument_6 : q_d cX7_refuseArgument 6 9 (.getfield 291) 3 := ⟨by decide +kernel, rfl⟩
theorem dX7_refuseArgument_9 : q_d cX7_refuseArgument 9 10 (.iconst 1) 1 := ⟨by decide +kernel, rfl⟩
theorem dX7_refuseArgument_10 : q_d cX7_refuseArgument 10 11 (.iadd) 1 := ⟨by decide +kernel, rfl⟩
theorem dX7_refuseArgument_11 : q_d cX7_refuseArgument 11 14 (.putfield 291) 3 := ⟨by decide +kernel, rfl⟩
theorem dX7_refuseArgument_14 : q_d cX7_refuseArgument 14 17 (.new 304) 3 := ⟨by decide +kernel, rfl⟩
theorem dX7_refuseArgument_17 : q_d cX7_refuseArgument 17 18 (.dup) 1 := ⟨by decide +kernel, rfl⟩
theorem dX7_refuseArgument_18 : q_d cX7_refuseArgument 18 21 (.ldc_w 306) 3 := ⟨by decide +kernel, rfl⟩
theorem dX7_refuseArgument_21 : q_d cX7_refuseArgument 21 24 (.invokespecial 308) 3 := ⟨by decide +kernel, rfl⟩
theorem dX7_refuseArgument_24 : q_d cX7_refuseArgument 24 25 (.athrow) 1 := ⟨by decide +kernel, rfl⟩
theorem dX7_refuseArgument_25 : q_d cX7_refuseArgument 25 26 (.return_) 1 := ⟨by decide +kernel, rfl⟩
theorem dX7_refuseState_0 : q_d cX7_refuseState 0 1 (.iload_n 1) 1 := ⟨by decide +kernel, rfl⟩
theorem dX7_refuseState_1 : q_j cX7_refuseState 1 4 25 (fun o => .ifCond .eq o) := ⟨24, by decide +kernel, rfl, rfl⟩
theorem dX7_refuseState_4 : q_d cX7_refuseState 4 5 (.aload_n 0) 1 := ⟨by decide +kernel, rfl⟩
theorem dX7_refuseState_5 : q_d cX7_refuseState 5 6 (.dup) 1 := ⟨by decide +kernel, rfl⟩
theorem dX7_refuseState_6 : q_d cX7_refuseState 6 9 (.getfield 294) 3 := ⟨by decide +kernel, rfl⟩
theorem dX7_refuseState_9 : q_d cX7_refuseState 9 10 (.iconst 1) 1 := ⟨by decide +kernel, rfl⟩
theorem dX7_refuseState_10 : q_d cX7_refuseState 10 11 (.iadd) 1 := ⟨by decide +kernel, rfl⟩
theorem dX7_refuseState_11 : q_d cX7_refuseState 11 14 (.putfield 294) 3 := ⟨by decide +kernel, rfl⟩
theorem dX7_refuseState_14 : q_d cX7_refuseState 14 17 (.new 309) 3 := ⟨by decide +kernel, rfl⟩
theorem dX7_refuseState_17 : q_d cX7_refuseState 17 18 (.dup) 1 := ⟨by decide +kernel, rfl⟩
theorem dX7_refuseState_18 : q_d cX7_refuseState 18 21 (.ldc_w 311) 3 := ⟨by decide +kernel, rfl⟩
theorem dX7_refuseState_21 : q_d cX7_refuseState 21 24 (.invokespecial 313) 3 := ⟨by decide +kernel, rfl⟩
theorem dX7_refuseState_24 : q_d cX7_refuseState 24 25 (.athrow) 1 := ⟨by decide +kernel, rfl⟩
theorem dX7_refuseState_25 : q_d cX7_refuseState 25 26 (.return_) 1 := ⟨by decide +kernel, rfl⟩
theorem dX7_isWithin_0 : q_d cX7_isWithin 0 1 (.iload_n 0) 1 := ⟨by decide +kernel, rfl⟩
theorem dX7_isWithin_1 : q_d cX7_isWithin 1 2 (.iload_n 1) 1 := ⟨by decide +kernel, rfl⟩
theorem dX7_isWithin_2 : q_j cX7_isWithin 2 5 14 (fun o => .if_icmp .lt o) := ⟨12, by decide +kernel, rfl, rfl⟩
theorem dX7_isWithin_5 : q_d cX7_isWithin 5 6 (.iload_n 0) 1 := ⟨by decide +kernel, rfl⟩
theorem dX7_isWithin_6 : q_d cX7_isWithin 6 7 (.iload_n 2) 1 := ⟨by decide +kernel, rfl⟩
theorem dX7_isWithin_7 : q_j cX7_isWithin 7 10 14 (fun o => .if_icmp .gt o) := ⟨7, by decide +kernel, rfl, rfl⟩
theorem dX7_isWithin_10 : q_d cX7_isWithin 10 11 (.iconst 1) 1 := ⟨by decide +kernel, rfl⟩
theorem dX7_isWithin_11 : q_j cX7_isWithin 11 14 15 (fun o => .goto o) := ⟨4, by decide +kernel, rfl, rfl⟩
theorem dX7_isWithin_14 : q_d cX7_isWithin 14 15 (.iconst 0) 1 := ⟨by decide +kernel, rfl⟩
theorem dX7_isWithin_15 : q_d cX7_isWithin 15 16 (.ireturn) 1 := ⟨by decide +kernel, rfl⟩
theorem dX7_putOnTape_0 : q_d cX7_putOnTape 0 2 (.bipush 24) 2 := ⟨by decide +kernel, rfl⟩
theorem dX7_putOnTape_2 : q_d cX7_putOnTape 2 3 (.istore_n 2) 1 := ⟨by decide +kernel, rfl⟩
theorem dX7_putOnTape_3 : q_d cX7_putOnTape 3 4 (.iload_n 2) 1 := ⟨by decide +kernel, rfl⟩
theorem dX7_putOnTape_4 : q_j cX7_putOnTape 4 7 52 (fun o => .ifCond .lt o) := ⟨48, by decide +kernel, rfl, rfl⟩
theorem dX7_putOnTape_7 : q_d cX7_putOnTape 7 8 (.aload_n 0) 1 := ⟨by decide +kernel, rfl⟩
theorem dX7_putOnTape_8 : q_d cX7_putOnTape 8 11 (.getfield 38) 3 := ⟨by decide +kernel, rfl⟩
theorem dX7_putOnTape_11 : q_d cX7_putOnTape 11 14 (.sipush 600) 3 := ⟨by decide +kernel, rfl⟩
theorem dX7_putOnTape_14 : q_j cX7_putOnTape 14 17 52 (fun o => .if_icmp .ge o) := ⟨38, by decide +kernel, rfl, rfl⟩
theorem dX7_putOnTape_17 : q_d cX7_putOnTape 17 18 (.aload_n 0) 1 := ⟨by decide +kernel, rfl⟩
theorem dX7_putOnTape_18 : q_d cX7_putOnTape 18 21 (.getfield 10) 3 := ⟨by decide +kernel, rfl⟩
theorem dX7_putOnTape_21 : q_d cX7_putOnTape 21 24 (.getfield 314) 3 := ⟨by decide +kernel, rfl⟩
theorem dX7_putOnTape_24 : q_d cX7_putOnTape 24 25 (.aload_n 0) 1 := ⟨by decide +kernel, rfl⟩
theorem dX7_putOnTape_25 : q_d cX7_putOnTape 25 28 (.getfield 38) 3 := ⟨by decide +kernel, rfl⟩
theorem dX7_putOnTape_28 : q_d cX7_putOnTape 28 29 (.iload_n 1) 1 := ⟨by decide +kernel, rfl⟩
theorem dX7_putOnTape_29 : q_d cX7_putOnTape 29 30 (.iload_n 2) 1 := ⟨by decide +kernel, rfl⟩
theorem dX7_putOnTape_30 : q_d cX7_putOnTape 30 31 (.iushr) 1 := ⟨by decide +kernel, rfl⟩
theorem dX7_putOnTape_31 : q_d cX7_putOnTape 31 34 (.sipush 255) 3 := ⟨by decide +kernel, rfl⟩
theorem dX7_putOnTape_34 : q_d cX7_putOnTape 34 35 (.iand) 1 := ⟨by decide +kernel, rfl⟩
theorem dX7_putOnTape_35 : q_d cX7_putOnTape 35 36 (.iastore) 1 := ⟨by decide +kernel, rfl⟩
theorem dX7_putOnTape_36 : q_d cX7_putOnTape 36 37 (.aload_n 0) 1 := ⟨by decide +kernel, rfl⟩
theorem dX7_putOnTape_37 : q_d cX7_putOnTape 37 38 (.dup) 1 := ⟨by decide +kernel, rfl⟩
theorem dX7_putOnTape_38 : q_d cX7_putOnTape 38 41 (.getfield 38) 3 := ⟨by decide +kernel, rfl⟩
theorem dX7_putOnTape_41 : q_d cX7_putOnTape 41 42 (.iconst 1) 1 := ⟨by decide +kernel, rfl⟩
theorem dX7_putOnTape_42 : q_d cX7_putOnTape 42 43 (.iadd) 1 := ⟨by decide +kernel, rfl⟩
theorem dX7_putOnTape_43 : q_d cX7_putOnTape 43 46 (.putfield 38) 3 := ⟨by decide +kernel, rfl⟩
theorem dX7_putOnTape_46 : q_d cX7_putOnTape 46 49 (.iinc 2 (-8)) 3 := ⟨by decide +kernel, rfl⟩
theorem dX7_putOnTape_49 : q_j cX7_putOnTape 49 52 3 (fun o => .goto o) := ⟨(-46), by decide +kernel, rfl, rfl⟩
theorem dX7_putOnTape_52 : q_d cX7_putOnTape 52 53 (.return_) 1 := ⟨by decide +kernel, rfl⟩
theorem dX7_remember_0 : q_d cX7_remember 0 1 (.aload_n 0) 1 := ⟨by decide +kernel, rfl⟩
theorem dX7_remember_1 : q_d cX7_remember 1 4 (.getfield 158) 3 := ⟨by decide +kernel, rfl⟩
theorem dX7_remember_4 : q_d cX7_remember 4 5 (.aload_n 0) 1 := ⟨by decide +kernel, rfl⟩
theorem dX7_remember_5 : q_d cX7_remember 5 8 (.getfield 30) 3 := ⟨by decide +kernel, rfl⟩
theorem dX7_remember_8 : q_d cX7_remember 8 9 (.arraylength) 1 := ⟨by decide +kernel, rfl⟩
theorem dX7_remember_9 : q_j cX7_remember 9 12 74 (fun o => .if_icmp .lt o) := ⟨65, by decide +kernel, rfl, rfl⟩
theorem dX7_remember_12 : q_d cX7_remember 12 13 (.aload_n 0) 1 := ⟨by decide +kernel, rfl⟩
theorem dX7_remember_13 : q_d cX7_remember 13 16 (.getfield 30) 3 := ⟨by decide +kernel, rfl⟩
theorem dX7_remember_16 : q_d cX7_remember 16 17 (.iconst 0) 1 := ⟨by decide +kernel, rfl⟩
theorem dX7_remember_17 : q_d cX7_remember 17 18 (.aaload) 1 := ⟨by decide +kernel, rfl⟩
theorem dX7_remember_18 : q_d cX7_remember 18 19 (.astore_n 1) 1 := ⟨by decide +kernel, rfl⟩
theorem dX7_remember_19 : q_d cX7_remember 19 20 (.iconst 1) 1 := ⟨by decide +kernel, rfl⟩
theorem dX7_remember_20 : q_d cX7_remember 20 21 (.istore_n 2) 1 := ⟨by decide +kernel, rfl⟩
theorem dX7_remember_21 : q_d cX7_remember 21 22 (.iload_n 2) 1 := ⟨by decide +kernel, rfl⟩
theorem dX7_remember_22 : q_d cX7_remember 22 23 (.aload_n 0) 1 := ⟨by decide +kernel, rfl⟩
theorem dX7_remember_23 : q_d cX7_remember 23 26 (.getfield 30) 3 := ⟨by decide +kernel, rfl⟩
theorem dX7_remember_26 : q_d cX7_remember 26 27 (.arraylength) 1 := ⟨by decide +kernel, rfl⟩
theorem dX7_remember_27 : q_j cX7_remember 27 30 50 (fun o => .if_icmp .ge o) := ⟨23, by decide +kernel, rfl, rfl⟩
theorem dX7_remember_30 : q_d cX7_remember 30 31 (.aload_n 0) 1 := ⟨by decide +kernel, rfl⟩
theorem dX7_remember_31 : q_d cX7_remember 31 34 (.getfield 30) 3 := ⟨by decide +kernel, rfl⟩
theorem dX7_remember_34 : q_d cX7_remember 34 35 (.iload_n 2) 1 := ⟨by decide +kernel, rfl⟩
theorem dX7_remember_35 : q_d cX7_remember 35 36 (.iconst 1) 1 := ⟨by decide +kernel, rfl⟩
theorem dX7_remember_36 : q_d cX7_remember 36 37 (.isub) 1 := ⟨by decide +kernel, rfl⟩
theorem dX7_remember_37 : q_d cX7_remember 37 38 (.aload_n 0) 1 := ⟨by decide +kernel, rfl⟩
theorem dX7_remember_38 : q_d cX7_remember 38 41 (.getfield 30) 3 := ⟨by decide +kernel, rfl⟩
theorem dX7_remember_41 : q_d cX7_remember 41 42 (.iload_n 2) 1 := ⟨by decide +kernel, rfl⟩
theorem dX7_remember_42 : q_d cX7_remember 42 43 (.aaload) 1 := ⟨by decide +kernel, rfl⟩
theorem dX7_remember_43 : q_d cX7_remember 43 44 (.aastore) 1 := ⟨by decide +kernel, rfl⟩
theorem dX7_remember_44 : q_d cX7_remember 44 47 (.iinc 2 1) 3 := ⟨by decide +kernel, rfl⟩
theorem dX7_remember_47 : q_j cX7_remember 47 50 21 (fun o => .goto o) := ⟨(-26), by decide +kernel, rfl, rfl⟩
theorem dX7_remember_50 : q_d cX7_remember 50 51 (.aload_n 0) 1 := ⟨by decide +kernel, rfl⟩
theorem dX7_remember_51 : q_d cX7_remember 51 54 (.getfield 30) 3 := ⟨by decide +kernel, rfl⟩
theorem dX7_remember_54 : q_d cX7_remember 54 55 (.aload_n 0) 1 := ⟨by decide +kernel, rfl⟩
theorem dX7_remember_55 : q_d cX7_remember 55 58 (.getfield 30) 3 := ⟨by decide +kernel, rfl⟩
theorem dX7_remember_58 : q_d cX7_remember 58 59 (.arraylength) 1 := ⟨by decide +kernel, rfl⟩
theorem dX7_remember_59 : q_d cX7_remember 59 60 (.iconst 1) 1 := ⟨by decide +kernel, rfl⟩
theorem dX7_remember_60 : q_d cX7_remember 60 61 (.isub) 1 := ⟨by decide +kernel, rfl⟩
theorem dX7_remember_61 : q_d cX7_remember 61 62 (.aload_n 1) 1 := ⟨by decide +kernel, rfl⟩
theorem dX7_remember_62 : q_d cX7_remember 62 63 (.aastore) 1 := ⟨by decide +kernel, rfl⟩
theorem dX7_remember_63 : q_d cX7_remember 63 64 (.aload_n 0) 1 := ⟨by decide +kernel, rfl⟩
theorem dX7_remember_64 : q_d cX7_remember 64 65 (.aload_n 0) 1 := ⟨by decide +kernel, rfl⟩
theorem dX7_remember_65 : q_d cX7_remember 65 68 (.getfield 30) 3 := ⟨by decide +kernel, rfl⟩
theorem dX7_remember_68 : q_d cX7_remember 68 69 (.arraylength) 1 := ⟨by decide +kernel, rfl⟩
theorem dX7_remember_69 : q_d cX7_remember 69 70 (.iconst 1) 1 := ⟨by decide +kernel, rfl⟩
theorem dX7_remember_70 : q_d cX7_remember 70 71 (.isub) 1 := ⟨by decide +kernel, rfl⟩
theorem dX7_remember_71 : q_d cX7_remember 71 74 (.putfield 158) 3 := ⟨by decide +kernel, rfl⟩
theorem dX7_remember_74 : q_d cX7_remember 74 75 (.aload_n 0) 1 := ⟨by decide +kernel, rfl⟩
theorem dX7_remember_75 : q_d cX7_remember 75 78 (.getfield 30) 3 := ⟨by decide +kernel, rfl⟩
theorem dX7_remember_78 : q_d cX7_remember 78 79 (.aload_n 0) 1 := ⟨by decide +kernel, rfl⟩
theorem dX7_remember_79 : q_d cX7_remember 79 82 (.getfield 158) 3 := ⟨by decide +kernel, rfl⟩
theorem dX7_remember_82 : q_d cX7_remember 82 83 (.aaload) 1 := ⟨by decide +kernel, rfl⟩
theorem dX7_remember_83 : q_d cX7_remember 83 84 (.aload_n 0) 1 := ⟨by decide +kernel, rfl⟩
theorem dX7_remember_84 : q_d cX7_remember 84 87 (.getfield 26) 3 := ⟨by decide +kernel, rfl⟩
theorem dX7_remember_87 : q_d cX7_remember 87 90 (.invokevirtual 317) 3 := ⟨by decide +kernel, rfl⟩
theorem dX7_remember_90 : q_d cX7_remember 90 91 (.aload_n 0) 1 := ⟨by decide +kernel, rfl⟩
theorem dX7_remember_91 : q_d cX7_remember 91 92 (.dup) 1 := ⟨by decide +kernel, rfl⟩
theorem dX7_remember_92 : q_d cX7_remember 92 95 (.getfield 158) 3 := ⟨by decide +kernel, rfl⟩
theorem dX7_remember_95 : q_d cX7_remember 95 96 (.iconst 1) 1 := ⟨by decide +kernel, rfl⟩
theorem dX7_remember_96 : q_d cX7_remember 96 97 (.iadd) 1 := ⟨by decide +kernel, rfl⟩
theorem dX7_remember_97 : q_d cX7_remember 97 100 (.putfield 158) 3 := ⟨by decide +kernel, rfl⟩
theorem dX7_remember_100 : q_d cX7_remember 100 101 (.return_) 1 := ⟨by decide +kernel, rfl⟩
theorem dX8_init_0 : q_d cX8_init 0 1 (.aload_n 0) 1 := ⟨by decide +kernel, rfl⟩
theorem dX8_init_1 : q_d cX8_init 1 4 (.invokespecial 3) 3 := ⟨by decide +kernel, rfl⟩
theorem dX8_init_4 : q_d cX8_init 4 5 (.aload_n 0) 1 := ⟨by decide +kernel, rfl⟩
theorem dX8_init_5 : q_d cX8_init 5 6 (.iconst 3) 1 := ⟨by decide +kernel, rfl⟩
theorem dX8_init_6 : q_d cX8_init 6 8 (.newarray .int) 2 := ⟨by decide +kernel, rfl⟩
theorem dX8_init_8 : q_d cX8_init 8 11 (.putfield 9) 3 := ⟨by decide +kernel, rfl⟩
theorem dX8_init_11 : q_d cX8_init 11 12 (.aload_n 0) 1 := ⟨by decide +kernel, rfl⟩
theorem dX8_init_12 : q_d cX8_init 12 13 (.iconst (-1)) 1 := ⟨by decide +kernel, rfl⟩
theorem dX8_init_13 : q_d cX8_init 13 16 (.putfield 13) 3 := ⟨by decide +kernel, rfl⟩
theorem dX8_init_16 : q_d cX8_init 16 17 (.aload_n 0) 1 := ⟨by decide +kernel, rfl⟩
theorem dX8_init_17 : q_d cX8_init 17 20 (.sipush 600) 3 := ⟨by decide +kernel, rfl⟩
theorem dX8_init_20 : q_d cX8_init 20 22 (.newarray .int) 2 := ⟨by decide +kernel, rfl⟩
theorem dX8_init_22 : q_d cX8_init 22 25 (.putfield 17) 3 := ⟨by decide +kernel, rfl⟩
theorem dX8_init_25 : q_d cX8_init 25 26 (.aload_n 0) 1 := ⟨by decide +kernel, rfl⟩
theorem dX8_init_26 : q_d cX8_init 26 29 (.sipush 1243) 3 := ⟨by decide +kernel, rfl⟩
theorem dX8_init_29 : q_d cX8_init 29 31 (.newarray .long) 2 := ⟨by decide +kernel, rfl⟩
theorem dX8_init_31 : q_d cX8_init 31 34 (.putfield 20) 3 := ⟨by decide +kernel, rfl⟩
theorem dX8_init_34 : q_d cX8_init 34 35 (.aload_n 0) 1 := ⟨by decide +kernel, rfl⟩
theorem dX8_init_35 : q_d cX8_init 35 38 (.sipush 1243) 3 := ⟨by decide +kernel, rfl⟩
theorem dX8_init_38 : q_d cX8_init 38 40 (.newarray .long) 2 := ⟨by decide +kernel, rfl⟩
theorem dX8_init_40 : q_d cX8_init 40 43 (.putfield 24) 3 := ⟨by decide +kernel, rfl⟩
theorem dX8_init_43 : q_d cX8_init 43 44 (.aload_n 0) 1 := ⟨by decide +kernel, rfl⟩
theorem dX8_init_44 : q_d cX8_init 44 47 (.sipush 1243) 3 := ⟨by decide +kernel, rfl⟩
theorem dX8_init_47 : q_d cX8_init 47 49 (.newarray .long) 2 := ⟨by decide +kernel, rfl⟩
theorem dX8_init_49 : q_d cX8_init 49 52 (.putfield 27) 3 := ⟨by decide +kernel, rfl⟩
theorem dX8_init_52 : q_d cX8_init 52 53 (.aload_n 0) 1 := ⟨by decide +kernel, rfl⟩
theorem dX8_init_53 : q_d cX8_init 53 55 (.bipush 8) 2 := ⟨by decide +kernel, rfl⟩
theorem dX8_init_55 : q_d cX8_init 55 58 (.sipush 1243) 3 := ⟨by decide +kernel, rfl⟩
theorem dX8_init_58 : q_d cX8_init 58 62 (.multianewarray 30 2) 4 := ⟨by decide +kernel, rfl⟩
theorem dX8_init_62 : q_d cX8_init 62 65 (.putfield 32) 3 := ⟨by decide +kernel, rfl⟩
theorem dX8_init_65 : q_d cX8_init 65 66 (.aload_n 0) 1 := ⟨by decide +kernel, rfl⟩
theorem dX8_init_66 : q_d cX8_init 66 69 (.sipush 900) 3 := ⟨by decide +kernel, rfl⟩
theorem dX8_init_69 : q_d cX8_init 69 71 (.newarray .long) 2 := ⟨by decide +kernel, rfl⟩
theorem dX8_init_71 : q_d cX8_init 71 74 (.putfield 35) 3 := ⟨by decide +kernel, rfl⟩
theorem dX8_init_74 : q_d cX8_init 74 75 (.aload_n 0) 1 := ⟨by decide +kernel, rfl⟩
theorem dX8_init_75 : q_d cX8_init 75 77 (.bipush 12) 2 := ⟨by decide +kernel, rfl⟩
theorem dX8_init_77 : q_d cX8_init 77 79 (.newarray .long) 2 := ⟨by decide +kernel, rfl⟩
theorem dX8_init_79 : q_d cX8_init 79 82 (.putfield 38) 3 := ⟨by decide +kernel, rfl⟩
theorem dX8_init_82 : q_d cX8_init 82 83 (.aload_n 0) 1 := ⟨by decide +kernel, rfl⟩
theorem dX8_init_83 : q_d cX8_init 83 85 (.bipush 12) 2 := ⟨by decide +kernel, rfl⟩
theorem dX8_init_85 : q_d cX8_init 85 87 (.newarray .long) 2 := ⟨by decide +kernel, rfl⟩
theorem dX8_init_87 : q_d cX8_init 87 90 (.putfield 41) 3 := ⟨by decide +kernel, rfl⟩
theorem dX8_init_90 : q_d cX8_init 90 91 (.aload_n 0) 1 := ⟨by decide +kernel, rfl⟩
theorem dX8_init_91 : q_d cX8_init 91 94 (.getfield 20) 3 := ⟨by decide +kernel, rfl⟩
theorem dX8_init_94 : q_d cX8_init 94 97 (.invokestatic 44) 3 := ⟨by decide +kernel, rfl⟩
theorem dX8_init_97 : q_d cX8_init 97 98 (.aload_n 0) 1 := ⟨by decide +kernel, rfl⟩
theorem dX8_init_98 : q_d cX8_init 98 101 (.getfield 20) 3 := ⟨by decide +kernel, rfl⟩
theorem dX8_init_101 : q_d cX8_init 101 102 (.iconst 5) 1 := ⟨by decide +kernel, rfl⟩
theorem dX8_init_102 : q_d cX8_init 102 105 (.ldc2_w 48) 3 := ⟨by decide +kernel, rfl⟩
theorem dX8_init_105 : q_d cX8_init 105 106 (.lastore) 1 := ⟨by decide +kernel, rfl⟩
theorem dX8_init_106 : q_d cX8_init 106 107 (.return_) 1 := ⟨by decide +kernel, rfl⟩
theorem dX8_begins_0 : q_d cX8_begins 0 1 (.iconst 0) 1 := ⟨by decide +kernel, rfl⟩
theorem dX8_begins_1 : q_d cX8_begins 1 2 (.istore_n 1) 1 := ⟨by decide +kernel, rfl⟩
theorem dX8_begins_2 : q_d cX8_begins 2 3 (.iload_n 1) 1 := ⟨by decide +kernel, rfl⟩
theorem dX8_begins_3 : q_d cX8_begins 3 6 (.sipush 1243) 3 := ⟨by decide +kernel, rfl⟩
theorem dX8_begins_6 : q_j cX8_begins 6 9 19 (fun o => .if_icmp .ge o) := ⟨13, by decide +kernel, rfl, rfl⟩
theorem dX8_begins_9 : q_d cX8_begins 9 10 (.aload_n 0) 1 := ⟨by decide +kernel, rfl⟩
theorem dX8_begins_10 : q_d cX8_begins 10 11 (.iload_n 1) 1 := ⟨by decide +kernel, rfl⟩
theorem dX8_begins_11 : q_d cX8_begins 11 12 (.lconst 0) 1 := ⟨by decide +kernel, rfl⟩
theorem dX8_begins_12 : q_d cX8_begins 12 13 (.lastore) 1 := ⟨by decide +kernel, rfl⟩
theorem dX8_begins_13 : q_d cX8_begins 13 16 (.iinc 1 1) 3 := ⟨by decide +kernel, rfl⟩
theorem dX8_begins_16 : q_j cX8_begins 16 19 2 (fun o => .goto o) := ⟨(-14), by decide +kernel, rfl, rfl⟩
theorem dX8_begins_19 : q_d cX8_begins 19 20 (.aload_n 0) 1 := ⟨by decide +kernel, rfl⟩
theorem dX8_begins_20 : q_d cX8_begins 20 21 (.iconst 3) 1 := ⟨by decide +kernel, rfl⟩
theorem dX8_begins_21 : q_d cX8_begins 21 24 (.ldc2_w 50) 3 := ⟨by decide +kernel, rfl⟩
theorem dX8_begins_24 : q_d cX8_begins 24 25 (.lastore) 1 := ⟨by decide +kernel, rfl⟩
theorem dX8_begins_25 : q_d cX8_begins 25 26 (.aload_n 0) 1 := ⟨by decide +kernel, rfl⟩
theorem dX8_begins_26 : q_d cX8_begins 26 28 (.bipush 8) 2 := ⟨by decide +kernel, rfl⟩
theorem dX8_begins_28 : q_d cX8_begins 28 31 (.ldc2_w 50) 3 := ⟨by decide +kernel, rfl⟩
theorem dX8_begins_31 : q_d cX8_begins 31 32 (.lastore) 1 := ⟨by decide +kernel, rfl⟩
theorem dX8_begins_32 : q_d cX8_begins 32 33 (.iconst 0) 1 := ⟨by decide +kernel, rfl⟩
theorem dX8_begins_33 : q_d cX8_begins 33 34 (.istore_n 1) 1 := ⟨by decide +kernel, rfl⟩
theorem dX8_begins_34 : q_d cX8_begins 34 35 (.iload_n 1) 1 := ⟨by decide +kernel, rfl⟩
theorem dX8_begins_35 : q_d cX8_begins 35 36 (.iconst 3) 1 := ⟨by decide +kernel, rfl⟩
theorem dX8_begins_36 : q_j cX8_begins 36 39 53 (fun o => .if_icmp .ge o) := ⟨17, by decide +kernel, rfl, rfl⟩
theorem dX8_begins_39 : q_d cX8_begins 39 40 (.aload_n 0) 1 := ⟨by decide +kernel, rfl⟩
theorem dX8_begins_40 : q_d cX8_begins 40 42 (.bipush 9) 2 := ⟨by decide +kernel, rfl⟩
theorem dX8_begins_42 : q_d cX8_begins 42 43 (.iload_n 1) 1 := ⟨by decide +kernel, rfl⟩
theorem dX8_begins_43 : q_d cX8_begins 43 44 (.iadd) 1 := ⟨by decide +kernel, rfl⟩
theorem dX8_begins_44 : q_d cX8_begins 44 45 (.iload_n 1) 1 := ⟨by decide +kernel, rfl⟩
theorem dX8_begins_45 : q_d cX8_begins 45 46 (.i2l) 1 := ⟨by decide +kernel, rfl⟩
theorem dX8_begins_46 : q_d cX8_begins 46 47 (.lastore) 1 := ⟨by decide +kernel, rfl⟩
theorem dX8_begins_47 : q_d cX8_begins 47 50 (.iinc 1 1) 3 := ⟨by decide +kernel, rfl⟩
theorem dX8_begins_50 : q_j cX8_begins 50 53 34 (fun o => .goto o) := ⟨(-16), by decide +kernel, rfl, rfl⟩
theorem dX8_begins_53 : q_d cX8_begins 53 54 (.return_) 1 := ⟨by decide +kernel, rfl⟩
theorem dX8_thrown_0 : q_d cX8_thrown 0 1 (.aload_n 0) 1 := ⟨by decide +kernel, rfl⟩
theorem dX8_thrown_1 : q_d cX8_thrown 1 4 (.getfield 52) 3 := ⟨by decide +kernel, rfl⟩
theorem dX8_thrown_4 : q_d cX8_thrown 4 5 (.ireturn) 1 := ⟨by decide +kernel, rfl⟩
theorem dX8_bad_0 : q_d cX8_bad 0 1 (.iload_n 1) 1 := ⟨by decide +kernel, rfl⟩
theorem dX8_bad_1 : q_j cX8_bad 1 4 26 (fun o => .ifCond .eq o) := ⟨25, by decide +kernel, rfl, rfl⟩
theorem dX8_bad_4 : q_d cX8_bad 4 5 (.aload_n 0) 1 := ⟨by decide +kernel, rfl⟩
theorem dX8_bad_5 : q_d cX8_bad 5 8 (.getfield 52) 3 := ⟨by decide +kernel, rfl⟩
theorem dX8_bad_8 : q_j cX8_bad 8 11 26 (fun o => .ifCond .ne o) := ⟨18, by decide +kernel, rfl, rfl⟩
theorem dX8_bad_11 : q_d cX8_bad 11 12 (.aload_n 0) 1 := ⟨by decide +kernel, rfl⟩
theorem dX8_bad_12 : q_d cX8_bad 12 13 (.iload_n 2) 1 := ⟨by decide +kernel, rfl⟩
theorem dX8_bad_13 : q_d cX8_bad 13 16 (.putfield 52) 3 := ⟨by decide +kernel, rfl⟩
theorem dX8_bad_16 : q_d cX8_bad 16 17 (.aload_n 0) 1 := ⟨by decide +kernel, rfl⟩
theorem dX8_bad_17 : q_d cX8_bad 17 20 (.getfield 9) 3 := ⟨by decide +kernel, rfl⟩
theorem dX8_bad_20 : q_d cX8_bad 20 21 (.iload_n 3) 1 := ⟨by decide +kernel, rfl⟩
theorem dX8_bad_21 : q_d cX8_bad 21 22 (.dup2) 1 := ⟨by decide +kernel, rfl⟩
theorem dX8_bad_22 : q_d cX8_bad 22 23 (.iaload) 1 := ⟨by decide +kernel, rfl⟩
theorem dX8_bad_23 : q_d cX8_bad 23 24 (.iconst 1) 1 := ⟨by decide +kernel, rfl⟩
theorem dX8_bad_24 : q_d cX8_bad 24 25 (.iadd) 1 := ⟨by decide +kernel, rfl⟩
theorem dX8_bad_25 : q_d cX8_bad 25 26 (.iastore) 1 := ⟨by decide +kernel, rfl⟩
theorem dX8_bad_26 : q_d cX8_bad 26 27 (.aload_n 0) 1 := ⟨by decide +kernel, rfl⟩
theorem dX8_bad_27 : q_d cX8_bad 27 30 (.getfield 52) 3 := ⟨by decide +kernel, rfl⟩
theorem dX8_bad_30 : q_j cX8_bad 30 33 37 (fun o => .ifCond .eq o) := ⟨7, by decide +kernel, rfl, rfl⟩
theorem dX8_bad_33 : q_d cX8_bad 33 34 (.iconst 1) 1 := ⟨by decide +kernel, rfl⟩
theorem dX8_bad_34 : q_j cX8_bad 34 37 38 (fun o => .goto o) := ⟨4, by decide +kernel, rfl, rfl⟩
theorem dX8_bad_37 : q_d cX8_bad 37 38 (.iconst 0) 1 := ⟨by decide +kernel, rfl⟩
theorem dX8_bad_38 : q_d cX8_bad 38 39 (.ireturn) 1 := ⟨by decide +kernel, rfl⟩
theorem dX8_in_0 : q_d cX8_in 0 1 (.lload_n 0) 1 := ⟨by decide +kernel, rfl⟩
theorem dX8_in_1 : q_d cX8_in 1 2 (.lload_n 2) 1 := ⟨by decide +kernel, rfl⟩
theorem dX8_in_2 : q_d cX8_in 2 3 (.lcmp) 1 := ⟨by decide +kernel, rfl⟩
theorem dX8_in_3 : q_j cX8_in 3 6 17 (fun o => .ifCond .lt o) := ⟨14, by decide +kernel, rfl, rfl⟩
theorem dX8_in_6 : q_d cX8_in 6 7 (.lload_n 0) 1 := ⟨by decide +kernel, rfl⟩
theorem dX8_in_7 : q_d cX8_in 7 9 (.lload 4) 2 := ⟨by decide +kernel, rfl⟩
theorem dX8_in_9 : q_d cX8_in 9 10 (.lcmp) 1 := ⟨by decide +kernel, rfl⟩
theorem dX8_in_10 : q_j cX8_in 10 13 17 (fun o => .ifCond .gt o) := ⟨7, by decide +kernel, rfl, rfl⟩
theorem dX8_in_13 : q_d cX8_in 13 14 (.iconst 1) 1 := ⟨by decide +kernel, rfl⟩
theorem dX8_in_14 : q_j cX8_in 14 17 18 (fun o => .goto o) := ⟨4, by decide +kernel, rfl, rfl⟩
theorem dX8_in_17 : q_d cX8_in 17 18 (.iconst 0) 1 := ⟨by decide +kernel, rfl⟩
theorem dX8_in_18 : q_d cX8_in 18 19 (.ireturn) 1 := ⟨by decide +kernel, rfl⟩
theorem dX8_less_0 : q_d cX8_less 0 1 (.lload_n 0) 1 := ⟨by decide +kernel, rfl⟩
theorem dX8_less_1 : q_d cX8_less 1 2 (.lload_n 2) 1 := ⟨by decide +kernel, rfl⟩
theorem dX8_less_2 : q_d cX8_less 2 3 (.lcmp) 1 := ⟨by decide +kernel, rfl⟩
theorem dX8_less_3 : q_j cX8_less 3 6 10 (fun o => .ifCond .ge o) := ⟨7, by decide +kernel, rfl, rfl⟩
theorem dX8_less_6 : q_d cX8_less 6 7 (.lload_n 0) 1 := ⟨by decide +kernel, rfl⟩
theorem dX8_less_7 : q_j cX8_less 7 10 11 (fun o => .goto o) := ⟨4, by decide +kernel, rfl, rfl⟩
theorem dX8_less_10 : q_d cX8_less 10 11 (.lload_n 2) 1 := ⟨by decide +kernel, rfl⟩
theorem dX8_less_11 : q_d cX8_less 11 12 (.lreturn) 1 := ⟨by decide +kernel, rfl⟩
theorem dX8_more_0 : q_d cX8_more 0 1 (.lload_n 0) 1 := ⟨by decide +kernel, rfl⟩
theorem dX8_more_1 : q_d cX8_more 1 2 (.lload_n 2) 1 := ⟨by decide +kernel, rfl⟩
theorem dX8_more_2 : q_d cX8_more 2 3 (.lcmp) 1 := ⟨by decide +kernel, rfl⟩
theorem dX8_more_3 : q_j cX8_more 3 6 10 (fun o => .ifCond .le o) := ⟨7, by decide +kernel, rfl, rfl⟩
theorem dX8_more_6 : q_d cX8_more 6 7 (.lload_n 0) 1 := ⟨by decide +kernel, rfl⟩
theorem dX8_more_7 : q_j cX8_more 7 10 11 (fun o => .goto o) := ⟨4, by decide +kernel, rfl, rfl⟩
theorem dX8_more_10 : q_d cX8_more 10 11 (.lload_n 2) 1 := ⟨by decide +kernel, rfl⟩
theorem dX8_more_11 : q_d cX8_more 11 12 (.lreturn) 1 := ⟨by decide +kernel, rfl⟩
theorem dX8_feed_0 : q_d cX8_feed 0 1 (.aload_n 0) 1 := ⟨by decide +kernel, rfl⟩
theorem dX8_feed_1 : q_d cX8_feed 1 2 (.iconst 0) 1 := ⟨by decide +kernel, rfl⟩
theorem dX8_feed_2 : q_d cX8_feed 2 5 (.putfield 52) 3 := ⟨by decide +kernel, rfl⟩
theorem dX8_feed_5 : q_d cX8_feed 5 6 (.aload_n 0) 1 := ⟨by decide +kernel, rfl⟩
theorem dX8_feed_6 : q_d cX8_feed 6 9 (.getfield 55) 3 := ⟨by decide +kernel, rfl⟩
theorem dX8_feed_9 : q_d cX8_feed 9 11 (.bipush 20) 2 := ⟨by decide +kernel, rfl⟩
theorem dX8_feed_11 : q_d cX8_feed 11 12 (.iadd) 1 := ⟨by decide +kernel, rfl⟩
theorem dX8_feed_12 : q_d cX8_feed 12 15 (.sipush 600) 3 := ⟨by decide +kernel, rfl⟩
theorem dX8_feed_15 : q_j cX8_feed 15 18 20 (fun o => .if_icmp .le o) := ⟨5, by decide +kernel, rfl, rfl⟩
theorem dX8_feed_18 : q_d cX8_feed 18 19 (.iconst (-1)) 1 := ⟨by decide +kernel, rfl⟩
theorem dX8_feed_19 : q_d cX8_feed 19 20 (.ireturn) 1 := ⟨by decide +kernel, rfl⟩
theorem dX8_feed_20 : q_d cX8_feed 20 21 (.iconst 0) 1 := ⟨by decide +kernel, rfl⟩
theorem dX8_feed_21 : q_d cX8_feed 21 23 (.istore 6) 2 := ⟨by decide +kernel, rfl⟩
theorem dX8_feed_23 : q_d cX8_feed 23 25 (.iload 6) 2 := ⟨by decide +kernel, rfl⟩
theorem dX8_feed_25 : q_d cX8_feed 25 27 (.bipush 20) 2 := ⟨by decide +kernel, rfl⟩
theorem dX8_feed_27 : q_j cX8_feed 27 30 120 (fun o => .if_icmp .ge o) := ⟨93, by decide +kernel, rfl, rfl⟩
theorem dX8_feed_30 : q_d cX8_feed 30 32 (.iload 6) 2 := ⟨by decide +kernel, rfl⟩
theorem dX8_feed_32 : q_d cX8_feed 32 33 (.iconst 4) 1 := ⟨by decide +kernel, rfl⟩
theorem dX8_feed_33 : q_j cX8_feed 33 36 40 (fun o => .if_icmp .ge o) := ⟨7, by decide +kernel, rfl, rfl⟩
theorem dX8_feed_36 : q_d cX8_feed 36 37 (.iload_n 1) 1 := ⟨by decide +kernel, rfl⟩
theorem dX8_feed_37 : q_j cX8_feed 37 40 76 (fun o => .goto o) := ⟨39, by decide +kernel, rfl, rfl⟩
theorem dX8_feed_40 : q_d cX8_feed 40 42 (.iload 6) 2 := ⟨by decide +kernel, rfl⟩
theorem dX8_feed_42 : q_d cX8_feed 42 44 (.bipush 8) 2 := ⟨by decide +kernel, rfl⟩
theorem dX8_feed_44 : q_j cX8_feed 44 47 51 (fun o => .if_icmp .ge o) := ⟨7, by decide +kernel, rfl, rfl⟩
theorem dX8_feed_47 : q_d cX8_feed 47 48 (.iload_n 2) 1 := ⟨by decide +kernel, rfl⟩
theorem dX8_feed_48 : q_j cX8_feed 48 51 76 (fun o => .goto o) := ⟨28, by decide +kernel, rfl, rfl⟩
theorem dX8_feed_51 : q_d cX8_feed 51 53 (.iload 6) 2 := ⟨by decide +kernel, rfl⟩
theorem dX8_feed_53 : q_d cX8_feed 53 55 (.bipush 12) 2 := ⟨by decide +kernel, rfl⟩
theorem dX8_feed_55 : q_j cX8_feed 55 58 62 (fun o => .if_icmp .ge o) := ⟨7, by decide +kernel, rfl, rfl⟩
theorem dX8_feed_58 : q_d cX8_feed 58 59 (.iload_n 3) 1 := ⟨by decide +kernel, rfl⟩
theorem dX8_feed_59 : q_j cX8_feed 59 62 76 (fun o => .goto o) := ⟨17, by decide +kernel, rfl, rfl⟩
theorem dX8_feed_62 : q_d cX8_feed 62 64 (.iload 6) 2 := ⟨by decide +kernel, rfl⟩
theorem dX8_feed_64 : q_d cX8_feed 64 66 (.bipush 16) 2 := ⟨by decide +kernel, rfl⟩
theorem dX8_feed_66 : q_j cX8_feed 66 69 74 (fun o => .if_icmp .ge o) := ⟨8, by decide +kernel, rfl, rfl⟩
theorem dX8_feed_69 : q_d cX8_feed 69 71 (.iload 4) 2 := ⟨by decide +kernel, rfl⟩
theorem dX8_feed_71 : q_j cX8_feed 71 74 76 (fun o => .goto o) := ⟨5, by decide +kernel, rfl, rfl⟩
theorem dX8_feed_74 : q_d cX8_feed 74 76 (.iload 5) 2 := ⟨by decide +kernel, rfl⟩
theorem dX8_feed_76 : q_d cX8_feed 76 78 (.istore 7) 2 := ⟨by decide +kernel, rfl⟩
theorem dX8_feed_78 : q_d cX8_feed 78 79 (.aload_n 0) 1 := ⟨by decide +kernel, rfl⟩
theorem dX8_feed_79 : q_d cX8_feed 79 82 (.getfield 17) 3 := ⟨by decide +kernel, rfl⟩
theorem dX8_feed_82 : q_d cX8_feed 82 83 (.aload_n 0) 1 := ⟨by decide +kernel, rfl⟩
theorem dX8_feed_83 : q_d cX8_feed 83 86 (.getfield 55) 3 := ⟨by decide +kernel, rfl⟩
theorem dX8_feed_86 : q_d cX8_feed 86 88 (.iload 7) 2 := ⟨by decide +kernel, rfl⟩
theorem dX8_feed_88 : q_d cX8_feed 88 90 (.bipush 24) 2 := ⟨by decide +kernel, rfl⟩
theorem dX8_feed_90 : q_d cX8_feed 90 92 (.bipush 8) 2 := ⟨by decide +kernel, rfl⟩
theorem dX8_feed_92 : q_d cX8_feed 92 94 (.iload 6) 2 := ⟨by decide +kernel, rfl⟩
theorem dX8_feed_94 : q_d cX8_feed 94 95 (.iconst 4) 1 := ⟨by decide +kernel, rfl⟩
theorem dX8_feed_95 : q_d cX8_feed 95 96 (.irem) 1 := ⟨by decide +kernel, rfl⟩
theorem dX8_feed_96 : q_d cX8_feed 96 97 (.imul) 1 := ⟨by decide +kernel, rfl⟩
theorem dX8_feed_97 : q_d cX8_feed 97 98 (.isub) 1 := ⟨by decide +kernel, rfl⟩
theorem dX8_feed_98 : q_d cX8_feed 98 99 (.ishr) 1 := ⟨by decide +kernel, rfl⟩
theorem dX8_feed_99 : q_d cX8_feed 99 102 (.sipush 255) 3 := ⟨by decide +kernel, rfl⟩
theorem dX8_feed_102 : q_d cX8_feed 102 103 (.iand) 1 := ⟨by decide +kernel, rfl⟩
theorem dX8_feed_103 : q_d cX8_feed 103 104 (.iastore) 1 := ⟨by decide +kernel, rfl⟩
theorem dX8_feed_104 : q_d cX8_feed 104 105 (.aload_n 0) 1 := ⟨by decide +kernel, rfl⟩
theorem dX8_feed_105 : q_d cX8_feed 105 106 (.dup) 1 := ⟨by decide +kernel, rfl⟩
theorem dX8_feed_106 : q_d cX8_feed 106 109 (.getfield 55) 3 := ⟨by decide +kernel, rfl⟩
theorem dX8_feed_109 : q_d cX8_feed 109 110 (.iconst 1) 1 := ⟨by decide +kernel, rfl⟩
theorem dX8_feed_110 : q_d cX8_feed 110 111 (.iadd) 1 := ⟨by decide +kernel, rfl⟩
theorem dX8_feed_111 : q_d cX8_feed 111 114 (.putfield 55) 3 := ⟨by decide +kernel, rfl⟩
theorem dX8_feed_114 : q_d cX8_feed 114 117 (.iinc 6 1) 3 := ⟨by decide +kernel, rfl⟩
theorem dX8_feed_117 : q_j cX8_feed 117 120 23 (fun o => .goto o) := ⟨(-94), by decide +kernel, rfl, rfl⟩
theorem dX8_feed_120 : q_d cX8_feed 120 121 (.aload_n 0) 1 := ⟨by decide +kernel, rfl⟩
theorem dX8_feed_121 : q_d cX8_feed 121 124 (.getfield 55) 3 := ⟨by decide +kernel, rfl⟩
theorem dX8_feed_124 : q_d cX8_feed 124 125 (.ireturn) 1 := ⟨by decide +kernel, rfl⟩
theorem dX8_copies_0 : q_d cX8_copies 0 1 (.iconst 0) 1 := ⟨by decide +kernel, rfl⟩
theorem dX8_copies_1 : q_d cX8_copies 1 2 (.istore_n 2) 1 := ⟨by decide +kernel, rfl⟩
theorem dX8_copies_2 : q_d cX8_copies 2 3 (.iload_n 2) 1 := ⟨by decide +kernel, rfl⟩
theorem dX8_copies_3 : q_d cX8_copies 3 6 (.sipush 1243) 3 := ⟨by decide +kernel, rfl⟩
theorem dX8_copies_6 : q_j cX8_copies 6 9 21 (fun o => .if_icmp .ge o) := ⟨15, by decide +kernel, rfl, rfl⟩
theorem dX8_copies_9 : q_d cX8_copies 9 10 (.aload_n 1) 1 := ⟨by decide +kernel, rfl⟩
theorem dX8_copies_10 : q_d cX8_copies 10 11 (.iload_n 2) 1 := ⟨by decide +kernel, rfl⟩
theorem dX8_copies_11 : q_d cX8_copies 11 12 (.aload_n 0) 1 := ⟨by decide +kernel, rfl⟩
theorem dX8_copies_12 : q_d cX8_copies 12 13 (.iload_n 2) 1 := ⟨by decide +kernel, rfl⟩
theorem dX8_copies_13 : q_d cX8_copies 13 14 (.laload) 1 := ⟨by decide +kernel, rfl⟩
theorem dX8_copies_14 : q_d cX8_copies 14 15 (.lastore) 1 := ⟨by decide +kernel, rfl⟩
theorem dX8_copies_15 : q_d cX8_copies 15 18 (.iinc 2 1) 3 := ⟨by decide +kernel, rfl⟩
theorem dX8_copies_18 : q_j cX8_copies 18 21 2 (fun o => .goto o) := ⟨(-16), by decide +kernel, rfl, rfl⟩
theorem dX8_copies_21 : q_d cX8_copies 21 22 (.return_) 1 := ⟨by decide +kernel, rfl⟩
theorem dX8_landAt_0 : q_d cX8_landAt 0 2 (.bipush 24) 2 := ⟨by decide +kernel, rfl⟩
theorem dX8_landAt_2 : q_d cX8_landAt 2 4 (.bipush 13) 2 := ⟨by decide +kernel, rfl⟩
theorem dX8_landAt_4 : q_d cX8_landAt 4 5 (.iload_n 0) 1 := ⟨by decide +kernel, rfl⟩
theorem dX8_landAt_5 : q_d cX8_landAt 5 6 (.imul) 1 := ⟨by decide +kernel, rfl⟩
theorem dX8_landAt_6 : q_d cX8_landAt 6 7 (.iadd) 1 := ⟨by decide +kernel, rfl⟩
theorem dX8_landAt_7 : q_d cX8_landAt 7 8 (.iload_n 1) 1 := ⟨by decide +kernel, rfl⟩
theorem dX8_landAt_8 : q_d cX8_landAt 8 9 (.iadd) 1 := ⟨by decide +kernel, rfl⟩
theorem dX8_landAt_9 : q_d cX8_landAt 9 10 (.ireturn) 1 := ⟨by decide +kernel, rfl⟩
theorem dX8_lawAt_0 : q_d cX8_lawAt 0 2 (.bipush 89) 2 := ⟨by decide +kernel, rfl⟩
theorem dX8_lawAt_2 : q_d cX8_lawAt 2 3 (.iconst 2) 1 := ⟨by decide +kernel, rfl⟩
theorem dX8_lawAt_3 : q_d cX8_lawAt 3 4 (.iconst 5) 1 := ⟨by decide +kernel, rfl⟩
theorem dX8_lawAt_4 : q_d cX8_lawAt 4 5 (.iload_n 0) 1 := ⟨by decide +kernel, rfl⟩
theorem dX8_lawAt_5 : q_d cX8_lawAt 5 6 (.imul) 1 := ⟨by decide +kernel, rfl⟩
theorem dX8_lawAt_6 : q_d cX8_lawAt 6 7 (.iload_n 1) 1 := ⟨by decide +kernel, rfl⟩
theorem dX8_lawAt_7 : q_d cX8_lawAt 7 8 (.iadd) 1 := ⟨by decide +kernel, rfl⟩
theorem dX8_lawAt_8 : q_d cX8_lawAt 8 9 (.imul) 1 := ⟨by decide +kernel, rfl⟩
theorem dX8_lawAt_9 : q_d cX8_lawAt 9 10 (.iadd) 1 := ⟨by decide +kernel, rfl⟩
theorem dX8_lawAt_10 : q_d cX8_lawAt 10 11 (.ireturn) 1 := ⟨by decide +kernel, rfl⟩
theorem dX8_accountAt_0 : q_d cX8_accountAt 0 3 (.sipush 1039) 3 := ⟨by decide +kernel, rfl⟩
theorem dX8_accountAt_3 : q_d cX8_accountAt 3 5 (.bipush 12) 2 := ⟨by decide +kernel, rfl⟩
theorem dX8_accountAt_5 : q_d cX8_accountAt 5 6 (.iload_n 0) 1 := ⟨by decide +kernel, rfl⟩
theorem dX8_accountAt_6 : q_d cX8_accountAt 6 7 (.imul) 1 := ⟨by decide +kernel, rfl⟩
theorem dX8_accountAt_7 : q_d cX8_accountAt 7 8 (.iadd) 1 := ⟨by decide +kernel, rfl⟩
theorem dX8_accountAt_8 : q_d cX8_accountAt 8 9 (.iload_n 1) 1 := ⟨by decide +kernel, rfl⟩
theorem dX8_accountAt_9 : q_d cX8_accountAt 9 10 (.iadd) 1 := ⟨by decide +kernel, rfl⟩
theorem dX8_accountAt_10 : q_d cX8_accountAt 10 11 (.ireturn) 1 := ⟨by decide +kernel, rfl⟩
theorem dX8_of_0 : q_d cX8_of 0 1 (.aload_n 0) 1 := ⟨by decide +kernel, rfl⟩
theorem dX8_of_1 : q_d cX8_of 1 2 (.iload_n 1) 1 := ⟨by decide +kernel, rfl⟩
theorem dX8_of_2 : q_d cX8_of 2 3 (.iload_n 2) 1 := ⟨by decide +kernel, rfl⟩
theorem dX8_of_3 : q_d cX8_of 3 6 (.invokestatic 58) 3 := ⟨by decide +kernel, rfl⟩
theorem dX8_of_6 : q_d cX8_of 6 7 (.laload) 1 := ⟨by decide +kernel, rfl⟩
theorem dX8_of_7 : q_d cX8_of 7 8 (.lreturn) 1 := ⟨by decide +kernel, rfl⟩
theorem dX8_lands_0 : q_d cX8_lands 0 1 (.aload_n 0) 1 := ⟨by decide +kernel, rfl⟩
theorem dX8_lands_1 : q_d cX8_lands 1 4 (.getfield 20) 3 := ⟨by decide +kernel, rfl⟩
theorem dX8_lands_4 : q_d cX8_lands 4 5 (.iconst 0) 1 := ⟨by decide +kernel, rfl⟩
theorem dX8_lands_5 : q_d cX8_lands 5 6 (.laload) 1 := ⟨by decide +kernel, rfl⟩
theorem dX8_lands_6 : q_d cX8_lands 6 7 (.l2i) 1 := ⟨by decide +kernel, rfl⟩
theorem dX8_lands_7 : q_d cX8_lands 7 8 (.ireturn) 1 := ⟨by decide +kernel, rfl⟩
theorem dX8_many_0 : q_d cX8_many 0 1 (.aload_n 0) 1 := ⟨by decide +kernel, rfl⟩
theorem dX8_many_1 : q_d cX8_many 1 4 (.getfield 20) 3 := ⟨by decide +kernel, rfl⟩
theorem dX8_many_4 : q_d cX8_many 4 5 (.iconst 1) 1 := ⟨by decide +kernel, rfl⟩
theorem dX8_many_5 : q_d cX8_many 5 6 (.laload) 1 := ⟨by decide +kernel, rfl⟩
theorem dX8_many_6 : q_d cX8_many 6 7 (.l2i) 1 := ⟨by decide +kernel, rfl⟩
theorem dX8_many_7 : q_d cX8_many 7 8 (.ireturn) 1 := ⟨by decide +kernel, rfl⟩
theorem dX8_byteAt_0 : q_d cX8_byteAt 0 1 (.iload_n 1) 1 := ⟨by decide +kernel, rfl⟩
theorem dX8_byteAt_1 : q_d cX8_byteAt 1 2 (.aload_n 0) 1 := ⟨by decide +kernel, rfl⟩
theorem dX8_byteAt_2 : q_d cX8_byteAt 2 5 (.getfield 62) 3 := ⟨by decide +kernel, rfl⟩
theorem dX8_byteAt_5 : q_j cX8_byteAt 5 8 12 (fun o => .if_icmp .lt o) := ⟨7, by decide +kernel, rfl, rfl⟩
theorem dX8_byteAt_8 : q_d cX8_byteAt 8 9 (.iconst (-1)) 1 := ⟨by decide +kernel, rfl⟩
theorem dX8_byteAt_9 : q_j cX8_byteAt 9 12 18 (fun o => .goto o) := ⟨9, by decide +kernel, rfl, rfl⟩
theorem dX8_byteAt_12 : q_d cX8_byteAt 12 13 (.aload_n 0) 1 := ⟨by decide +kernel, rfl⟩
theorem dX8_byteAt_13 : q_d cX8_byteAt 13 16 (.getfield 17) 3 := ⟨by decide +kernel, rfl⟩
theorem dX8_byteAt_16 : q_d cX8_byteAt 16 17 (.iload_n 1) 1 := ⟨by decide +kernel, rfl⟩
theorem dX8_byteAt_17 : q_d cX8_byteAt 17 18 (.iaload) 1 := ⟨by decide +kernel, rfl⟩
theorem dX8_byteAt_18 : q_d cX8_byteAt 18 19 (.ireturn) 1 := ⟨by decide +kernel, rfl⟩
theorem dX8_here_0 : q_d cX8_here 0 1 (.aload_n 0) 1 := ⟨by decide +kernel, rfl⟩
theorem dX8_here_1 : q_d cX8_here 1 2 (.aload_n 0) 1 := ⟨by decide +kernel, rfl⟩
theorem dX8_here_2 : q_d cX8_here 2 5 (.getfield 65) 3 := ⟨by decide +kernel, rfl⟩
theorem dX8_here_5 : q_d cX8_here 5 8 (.invokevirtual 68) 3 := ⟨by decide +kernel, rfl⟩
theorem dX8_here_8 : q_d cX8_here 8 10 (.bipush 32) 2 := ⟨by decide +kernel, rfl⟩
theorem dX8_here_10 : q_j cX8_here 10 13 26 (fun o => .if_icmp .ne o) := ⟨16, by decide +kernel, rfl, rfl⟩
theorem dX8_here_13 : q_d cX8_here 13 14 (.aload_n 0) 1 := ⟨by decide +kernel, rfl⟩
theorem dX8_here_14 : q_d cX8_here 14 15 (.dup) 1 := ⟨by decide +kernel, rfl⟩
theorem dX8_here_15 : q_d cX8_here 15 18 (.getfield 65) 3 := ⟨by decide +kernel, rfl⟩
theorem dX8_here_18 : q_d cX8_here 18 19 (.iconst 1) 1 := ⟨by decide +kernel, rfl⟩
theorem dX8_here_19 : q_d cX8_here 19 20 (.iadd) 1 := ⟨by decide +kernel, rfl⟩
theorem dX8_here_20 : q_d cX8_here 20 23 (.putfield 65) 3 := ⟨by decide +kernel, rfl⟩
theorem dX8_here_23 : q_j cX8_here 23 26 0 (fun o => .goto o) := ⟨(-23), by decide +kernel, rfl, rfl⟩
theorem dX8_here_26 : q_d cX8_here 26 27 (.aload_n 0) 1 := ⟨by decide +kernel, rfl⟩
theorem dX8_here_27 : q_d cX8_here 27 28 (.aload_n 0) 1 := ⟨by decide +kernel, rfl⟩
theorem dX8_here_28 : q_d cX8_here 28 31 (.getfield 65) 3 := ⟨by decide +kernel, rfl⟩
theorem dX8_here_31 : q_d cX8_here 31 34 (.invokevirtual 68) 3 := ⟨by decide +kernel, rfl⟩
theorem dX8_here_34 : q_d cX8_here 34 35 (.ireturn) 1 := ⟨by decide +kernel, rfl⟩
theorem dX8_fine_0 : q_d cX8_fine 0 1 (.aload_n 0) 1 := ⟨by decide +kernel, rfl⟩
theorem dX8_fine_1 : q_d cX8_fine 1 4 (.getfield 72) 3 := ⟨by decide +kernel, rfl⟩
theorem dX8_fine_4 : q_j cX8_fine 4 7 11 (fun o => .ifCond .ne o) := ⟨7, by decide +kernel, rfl, rfl⟩
theorem dX8_fine_7 : q_d cX8_fine 7 8 (.iconst 1) 1 := ⟨by decide +kernel, rfl⟩
theorem dX8_fine_8 : q_j cX8_fine 8 11 12 (fun o => .goto o) := ⟨4, by decide +kernel, rfl, rfl⟩
theorem dX8_fine_11 : q_d cX8_fine 11 12 (.iconst 0) 1 := ⟨by decide +kernel, rfl⟩
theorem dX8_fine_12 : q_d cX8_fine 12 13 (.ireturn) 1 := ⟨by decide +kernel, rfl⟩
theorem dX8_wrong_0 : q_d cX8_wrong 0 1 (.aload_n 0) 1 := ⟨by decide +kernel, rfl⟩
theorem dX8_wrong_1 : q_d cX8_wrong 1 4 (.getfield 72) 3 := ⟨by decide +kernel, rfl⟩
theorem dX8_wrong_4 : q_j cX8_wrong 4 7 17 (fun o => .ifCond .ne o) := ⟨13, by decide +kernel, rfl, rfl⟩
theorem dX8_wrong_7 : q_d cX8_wrong 7 8 (.aload_n 0) 1 := ⟨by decide +kernel, rfl⟩
theorem dX8_wrong_8 : q_d cX8_wrong 8 9 (.iload_n 1) 1 := ⟨by decide +kernel, rfl⟩
theorem dX8_wrong_9 : q_d cX8_wrong 9 12 (.putfield 72) 3 := ⟨by decide +kernel, rfl⟩
theorem dX8_wrong_12 : q_d cX8_wrong 12 13 (.aload_n 0) 1 := ⟨by decide +kernel, rfl⟩
theorem dX8_wrong_13 : q_d cX8_wrong 13 14 (.iload_n 2) 1 := ⟨by decide +kernel, rfl⟩
theorem dX8_wrong_14 : q_d cX8_wrong 14 17 (.putfield 75) 3 := ⟨by decide +kernel, rfl⟩
theorem dX8_wrong_17 : q_d cX8_wrong 17 18 (.return_) 1 := ⟨by decide +kernel, rfl⟩
theorem dX8_isSmall_0 : q_d cX8_isSmall 0 1 (.iload_n 0) 1 := ⟨by decide +kernel, rfl⟩
theorem dX8_isSmall_1 : q_d cX8_isSmall 1 3 (.bipush 97) 2 := ⟨by decide +kernel, rfl⟩
theorem dX8_isSmall_3 : q_j cX8_isSmall 3 6 16 (fun o => .if_icmp .lt o) := ⟨13, by decide +kernel, rfl, rfl⟩
theorem dX8_isSmall_6 : q_d cX8_isSmall 6 7 (.iload_n 0) 1 := ⟨by decide +kernel, rfl⟩
theorem dX8_isSmall_7 : q_d cX8_isSmall 7 9 (.bipush 122) 2 := ⟨by decide +kernel, rfl⟩
theorem dX8_isSmall_9 : q_j cX8_isSmall 9 12 16 (fun o => .if_icmp .gt o) := ⟨7, by decide +kernel, rfl, rfl⟩
theorem dX8_isSmall_12 : q_d cX8_isSmall 12 13 (.iconst 1) 1 := ⟨by decide +kernel, rfl⟩
theorem dX8_isSmall_13 : q_j cX8_isSmall 13 16 17 (fun o => .goto o) := ⟨4, by decide +kernel, rfl, rfl⟩
theorem dX8_isSmall_16 : q_d cX8_isSmall 16 17 (.iconst 0) 1 := ⟨by decide +kernel, rfl⟩
theorem dX8_isSmall_17 : q_d cX8_isSmall 17 18 (.ireturn) 1 := ⟨by decide +kernel, rfl⟩
theorem dX8_isDigit_0 : q_d cX8_isDigit 0 1 (.iload_n 0) 1 := ⟨by decide +kernel, rfl⟩
theorem dX8_isDigit_1 : q_d cX8_isDigit 1 3 (.bipush 48) 2 := ⟨by decide +kernel, rfl⟩
theorem dX8_isDigit_3 : q_j cX8_isDigit 3 6 16 (fun o => .if_icmp .lt o) := ⟨13, by decide +kernel, rfl, rfl⟩
theorem dX8_isDigit_6 : q_d cX8_isDigit 6 7 (.iload_n 0) 1 := ⟨by decide +kernel, rfl⟩
theorem dX8_isDigit_7 : q_d cX8_isDigit 7 9 (.bipush 57) 2 := ⟨by decide +kernel, rfl⟩
theorem dX8_isDigit_9 : q_j cX8_isDigit 9 12 16 (fun o => .if_icmp .gt o) := ⟨7, by decide +kernel, rfl, rfl⟩
theorem dX8_isDigit_12 : q_d cX8_isDigit 12 13 (.iconst 1) 1 := ⟨by decide +kernel, rfl⟩
theorem dX8_isDigit_13 : q_j cX8_isDigit 13 16 17 (fun o => .goto o) := ⟨4, by decide +kernel, rfl, rfl⟩
theorem dX8_isDigit_16 : q_d cX8_isDigit 16 17 (.iconst 0) 1 := ⟨by decide +kernel, rfl⟩
theorem dX8_isDigit_17 : q_d cX8_isDigit 17 18 (.ireturn) 1 := ⟨by decide +kernel, rfl⟩
theorem dX8_isWord_0 : q_d cX8_isWord 0 1 (.aload_n 0) 1 := ⟨by decide +kernel, rfl⟩
theorem dX8_isWord_1 : q_d cX8_isWord 1 4 (.invokevirtual 78) 3 := ⟨by decide +kernel, rfl⟩
theorem dX8_isWord_4 : q_d cX8_isWord 4 5 (.pop) 1 := ⟨by decide +kernel, rfl⟩
theorem dX8_isWord_5 : q_d cX8_isWord 5 6 (.iconst 0) 1 := ⟨by decide +kernel, rfl⟩
theorem dX8_isWord_6 : q_d cX8_isWord 6 7 (.istore_n 2) 1 := ⟨by decide +kernel, rfl⟩
theorem dX8_isWord_7 : q_d cX8_isWord 7 8 (.iload_n 2) 1 := ⟨by decide +kernel, rfl⟩
theorem dX8_isWord_8 : q_d cX8_isWord 8 9 (.aload_n 1) 1 := ⟨by decide +kernel, rfl⟩
theorem dX8_isWord_9 : q_d cX8_isWord 9 12 (.invokevirtual 82) 3 := ⟨by decide +kernel, rfl⟩
theorem dX8_isWord_12 : q_j cX8_isWord 12 15 39 (fun o => .if_icmp .ge o) := ⟨27, by decide +kernel, rfl, rfl⟩
theorem dX8_isWord_15 : q_d cX8_isWord 15 16 (.aload_n 0) 1 := ⟨by decide +kernel, rfl⟩
theorem dX8_isWord_16 : q_d cX8_isWord 16 17 (.aload_n 0) 1 := ⟨by decide +kernel, rfl⟩
theorem dX8_isWord_17 : q_d cX8_isWord 17 20 (.getfield 65) 3 := ⟨by decide +kernel, rfl⟩
theorem dX8_isWord_20 : q_d cX8_isWord 20 21 (.iload_n 2) 1 := ⟨by decide +kernel, rfl⟩
theorem dX8_isWord_21 : q_d cX8_isWord 21 22 (.iadd) 1 := ⟨by decide +kernel, rfl⟩
theorem dX8_isWord_22 : q_d cX8_isWord 22 25 (.invokevirtual 68) 3 := ⟨by decide +kernel, rfl⟩
theorem dX8_isWord_25 : q_d cX8_isWord 25 26 (.aload_n 1) 1 := ⟨by decide +kernel, rfl⟩
theorem dX8_isWord_26 : q_d cX8_isWord 26 27 (.iload_n 2) 1 := ⟨by decide +kernel, rfl⟩
theorem dX8_isWord_27 : q_d cX8_isWord 27 30 (.invokevirtual 87) 3 := ⟨by decide +kernel, rfl⟩
theorem dX8_isWord_30 : q_j cX8_isWord 30 33 39 (fun o => .if_icmp .ne o) := ⟨9, by decide +kernel, rfl, rfl⟩
theorem dX8_isWord_33 : q_d cX8_isWord 33 36 (.iinc 2 1) 3 := ⟨by decide +kernel, rfl⟩
theorem dX8_isWord_36 : q_j cX8_isWord 36 39 7 (fun o => .goto o) := ⟨(-29), by decide +kernel, rfl, rfl⟩
theorem dX8_isWord_39 : q_d cX8_isWord 39 40 (.iload_n 2) 1 := ⟨by decide +kernel, rfl⟩
theorem dX8_isWord_40 : q_d cX8_isWord 40 41 (.aload_n 1) 1 := ⟨by decide +kernel, rfl⟩
theorem dX8_isWord_41 : q_d cX8_isWord 41 44 (.invokevirtual 82) 3 := ⟨by decide +kernel, rfl⟩
theorem dX8_isWord_44 : q_j cX8_isWord 44 47 67 (fun o => .if_icmp .ne o) := ⟨23, by decide +kernel, rfl, rfl⟩
theorem dX8_isWord_47 : q_d cX8_isWord 47 48 (.aload_n 0) 1 := ⟨by decide +kernel, rfl⟩
theorem dX8_isWord_48 : q_d cX8_isWord 48 49 (.aload_n 0) 1 := ⟨by decide +kernel, rfl⟩
theorem dX8_isWord_49 : q_d cX8_isWord 49 52 (.getfield 65) 3 := ⟨by decide +kernel, rfl⟩
theorem dX8_isWord_52 : q_d cX8_isWord 52 53 (.iload_n 2) 1 := ⟨by decide +kernel, rfl⟩
theorem dX8_isWord_53 : q_d cX8_isWord 53 54 (.iadd) 1 := ⟨by decide +kernel, rfl⟩
theorem dX8_isWord_54 : q_d cX8_isWord 54 57 (.invokevirtual 68) 3 := ⟨by decide +kernel, rfl⟩
theorem dX8_isWord_57 : q_d cX8_isWord 57 60 (.invokestatic 91) 3 := ⟨by decide +kernel, rfl⟩
theorem dX8_isWord_60 : q_j cX8_isWord 60 63 67 (fun o => .ifCond .ne o) := ⟨7, by decide +kernel, rfl, rfl⟩
theorem dX8_isWord_63 : q_d cX8_isWord 63 64 (.iconst 1) 1 := ⟨by decide +kernel, rfl⟩
theorem dX8_isWord_64 : q_j cX8_isWord 64 67 68 (fun o => .goto o) := ⟨4, by decide +kernel, rfl, rfl⟩
theorem dX8_isWord_67 : q_d cX8_isWord 67 68 (.iconst 0) 1 := ⟨by decide +kernel, rfl⟩
theorem dX8_isWord_68 : q_d cX8_isWord 68 69 (.ireturn) 1 := ⟨by decide +kernel, rfl⟩
theorem dX8_takes_0 : q_d cX8_takes 0 1 (.aload_n 0) 1 := ⟨by decide +kernel, rfl⟩
theorem dX8_takes_1 : q_d cX8_takes 1 4 (.invokevirtual 95) 3 := ⟨by decide +kernel, rfl⟩
theorem dX8_takes_4 : q_j cX8_takes 4 7 15 (fun o => .ifCond .eq o) := ⟨11, by decide +kernel, rfl, rfl⟩
theorem dX8_takes_7 : q_d cX8_takes 7 8 (.aload_n 0) 1 := ⟨by decide +kernel, rfl⟩
theorem dX8_takes_8 : q_d cX8_takes 8 9 (.aload_n 1) 1 := ⟨by decide +kernel, rfl⟩
theorem dX8_takes_9 : q_d cX8_takes 9 12 (.invokevirtual 99) 3 := ⟨by decide +kernel, rfl⟩
theorem dX8_takes_12 : q_j cX8_takes 12 15 17 (fun o => .ifCond .ne o) := ⟨5, by decide +kernel, rfl, rfl⟩
theorem dX8_takes_15 : q_d cX8_takes 15 16 (.iconst 0) 1 := ⟨by decide +kernel, rfl⟩
theorem dX8_takes_16 : q_d cX8_takes 16 17 (.ireturn) 1 := ⟨by decide +kernel, rfl⟩
theorem dX8_takes_17 : q_d cX8_takes 17 18 (.aload_n 0) 1 := ⟨by decide +kernel, rfl⟩
theorem dX8_takes_18 : q_d cX8_takes 18 19 (.dup) 1 := ⟨by decide +kernel, rfl⟩
theorem dX8_takes_19 : q_d cX8_takes 19 22 (.getfield 65) 3 := ⟨by decide +kernel, rfl⟩
theorem dX8_takes_22 : q_d cX8_takes 22 23 (.aload_n 1) 1 := ⟨by decide +kernel, rfl⟩
theorem dX8_takes_23 : q_d cX8_takes 23 26 (.invokevirtual 82) 3 := ⟨by decide +kernel, rfl⟩
theorem dX8_takes_26 : q_d cX8_takes 26 27 (.iadd) 1 := ⟨by decide +kernel, rfl⟩
theorem dX8_takes_27 : q_d cX8_takes 27 30 (.putfield 65) 3 := ⟨by decide +kernel, rfl⟩
theorem dX8_takes_30 : q_d cX8_takes 30 31 (.iconst 1) 1 := ⟨by decide +kernel, rfl⟩
theorem dX8_takes_31 : q_d cX8_takes 31 32 (.ireturn) 1 := ⟨by decide +kernel, rfl⟩
theorem dX8_must_0 : q_d cX8_must 0 1 (.aload_n 0) 1 := ⟨by decide +kernel, rfl⟩
theorem dX8_must_1 : q_d cX8_must 1 4 (.invokevirtual 95) 3 := ⟨by decide +kernel, rfl⟩
theorem dX8_must_4 : q_j cX8_must 4 7 24 (fun o => .ifCond .eq o) := ⟨20, by decide +kernel, rfl, rfl⟩
theorem dX8_must_7 : q_d cX8_must 7 8 (.aload_n 0) 1 := ⟨by decide +kernel, rfl⟩
theorem dX8_must_8 : q_d cX8_must 8 9 (.aload_n 1) 1 := ⟨by decide +kernel, rfl⟩
theorem dX8_must_9 : q_d cX8_must 9 12 (.invokevirtual 103) 3 := ⟨by decide +kernel, rfl⟩
theorem dX8_must_12 : q_j cX8_must 12 15 24 (fun o => .ifCond .ne o) := ⟨12, by decide +kernel, rfl, rfl⟩
theorem dX8_must_15 : q_d cX8_must 15 16 (.aload_n 0) 1 := ⟨by decide +kernel, rfl⟩
theorem dX8_must_16 : q_d cX8_must 16 17 (.iconst 1) 1 := ⟨by decide +kernel, rfl⟩
theorem dX8_must_17 : q_d cX8_must 17 18 (.aload_n 0) 1 := ⟨by decide +kernel, rfl⟩
theorem dX8_must_18 : q_d cX8_must 18 21 (.getfield 65) 3 := ⟨by decide +kernel, rfl⟩
theorem dX8_must_21 : q_d cX8_must 21 24 (.invokevirtual 106) 3 := ⟨by decide +kernel, rfl⟩
theorem dX8_must_24 : q_d cX8_must 24 25 (.return_) 1 := ⟨by decide +kernel, rfl⟩
theorem dX8_sign_0 : q_d cX8_sign 0 1 (.aload_n 0) 1 := ⟨by decide +kernel, rfl⟩
theorem dX8_sign_1 : q_d cX8_sign 1 4 (.invokevirtual 95) 3 := ⟨by decide +kernel, rfl⟩
theorem dX8_sign_4 : q_j cX8_sign 4 7 8 (fun o => .ifCond .ne o) := ⟨4, by decide +kernel, rfl, rfl⟩
theorem dX8_sign_7 : q_d cX8_sign 7 8 (.return_) 1 := ⟨by decide +kernel, rfl⟩
theorem dX8_sign_8 : q_d cX8_sign 8 9 (.aload_n 0) 1 := ⟨by decide +kernel, rfl⟩
theorem dX8_sign_9 : q_d cX8_sign 9 12 (.invokevirtual 78) 3 := ⟨by decide +kernel, rfl⟩
theorem dX8_sign_12 : q_d cX8_sign 12 13 (.iload_n 1) 1 := ⟨by decide +kernel, rfl⟩
theorem dX8_sign_13 : q_j cX8_sign 13 16 29 (fun o => .if_icmp .ne o) := ⟨16, by decide +kernel, rfl, rfl⟩
theorem dX8_sign_16 : q_d cX8_sign 16 17 (.aload_n 0) 1 := ⟨by decide +kernel, rfl⟩
theorem dX8_sign_17 : q_d cX8_sign 17 18 (.dup) 1 := ⟨by decide +kernel, rfl⟩
theorem dX8_sign_18 : q_d cX8_sign 18 21 (.getfield 65) 3 := ⟨by decide +kernel, rfl⟩
theorem dX8_sign_21 : q_d cX8_sign 21 22 (.iconst 1) 1 := ⟨by decide +kernel, rfl⟩
theorem dX8_sign_22 : q_d cX8_sign 22 23 (.iadd) 1 := ⟨by decide +kernel, rfl⟩
theorem dX8_sign_23 : q_d cX8_sign 23 26 (.putfield 65) 3 := ⟨by decide +kernel, rfl⟩
theorem dX8_sign_26 : q_j cX8_sign 26 29 38 (fun o => .goto o) := ⟨12, by decide +kernel, rfl, rfl⟩
theorem dX8_sign_29 : q_d cX8_sign 29 30 (.aload_n 0) 1 := ⟨by decide +kernel, rfl⟩
theorem dX8_sign_30 : q_d cX8_sign 30 31 (.iconst 1) 1 := ⟨by decide +kernel, rfl⟩
theorem dX8_sign_31 : q_d cX8_sign 31 32 (.aload_n 0) 1 := ⟨by decide +kernel, rfl⟩
theorem dX8_sign_32 : q_d cX8_sign 32 35 (.getfield 65) 3 := ⟨by decide +kernel, rfl⟩
theorem dX8_sign_35 : q_d cX8_sign 35 38 (.invokevirtual 106) 3 := ⟨by decide +kernel, rfl⟩
theorem dX8_sign_38 : q_d cX8_sign 38 39 (.return_) 1 := ⟨by decide +kernel, rfl⟩
theorem dX8_number_0 : q_d cX8_number 0 1 (.aload_n 0) 1 := ⟨by decide +kernel, rfl⟩
theorem dX8_number_1 : q_d cX8_number 1 4 (.invokevirtual 95) 3 := ⟨by decide +kernel, rfl⟩
theorem dX8_number_4 : q_j cX8_number 4 7 9 (fun o => .ifCond .ne o) := ⟨5, by decide +kernel, rfl, rfl⟩
theorem dX8_number_7 : q_d cX8_number 7 8 (.iconst 0) 1 := ⟨by decide +kernel, rfl⟩
theorem dX8_number_8 : q_d cX8_number 8 9 (.ireturn) 1 := ⟨by decide +kernel, rfl⟩
theorem dX8_number_9 : q_d cX8_number 9 10 (.aload_n 0) 1 := ⟨by decide +kernel, rfl⟩
theorem dX8_number_10 : q_d cX8_number 10 13 (.invokevirtual 78) 3 := ⟨by decide +kernel, rfl⟩
theorem dX8_number_13 : q_d cX8_number 13 16 (.invokestatic 110) 3 := ⟨by decide +kernel, rfl⟩
theorem dX8_number_16 : q_j cX8_number 16 19 30 (fun o => .ifCond .ne o) := ⟨14, by decide +kernel, rfl, rfl⟩
theorem dX8_number_19 : q_d cX8_number 19 20 (.aload_n 0) 1 := ⟨by decide +kernel, rfl⟩
theorem dX8_number_20 : q_d cX8_number 20 21 (.iconst 1) 1 := ⟨by decide +kernel, rfl⟩
theorem dX8_number_21 : q_d cX8_number 21 22 (.aload_n 0) 1 := ⟨by decide +kernel, rfl⟩
theorem dX8_number_22 : q_d cX8_number 22 25 (.getfield 65) 3 := ⟨by decide +kernel, rfl⟩
theorem dX8_number_25 : q_d cX8_number 25 28 (.invokevirtual 106) 3 := ⟨by decide +kernel, rfl⟩
theorem dX8_number_28 : q_d cX8_number 28 29 (.iconst 0) 1 := ⟨by decide +kernel, rfl⟩
theorem dX8_number_29 : q_d cX8_number 29 30 (.ireturn) 1 := ⟨by decide +kernel, rfl⟩
theorem dX8_number_30 : q_d cX8_number 30 31 (.aload_n 0) 1 := ⟨by decide +kernel, rfl⟩
theorem dX8_number_31 : q_d cX8_number 31 34 (.getfield 65) 3 := ⟨by decide +kernel, rfl⟩
theorem dX8_number_34 : q_d cX8_number 34 35 (.istore_n 3) 1 := ⟨by decide +kernel, rfl⟩
theorem dX8_number_35 : q_d cX8_number 35 36 (.iconst 0) 1 := ⟨by decide +kernel, rfl⟩
theorem dX8_number_36 : q_d cX8_number 36 38 (.istore 4) 2 := ⟨by decide +kernel, rfl⟩
theorem dX8_number_38 : q_d cX8_number 38 39 (.aload_n 0) 1 := ⟨by decide +kernel, rfl⟩
theorem dX8_number_39 : q_d cX8_number 39 40 (.aload_n 0) 1 := ⟨by decide +kernel, rfl⟩
theorem dX8_number_40 : q_d cX8_number 40 43 (.getfield 65) 3 := ⟨by decide +kernel, rfl⟩
theorem dX8_number_43 : q_d cX8_number 43 46 (.invokevirtual 68) 3 := ⟨by decide +kernel, rfl⟩
theorem dX8_number_46 : q_d cX8_number 46 49 (.invokestatic 110) 3 := ⟨by decide +kernel, rfl⟩
theorem dX8_number_49 : q_j cX8_number 49 52 95 (fun o => .ifCond .eq o) := ⟨46, by decide +kernel, rfl, rfl⟩
theorem dX8_number_52 : q_d cX8_number 52 55 (.ldc2_w 113) 3 := ⟨by decide +kernel, rfl⟩
theorem dX8_number_55 : q_d cX8_number 55 58 (.ldc2_w 115) 3 := ⟨by decide +kernel, rfl⟩
theorem dX8_number_58 : q_d cX8_number 58 60 (.iload 4) 2 := ⟨by decide +kernel, rfl⟩
theorem dX8_number_60 : q_d cX8_number 60 61 (.i2l) 1 := ⟨by decide +kernel, rfl⟩
theorem dX8_number_61 : q_d cX8_number 61 62 (.lmul) 1 := ⟨by decide +kernel, rfl⟩
theorem dX8_number_62 : q_d cX8_number 62 63 (.aload_n 0) 1 := ⟨by decide +kernel, rfl⟩
theorem dX8_number_63 : q_d cX8_number 63 64 (.aload_n 0) 1 := ⟨by decide +kernel, rfl⟩
theorem dX8_number_64 : q_d cX8_number 64 67 (.getfield 65) 3 := ⟨by decide +kernel, rfl⟩
theorem dX8_number_67 : q_d cX8_number 67 70 (.invokevirtual 68) 3 := ⟨by decide +kernel, rfl⟩
theorem dX8_number_70 : q_d cX8_number 70 71 (.i2l) 1 := ⟨by decide +kernel, rfl⟩
theorem dX8_number_71 : q_d cX8_number 71 72 (.ladd) 1 := ⟨by decide +kernel, rfl⟩
theorem dX8_number_72 : q_d cX8_number 72 75 (.ldc2_w 117) 3 := ⟨by decide +kernel, rfl⟩
theorem dX8_number_75 : q_d cX8_number 75 76 (.lsub) 1 := ⟨by decide +kernel, rfl⟩
theorem dX8_number_76 : q_d cX8_number 76 79 (.invokestatic 119) 3 := ⟨by decide +kernel, rfl⟩
theorem dX8_number_79 : q_d cX8_number 79 80 (.l2i) 1 := ⟨by decide +kernel, rfl⟩
theorem dX8_number_80 : q_d cX8_number 80 82 (.istore 4) 2 := ⟨by decide +kernel, rfl⟩
theorem dX8_number_82 : q_d cX8_number 82 83 (.aload_n 0) 1 := ⟨by decide +kernel, rfl⟩
theorem dX8_number_83 : q_d cX8_number 83 84 (.dup) 1 := ⟨by decide +kernel, rfl⟩
theorem dX8_number_84 : q_d cX8_number 84 87 (.getfield 65) 3 := ⟨by decide +kernel, rfl⟩
theorem dX8_number_87 : q_d cX8_number 87 88 (.iconst 1) 1 := ⟨by decide +kernel, rfl⟩
theorem dX8_number_88 : q_d cX8_number 88 89 (.iadd) 1 := ⟨by decide +kernel, rfl⟩
theorem dX8_number_89 : q_d cX8_number 89 92 (.putfield 65) 3 := ⟨by decide +kernel, rfl⟩
theorem dX8_number_92 : q_j cX8_number 92 95 38 (fun o => .goto o) := ⟨(-54), by decide +kernel, rfl, rfl⟩
theorem dX8_number_95 : q_d cX8_number 95 97 (.iload 4) 2 := ⟨by decide +kernel, rfl⟩
theorem dX8_number_97 : q_d cX8_number 97 98 (.i2l) 1 := ⟨by decide +kernel, rfl⟩
theorem dX8_number_98 : q_d cX8_number 98 99 (.iload_n 1) 1 := ⟨by decide +kernel, rfl⟩
theorem dX8_number_99 : q_d cX8_number 99 100 (.i2l) 1 := ⟨by decide +kernel, rfl⟩
theorem dX8_number_100 : q_d cX8_number 100 101 (.iload_n 2) 1 := ⟨by decide +kernel, rfl⟩
theorem dX8_number_101 : q_d cX8_number 101 102 (.i2l) 1 := ⟨by decide +kernel, rfl⟩
theorem dX8_number_102 : q_d cX8_number 102 105 (.invokestatic 123) 3 := ⟨by decide +kernel, rfl⟩
theorem dX8_number_105 : q_j cX8_number 105 108 114 (fun o => .ifCond .ne o) := ⟨9, by decide +kernel, rfl, rfl⟩
theorem dX8_number_108 : q_d cX8_number 108 109 (.aload_n 0) 1 := ⟨by decide +kernel, rfl⟩
theorem dX8_number_109 : q_d cX8_number 109 110 (.iconst 2) 1 := ⟨by decide +kernel, rfl⟩
theorem dX8_number_110 : q_d cX8_number 110 111 (.iload_n 3) 1 := ⟨by decide +kernel, rfl⟩
theorem dX8_number_111 : q_d cX8_number 111 114 (.invokevirtual 106) 3 := ⟨by decide +kernel, rfl⟩
theorem dX8_number_114 : q_d cX8_number 114 116 (.iload 4) 2 := ⟨by decide +kernel, rfl⟩
theorem dX8_number_116 : q_d cX8_number 116 117 (.ireturn) 1 := ⟨by decide +kernel, rfl⟩
theorem dX8_wordOf_0 : q_d cX8_wordOf 0 1 (.iload_n 0) 1 := ⟨by decide +kernel, rfl⟩
theorem dX8_wordOf_1 : decode cX8_wordOf 1 = .ok (.tableswitch 169 0 21 #[103, 106, 109, 112, 115, 118, 121, 124, 127, 130, 133, 136, 139, 142, 145, 148, 151, 154, 157, 160, 163, 166], 103) := by decide +kernel
theorem dX8_wordOf_104 : q_d cX8_wordOf 104 106 (.ldc 127) 2 := ⟨by decide +kernel, rfl⟩
theorem dX8_wordOf_106 : q_d cX8_wordOf 106 107 (.areturn) 1 := ⟨by decide +kernel, rfl⟩
theorem dX8_wordOf_107 : q_d cX8_wordOf 107 109 (.ldc 129) 2 := ⟨by decide +kernel, rfl⟩
theorem dX8_wordOf_109 : q_d cX8_wordOf 109 110 (.areturn) 1 := ⟨by decide +kernel, rfl⟩
theorem dX8_wordOf_110 : q_d cX8_wordOf 110 112 (.ldc 131) 2 := ⟨by decide +kernel, rfl⟩
theorem dX8_wordOf_112 : q_d cX8_wordOf 112 113 (.areturn) 1 := ⟨by decide +kernel, rfl⟩
theorem dX8_wordOf_113 : q_d cX8_wordOf 113 115 (.ldc 133) 2 := ⟨by decide +kernel, rfl⟩
theorem dX8_wordOf_115 : q_d cX8_wordOf 115 116 (.areturn) 1 := ⟨by decide +kernel, rfl⟩
theorem dX8_wordOf_116 : q_d cX8_wordOf 116 118 (.ldc 135) 2 := ⟨by decide +kernel, rfl⟩
theorem dX8_wordOf_118 : q_d cX8_wordOf 118 119 (.areturn) 1 := ⟨by decide +kernel, rfl⟩
theorem dX8_wordOf_119 : q_d cX8_wordOf 119 121 (.ldc 137) 2 := ⟨by decide +kernel, rfl⟩
theorem dX8_wordOf_121 : q_d cX8_wordOf 121 122 (.areturn) 1 := ⟨by decide +kernel, rfl⟩
theorem dX8_wordOf_122 : q_d cX8_wordOf 122 124 (.ldc 139) 2 := ⟨by decide +kernel, rfl⟩
theorem dX8_wordOf_124 : q_d cX8_wordOf 124 125 (.areturn) 1 := ⟨by decide +kernel, rfl⟩
theorem dX8_wordOf_125 : q_d cX8_wordOf 125 127 (.ldc 141) 2 := ⟨by decide +kernel, rfl⟩
theorem dX8_wordOf_127 : q_d cX8_wordOf 127 128 (.areturn) 1 := ⟨by decide +kernel, rfl⟩
theorem dX8_wordOf_128 : q_d cX8_wordOf 128 130 (.ldc 143) 2 := ⟨by decide +kernel, rfl⟩
theorem dX8_wordOf_130 : q_d cX8_wordOf 130 131 (.areturn) 1 := ⟨by decide +kernel, rfl⟩
theorem dX8_wordOf_131 : q_d cX8_wordOf 131 133 (.ldc 145) 2 := ⟨by decide +kernel, rfl⟩
theorem dX8_wordOf_133 : q_d cX8_wordOf 133 134 (.areturn) 1 := ⟨by decide +kernel, rfl⟩
theorem dX8_wordOf_134 : q_d cX8_wordOf 134 136 (.ldc 147) 2 := ⟨by decide +kernel, rfl⟩
theorem dX8_wordOf_136 : q_d cX8_wordOf 136 137 (.areturn) 1 := ⟨by decide +kernel, rfl⟩
theorem dX8_wordOf_137 : q_d cX8_wordOf 137 139 (.ldc 149) 2 := ⟨by decide +kernel, rfl⟩
theorem dX8_wordOf_139 : q_d cX8_wordOf 139 140 (.areturn) 1 := ⟨by decide +kernel, rfl⟩
theorem dX8_wordOf_140 : q_d cX8_wordOf 140 142 (.ldc 151) 2 := ⟨by decide +kernel, rfl⟩
theorem dX8_wordOf_142 : q_d cX8_wordOf 142 143 (.areturn) 1 := ⟨by decide +kernel, rfl⟩
theorem dX8_wordOf_143 : q_d cX8_wordOf 143 145 (.ldc 153) 2 := ⟨by decide +kernel, rfl⟩
theorem dX8_wordOf_145 : q_d cX8_wordOf 145 146 (.areturn) 1 := ⟨by decide +kernel, rfl⟩
theorem dX8_wordOf_146 : q_d cX8_wordOf 146 148 (.ldc 155) 2 := ⟨by decide +kernel, rfl⟩
theorem dX8_wordOf_148 : q_d cX8_wordOf 148 149 (.areturn) 1 := ⟨by decide +kernel, rfl⟩
theorem dX8_wordOf_149 : q_d cX8_wordOf 149 151 (.ldc 157) 2 := ⟨by decide +kernel, rfl⟩
theorem dX8_wordOf_151 : q_d cX8_wordOf 151 152 (.areturn) 1 := ⟨by decide +kernel, rfl⟩
theorem dX8_wordOf_152 : q_d cX8_wordOf 152 154 (.ldc 159) 2 := ⟨by decide +kernel, rfl⟩
theorem dX8_wordOf_154 : q_d cX8_wordOf 154 155 (.areturn) 1 := ⟨by decide +kernel, rfl⟩
theorem dX8_wordOf_155 : q_d cX8_wordOf 155 157 (.ldc 161) 2 := ⟨by decide +kernel, rfl⟩
theorem dX8_wordOf_157 : q_d cX8_wordOf 157 158 (.areturn) 1 := ⟨by decide +kernel, rfl⟩
theorem dX8_wordOf_158 : q_d cX8_wordOf 158 160 (.ldc 163) 2 := ⟨by decide +kernel, rfl⟩
theorem dX8_wordOf_160 : q_d cX8_wordOf 160 161 (.areturn) 1 := ⟨by decide +kernel, rfl⟩
theorem dX8_wordOf_161 : q_d cX8_wordOf 161 163 (.ldc 165) 2 := ⟨by decide +kernel, rfl⟩
theorem dX8_wordOf_163 : q_d cX8_wordOf 163 164 (.areturn) 1 := ⟨by decide +kernel, rfl⟩
theorem dX8_wordOf_164 : q_d cX8_wordOf 164 166 (.ldc 167) 2 := ⟨by decide +kernel, rfl⟩
theorem dX8_wordOf_166 : q_d cX8_wordOf 166 167 (.areturn) 1 := ⟨by decide +kernel, rfl⟩
theorem dX8_wordOf_167 : q_d cX8_wordOf 167 169 (.ldc 168) 2 := ⟨by decide +kernel, rfl⟩
theorem dX8_wordOf_169 : q_d cX8_wordOf 169 170 (.areturn) 1 := ⟨by decide +kernel, rfl⟩
theorem dX8_wordOf_170 : q_d cX8_wordOf 170 172 (.ldc 170) 2 := ⟨by decide +kernel, rfl⟩
theorem dX8_wordOf_172 : q_d cX8_wordOf 172 173 (.areturn) 1 := ⟨by decide +kernel, rfl⟩
theorem dX8_one_0 : q_d cX8_one 0 1 (.iload_n 1) 1 := ⟨by decide +kernel, rfl⟩
theorem dX8_one_1 : q_d cX8_one 1 2 (.istore_n 3) 1 := ⟨by decide +kernel, rfl⟩
theorem dX8_one_2 : q_d cX8_one 2 3 (.iload_n 3) 1 := ⟨by decide +kernel, rfl⟩
theorem dX8_one_3 : q_d cX8_one 3 4 (.iload_n 2) 1 := ⟨by decide +kernel, rfl⟩
theorem dX8_one_4 : q_j cX8_one 4 7 28 (fun o => .if_icmp .gt o) := ⟨24, by decide +kernel, rfl, rfl⟩
theorem dX8_one_7 : q_d cX8_one 7 8 (.aload_n 0) 1 := ⟨by decide +kernel, rfl⟩
theorem dX8_one_8 : q_d cX8_one 8 9 (.iload_n 3) 1 := ⟨by decide +kernel, rfl⟩
theorem dX8_one_9 : q_d cX8_one 9 12 (.invokestatic 172) 3 := ⟨by decide +kernel, rfl⟩
theorem dX8_one_12 : q_d cX8_one 12 15 (.invokevirtual 103) 3 := ⟨by decide +kernel, rfl⟩
theorem dX8_one_15 : q_j cX8_one 15 18 22 (fun o => .ifCond .eq o) := ⟨7, by decide +kernel, rfl, rfl⟩
theorem dX8_one_18 : q_d cX8_one 18 19 (.iload_n 3) 1 := ⟨by decide +kernel, rfl⟩
theorem dX8_one_19 : q_d cX8_one 19 20 (.iload_n 1) 1 := ⟨by decide +kernel, rfl⟩
theorem dX8_one_20 : q_d cX8_one 20 21 (.isub) 1 := ⟨by decide +kernel, rfl⟩
theorem dX8_one_21 : q_d cX8_one 21 22 (.ireturn) 1 := ⟨by decide +kernel, rfl⟩
theorem dX8_one_22 : q_d cX8_one 22 25 (.iinc 3 1) 3 := ⟨by decide +kernel, rfl⟩
theorem dX8_one_25 : q_j cX8_one 25 28 2 (fun o => .goto o) := ⟨(-23), by decide +kernel, rfl, rfl⟩
theorem dX8_one_28 : q_d cX8_one 28 29 (.aload_n 0) 1 := ⟨by decide +kernel, rfl⟩
theorem dX8_one_29 : q_d cX8_one 29 32 (.invokevirtual 95) 3 := ⟨by decide +kernel, rfl⟩
theorem dX8_one_32 : q_j cX8_one 32 35 44 (fun o => .ifCond .eq o) := ⟨12, by decide +kernel, rfl, rfl⟩
theorem dX8_one_35 : q_d cX8_one 35 36 (.aload_n 0) 1 := ⟨by decide +kernel, rfl⟩
theorem dX8_one_36 : q_d cX8_one 36 37 (.iconst 1) 1 := ⟨by decide +kernel, rfl⟩
theorem dX8_one_37 : q_d cX8_one 37 38 (.aload_n 0) 1 := ⟨by decide +kernel, rfl⟩
theorem dX8_one_38 : q_d cX8_one 38 41 (.getfield 65) 3 := ⟨by decide +kernel, rfl⟩
theorem dX8_one_41 : q_d cX8_one 41 44 (.invokevirtual 106) 3 := ⟨by decide +kernel, rfl⟩
theorem dX8_one_44 : q_d cX8_one 44 45 (.iconst (-1)) 1 := ⟨by decide +kernel, rfl⟩
theorem dX8_one_45 : q_d cX8_one 45 46 (.ireturn) 1 := ⟨by decide +kernel, rfl⟩
theorem dX8_name_0 : q_d cX8_name 0 1 (.aload_n 0) 1 := ⟨by decide +kernel, rfl⟩
theorem dX8_name_1 : q_d cX8_name 1 4 (.invokevirtual 95) 3 := ⟨by decide +kernel, rfl⟩
theorem dX8_name_4 : q_j cX8_name 4 7 9 (fun o => .ifCond .ne o) := ⟨5, by decide +kernel, rfl, rfl⟩
theorem dX8_name_7 : q_d cX8_name 7 8 (.iconst 0) 1 := ⟨by decide +kernel, rfl⟩
theorem dX8_name_8 : q_d cX8_name 8 9 (.ireturn) 1 := ⟨by decide +kernel, rfl⟩
theorem dX8_name_9 : q_d cX8_name 9 10 (.aload_n 0) 1 := ⟨by decide +kernel, rfl⟩
theorem dX8_name_10 : q_d cX8_name 10 13 (.invokevirtual 78) 3 := ⟨by decide +kernel, rfl⟩
theorem dX8_name_13 : q_d cX8_name 13 14 (.pop) 1 := ⟨by decide +kernel, rfl⟩
theorem dX8_name_14 : q_d cX8_name 14 15 (.iconst 0) 1 := ⟨by decide +kernel, rfl⟩
theorem dX8_name_15 : q_d cX8_name 15 16 (.istore_n 1) 1 := ⟨by decide +kernel, rfl⟩
theorem dX8_name_16 : q_d cX8_name 16 17 (.aload_n 0) 1 := ⟨by decide +kernel, rfl⟩
theorem dX8_name_17 : q_d cX8_name 17 18 (.aload_n 0) 1 := ⟨by decide +kernel, rfl⟩
theorem dX8_name_18 : q_d cX8_name 18 21 (.getfield 65) 3 := ⟨by decide +kernel, rfl⟩
theorem dX8_name_21 : q_d cX8_name 21 22 (.iload_n 1) 1 := ⟨by decide +kernel, rfl⟩
theorem dX8_name_22 : q_d cX8_name 22 23 (.iadd) 1 := ⟨by decide +kernel, rfl⟩
theorem dX8_name_23 : q_d cX8_name 23 26 (.invokevirtual 68) 3 := ⟨by decide +kernel, rfl⟩
theorem dX8_name_26 : q_d cX8_name 26 29 (.invokestatic 91) 3 := ⟨by decide +kernel, rfl⟩
theorem dX8_name_29 : q_j cX8_name 29 32 38 (fun o => .ifCond .eq o) := ⟨9, by decide +kernel, rfl, rfl⟩
theorem dX8_name_32 : q_d cX8_name 32 35 (.iinc 1 1) 3 := ⟨by decide +kernel, rfl⟩
theorem dX8_name_35 : q_j cX8_name 35 38 16 (fun o => .goto o) := ⟨(-19), by decide +kernel, rfl, rfl⟩
theorem dX8_name_38 : q_d cX8_name 38 39 (.iload_n 1) 1 := ⟨by decide +kernel, rfl⟩
theorem dX8_name_39 : q_j cX8_name 39 42 52 (fun o => .ifCond .le o) := ⟨13, by decide +kernel, rfl, rfl⟩
theorem dX8_name_42 : q_d cX8_name 42 43 (.iload_n 1) 1 := ⟨by decide +kernel, rfl⟩
theorem dX8_name_43 : q_d cX8_name 43 45 (.bipush 6) 2 := ⟨by decide +kernel, rfl⟩
theorem dX8_name_45 : q_j cX8_name 45 48 52 (fun o => .if_icmp .gt o) := ⟨7, by decide +kernel, rfl, rfl⟩
theorem dX8_name_48 : q_d cX8_name 48 49 (.iconst 1) 1 := ⟨by decide +kernel, rfl⟩
theorem dX8_name_49 : q_j cX8_name 49 52 53 (fun o => .goto o) := ⟨4, by decide +kernel, rfl, rfl⟩
theorem dX8_name_52 : q_d cX8_name 52 53 (.iconst 0) 1 := ⟨by decide +kernel, rfl⟩
theorem dX8_name_53 : q_d cX8_name 53 54 (.istore_n 2) 1 := ⟨by decide +kernel, rfl⟩
theorem dX8_name_54 : q_d cX8_name 54 55 (.iconst 0) 1 := ⟨by decide +kernel, rfl⟩
theorem dX8_name_55 : q_d cX8_name 55 56 (.istore_n 3) 1 := ⟨by decide +kernel, rfl⟩
theorem dX8_name_56 : q_d cX8_name 56 57 (.iload_n 3) 1 := ⟨by decide +kernel, rfl⟩
theorem dX8_name_57 : q_d cX8_name 57 59 (.bipush 23) 2 := ⟨by decide +kernel, rfl⟩
theorem dX8_name_59 : q_j cX8_name 59 62 89 (fun o => .if_icmp .ge o) := ⟨30, by decide +kernel, rfl, rfl⟩
theorem dX8_name_62 : q_d cX8_name 62 63 (.iload_n 2) 1 := ⟨by decide +kernel, rfl⟩
theorem dX8_name_63 : q_j cX8_name 63 66 89 (fun o => .ifCond .eq o) := ⟨26, by decide +kernel, rfl, rfl⟩
theorem dX8_name_66 : q_d cX8_name 66 67 (.aload_n 0) 1 := ⟨by decide +kernel, rfl⟩
theorem dX8_name_67 : q_d cX8_name 67 68 (.iload_n 3) 1 := ⟨by decide +kernel, rfl⟩
theorem dX8_name_68 : q_d cX8_name 68 71 (.invokestatic 172) 3 := ⟨by decide +kernel, rfl⟩
theorem dX8_name_71 : q_d cX8_name 71 74 (.invokevirtual 99) 3 := ⟨by decide +kernel, rfl⟩
theorem dX8_name_74 : q_j cX8_name 74 77 81 (fun o => .ifCond .ne o) := ⟨7, by decide +kernel, rfl, rfl⟩
theorem dX8_name_77 : q_d cX8_name 77 78 (.iconst 1) 1 := ⟨by decide +kernel, rfl⟩
theorem dX8_name_78 : q_j cX8_name 78 81 82 (fun o => .goto o) := ⟨4, by decide +kernel, rfl, rfl⟩
theorem dX8_name_81 : q_d cX8_name 81 82 (.iconst 0) 1 := ⟨by decide +kernel, rfl⟩
theorem dX8_name_82 : q_d cX8_name 82 83 (.istore_n 2) 1 := ⟨by decide +kernel, rfl⟩
theorem dX8_name_83 : q_d cX8_name 83 86 (.iinc 3 1) 3 := ⟨by decide +kernel, rfl⟩
theorem dX8_name_86 : q_j cX8_name 86 89 56 (fun o => .goto o) := ⟨(-30), by decide +kernel, rfl, rfl⟩
theorem dX8_name_89 : q_d cX8_name 89 90 (.iload_n 2) 1 := ⟨by decide +kernel, rfl⟩
theorem dX8_name_90 : q_j cX8_name 90 93 102 (fun o => .ifCond .ne o) := ⟨12, by decide +kernel, rfl, rfl⟩
theorem dX8_name_93 : q_d cX8_name 93 94 (.aload_n 0) 1 := ⟨by decide +kernel, rfl⟩
theorem dX8_name_94 : q_d cX8_name 94 95 (.iconst 1) 1 := ⟨by decide +kernel, rfl⟩
theorem dX8_name_95 : q_d cX8_name 95 96 (.aload_n 0) 1 := ⟨by decide +kernel, rfl⟩
theorem dX8_name_96 : q_d cX8_name 96 99 (.getfield 65) 3 := ⟨by decide +kernel, rfl⟩
theorem dX8_name_99 : q_d cX8_name 99 102 (.invokevirtual 106) 3 := ⟨by decide +kernel, rfl⟩
theorem dX8_name_102 : q_d cX8_name 102 103 (.iload_n 2) 1 := ⟨by decide +kernel, rfl⟩
theorem dX8_name_103 : q_j cX8_name 103 106 110 (fun o => .ifCond .eq o) := ⟨7, by decide +kernel, rfl, rfl⟩
theorem dX8_name_106 : q_d cX8_name 106 107 (.iload_n 1) 1 := ⟨by decide +kernel, rfl⟩
theorem dX8_name_107 : q_j cX8_name 107 110 111 (fun o => .goto o) := ⟨4, by decide +kernel, rfl, rfl⟩
theorem dX8_name_110 : q_d cX8_name 110 111 (.iconst 0) 1 := ⟨by decide +kernel, rfl⟩
theorem dX8_name_111 : q_d cX8_name 111 112 (.ireturn) 1 := ⟨by decide +kernel, rfl⟩
theorem dX8_landOf_0 : q_d cX8_landOf 0 1 (.iconst 0) 1 := ⟨by decide +kernel, rfl⟩
theorem dX8_landOf_1 : q_d cX8_landOf 1 2 (.istore_n 2) 1 := ⟨by decide +kernel, rfl⟩
theorem dX8_landOf_2 : q_d cX8_landOf 2 3 (.iload_n 2) 1 := ⟨by decide +kernel, rfl⟩
theorem dX8_landOf_3 : q_d cX8_landOf 3 4 (.i2l) 1 := ⟨by decide +kernel, rfl⟩
theorem dX8_landOf_4 : q_d cX8_landOf 4 5 (.aload_n 0) 1 := ⟨by decide +kernel, rfl⟩
theorem dX8_landOf_5 : q_d cX8_landOf 5 8 (.getfield 24) 3 := ⟨by decide +kernel, rfl⟩
theorem dX8_landOf_8 : q_d cX8_landOf 8 9 (.iconst 0) 1 := ⟨by decide +kernel, rfl⟩
theorem dX8_landOf_9 : q_d cX8_landOf 9 10 (.laload) 1 := ⟨by decide +kernel, rfl⟩
theorem dX8_landOf_10 : q_d cX8_landOf 10 11 (.lcmp) 1 := ⟨by decide +kernel, rfl⟩
theorem dX8_landOf_11 : q_j cX8_landOf 11 14 101 (fun o => .ifCond .ge o) := ⟨90, by decide +kernel, rfl, rfl⟩
theorem dX8_landOf_14 : q_d cX8_landOf 14 15 (.aload_n 0) 1 := ⟨by decide +kernel, rfl⟩
theorem dX8_landOf_15 : q_d cX8_landOf 15 18 (.getfield 24) 3 := ⟨by decide +kernel, rfl⟩
theorem dX8_landOf_18 : q_d cX8_landOf 18 19 (.iload_n 2) 1 := ⟨by decide +kernel, rfl⟩
theorem dX8_landOf_19 : q_d cX8_landOf 19 21 (.bipush 6) 2 := ⟨by decide +kernel, rfl⟩
theorem dX8_landOf_21 : q_d cX8_landOf 21 24 (.invokestatic 176) 3 := ⟨by decide +kernel, rfl⟩
theorem dX8_landOf_24 : q_d cX8_landOf 24 25 (.laload) 1 := ⟨by decide +kernel, rfl⟩
theorem dX8_landOf_25 : q_d cX8_landOf 25 26 (.iload_n 1) 1 := ⟨by decide +kernel, rfl⟩
theorem dX8_landOf_26 : q_d cX8_landOf 26 27 (.i2l) 1 := ⟨by decide +kernel, rfl⟩
theorem dX8_landOf_27 : q_d cX8_landOf 27 28 (.lcmp) 1 := ⟨by decide +kernel, rfl⟩
theorem dX8_landOf_28 : q_j cX8_landOf 28 31 35 (fun o => .ifCond .ne o) := ⟨7, by decide +kernel, rfl, rfl⟩
theorem dX8_landOf_31 : q_d cX8_landOf 31 32 (.iconst 1) 1 := ⟨by decide +kernel, rfl⟩
theorem dX8_landOf_32 : q_j cX8_landOf 32 35 36 (fun o => .goto o) := ⟨4, by decide +kernel, rfl, rfl⟩
theorem dX8_landOf_35 : q_d cX8_landOf 35 36 (.iconst 0) 1 := ⟨by decide +kernel, rfl⟩
theorem dX8_landOf_36 : q_d cX8_landOf 36 37 (.istore_n 3) 1 := ⟨by decide +kernel, rfl⟩
theorem dX8_landOf_37 : q_d cX8_landOf 37 38 (.iconst 0) 1 := ⟨by decide +kernel, rfl⟩
theorem dX8_landOf_38 : q_d cX8_landOf 38 40 (.istore 4) 2 := ⟨by decide +kernel, rfl⟩
theorem dX8_landOf_40 : q_d cX8_landOf 40 42 (.iload 4) 2 := ⟨by decide +kernel, rfl⟩
theorem dX8_landOf_42 : q_d cX8_landOf 42 43 (.iload_n 1) 1 := ⟨by decide +kernel, rfl⟩
theorem dX8_landOf_43 : q_j cX8_landOf 43 46 89 (fun o => .if_icmp .ge o) := ⟨46, by decide +kernel, rfl, rfl⟩
theorem dX8_landOf_46 : q_d cX8_landOf 46 47 (.iload_n 3) 1 := ⟨by decide +kernel, rfl⟩
theorem dX8_landOf_47 : q_j cX8_landOf 47 50 89 (fun o => .ifCond .eq o) := ⟨42, by decide +kernel, rfl, rfl⟩
theorem dX8_landOf_50 : q_d cX8_landOf 50 51 (.aload_n 0) 1 := ⟨by decide +kernel, rfl⟩
theorem dX8_landOf_51 : q_d cX8_landOf 51 54 (.getfield 24) 3 := ⟨by decide +kernel, rfl⟩
theorem dX8_landOf_54 : q_d cX8_landOf 54 55 (.iload_n 2) 1 := ⟨by decide +kernel, rfl⟩
theorem dX8_landOf_55 : q_d cX8_landOf 55 57 (.iload 4) 2 := ⟨by decide +kernel, rfl⟩
theorem dX8_landOf_57 : q_d cX8_landOf 57 60 (.invokestatic 176) 3 := ⟨by decide +kernel, rfl⟩
theorem dX8_landOf_60 : q_d cX8_landOf 60 61 (.laload) 1 := ⟨by decide +kernel, rfl⟩
theorem dX8_landOf_61 : q_d cX8_landOf 61 62 (.aload_n 0) 1 := ⟨by decide +kernel, rfl⟩
theorem dX8_landOf_62 : q_d cX8_landOf 62 63 (.aload_n 0) 1 := ⟨by decide +kernel, rfl⟩
theorem dX8_landOf_63 : q_d cX8_landOf 63 66 (.getfield 65) 3 := ⟨by decide +kernel, rfl⟩
theorem dX8_landOf_66 : q_d cX8_landOf 66 68 (.iload 4) 2 := ⟨by decide +kernel, rfl⟩
theorem dX8_landOf_68 : q_d cX8_landOf 68 69 (.iadd) 1 := ⟨by decide +kernel, rfl⟩
theorem dX8_landOf_69 : q_d cX8_landOf 69 72 (.invokevirtual 68) 3 := ⟨by decide +kernel, rfl⟩
theorem dX8_landOf_72 : q_d cX8_landOf 72 73 (.i2l) 1 := ⟨by decide +kernel, rfl⟩
theorem dX8_landOf_73 : q_d cX8_landOf 73 74 (.lcmp) 1 := ⟨by decide +kernel, rfl⟩
theorem dX8_landOf_74 : q_j cX8_landOf 74 77 81 (fun o => .ifCond .ne o) := ⟨7, by decide +kernel, rfl, rfl⟩
theorem dX8_landOf_77 : q_d cX8_landOf 77 78 (.iconst 1) 1 := ⟨by decide +kernel, rfl⟩
theorem dX8_landOf_78 : q_j cX8_landOf 78 81 82 (fun o => .goto o) := ⟨4, by decide +kernel, rfl, rfl⟩
theorem dX8_landOf_81 : q_d cX8_landOf 81 82 (.iconst 0) 1 := ⟨by decide +kernel, rfl⟩
theorem dX8_landOf_82 : q_d cX8_landOf 82 83 (.istore_n 3) 1 := ⟨by decide +kernel, rfl⟩
theorem dX8_landOf_83 : q_d cX8_landOf 83 86 (.iinc 4 1) 3 := ⟨by decide +kernel, rfl⟩
theorem dX8_landOf_86 : q_j cX8_landOf 86 89 40 (fun o => .goto o) := ⟨(-46), by decide +kernel, rfl, rfl⟩
theorem dX8_landOf_89 : q_d cX8_landOf 89 90 (.iload_n 3) 1 := ⟨by decide +kernel, rfl⟩
theorem dX8_landOf_90 : q_j cX8_landOf 90 93 95 (fun o => .ifCond .eq o) := ⟨5, by decide +kernel, rfl, rfl⟩
theorem dX8_landOf_93 : q_d cX8_landOf 93 94 (.iload_n 2) 1 := ⟨by decide +kernel, rfl⟩
theorem dX8_landOf_94 : q_d cX8_landOf 94 95 (.ireturn) 1 := ⟨by decide +kernel, rfl⟩
theorem dX8_landOf_95 : q_d cX8_landOf 95 98 (.iinc 2 1) 3 := ⟨by decide +kernel, rfl⟩
theorem dX8_landOf_98 : q_j cX8_landOf 98 101 2 (fun o => .goto o) := ⟨(-96), by decide +kernel, rfl, rfl⟩
theorem dX8_landOf_101 : q_d cX8_landOf 101 102 (.iconst (-1)) 1 := ⟨by decide +kernel, rfl⟩
theorem dX8_landOf_102 : q_d cX8_landOf 102 103 (.ireturn) 1 := ⟨by decide +kernel, rfl⟩
theorem dX8_landHere_0 : q_d cX8_landHere 0 1 (.aload_n 0) 1 := ⟨by decide +kernel, rfl⟩
theorem dX8_landHere_1 : q_d cX8_landHere 1 4 (.invokevirtual 179) 3 := ⟨by decide +kernel, rfl⟩
theorem dX8_landHere_4 : q_d cX8_landHere 4 5 (.istore_n 1) 1 := ⟨by decide +kernel, rfl⟩
theorem dX8_landHere_5 : q_d cX8_landHere 5 6 (.aload_n 0) 1 := ⟨by decide +kernel, rfl⟩
theorem dX8_landHere_6 : q_d cX8_landHere 6 9 (.invokevirtual 95) 3 := ⟨by decide +kernel, rfl⟩
theorem dX8_landHere_9 : q_j cX8_landHere 9 12 20 (fun o => .ifCond .eq o) := ⟨11, by decide +kernel, rfl, rfl⟩
theorem dX8_landHere_12 : q_d cX8_landHere 12 13 (.aload_n 0) 1 := ⟨by decide +kernel, rfl⟩
theorem dX8_landHere_13 : q_d cX8_landHere 13 14 (.iload_n 1) 1 := ⟨by decide +kernel, rfl⟩
theorem dX8_landHere_14 : q_d cX8_landHere 14 17 (.invokevirtual 182) 3 := ⟨by decide +kernel, rfl⟩
theorem dX8_landHere_17 : q_j cX8_landHere 17 20 21 (fun o => .goto o) := ⟨4, by decide +kernel, rfl, rfl⟩
theorem dX8_landHere_20 : q_d cX8_landHere 20 21 (.iconst (-1)) 1 := ⟨by decide +kernel, rfl⟩
theorem dX8_landHere_21 : q_d cX8_landHere 21 22 (.istore_n 2) 1 := ⟨by decide +kernel, rfl⟩
theorem dX8_landHere_22 : q_d cX8_landHere 22 23 (.aload_n 0) 1 := ⟨by decide +kernel, rfl⟩
theorem dX8_landHere_23 : q_d cX8_landHere 23 26 (.invokevirtual 95) 3 := ⟨by decide +kernel, rfl⟩
theorem dX8_landHere_26 : q_j cX8_landHere 26 29 43 (fun o => .ifCond .eq o) := ⟨17, by decide +kernel, rfl, rfl⟩
theorem dX8_landHere_29 : q_d cX8_landHere 29 30 (.iload_n 2) 1 := ⟨by decide +kernel, rfl⟩
theorem dX8_landHere_30 : q_d cX8_landHere 30 31 (.iconst (-1)) 1 := ⟨by decide +kernel, rfl⟩
theorem dX8_landHere_31 : q_j cX8_landHere 31 34 43 (fun o => .if_icmp .ne o) := ⟨12, by decide +kernel, rfl, rfl⟩
theorem dX8_landHere_34 : q_d cX8_landHere 34 35 (.aload_n 0) 1 := ⟨by decide +kernel, rfl⟩
theorem dX8_landHere_35 : q_d cX8_landHere 35 36 (.iconst 3) 1 := ⟨by decide +kernel, rfl⟩
theorem dX8_landHere_36 : q_d cX8_landHere 36 37 (.aload_n 0) 1 := ⟨by decide +kernel, rfl⟩
theorem dX8_landHere_37 : q_d cX8_landHere 37 40 (.getfield 65) 3 := ⟨by decide +kernel, rfl⟩
theorem dX8_landHere_40 : q_d cX8_landHere 40 43 (.invokevirtual 106) 3 := ⟨by decide +kernel, rfl⟩
theorem dX8_landHere_43 : q_d cX8_landHere 43 44 (.aload_n 0) 1 := ⟨by decide +kernel, rfl⟩
theorem dX8_landHere_44 : q_d cX8_landHere 44 45 (.dup) 1 := ⟨by decide +kernel, rfl⟩
theorem dX8_landHere_45 : q_d cX8_landHere 45 48 (.getfield 65) 3 := ⟨by decide +kernel, rfl⟩
theorem dX8_landHere_48 : q_d cX8_landHere 48 49 (.iload_n 1) 1 := ⟨by decide +kernel, rfl⟩
theorem dX8_landHere_49 : q_d cX8_landHere 49 50 (.iadd) 1 := ⟨by decide +kernel, rfl⟩
theorem dX8_landHere_50 : q_d cX8_landHere 50 53 (.putfield 65) 3 := ⟨by decide +kernel, rfl⟩
theorem dX8_landHere_53 : q_d cX8_landHere 53 54 (.iload_n 2) 1 := ⟨by decide +kernel, rfl⟩
theorem dX8_landHere_54 : q_d cX8_landHere 54 55 (.ireturn) 1 := ⟨by decide +kernel, rfl⟩
theorem dX8_readsLand_0 : q_d cX8_readsLand 0 1 (.aload_n 0) 1 := ⟨by decide +kernel, rfl⟩
theorem dX8_readsLand_1 : q_d cX8_readsLand 1 4 (.getfield 24) 3 := ⟨by decide +kernel, rfl⟩
theorem dX8_readsLand_4 : q_d cX8_readsLand 4 5 (.iconst 0) 1 := ⟨by decide +kernel, rfl⟩
theorem dX8_readsLand_5 : q_d cX8_readsLand 5 6 (.laload) 1 := ⟨by decide +kernel, rfl⟩
theorem dX8_readsLand_6 : q_d cX8_readsLand 6 9 (.ldc2_w 185) 3 := ⟨by decide +kernel, rfl⟩
theorem dX8_readsLand_9 : q_d cX8_readsLand 9 10 (.lcmp) 1 := ⟨by decide +kernel, rfl⟩
theorem dX8_readsLand_10 : q_j cX8_readsLand 10 13 19 (fun o => .ifCond .ne o) := ⟨9, by decide +kernel, rfl, rfl⟩
theorem dX8_readsLand_13 : q_d cX8_readsLand 13 14 (.aload_n 0) 1 := ⟨by decide +kernel, rfl⟩
theorem dX8_readsLand_14 : q_d cX8_readsLand 14 15 (.iconst 4) 1 := ⟨by decide +kernel, rfl⟩
theorem dX8_readsLand_15 : q_d cX8_readsLand 15 16 (.iload_n 1) 1 := ⟨by decide +kernel, rfl⟩
theorem dX8_readsLand_16 : q_d cX8_readsLand 16 19 (.invokevirtual 106) 3 := ⟨by decide +kernel, rfl⟩
theorem dX8_readsLand_19 : q_d cX8_readsLand 19 20 (.aload_n 0) 1 := ⟨by decide +kernel, rfl⟩
theorem dX8_readsLand_20 : q_d cX8_readsLand 20 23 (.invokevirtual 179) 3 := ⟨by decide +kernel, rfl⟩
theorem dX8_readsLand_23 : q_d cX8_readsLand 23 24 (.istore_n 2) 1 := ⟨by decide +kernel, rfl⟩
theorem dX8_readsLand_24 : q_d cX8_readsLand 24 25 (.aload_n 0) 1 := ⟨by decide +kernel, rfl⟩
theorem dX8_readsLand_25 : q_d cX8_readsLand 25 28 (.getfield 24) 3 := ⟨by decide +kernel, rfl⟩
theorem dX8_readsLand_28 : q_d cX8_readsLand 28 29 (.iconst 0) 1 := ⟨by decide +kernel, rfl⟩
theorem dX8_readsLand_29 : q_d cX8_readsLand 29 30 (.laload) 1 := ⟨by decide +kernel, rfl⟩
theorem dX8_readsLand_30 : q_d cX8_readsLand 30 31 (.l2i) 1 := ⟨by decide +kernel, rfl⟩
theorem dX8_readsLand_31 : q_d cX8_readsLand 31 32 (.istore_n 3) 1 := ⟨by decide +kernel, rfl⟩
theorem dX8_readsLand_32 : q_d cX8_readsLand 32 33 (.aload_n 0) 1 := ⟨by decide +kernel, rfl⟩
theorem dX8_readsLand_33 : q_d cX8_readsLand 33 36 (.invokevirtual 95) 3 := ⟨by decide +kernel, rfl⟩
theorem dX8_readsLand_36 : q_j cX8_readsLand 36 39 57 (fun o => .ifCond .eq o) := ⟨21, by decide +kernel, rfl, rfl⟩
theorem dX8_readsLand_39 : q_d cX8_readsLand 39 40 (.aload_n 0) 1 := ⟨by decide +kernel, rfl⟩
theorem dX8_readsLand_40 : q_d cX8_readsLand 40 41 (.iload_n 2) 1 := ⟨by decide +kernel, rfl⟩
theorem dX8_readsLand_41 : q_d cX8_readsLand 41 44 (.invokevirtual 182) 3 := ⟨by decide +kernel, rfl⟩
theorem dX8_readsLand_44 : q_d cX8_readsLand 44 45 (.iconst (-1)) 1 := ⟨by decide +kernel, rfl⟩
theorem dX8_readsLand_45 : q_j cX8_readsLand 45 48 57 (fun o => .if_icmp .eq o) := ⟨12, by decide +kernel, rfl, rfl⟩
theorem dX8_readsLand_48 : q_d cX8_readsLand 48 49 (.aload_n 0) 1 := ⟨by decide +kernel, rfl⟩
theorem dX8_readsLand_49 : q_d cX8_readsLand 49 50 (.iconst 3) 1 := ⟨by decide +kernel, rfl⟩
theorem dX8_readsLand_50 : q_d cX8_readsLand 50 51 (.aload_n 0) 1 := ⟨by decide +kernel, rfl⟩
theorem dX8_readsLand_51 : q_d cX8_readsLand 51 54 (.getfield 65) 3 := ⟨by decide +kernel, rfl⟩
theorem dX8_readsLand_54 : q_d cX8_readsLand 54 57 (.invokevirtual 106) 3 := ⟨by decide +kernel, rfl⟩
theorem dX8_readsLand_57 : q_d cX8_readsLand 57 58 (.aload_n 0) 1 := ⟨by decide +kernel, rfl⟩
theorem dX8_readsLand_58 : q_d cX8_readsLand 58 61 (.invokevirtual 95) 3 := ⟨by decide +kernel, rfl⟩
theorem dX8_readsLand_61 : q_j cX8_readsLand 61 64 65 (fun o => .ifCond .ne o) := ⟨4, by decide +kernel, rfl, rfl⟩
theorem dX8_readsLand_64 : q_d cX8_readsLand 64 65 (.return_) 1 := ⟨by decide +kernel, rfl⟩
theorem dX8_readsLand_65 : q_d cX8_readsLand 65 66 (.iconst 0) 1 := ⟨by decide +kernel, rfl⟩
theorem dX8_readsLand_66 : q_d cX8_readsLand 66 68 (.istore 4) 2 := ⟨by decide +kernel, rfl⟩
theorem dX8_readsLand_68 : q_d cX8_readsLand 68 70 (.iload 4) 2 := ⟨by decide +kernel, rfl⟩
theorem dX8_readsLand_70 : q_d cX8_readsLand 70 71 (.iload_n 2) 1 := ⟨by decide +kernel, rfl⟩
theorem dX8_readsLand_71 : q_j cX8_readsLand 71 74 103 (fun o => .if_icmp .ge o) := ⟨32, by decide +kernel, rfl, rfl⟩
theorem dX8_readsLand_74 : q_d cX8_readsLand 74 75 (.aload_n 0) 1 := ⟨by decide +kernel, rfl⟩
theorem dX8_readsLand_75 : q_d cX8_readsLand 75 78 (.getfield 24) 3 := ⟨by decide +kernel, rfl⟩
theorem dX8_readsLand_78 : q_d cX8_readsLand 78 79 (.iload_n 3) 1 := ⟨by decide +kernel, rfl⟩
theorem dX8_readsLand_79 : q_d cX8_readsLand 79 81 (.iload 4) 2 := ⟨by decide +kernel, rfl⟩
theorem dX8_readsLand_81 : q_d cX8_readsLand 81 84 (.invokestatic 176) 3 := ⟨by decide +kernel, rfl⟩
theorem dX8_readsLand_84 : q_d cX8_readsLand 84 85 (.aload_n 0) 1 := ⟨by decide +kernel, rfl⟩
theorem dX8_readsLand_85 : q_d cX8_readsLand 85 86 (.aload_n 0) 1 := ⟨by decide +kernel, rfl⟩
theorem dX8_readsLand_86 : q_d cX8_readsLand 86 89 (.getfield 65) 3 := ⟨by decide +kernel, rfl⟩
theorem dX8_readsLand_89 : q_d cX8_readsLand 89 91 (.iload 4) 2 := ⟨by decide +kernel, rfl⟩
theorem dX8_readsLand_91 : q_d cX8_readsLand 91 92 (.iadd) 1 := ⟨by decide +kernel, rfl⟩
theorem dX8_readsLand_92 : q_d cX8_readsLand 92 95 (.invokevirtual 68) 3 := ⟨by decide +kernel, rfl⟩
theorem dX8_readsLand_95 : q_d cX8_readsLand 95 96 (.i2l) 1 := ⟨by decide +kernel, rfl⟩
theorem dX8_readsLand_96 : q_d cX8_readsLand 96 97 (.lastore) 1 := ⟨by decide +kernel, rfl⟩
theorem dX8_readsLand_97 : q_d cX8_readsLand 97 100 (.iinc 4 1) 3 := ⟨by decide +kernel, rfl⟩
theorem dX8_readsLand_100 : q_j cX8_readsLand 100 103 68 (fun o => .goto o) := ⟨(-32), by decide +kernel, rfl, rfl⟩
theorem dX8_readsLand_103 : q_d cX8_readsLand 103 104 (.aload_n 0) 1 := ⟨by decide +kernel, rfl⟩
theorem dX8_readsLand_104 : q_d cX8_readsLand 104 107 (.getfield 24) 3 := ⟨by decide +kernel, rfl⟩
theorem dX8_readsLand_107 : q_d cX8_readsLand 107 108 (.iload_n 3) 1 := ⟨by decide +kernel, rfl⟩
theorem dX8_readsLand_108 : q_d cX8_readsLand 108 110 (.bipush 6) 2 := ⟨by decide +kernel, rfl⟩
theorem dX8_readsLand_110 : q_d cX8_readsLand 110 113 (.invokestatic 176) 3 := ⟨by decide +kernel, rfl⟩
theorem dX8_readsLand_113 : q_d cX8_readsLand 113 114 (.iload_n 2) 1 := ⟨by decide +kernel, rfl⟩
theorem dX8_readsLand_114 : q_d cX8_readsLand 114 115 (.i2l) 1 := ⟨by decide +kernel, rfl⟩
theorem dX8_readsLand_115 : q_d cX8_readsLand 115 116 (.lastore) 1 := ⟨by decide +kernel, rfl⟩
theorem dX8_readsLand_116 : q_d cX8_readsLand 116 117 (.aload_n 0) 1 := ⟨by decide +kernel, rfl⟩
theorem dX8_readsLand_117 : q_d cX8_readsLand 117 118 (.dup) 1 := ⟨by decide +kernel, rfl⟩
theorem dX8_readsLand_118 : q_d cX8_readsLand 118 121 (.getfield 65) 3 := ⟨by decide +kernel, rfl⟩
theorem dX8_readsLand_121 : q_d cX8_readsLand 121 122 (.iload_n 2) 1 := ⟨by decide +kernel, rfl⟩
theorem dX8_readsLand_122 : q_d cX8_readsLand 122 123 (.iadd) 1 := ⟨by decide +kernel, rfl⟩
theorem dX8_readsLand_123 : q_d cX8_readsLand 123 126 (.putfield 65) 3 := ⟨by decide +kernel, rfl⟩
theorem dX8_readsLand_126 : q_d cX8_readsLand 126 127 (.aload_n 0) 1 := ⟨by decide +kernel, rfl⟩
theorem dX8_readsLand_127 : q_d cX8_readsLand 127 130 (.getfield 24) 3 := ⟨by decide +kernel, rfl⟩
theorem dX8_readsLand_130 : q_d cX8_readsLand 130 131 (.iload_n 3) 1 := ⟨by decide +kernel, rfl⟩
theorem dX8_readsLand_131 : q_d cX8_readsLand 131 133 (.bipush 7) 2 := ⟨by decide +kernel, rfl⟩
theorem dX8_readsLand_133 : q_d cX8_readsLand 133 136 (.invokestatic 176) 3 := ⟨by decide +kernel, rfl⟩
theorem dX8_readsLand_136 : q_d cX8_readsLand 136 137 (.aload_n 0) 1 := ⟨by decide +kernel, rfl⟩
theorem dX8_readsLand_137 : q_d cX8_readsLand 137 138 (.iconst 0) 1 := ⟨by decide +kernel, rfl⟩
theorem dX8_readsLand_138 : q_d cX8_readsLand 138 140 (.bipush 11) 2 := ⟨by decide +kernel, rfl⟩
theorem dX8_readsLand_140 : q_d cX8_readsLand 140 143 (.invokevirtual 187) 3 := ⟨by decide +kernel, rfl⟩
theorem dX8_readsLand_143 : q_d cX8_readsLand 143 144 (.i2l) 1 := ⟨by decide +kernel, rfl⟩
theorem dX8_readsLand_144 : q_d cX8_readsLand 144 145 (.lastore) 1 := ⟨by decide +kernel, rfl⟩
theorem dX8_readsLand_145 : q_d cX8_readsLand 145 146 (.aload_n 0) 1 := ⟨by decide +kernel, rfl⟩
theorem dX8_readsLand_146 : q_d cX8_readsLand 146 149 (.getfield 24) 3 := ⟨by decide +kernel, rfl⟩
theorem dX8_readsLand_149 : q_d cX8_readsLand 149 150 (.iload_n 3) 1 := ⟨by decide +kernel, rfl⟩
theorem dX8_readsLand_150 : q_d cX8_readsLand 150 152 (.bipush 8) 2 := ⟨by decide +kernel, rfl⟩
theorem dX8_readsLand_152 : q_d cX8_readsLand 152 155 (.invokestatic 176) 3 := ⟨by decide +kernel, rfl⟩
theorem dX8_readsLand_155 : q_d cX8_readsLand 155 156 (.aload_n 0) 1 := ⟨by decide +kernel, rfl⟩
theorem dX8_readsLand_156 : q_d cX8_readsLand 156 157 (.iconst 0) 1 := ⟨by decide +kernel, rfl⟩
theorem dX8_readsLand_157 : q_d cX8_readsLand 157 160 (.sipush 9999) 3 := ⟨by decide +kernel, rfl⟩
theorem dX8_readsLand_160 : q_d cX8_readsLand 160 163 (.invokevirtual 187) 3 := ⟨by decide +kernel, rfl⟩
theorem dX8_readsLand_163 : q_d cX8_readsLand 163 164 (.i2l) 1 := ⟨by decide +kernel, rfl⟩
theorem dX8_readsLand_164 : q_d cX8_readsLand 164 165 (.lastore) 1 := ⟨by decide +kernel, rfl⟩
theorem dX8_readsLand_165 : q_d cX8_readsLand 165 166 (.aload_n 0) 1 := ⟨by decide +kernel, rfl⟩
theorem dX8_readsLand_166 : q_d cX8_readsLand 166 169 (.getfield 24) 3 := ⟨by decide +kernel, rfl⟩
theorem dX8_readsLand_169 : q_d cX8_readsLand 169 170 (.iload_n 3) 1 := ⟨by decide +kernel, rfl⟩
theorem dX8_readsLand_170 : q_d cX8_readsLand 170 172 (.bipush 9) 2 := ⟨by decide +kernel, rfl⟩
theorem dX8_readsLand_172 : q_d cX8_readsLand 172 175 (.invokestatic 176) 3 := ⟨by decide +kernel, rfl⟩
theorem dX8_readsLand_175 : q_d cX8_readsLand 175 176 (.aload_n 0) 1 := ⟨by decide +kernel, rfl⟩
theorem dX8_readsLand_176 : q_d cX8_readsLand 176 177 (.iconst 0) 1 := ⟨by decide +kernel, rfl⟩
theorem dX8_readsLand_177 : q_d cX8_readsLand 177 180 (.sipush 999) 3 := ⟨by decide +kernel, rfl⟩
theorem dX8_readsLand_180 : q_d cX8_readsLand 180 183 (.invokevirtual 187) 3 := ⟨by decide +kernel, rfl⟩
theorem dX8_readsLand_183 : q_d cX8_readsLand 183 184 (.i2l) 1 := ⟨by decide +kernel, rfl⟩
theorem dX8_readsLand_184 : q_d cX8_readsLand 184 185 (.lastore) 1 := ⟨by decide +kernel, rfl⟩
theorem dX8_readsLand_185 : q_d cX8_readsLand 185 186 (.aload_n 0) 1 := ⟨by decide +kernel, rfl⟩
theorem dX8_readsLand_186 : q_d cX8_readsLand 186 189 (.getfield 24) 3 := ⟨by decide +kernel, rfl⟩
theorem dX8_readsLand_189 : q_d cX8_readsLand 189 190 (.iload_n 3) 1 := ⟨by decide +kernel, rfl⟩
theorem dX8_readsLand_190 : q_d cX8_readsLand 190 192 (.bipush 10) 2 := ⟨by decide +kernel, rfl⟩
theorem dX8_readsLand_192 : q_d cX8_readsLand 192 195 (.invokestatic 176) 3 := ⟨by decide +kernel, rfl⟩
theorem dX8_readsLand_195 : q_d cX8_readsLand 195 196 (.aload_n 0) 1 := ⟨by decide +kernel, rfl⟩
theorem dX8_readsLand_196 : q_d cX8_readsLand 196 197 (.iconst 1) 1 := ⟨by decide +kernel, rfl⟩
theorem dX8_readsLand_197 : q_d cX8_readsLand 197 199 (.bipush 50) 2 := ⟨by decide +kernel, rfl⟩
theorem dX8_readsLand_199 : q_d cX8_readsLand 199 202 (.invokevirtual 187) 3 := ⟨by decide +kernel, rfl⟩
theorem dX8_readsLand_202 : q_d cX8_readsLand 202 203 (.i2l) 1 := ⟨by decide +kernel, rfl⟩
theorem dX8_readsLand_203 : q_d cX8_readsLand 203 204 (.lastore) 1 := ⟨by decide +kernel, rfl⟩
theorem dX8_readsLand_204 : q_d cX8_readsLand 204 205 (.aload_n 0) 1 := ⟨by decide +kernel, rfl⟩
theorem dX8_readsLand_205 : q_d cX8_readsLand 205 208 (.getfield 24) 3 := ⟨by decide +kernel, rfl⟩
theorem dX8_readsLand_208 : q_d cX8_readsLand 208 209 (.iconst 0) 1 := ⟨by decide +kernel, rfl⟩
theorem dX8_readsLand_209 : q_d cX8_readsLand 209 210 (.dup2) 1 := ⟨by decide +kernel, rfl⟩
theorem dX8_readsLand_210 : q_d cX8_readsLand 210 211 (.laload) 1 := ⟨by decide +kernel, rfl⟩
theorem dX8_readsLand_211 : q_d cX8_readsLand 211 212 (.lconst 1) 1 := ⟨by decide +kernel, rfl⟩
theorem dX8_readsLand_212 : q_d cX8_readsLand 212 213 (.ladd) 1 := ⟨by decide +kernel, rfl⟩
theorem dX8_readsLand_213 : q_d cX8_readsLand 213 214 (.lastore) 1 := ⟨by decide +kernel, rfl⟩
theorem dX8_readsLand_214 : q_d cX8_readsLand 214 215 (.return_) 1 := ⟨by decide +kernel, rfl⟩
theorem dX8_tells_0 : q_d cX8_tells 0 1 (.aload_n 0) 1 := ⟨by decide +kernel, rfl⟩
theorem dX8_tells_1 : q_d cX8_tells 1 4 (.invokevirtual 95) 3 := ⟨by decide +kernel, rfl⟩
theorem dX8_tells_4 : q_j cX8_tells 4 7 8 (fun o => .ifCond .ne o) := ⟨4, by decide +kernel, rfl, rfl⟩
theorem dX8_tells_7 : q_d cX8_tells 7 8 (.return_) 1 := ⟨by decide +kernel, rfl⟩
theorem dX8_tells_8 : q_d cX8_tells 8 9 (.aload_n 0) 1 := ⟨by decide +kernel, rfl⟩
theorem dX8_tells_9 : q_d cX8_tells 9 12 (.getfield 24) 3 := ⟨by decide +kernel, rfl⟩
theorem dX8_tells_12 : q_d cX8_tells 12 15 (.sipush 139) 3 := ⟨by decide +kernel, rfl⟩
theorem dX8_tells_15 : q_d cX8_tells 15 16 (.aload_n 0) 1 := ⟨by decide +kernel, rfl⟩
theorem dX8_tells_16 : q_d cX8_tells 16 19 (.getfield 190) 3 := ⟨by decide +kernel, rfl⟩
theorem dX8_tells_19 : q_d cX8_tells 19 20 (.iadd) 1 := ⟨by decide +kernel, rfl⟩
theorem dX8_tells_20 : q_d cX8_tells 20 21 (.iload_n 1) 1 := ⟨by decide +kernel, rfl⟩
theorem dX8_tells_21 : q_d cX8_tells 21 22 (.i2l) 1 := ⟨by decide +kernel, rfl⟩
theorem dX8_tells_22 : q_d cX8_tells 22 23 (.lastore) 1 := ⟨by decide +kernel, rfl⟩
theorem dX8_tells_23 : q_d cX8_tells 23 24 (.aload_n 0) 1 := ⟨by decide +kernel, rfl⟩
theorem dX8_tells_24 : q_d cX8_tells 24 25 (.dup) 1 := ⟨by decide +kernel, rfl⟩
theorem dX8_tells_25 : q_d cX8_tells 25 28 (.getfield 190) 3 := ⟨by decide +kernel, rfl⟩
theorem dX8_tells_28 : q_d cX8_tells 28 29 (.iconst 1) 1 := ⟨by decide +kernel, rfl⟩
theorem dX8_tells_29 : q_d cX8_tells 29 30 (.iadd) 1 := ⟨by decide +kernel, rfl⟩
theorem dX8_tells_30 : q_d cX8_tells 30 33 (.putfield 190) 3 := ⟨by decide +kernel, rfl⟩
theorem dX8_tells_33 : q_d cX8_tells 33 34 (.return_) 1 := ⟨by decide +kernel, rfl⟩
theorem dX8_opens_0 : q_d cX8_opens 0 1 (.aload_n 0) 1 := ⟨by decide +kernel, rfl⟩
theorem dX8_opens_1 : q_d cX8_opens 1 4 (.invokevirtual 95) 3 := ⟨by decide +kernel, rfl⟩
theorem dX8_opens_4 : q_j cX8_opens 4 7 21 (fun o => .ifCond .eq o) := ⟨17, by decide +kernel, rfl, rfl⟩
theorem dX8_opens_7 : q_d cX8_opens 7 8 (.aload_n 0) 1 := ⟨by decide +kernel, rfl⟩
theorem dX8_opens_8 : q_d cX8_opens 8 11 (.getfield 193) 3 := ⟨by decide +kernel, rfl⟩
theorem dX8_opens_11 : q_d cX8_opens 11 12 (.iconst 3) 1 := ⟨by decide +kernel, rfl⟩
theorem dX8_opens_12 : q_j cX8_opens 12 15 21 (fun o => .if_icmp .ne o) := ⟨9, by decide +kernel, rfl, rfl⟩
theorem dX8_opens_15 : q_d cX8_opens 15 16 (.aload_n 0) 1 := ⟨by decide +kernel, rfl⟩
theorem dX8_opens_16 : q_d cX8_opens 16 17 (.iconst 5) 1 := ⟨by decide +kernel, rfl⟩
theorem dX8_opens_17 : q_d cX8_opens 17 18 (.iload_n 1) 1 := ⟨by decide +kernel, rfl⟩
theorem dX8_opens_18 : q_d cX8_opens 18 21 (.invokevirtual 106) 3 := ⟨by decide +kernel, rfl⟩
theorem dX8_opens_21 : q_d cX8_opens 21 22 (.aload_n 0) 1 := ⟨by decide +kernel, rfl⟩
theorem dX8_opens_22 : q_d cX8_opens 22 23 (.dup) 1 := ⟨by decide +kernel, rfl⟩
theorem dX8_opens_23 : q_d cX8_opens 23 26 (.getfield 193) 3 := ⟨by decide +kernel, rfl⟩
theorem dX8_opens_26 : q_d cX8_opens 26 27 (.iconst 1) 1 := ⟨by decide +kernel, rfl⟩
theorem dX8_opens_27 : q_d cX8_opens 27 28 (.iadd) 1 := ⟨by decide +kernel, rfl⟩
theorem dX8_opens_28 : q_d cX8_opens 28 31 (.putfield 193) 3 := ⟨by decide +kernel, rfl⟩
theorem dX8_opens_31 : q_d cX8_opens 31 32 (.return_) 1 := ⟨by decide +kernel, rfl⟩
theorem dX8_factor_0 : q_d cX8_factor 0 1 (.aload_n 0) 1 := ⟨by decide +kernel, rfl⟩
theorem dX8_factor_1 : q_d cX8_factor 1 4 (.invokevirtual 95) 3 := ⟨by decide +kernel, rfl⟩
theorem dX8_factor_4 : q_j cX8_factor 4 7 8 (fun o => .ifCond .ne o) := ⟨4, by decide +kernel, rfl, rfl⟩
theorem dX8_factor_7 : q_d cX8_factor 7 8 (.return_) 1 := ⟨by decide +kernel, rfl⟩
theorem dX8_factor_8 : q_d cX8_factor 8 9 (.aload_n 0) 1 := ⟨by decide +kernel, rfl⟩
theorem dX8_factor_9 : q_d cX8_factor 9 12 (.invokevirtual 78) 3 := ⟨by decide +kernel, rfl⟩
theorem dX8_factor_12 : q_d cX8_factor 12 13 (.istore_n 1) 1 := ⟨by decide +kernel, rfl⟩
theorem dX8_factor_13 : q_d cX8_factor 13 14 (.aload_n 0) 1 := ⟨by decide +kernel, rfl⟩
theorem dX8_factor_14 : q_d cX8_factor 14 17 (.getfield 65) 3 := ⟨by decide +kernel, rfl⟩
theorem dX8_factor_17 : q_d cX8_factor 17 18 (.istore_n 2) 1 := ⟨by decide +kernel, rfl⟩
theorem dX8_factor_18 : q_d cX8_factor 18 19 (.iload_n 1) 1 := ⟨by decide +kernel, rfl⟩
theorem dX8_factor_19 : q_d cX8_factor 19 22 (.invokestatic 110) 3 := ⟨by decide +kernel, rfl⟩
theorem dX8_factor_22 : q_j cX8_factor 22 25 44 (fun o => .ifCond .eq o) := ⟨22, by decide +kernel, rfl, rfl⟩
theorem dX8_factor_25 : q_d cX8_factor 25 26 (.aload_n 0) 1 := ⟨by decide +kernel, rfl⟩
theorem dX8_factor_26 : q_d cX8_factor 26 27 (.iconst 0) 1 := ⟨by decide +kernel, rfl⟩
theorem dX8_factor_27 : q_d cX8_factor 27 29 (.ldc 196) 2 := ⟨by decide +kernel, rfl⟩
theorem dX8_factor_29 : q_d cX8_factor 29 32 (.invokevirtual 187) 3 := ⟨by decide +kernel, rfl⟩
theorem dX8_factor_32 : q_d cX8_factor 32 33 (.istore_n 3) 1 := ⟨by decide +kernel, rfl⟩
theorem dX8_factor_33 : q_d cX8_factor 33 34 (.aload_n 0) 1 := ⟨by decide +kernel, rfl⟩
theorem dX8_factor_34 : q_d cX8_factor 34 35 (.iconst 1) 1 := ⟨by decide +kernel, rfl⟩
theorem dX8_factor_35 : q_d cX8_factor 35 38 (.invokevirtual 197) 3 := ⟨by decide +kernel, rfl⟩
theorem dX8_factor_38 : q_d cX8_factor 38 39 (.aload_n 0) 1 := ⟨by decide +kernel, rfl⟩
theorem dX8_factor_39 : q_d cX8_factor 39 40 (.iload_n 3) 1 := ⟨by decide +kernel, rfl⟩
theorem dX8_factor_40 : q_d cX8_factor 40 43 (.invokevirtual 197) 3 := ⟨by decide +kernel, rfl⟩
theorem dX8_factor_43 : q_d cX8_factor 43 44 (.return_) 1 := ⟨by decide +kernel, rfl⟩
theorem dX8_factor_44 : q_d cX8_factor 44 45 (.iconst 0) 1 := ⟨by decide +kernel, rfl⟩
theorem dX8_factor_45 : q_d cX8_factor 45 46 (.istore_n 3) 1 := ⟨by decide +kernel, rfl⟩
theorem dX8_factor_46 : q_d cX8_factor 46 47 (.iload_n 3) 1 := ⟨by decide +kernel, rfl⟩
theorem dX8_factor_47 : q_d cX8_factor 47 48 (.iconst 4) 1 := ⟨by decide +kernel, rfl⟩
theorem dX8_factor_48 : q_j cX8_factor 48 51 82 (fun o => .if_icmp .ge o) := ⟨34, by decide +kernel, rfl, rfl⟩
theorem dX8_factor_51 : q_d cX8_factor 51 52 (.aload_n 0) 1 := ⟨by decide +kernel, rfl⟩
theorem dX8_factor_52 : q_d cX8_factor 52 54 (.bipush 8) 2 := ⟨by decide +kernel, rfl⟩
theorem dX8_factor_54 : q_d cX8_factor 54 55 (.iload_n 3) 1 := ⟨by decide +kernel, rfl⟩
theorem dX8_factor_55 : q_d cX8_factor 55 56 (.iadd) 1 := ⟨by decide +kernel, rfl⟩
theorem dX8_factor_56 : q_d cX8_factor 56 59 (.invokestatic 172) 3 := ⟨by decide +kernel, rfl⟩
theorem dX8_factor_59 : q_d cX8_factor 59 62 (.invokevirtual 103) 3 := ⟨by decide +kernel, rfl⟩
theorem dX8_factor_62 : q_j cX8_factor 62 65 68 (fun o => .ifCond .ne o) := ⟨6, by decide +kernel, rfl, rfl⟩
theorem dX8_factor_65 : q_j cX8_factor 65 68 76 (fun o => .goto o) := ⟨11, by decide +kernel, rfl, rfl⟩
theorem dX8_factor_68 : q_d cX8_factor 68 69 (.aload_n 0) 1 := ⟨by decide +kernel, rfl⟩
theorem dX8_factor_69 : q_d cX8_factor 69 70 (.iconst 2) 1 := ⟨by decide +kernel, rfl⟩
theorem dX8_factor_70 : q_d cX8_factor 70 71 (.iload_n 3) 1 := ⟨by decide +kernel, rfl⟩
theorem dX8_factor_71 : q_d cX8_factor 71 72 (.iadd) 1 := ⟨by decide +kernel, rfl⟩
theorem dX8_factor_72 : q_d cX8_factor 72 75 (.invokevirtual 197) 3 := ⟨by decide +kernel, rfl⟩
theorem dX8_factor_75 : q_d cX8_factor 75 76 (.return_) 1 := ⟨by decide +kernel, rfl⟩
theorem dX8_factor_76 : q_d cX8_factor 76 79 (.iinc 3 1) 3 := ⟨by decide +kernel, rfl⟩
theorem dX8_factor_79 : q_j cX8_factor 79 82 46 (fun o => .goto o) := ⟨(-33), by decide +kernel, rfl, rfl⟩
theorem dX8_factor_82 : q_d cX8_factor 82 83 (.iload_n 1) 1 := ⟨by decide +kernel, rfl⟩
theorem dX8_factor_83 : q_d cX8_factor 83 85 (.bipush 40) 2 := ⟨by decide +kernel, rfl⟩
