theorem dX3_hasNext_0 : decode cX3_hasNext 0 = .ok (.aload_n 0, 1) := by decide +kernel
theorem dX3_hasNext_1 : decode cX3_hasNext 1 = .ok (.getfield 16, 3) := by decide +kernel
theorem dX3_hasNext_4 : decode cX3_hasNext 4 = .ok (.ifCond .eq 7, 3) := by decide +kernel
theorem dX3_hasNext_7 : decode cX3_hasNext 7 = .ok (.iconst 1, 1) := by decide +kernel
theorem dX3_hasNext_8 : decode cX3_hasNext 8 = .ok (.goto 4, 3) := by decide +kernel
theorem dX3_hasNext_11 : decode cX3_hasNext 11 = .ok (.iconst 0, 1) := by decide +kernel
theorem dX3_hasNext_12 : decode cX3_hasNext 12 = .ok (.ireturn, 1) := by decide +kernel
theorem dX3_takeAtOnce_0 : decode cX3_takeAtOnce 0 = .ok (.aload_n 0, 1) := by decide +kernel
theorem dX3_takeAtOnce_1 : decode cX3_takeAtOnce 1 = .ok (.iload_n 1, 1) := by decide +kernel
theorem dX3_takeAtOnce_2 : decode cX3_takeAtOnce 2 = .ok (.putfield 10, 3) := by decide +kernel
theorem dX3_takeAtOnce_5 : decode cX3_takeAtOnce 5 = .ok (.aload_n 0, 1) := by decide +kernel
theorem dX3_takeAtOnce_6 : decode cX3_takeAtOnce 6 = .ok (.iconst 0, 1) := by decide +kernel
theorem dX3_takeAtOnce_7 : decode cX3_takeAtOnce 7 = .ok (.putfield 16, 3) := by decide +kernel
theorem dX3_takeAtOnce_10 : decode cX3_takeAtOnce 10 = .ok (.aload_n 0, 1) := by decide +kernel
theorem dX3_takeAtOnce_11 : decode cX3_takeAtOnce 11 = .ok (.iconst (-1), 1) := by decide +kernel
theorem dX3_takeAtOnce_12 : decode cX3_takeAtOnce 12 = .ok (.putfield 19, 3) := by decide +kernel
theorem dX3_takeAtOnce_15 : decode cX3_takeAtOnce 15 = .ok (.return_, 1) := by decide +kernel
theorem dX3_changesAt_0 : decode cX3_changesAt 0 = .ok (.aload_n 0, 1) := by decide +kernel
theorem dX3_changesAt_1 : decode cX3_changesAt 1 = .ok (.getfield 16, 3) := by decide +kernel
theorem dX3_changesAt_4 : decode cX3_changesAt 4 = .ok (.ifCond .eq 11, 3) := by decide +kernel
theorem dX3_changesAt_7 : decode cX3_changesAt 7 = .ok (.aload_n 0, 1) := by decide +kernel
theorem dX3_changesAt_8 : decode cX3_changesAt 8 = .ok (.getfield 19, 3) := by decide +kernel
theorem dX3_changesAt_11 : decode cX3_changesAt 11 = .ok (.iload_n 1, 1) := by decide +kernel
theorem dX3_changesAt_12 : decode cX3_changesAt 12 = .ok (.if_icmp .le 5, 3) := by decide +kernel
theorem dX3_changesAt_15 : decode cX3_changesAt 15 = .ok (.iconst 0, 1) := by decide +kernel
theorem dX3_changesAt_16 : decode cX3_changesAt 16 = .ok (.ireturn, 1) := by decide +kernel
theorem dX3_changesAt_17 : decode cX3_changesAt 17 = .ok (.aload_n 0, 1) := by decide +kernel
theorem dX3_changesAt_18 : decode cX3_changesAt 18 = .ok (.aload_n 0, 1) := by decide +kernel
theorem dX3_changesAt_19 : decode cX3_changesAt 19 = .ok (.getfield 16, 3) := by decide +kernel
theorem dX3_changesAt_22 : decode cX3_changesAt 22 = .ok (.invokevirtual 22, 3) := by decide +kernel
theorem dX3_changesAt_25 : decode cX3_changesAt 25 = .ok (.iconst 1, 1) := by decide +kernel
theorem dX3_changesAt_26 : decode cX3_changesAt 26 = .ok (.ireturn, 1) := by decide +kernel
theorem dX3_copyFrom_0 : decode cX3_copyFrom 0 = .ok (.aload_n 0, 1) := by decide +kernel
theorem dX3_copyFrom_1 : decode cX3_copyFrom 1 = .ok (.aload_n 1, 1) := by decide +kernel
theorem dX3_copyFrom_2 : decode cX3_copyFrom 2 = .ok (.getfield 10, 3) := by decide +kernel
theorem dX3_copyFrom_5 : decode cX3_copyFrom 5 = .ok (.putfield 10, 3) := by decide +kernel
theorem dX3_copyFrom_8 : decode cX3_copyFrom 8 = .ok (.aload_n 0, 1) := by decide +kernel
theorem dX3_copyFrom_9 : decode cX3_copyFrom 9 = .ok (.aload_n 1, 1) := by decide +kernel
theorem dX3_copyFrom_10 : decode cX3_copyFrom 10 = .ok (.getfield 16, 3) := by decide +kernel
theorem dX3_copyFrom_13 : decode cX3_copyFrom 13 = .ok (.putfield 16, 3) := by decide +kernel
theorem dX3_copyFrom_16 : decode cX3_copyFrom 16 = .ok (.aload_n 0, 1) := by decide +kernel
theorem dX3_copyFrom_17 : decode cX3_copyFrom 17 = .ok (.aload_n 1, 1) := by decide +kernel
theorem dX3_copyFrom_18 : decode cX3_copyFrom 18 = .ok (.getfield 19, 3) := by decide +kernel
theorem dX3_copyFrom_21 : decode cX3_copyFrom 21 = .ok (.putfield 19, 3) := by decide +kernel
theorem dX3_copyFrom_24 : decode cX3_copyFrom 24 = .ok (.return_, 1) := by decide +kernel
theorem dX3_expect_0 : decode cX3_expect 0 = .ok (.aload_n 0, 1) := by decide +kernel
theorem dX3_expect_1 : decode cX3_expect 1 = .ok (.iload_n 1, 1) := by decide +kernel
theorem dX3_expect_2 : decode cX3_expect 2 = .ok (.putfield 16, 3) := by decide +kernel
theorem dX3_expect_5 : decode cX3_expect 5 = .ok (.aload_n 0, 1) := by decide +kernel
theorem dX3_expect_6 : decode cX3_expect 6 = .ok (.iload_n 2, 1) := by decide +kernel
theorem dX3_expect_7 : decode cX3_expect 7 = .ok (.putfield 19, 3) := by decide +kernel
theorem dX3_expect_10 : decode cX3_expect 10 = .ok (.return_, 1) := by decide +kernel
theorem dX3_isLike_0 : decode cX3_isLike 0 = .ok (.aload_n 0, 1) := by decide +kernel
theorem dX3_isLike_1 : decode cX3_isLike 1 = .ok (.getfield 10, 3) := by decide +kernel
theorem dX3_isLike_4 : decode cX3_isLike 4 = .ok (.aload_n 1, 1) := by decide +kernel
theorem dX3_isLike_5 : decode cX3_isLike 5 = .ok (.getfield 10, 3) := by decide +kernel
theorem dX3_isLike_8 : decode cX3_isLike 8 = .ok (.if_icmp .ne 29, 3) := by decide +kernel
theorem dX3_isLike_11 : decode cX3_isLike 11 = .ok (.aload_n 0, 1) := by decide +kernel
theorem dX3_isLike_12 : decode cX3_isLike 12 = .ok (.getfield 16, 3) := by decide +kernel
theorem dX3_isLike_15 : decode cX3_isLike 15 = .ok (.aload_n 1, 1) := by decide +kernel
theorem dX3_isLike_16 : decode cX3_isLike 16 = .ok (.getfield 16, 3) := by decide +kernel
theorem dX3_isLike_19 : decode cX3_isLike 19 = .ok (.if_icmp .ne 18, 3) := by decide +kernel
theorem dX3_isLike_22 : decode cX3_isLike 22 = .ok (.aload_n 0, 1) := by decide +kernel
theorem dX3_isLike_23 : decode cX3_isLike 23 = .ok (.getfield 19, 3) := by decide +kernel
theorem dX3_isLike_26 : decode cX3_isLike 26 = .ok (.aload_n 1, 1) := by decide +kernel
theorem dX3_isLike_27 : decode cX3_isLike 27 = .ok (.getfield 19, 3) := by decide +kernel
theorem dX3_isLike_30 : decode cX3_isLike 30 = .ok (.if_icmp .ne 7, 3) := by decide +kernel
theorem dX3_isLike_33 : decode cX3_isLike 33 = .ok (.iconst 1, 1) := by decide +kernel
theorem dX3_isLike_34 : decode cX3_isLike 34 = .ok (.goto 4, 3) := by decide +kernel
theorem dX3_isLike_37 : decode cX3_isLike 37 = .ok (.iconst 0, 1) := by decide +kernel
theorem dX3_isLike_38 : decode cX3_isLike 38 = .ok (.ireturn, 1) := by decide +kernel
theorem dX4_append_0 : decode cX4_append 0 = .ok (.aload_n 0, 1) := by decide +kernel
theorem dX4_append_1 : decode cX4_append 1 = .ok (.getfield 18, 3) := by decide +kernel
theorem dX4_append_4 : decode cX4_append 4 = .ok (.bipush 8, 2) := by decide +kernel
theorem dX4_append_6 : decode cX4_append 6 = .ok (.if_icmp .ge 33, 3) := by decide +kernel
theorem dX4_append_9 : decode cX4_append 9 = .ok (.aload_n 0, 1) := by decide +kernel
theorem dX4_append_10 : decode cX4_append 10 = .ok (.getfield 9, 3) := by decide +kernel
theorem dX4_append_13 : decode cX4_append 13 = .ok (.aload_n 0, 1) := by decide +kernel
theorem dX4_append_14 : decode cX4_append 14 = .ok (.getfield 18, 3) := by decide +kernel
theorem dX4_append_17 : decode cX4_append 17 = .ok (.iload_n 1, 1) := by decide +kernel
theorem dX4_append_18 : decode cX4_append 18 = .ok (.iastore, 1) := by decide +kernel
theorem dX4_append_19 : decode cX4_append 19 = .ok (.aload_n 0, 1) := by decide +kernel
theorem dX4_append_20 : decode cX4_append 20 = .ok (.getfield 15, 3) := by decide +kernel
theorem dX4_append_23 : decode cX4_append 23 = .ok (.aload_n 0, 1) := by decide +kernel
theorem dX4_append_24 : decode cX4_append 24 = .ok (.getfield 18, 3) := by decide +kernel
theorem dX4_append_27 : decode cX4_append 27 = .ok (.iload_n 2, 1) := by decide +kernel
theorem dX4_append_28 : decode cX4_append 28 = .ok (.iastore, 1) := by decide +kernel
theorem dX4_append_29 : decode cX4_append 29 = .ok (.aload_n 0, 1) := by decide +kernel
theorem dX4_append_30 : decode cX4_append 30 = .ok (.dup, 1) := by decide +kernel
theorem dX4_append_31 : decode cX4_append 31 = .ok (.getfield 18, 3) := by decide +kernel
theorem dX4_append_34 : decode cX4_append 34 = .ok (.iconst 1, 1) := by decide +kernel
theorem dX4_append_35 : decode cX4_append 35 = .ok (.iadd, 1) := by decide +kernel
theorem dX4_append_36 : decode cX4_append 36 = .ok (.putfield 18, 3) := by decide +kernel
theorem dX4_append_39 : decode cX4_append 39 = .ok (.return_, 1) := by decide +kernel
theorem dX4_begin_0 : decode cX4_begin 0 = .ok (.aload_n 0, 1) := by decide +kernel
theorem dX4_begin_1 : decode cX4_begin 1 = .ok (.iconst 0, 1) := by decide +kernel
theorem dX4_begin_2 : decode cX4_begin 2 = .ok (.putfield 18, 3) := by decide +kernel
theorem dX4_begin_5 : decode cX4_begin 5 = .ok (.aload_n 0, 1) := by decide +kernel
theorem dX4_begin_6 : decode cX4_begin 6 = .ok (.iconst 0, 1) := by decide +kernel
theorem dX4_begin_7 : decode cX4_begin 7 = .ok (.putfield 22, 3) := by decide +kernel
theorem dX4_begin_10 : decode cX4_begin 10 = .ok (.aload_n 0, 1) := by decide +kernel
theorem dX4_begin_11 : decode cX4_begin 11 = .ok (.iconst 1, 1) := by decide +kernel
theorem dX4_begin_12 : decode cX4_begin 12 = .ok (.putfield 25, 3) := by decide +kernel
theorem dX4_begin_15 : decode cX4_begin 15 = .ok (.aload_n 0, 1) := by decide +kernel
theorem dX4_begin_16 : decode cX4_begin 16 = .ok (.iconst 0, 1) := by decide +kernel
theorem dX4_begin_17 : decode cX4_begin 17 = .ok (.putfield 28, 3) := by decide +kernel
theorem dX4_begin_20 : decode cX4_begin 20 = .ok (.aload_n 0, 1) := by decide +kernel
theorem dX4_begin_21 : decode cX4_begin 21 = .ok (.iconst 0, 1) := by decide +kernel
theorem dX4_begin_22 : decode cX4_begin 22 = .ok (.putfield 31, 3) := by decide +kernel
theorem dX4_begin_25 : decode cX4_begin 25 = .ok (.aload_n 0, 1) := by decide +kernel
theorem dX4_begin_26 : decode cX4_begin 26 = .ok (.iconst 0, 1) := by decide +kernel
theorem dX4_begin_27 : decode cX4_begin 27 = .ok (.putfield 34, 3) := by decide +kernel
theorem dX4_begin_30 : decode cX4_begin 30 = .ok (.return_, 1) := by decide +kernel
theorem dX4_copyFrom_0 : decode cX4_copyFrom 0 = .ok (.aload_n 1, 1) := by decide +kernel
theorem dX4_copyFrom_1 : decode cX4_copyFrom 1 = .ok (.getfield 9, 3) := by decide +kernel
theorem dX4_copyFrom_4 : decode cX4_copyFrom 4 = .ok (.iconst 0, 1) := by decide +kernel
theorem dX4_copyFrom_5 : decode cX4_copyFrom 5 = .ok (.aload_n 0, 1) := by decide +kernel
theorem dX4_copyFrom_6 : decode cX4_copyFrom 6 = .ok (.getfield 9, 3) := by decide +kernel
theorem dX4_copyFrom_9 : decode cX4_copyFrom 9 = .ok (.iconst 0, 1) := by decide +kernel
theorem dX4_copyFrom_10 : decode cX4_copyFrom 10 = .ok (.bipush 8, 2) := by decide +kernel
theorem dX4_copyFrom_12 : decode cX4_copyFrom 12 = .ok (.invokestatic 37, 3) := by decide +kernel
theorem dX4_copyFrom_15 : decode cX4_copyFrom 15 = .ok (.aload_n 1, 1) := by decide +kernel
theorem dX4_copyFrom_16 : decode cX4_copyFrom 16 = .ok (.getfield 15, 3) := by decide +kernel
theorem dX4_copyFrom_19 : decode cX4_copyFrom 19 = .ok (.iconst 0, 1) := by decide +kernel
theorem dX4_copyFrom_20 : decode cX4_copyFrom 20 = .ok (.aload_n 0, 1) := by decide +kernel
theorem dX4_copyFrom_21 : decode cX4_copyFrom 21 = .ok (.getfield 15, 3) := by decide +kernel
theorem dX4_copyFrom_24 : decode cX4_copyFrom 24 = .ok (.iconst 0, 1) := by decide +kernel
theorem dX4_copyFrom_25 : decode cX4_copyFrom 25 = .ok (.bipush 8, 2) := by decide +kernel
theorem dX4_copyFrom_27 : decode cX4_copyFrom 27 = .ok (.invokestatic 37, 3) := by decide +kernel
theorem dX4_copyFrom_30 : decode cX4_copyFrom 30 = .ok (.aload_n 0, 1) := by decide +kernel
theorem dX4_copyFrom_31 : decode cX4_copyFrom 31 = .ok (.aload_n 1, 1) := by decide +kernel
theorem dX4_copyFrom_32 : decode cX4_copyFrom 32 = .ok (.getfield 18, 3) := by decide +kernel
theorem dX4_copyFrom_35 : decode cX4_copyFrom 35 = .ok (.putfield 18, 3) := by decide +kernel
theorem dX4_copyFrom_38 : decode cX4_copyFrom 38 = .ok (.aload_n 0, 1) := by decide +kernel
theorem dX4_copyFrom_39 : decode cX4_copyFrom 39 = .ok (.aload_n 1, 1) := by decide +kernel
theorem dX4_copyFrom_40 : decode cX4_copyFrom 40 = .ok (.getfield 22, 3) := by decide +kernel
theorem dX4_copyFrom_43 : decode cX4_copyFrom 43 = .ok (.putfield 22, 3) := by decide +kernel
theorem dX4_copyFrom_46 : decode cX4_copyFrom 46 = .ok (.aload_n 0, 1) := by decide +kernel
theorem dX4_copyFrom_47 : decode cX4_copyFrom 47 = .ok (.aload_n 1, 1) := by decide +kernel
theorem dX4_copyFrom_48 : decode cX4_copyFrom 48 = .ok (.getfield 25, 3) := by decide +kernel
theorem dX4_copyFrom_51 : decode cX4_copyFrom 51 = .ok (.putfield 25, 3) := by decide +kernel
theorem dX4_copyFrom_54 : decode cX4_copyFrom 54 = .ok (.aload_n 0, 1) := by decide +kernel
theorem dX4_copyFrom_55 : decode cX4_copyFrom 55 = .ok (.aload_n 1, 1) := by decide +kernel
theorem dX4_copyFrom_56 : decode cX4_copyFrom 56 = .ok (.getfield 28, 3) := by decide +kernel
theorem dX4_copyFrom_59 : decode cX4_copyFrom 59 = .ok (.putfield 28, 3) := by decide +kernel
theorem dX4_copyFrom_62 : decode cX4_copyFrom 62 = .ok (.aload_n 0, 1) := by decide +kernel
theorem dX4_copyFrom_63 : decode cX4_copyFrom 63 = .ok (.aload_n 1, 1) := by decide +kernel
theorem dX4_copyFrom_64 : decode cX4_copyFrom 64 = .ok (.getfield 31, 3) := by decide +kernel
theorem dX4_copyFrom_67 : decode cX4_copyFrom 67 = .ok (.putfield 31, 3) := by decide +kernel
theorem dX4_copyFrom_70 : decode cX4_copyFrom 70 = .ok (.aload_n 0, 1) := by decide +kernel
theorem dX4_copyFrom_71 : decode cX4_copyFrom 71 = .ok (.aload_n 1, 1) := by decide +kernel
theorem dX4_copyFrom_72 : decode cX4_copyFrom 72 = .ok (.getfield 34, 3) := by decide +kernel
theorem dX4_copyFrom_75 : decode cX4_copyFrom 75 = .ok (.putfield 34, 3) := by decide +kernel
theorem dX4_copyFrom_78 : decode cX4_copyFrom 78 = .ok (.return_, 1) := by decide +kernel
theorem dX4_isFull_0 : decode cX4_isFull 0 = .ok (.aload_n 0, 1) := by decide +kernel
theorem dX4_isFull_1 : decode cX4_isFull 1 = .ok (.getfield 18, 3) := by decide +kernel
theorem dX4_isFull_4 : decode cX4_isFull 4 = .ok (.bipush 8, 2) := by decide +kernel
theorem dX4_isFull_6 : decode cX4_isFull 6 = .ok (.if_icmp .lt 7, 3) := by decide +kernel
theorem dX4_isFull_9 : decode cX4_isFull 9 = .ok (.iconst 1, 1) := by decide +kernel
theorem dX4_isFull_10 : decode cX4_isFull 10 = .ok (.goto 4, 3) := by decide +kernel
theorem dX4_isFull_13 : decode cX4_isFull 13 = .ok (.iconst 0, 1) := by decide +kernel
theorem dX4_isFull_14 : decode cX4_isFull 14 = .ok (.ireturn, 1) := by decide +kernel
theorem dX4_hearFirst_0 : decode cX4_hearFirst 0 = .ok (.aload_n 0, 1) := by decide +kernel
theorem dX4_hearFirst_1 : decode cX4_hearFirst 1 = .ok (.getfield 18, 3) := by decide +kernel
theorem dX4_hearFirst_4 : decode cX4_hearFirst 4 = .ok (.ifCond .eq 14, 3) := by decide +kernel
theorem dX4_hearFirst_7 : decode cX4_hearFirst 7 = .ok (.aload_n 0, 1) := by decide +kernel
theorem dX4_hearFirst_8 : decode cX4_hearFirst 8 = .ok (.getfield 22, 3) := by decide +kernel
theorem dX4_hearFirst_11 : decode cX4_hearFirst 11 = .ok (.aload_n 0, 1) := by decide +kernel
theorem dX4_hearFirst_12 : decode cX4_hearFirst 12 = .ok (.getfield 25, 3) := by decide +kernel
theorem dX4_hearFirst_15 : decode cX4_hearFirst 15 = .ok (.if_icmp .ne 5, 3) := by decide +kernel
theorem dX4_hearFirst_18 : decode cX4_hearFirst 18 = .ok (.iconst 0, 1) := by decide +kernel
theorem dX4_hearFirst_19 : decode cX4_hearFirst 19 = .ok (.ireturn, 1) := by decide +kernel
theorem dX4_hearFirst_20 : decode cX4_hearFirst 20 = .ok (.aload_n 0, 1) := by decide +kernel
theorem dX4_hearFirst_21 : decode cX4_hearFirst 21 = .ok (.aload_n 0, 1) := by decide +kernel
theorem dX4_hearFirst_22 : decode cX4_hearFirst 22 = .ok (.getfield 22, 3) := by decide +kernel
theorem dX4_hearFirst_25 : decode cX4_hearFirst 25 = .ok (.putfield 25, 3) := by decide +kernel
theorem dX4_hearFirst_28 : decode cX4_hearFirst 28 = .ok (.aload_n 0, 1) := by decide +kernel
theorem dX4_hearFirst_29 : decode cX4_hearFirst 29 = .ok (.dup, 1) := by decide +kernel
theorem dX4_hearFirst_30 : decode cX4_hearFirst 30 = .ok (.getfield 28, 3) := by decide +kernel
theorem dX4_hearFirst_33 : decode cX4_hearFirst 33 = .ok (.iconst 1, 1) := by decide +kernel
theorem dX4_hearFirst_34 : decode cX4_hearFirst 34 = .ok (.iadd, 1) := by decide +kernel
theorem dX4_hearFirst_35 : decode cX4_hearFirst 35 = .ok (.putfield 28, 3) := by decide +kernel
theorem dX4_hearFirst_38 : decode cX4_hearFirst 38 = .ok (.aload_n 0, 1) := by decide +kernel
theorem dX4_hearFirst_39 : decode cX4_hearFirst 39 = .ok (.bipush 31, 2) := by decide +kernel
theorem dX4_hearFirst_41 : decode cX4_hearFirst 41 = .ok (.aload_n 0, 1) := by decide +kernel
theorem dX4_hearFirst_42 : decode cX4_hearFirst 42 = .ok (.getfield 31, 3) := by decide +kernel
theorem dX4_hearFirst_45 : decode cX4_hearFirst 45 = .ok (.imul, 1) := by decide +kernel
theorem dX4_hearFirst_46 : decode cX4_hearFirst 46 = .ok (.aload_n 0, 1) := by decide +kernel
theorem dX4_hearFirst_47 : decode cX4_hearFirst 47 = .ok (.getfield 9, 3) := by decide +kernel
theorem dX4_hearFirst_50 : decode cX4_hearFirst 50 = .ok (.iconst 0, 1) := by decide +kernel
theorem dX4_hearFirst_51 : decode cX4_hearFirst 51 = .ok (.iaload, 1) := by decide +kernel
theorem dX4_hearFirst_52 : decode cX4_hearFirst 52 = .ok (.iadd, 1) := by decide +kernel
theorem dX4_hearFirst_53 : decode cX4_hearFirst 53 = .ok (.iconst 1, 1) := by decide +kernel
theorem dX4_hearFirst_54 : decode cX4_hearFirst 54 = .ok (.iadd, 1) := by decide +kernel
theorem dX4_hearFirst_55 : decode cX4_hearFirst 55 = .ok (.putfield 31, 3) := by decide +kernel
theorem dX4_hearFirst_58 : decode cX4_hearFirst 58 = .ok (.iconst 1, 1) := by decide +kernel
theorem dX4_hearFirst_59 : decode cX4_hearFirst 59 = .ok (.ireturn, 1) := by decide +kernel
theorem dX4_takeFirst_0 : decode cX4_takeFirst 0 = .ok (.aload_n 0, 1) := by decide +kernel
theorem dX4_takeFirst_1 : decode cX4_takeFirst 1 = .ok (.getfield 18, 3) := by decide +kernel
theorem dX4_takeFirst_4 : decode cX4_takeFirst 4 = .ok (.ifCond .ne 4, 3) := by decide +kernel
theorem dX4_takeFirst_7 : decode cX4_takeFirst 7 = .ok (.return_, 1) := by decide +kernel
theorem dX4_takeFirst_8 : decode cX4_takeFirst 8 = .ok (.aload_n 0, 1) := by decide +kernel
theorem dX4_takeFirst_9 : decode cX4_takeFirst 9 = .ok (.aload_n 0, 1) := by decide +kernel
theorem dX4_takeFirst_10 : decode cX4_takeFirst 10 = .ok (.getfield 34, 3) := by decide +kernel
theorem dX4_takeFirst_13 : decode cX4_takeFirst 13 = .ok (.iload_n 1, 1) := by decide +kernel
theorem dX4_takeFirst_14 : decode cX4_takeFirst 14 = .ok (.aload_n 0, 1) := by decide +kernel
theorem dX4_takeFirst_15 : decode cX4_takeFirst 15 = .ok (.getfield 15, 3) := by decide +kernel
theorem dX4_takeFirst_18 : decode cX4_takeFirst 18 = .ok (.iconst 0, 1) := by decide +kernel
theorem dX4_takeFirst_19 : decode cX4_takeFirst 19 = .ok (.iaload, 1) := by decide +kernel
theorem dX4_takeFirst_20 : decode cX4_takeFirst 20 = .ok (.isub, 1) := by decide +kernel
theorem dX4_takeFirst_21 : decode cX4_takeFirst 21 = .ok (.iconst 2, 1) := by decide +kernel
theorem dX4_takeFirst_22 : decode cX4_takeFirst 22 = .ok (.idiv, 1) := by decide +kernel
theorem dX4_takeFirst_23 : decode cX4_takeFirst 23 = .ok (.invokestatic 43, 3) := by decide +kernel
theorem dX4_takeFirst_26 : decode cX4_takeFirst 26 = .ok (.putfield 34, 3) := by decide +kernel
theorem dX4_takeFirst_29 : decode cX4_takeFirst 29 = .ok (.iconst 1, 1) := by decide +kernel
theorem dX4_takeFirst_30 : decode cX4_takeFirst 30 = .ok (.istore_n 2, 1) := by decide +kernel
theorem dX4_takeFirst_31 : decode cX4_takeFirst 31 = .ok (.iload_n 2, 1) := by decide +kernel
theorem dX4_takeFirst_32 : decode cX4_takeFirst 32 = .ok (.aload_n 0, 1) := by decide +kernel
theorem dX4_takeFirst_33 : decode cX4_takeFirst 33 = .ok (.getfield 18, 3) := by decide +kernel
theorem dX4_takeFirst_36 : decode cX4_takeFirst 36 = .ok (.if_icmp .ge 43, 3) := by decide +kernel
theorem dX4_takeFirst_39 : decode cX4_takeFirst 39 = .ok (.iload_n 2, 1) := by decide +kernel
theorem dX4_takeFirst_40 : decode cX4_takeFirst 40 = .ok (.bipush 8, 2) := by decide +kernel
theorem dX4_takeFirst_42 : decode cX4_takeFirst 42 = .ok (.if_icmp .ge 37, 3) := by decide +kernel
theorem dX4_takeFirst_45 : decode cX4_takeFirst 45 = .ok (.aload_n 0, 1) := by decide +kernel
theorem dX4_takeFirst_46 : decode cX4_takeFirst 46 = .ok (.getfield 9, 3) := by decide +kernel
theorem dX4_takeFirst_49 : decode cX4_takeFirst 49 = .ok (.iload_n 2, 1) := by decide +kernel
theorem dX4_takeFirst_50 : decode cX4_takeFirst 50 = .ok (.iconst 1, 1) := by decide +kernel
theorem dX4_takeFirst_51 : decode cX4_takeFirst 51 = .ok (.isub, 1) := by decide +kernel
theorem dX4_takeFirst_52 : decode cX4_takeFirst 52 = .ok (.aload_n 0, 1) := by decide +kernel
theorem dX4_takeFirst_53 : decode cX4_takeFirst 53 = .ok (.getfield 9, 3) := by decide +kernel
theorem dX4_takeFirst_56 : decode cX4_takeFirst 56 = .ok (.iload_n 2, 1) := by decide +kernel
theorem dX4_takeFirst_57 : decode cX4_takeFirst 57 = .ok (.iaload, 1) := by decide +kernel
theorem dX4_takeFirst_58 : decode cX4_takeFirst 58 = .ok (.iastore, 1) := by decide +kernel
theorem dX4_takeFirst_59 : decode cX4_takeFirst 59 = .ok (.aload_n 0, 1) := by decide +kernel
theorem dX4_takeFirst_60 : decode cX4_takeFirst 60 = .ok (.getfield 15, 3) := by decide +kernel
theorem dX4_takeFirst_63 : decode cX4_takeFirst 63 = .ok (.iload_n 2, 1) := by decide +kernel
theorem dX4_takeFirst_64 : decode cX4_takeFirst 64 = .ok (.iconst 1, 1) := by decide +kernel
theorem dX4_takeFirst_65 : decode cX4_takeFirst 65 = .ok (.isub, 1) := by decide +kernel
theorem dX4_takeFirst_66 : decode cX4_takeFirst 66 = .ok (.aload_n 0, 1) := by decide +kernel
theorem dX4_takeFirst_67 : decode cX4_takeFirst 67 = .ok (.getfield 15, 3) := by decide +kernel
theorem dX4_takeFirst_70 : decode cX4_takeFirst 70 = .ok (.iload_n 2, 1) := by decide +kernel
theorem dX4_takeFirst_71 : decode cX4_takeFirst 71 = .ok (.iaload, 1) := by decide +kernel
theorem dX4_takeFirst_72 : decode cX4_takeFirst 72 = .ok (.iastore, 1) := by decide +kernel
theorem dX4_takeFirst_73 : decode cX4_takeFirst 73 = .ok (.iinc 2 1, 3) := by decide +kernel
theorem dX4_takeFirst_76 : decode cX4_takeFirst 76 = .ok (.goto (-45), 3) := by decide +kernel
theorem dX4_takeFirst_79 : decode cX4_takeFirst 79 = .ok (.aload_n 0, 1) := by decide +kernel
theorem dX4_takeFirst_80 : decode cX4_takeFirst 80 = .ok (.dup, 1) := by decide +kernel
theorem dX4_takeFirst_81 : decode cX4_takeFirst 81 = .ok (.getfield 18, 3) := by decide +kernel
theorem dX4_takeFirst_84 : decode cX4_takeFirst 84 = .ok (.iconst 1, 1) := by decide +kernel
theorem dX4_takeFirst_85 : decode cX4_takeFirst 85 = .ok (.isub, 1) := by decide +kernel
theorem dX4_takeFirst_86 : decode cX4_takeFirst 86 = .ok (.putfield 18, 3) := by decide +kernel
theorem dX4_takeFirst_89 : decode cX4_takeFirst 89 = .ok (.aload_n 0, 1) := by decide +kernel
theorem dX4_takeFirst_90 : decode cX4_takeFirst 90 = .ok (.iconst 1, 1) := by decide +kernel
theorem dX4_takeFirst_91 : decode cX4_takeFirst 91 = .ok (.aload_n 0, 1) := by decide +kernel
theorem dX4_takeFirst_92 : decode cX4_takeFirst 92 = .ok (.getfield 22, 3) := by decide +kernel
theorem dX4_takeFirst_95 : decode cX4_takeFirst 95 = .ok (.isub, 1) := by decide +kernel
theorem dX4_takeFirst_96 : decode cX4_takeFirst 96 = .ok (.putfield 22, 3) := by decide +kernel
theorem dX4_takeFirst_99 : decode cX4_takeFirst 99 = .ok (.return_, 1) := by decide +kernel
theorem dX0_set_0 : decode cX0_set 0 = .ok (.aload_n 0, 1) := by decide +kernel
theorem dX0_set_1 : decode cX0_set 1 = .ok (.iload_n 1, 1) := by decide +kernel
theorem dX0_set_2 : decode cX0_set 2 = .ok (.putfield 7, 3) := by decide +kernel
theorem dX0_set_5 : decode cX0_set 5 = .ok (.aload_n 0, 1) := by decide +kernel
theorem dX0_set_6 : decode cX0_set 6 = .ok (.iload_n 2, 1) := by decide +kernel
theorem dX0_set_7 : decode cX0_set 7 = .ok (.putfield 13, 3) := by decide +kernel
theorem dX0_set_10 : decode cX0_set 10 = .ok (.aload_n 0, 1) := by decide +kernel
theorem dX0_set_11 : decode cX0_set 11 = .ok (.iload_n 3, 1) := by decide +kernel
theorem dX0_set_12 : decode cX0_set 12 = .ok (.putfield 16, 3) := by decide +kernel
theorem dX0_set_15 : decode cX0_set 15 = .ok (.aload_n 0, 1) := by decide +kernel
theorem dX0_set_16 : decode cX0_set 16 = .ok (.iconst 0, 1) := by decide +kernel
theorem dX0_set_17 : decode cX0_set 17 = .ok (.putfield 19, 3) := by decide +kernel
theorem dX0_set_20 : decode cX0_set 20 = .ok (.aload_n 0, 1) := by decide +kernel
theorem dX0_set_21 : decode cX0_set 21 = .ok (.iconst 0, 1) := by decide +kernel
theorem dX0_set_22 : decode cX0_set 22 = .ok (.putfield 22, 3) := by decide +kernel
theorem dX0_set_25 : decode cX0_set 25 = .ok (.aload_n 0, 1) := by decide +kernel
theorem dX0_set_26 : decode cX0_set 26 = .ok (.iconst 0, 1) := by decide +kernel
theorem dX0_set_27 : decode cX0_set 27 = .ok (.putfield 25, 3) := by decide +kernel
theorem dX0_set_30 : decode cX0_set 30 = .ok (.return_, 1) := by decide +kernel
theorem dX0_copyFrom_0 : decode cX0_copyFrom 0 = .ok (.aload_n 0, 1) := by decide +kernel
theorem dX0_copyFrom_1 : decode cX0_copyFrom 1 = .ok (.aload_n 1, 1) := by decide +kernel
theorem dX0_copyFrom_2 : decode cX0_copyFrom 2 = .ok (.getfield 7, 3) := by decide +kernel
theorem dX0_copyFrom_5 : decode cX0_copyFrom 5 = .ok (.putfield 7, 3) := by decide +kernel
theorem dX0_copyFrom_8 : decode cX0_copyFrom 8 = .ok (.aload_n 0, 1) := by decide +kernel
theorem dX0_copyFrom_9 : decode cX0_copyFrom 9 = .ok (.aload_n 1, 1) := by decide +kernel
theorem dX0_copyFrom_10 : decode cX0_copyFrom 10 = .ok (.getfield 13, 3) := by decide +kernel
theorem dX0_copyFrom_13 : decode cX0_copyFrom 13 = .ok (.putfield 13, 3) := by decide +kernel
theorem dX0_copyFrom_16 : decode cX0_copyFrom 16 = .ok (.aload_n 0, 1) := by decide +kernel
theorem dX0_copyFrom_17 : decode cX0_copyFrom 17 = .ok (.aload_n 1, 1) := by decide +kernel
theorem dX0_copyFrom_18 : decode cX0_copyFrom 18 = .ok (.getfield 16, 3) := by decide +kernel
theorem dX0_copyFrom_21 : decode cX0_copyFrom 21 = .ok (.putfield 16, 3) := by decide +kernel
theorem dX0_copyFrom_24 : decode cX0_copyFrom 24 = .ok (.aload_n 0, 1) := by decide +kernel
theorem dX0_copyFrom_25 : decode cX0_copyFrom 25 = .ok (.aload_n 1, 1) := by decide +kernel
theorem dX0_copyFrom_26 : decode cX0_copyFrom 26 = .ok (.getfield 19, 3) := by decide +kernel
theorem dX0_copyFrom_29 : decode cX0_copyFrom 29 = .ok (.putfield 19, 3) := by decide +kernel
theorem dX0_copyFrom_32 : decode cX0_copyFrom 32 = .ok (.aload_n 0, 1) := by decide +kernel
theorem dX0_copyFrom_33 : decode cX0_copyFrom 33 = .ok (.aload_n 1, 1) := by decide +kernel
theorem dX0_copyFrom_34 : decode cX0_copyFrom 34 = .ok (.getfield 22, 3) := by decide +kernel
theorem dX0_copyFrom_37 : decode cX0_copyFrom 37 = .ok (.putfield 22, 3) := by decide +kernel
theorem dX0_copyFrom_40 : decode cX0_copyFrom 40 = .ok (.aload_n 0, 1) := by decide +kernel
theorem dX0_copyFrom_41 : decode cX0_copyFrom 41 = .ok (.aload_n 1, 1) := by decide +kernel
theorem dX0_copyFrom_42 : decode cX0_copyFrom 42 = .ok (.getfield 25, 3) := by decide +kernel
theorem dX0_copyFrom_45 : decode cX0_copyFrom 45 = .ok (.putfield 25, 3) := by decide +kernel
theorem dX0_copyFrom_48 : decode cX0_copyFrom 48 = .ok (.return_, 1) := by decide +kernel
theorem dX0_isDue_0 : decode cX0_isDue 0 = .ok (.aload_n 0, 1) := by decide +kernel
theorem dX0_isDue_1 : decode cX0_isDue 1 = .ok (.getfield 7, 3) := by decide +kernel
theorem dX0_isDue_4 : decode cX0_isDue 4 = .ok (.ifCond .eq 20, 3) := by decide +kernel
theorem dX0_isDue_7 : decode cX0_isDue 7 = .ok (.iload_n 1, 1) := by decide +kernel
theorem dX0_isDue_8 : decode cX0_isDue 8 = .ok (.aload_n 0, 1) := by decide +kernel
theorem dX0_isDue_9 : decode cX0_isDue 9 = .ok (.getfield 7, 3) := by decide +kernel
theorem dX0_isDue_12 : decode cX0_isDue 12 = .ok (.irem, 1) := by decide +kernel
theorem dX0_isDue_13 : decode cX0_isDue 13 = .ok (.aload_n 0, 1) := by decide +kernel
theorem dX0_isDue_14 : decode cX0_isDue 14 = .ok (.getfield 13, 3) := by decide +kernel
theorem dX0_isDue_17 : decode cX0_isDue 17 = .ok (.if_icmp .ne 7, 3) := by decide +kernel
theorem dX0_isDue_20 : decode cX0_isDue 20 = .ok (.iconst 1, 1) := by decide +kernel
theorem dX0_isDue_21 : decode cX0_isDue 21 = .ok (.goto 4, 3) := by decide +kernel
theorem dX0_isDue_24 : decode cX0_isDue 24 = .ok (.iconst 0, 1) := by decide +kernel
theorem dX0_isDue_25 : decode cX0_isDue 25 = .ok (.ireturn, 1) := by decide +kernel
theorem dX0_openAt_0 : decode cX0_openAt 0 = .ok (.aload_n 0, 1) := by decide +kernel
theorem dX0_openAt_1 : decode cX0_openAt 1 = .ok (.iload_n 1, 1) := by decide +kernel
theorem dX0_openAt_2 : decode cX0_openAt 2 = .ok (.invokevirtual 28, 3) := by decide +kernel
theorem dX0_openAt_5 : decode cX0_openAt 5 = .ok (.ifCond .eq 11, 3) := by decide +kernel
theorem dX0_openAt_8 : decode cX0_openAt 8 = .ok (.aload_n 0, 1) := by decide +kernel
theorem dX0_openAt_9 : decode cX0_openAt 9 = .ok (.aload_n 0, 1) := by decide +kernel
theorem dX0_openAt_10 : decode cX0_openAt 10 = .ok (.getfield 16, 3) := by decide +kernel
theorem dX0_openAt_13 : decode cX0_openAt 13 = .ok (.putfield 25, 3) := by decide +kernel
theorem dX0_openAt_16 : decode cX0_openAt 16 = .ok (.return_, 1) := by decide +kernel
theorem dX0_answer_0 : decode cX0_answer 0 = .ok (.aload_n 0, 1) := by decide +kernel
theorem dX0_answer_1 : decode cX0_answer 1 = .ok (.getfield 25, 3) := by decide +kernel
theorem dX0_answer_4 : decode cX0_answer 4 = .ok (.ifCond .le 18, 3) := by decide +kernel
theorem dX0_answer_7 : decode cX0_answer 7 = .ok (.aload_n 0, 1) := by decide +kernel
theorem dX0_answer_8 : decode cX0_answer 8 = .ok (.dup, 1) := by decide +kernel
theorem dX0_answer_9 : decode cX0_answer 9 = .ok (.getfield 19, 3) := by decide +kernel
theorem dX0_answer_12 : decode cX0_answer 12 = .ok (.iconst 1, 1) := by decide +kernel
theorem dX0_answer_13 : decode cX0_answer 13 = .ok (.iadd, 1) := by decide +kernel
theorem dX0_answer_14 : decode cX0_answer 14 = .ok (.putfield 19, 3) := by decide +kernel
theorem dX0_answer_17 : decode cX0_answer 17 = .ok (.aload_n 0, 1) := by decide +kernel
theorem dX0_answer_18 : decode cX0_answer 18 = .ok (.iconst 0, 1) := by decide +kernel
theorem dX0_answer_19 : decode cX0_answer 19 = .ok (.putfield 25, 3) := by decide +kernel
theorem dX0_answer_22 : decode cX0_answer 22 = .ok (.return_, 1) := by decide +kernel
theorem dX0_endTurn_0 : decode cX0_endTurn 0 = .ok (.aload_n 0, 1) := by decide +kernel
theorem dX0_endTurn_1 : decode cX0_endTurn 1 = .ok (.getfield 25, 3) := by decide +kernel
theorem dX0_endTurn_4 : decode cX0_endTurn 4 = .ok (.ifCond .le 30, 3) := by decide +kernel
theorem dX0_endTurn_7 : decode cX0_endTurn 7 = .ok (.aload_n 0, 1) := by decide +kernel
theorem dX0_endTurn_8 : decode cX0_endTurn 8 = .ok (.dup, 1) := by decide +kernel
theorem dX0_endTurn_9 : decode cX0_endTurn 9 = .ok (.getfield 25, 3) := by decide +kernel
theorem dX0_endTurn_12 : decode cX0_endTurn 12 = .ok (.iconst 1, 1) := by decide +kernel
theorem dX0_endTurn_13 : decode cX0_endTurn 13 = .ok (.isub, 1) := by decide +kernel
theorem dX0_endTurn_14 : decode cX0_endTurn 14 = .ok (.putfield 25, 3) := by decide +kernel
theorem dX0_endTurn_17 : decode cX0_endTurn 17 = .ok (.aload_n 0, 1) := by decide +kernel
theorem dX0_endTurn_18 : decode cX0_endTurn 18 = .ok (.getfield 25, 3) := by decide +kernel
theorem dX0_endTurn_21 : decode cX0_endTurn 21 = .ok (.ifCond .ne 13, 3) := by decide +kernel
theorem dX0_endTurn_24 : decode cX0_endTurn 24 = .ok (.aload_n 0, 1) := by decide +kernel
theorem dX0_endTurn_25 : decode cX0_endTurn 25 = .ok (.dup, 1) := by decide +kernel
theorem dX0_endTurn_26 : decode cX0_endTurn 26 = .ok (.getfield 22, 3) := by decide +kernel
theorem dX0_endTurn_29 : decode cX0_endTurn 29 = .ok (.iconst 1, 1) := by decide +kernel
theorem dX0_endTurn_30 : decode cX0_endTurn 30 = .ok (.iadd, 1) := by decide +kernel
theorem dX0_endTurn_31 : decode cX0_endTurn 31 = .ok (.putfield 22, 3) := by decide +kernel
theorem dX0_endTurn_34 : decode cX0_endTurn 34 = .ok (.return_, 1) := by decide +kernel
set_option maxHeartbeats 4000000 in
set_option maxRecDepth 100000 in
theorem d_X3_hasNext (l : Launch) (E : hE) (ρ r : Nat → Nat → Int32) (S : Nat × Nat → Prop) (hSS : SK S) (k : Nat) (h : hk k = 3) (hI : CI r S ρ) : Met l yX3_hasNext (.code yX3_hasNext cX3_hasNext 1 (some .boolean) :: gw_all) (rmk 1 40) (cPre E ρ [.ref (E.2.1 + k)]) (cI E (fun v ρ1 => ρ = ρ1 ∧ CI r S ρ1 ∧ iR v (0) (1))) 0 0 (hA E) := by
  refine ent (own := RX3) (by decide) rfl (Nat.le_of_ble_eq_true rfl) ?_
  intro p e s m below meth c ls B hr hlk hl hP hS
  have hx := B.1.1
  have hb := B.1.2.1
  have hown := B.1.2.2.2.1
  have hts := B.1.2.2.2.2
  have hl : lv_has ls 1 [(0, .ref (E.2.1 + k))] := hl
  refine lv_aload_n hx hb dX3_hasNext_0 rfl (lv_at hl 0 rfl) ?_
  refine get3 B hP h 1 (by decide) mw_96 rfl dX3_hasNext_1 ?_
  refine lv_if_eq (tgt := 11) hx hb dX3_hasNext_4 (by decide) (fun c3 => ?_) (fun c3 => ?_)
  · skip
    have i4 : iR (ρ k 1) (0) (0) := (by rw [c3]; exact ⟨by decide, by decide⟩)
    refine lv_iconst (v := 0) hx hb dX3_hasNext_11 (by decide) ?_
    exact ret_z B hr hlk hP hS dX3_hasNext_12 (Or.inl rfl) (⟨rfl, hI, (iR_w (a := 0) (b := 0) (show iR 0 (0) (0) from ⟨by decide, by decide⟩) (by decide) (by decide))⟩)
  · skip
    refine lv_iconst (v := 1) hx hb dX3_hasNext_7 (by decide) ?_
    refine lv_goto (tgt := 12) hx hb dX3_hasNext_8 (by decide) ?_
    exact ret_z B hr hlk hP hS dX3_hasNext_12 (Or.inr rfl) (⟨rfl, hI, (iR_w (a := 1) (b := 1) (show iR 1 (1) (1) from ⟨by decide, by decide⟩) (by decide) (by decide))⟩)

set_option maxHeartbeats 4000000 in
set_option maxRecDepth 100000 in
theorem d_X3_takeAtOnce (l : Launch) (E : hE) (ρ r : Nat → Nat → Int32) (S : Nat × Nat → Prop) (hSS : SK S) (k : Nat) (h : hk k = 3) (a1 : Int32) (hI : CI r S ρ) : Met l yX3_takeAtOnce (.code yX3_takeAtOnce cX3_takeAtOnce 2 none :: gw_all) (rmk 1 40) (cPre E ρ [.ref (E.2.1 + k), .int a1]) (cV E (fun ρ1 => CI r S ρ1)) 0 0 (hA E) := by
  refine ent (own := RX3) (by decide) rfl (Nat.le_of_ble_eq_true rfl) ?_
  intro p e s m below meth c ls B hr hlk hl hP hS
  have hx := B.1.1
  have hb := B.1.2.1
  have hown := B.1.2.2.2.1
  have hts := B.1.2.2.2.2
  have hl : lv_has ls 2 [(0, .ref (E.2.1 + k)), (1, .int a1)] := hl
  refine lv_aload_n hx hb dX3_takeAtOnce_0 rfl (lv_at hl 0 rfl) ?_
  refine lv_iload_n hx hb dX3_takeAtOnce_1 rfl (lv_at hl 1 rfl) ?_
  refine put3 B hP hS h 0 (by decide) mw_91 rfl rfl rfl (fs3_0 E k _ _) dX3_takeAtOnce_2 (fun H locs hP hS => ?_)
  obtain ⟨ρ7, e8⟩ : ∃ z, z = up ρ k 0 a1 := ⟨_, rfl⟩
  rw [← e8] at hP
  have hI : CI r S ρ7 := by rw [e8]; exact CI_up hI (kind_lt h (by decide)) (SP_plain h rfl (by decide)) ⟨(fun z2 => absurd (Eq.trans (Eq.symm h) z2) (by decide)), (fun z2 => absurd (Eq.trans (Eq.symm h) z2) (by decide))⟩ hSS
  refine lv_aload_n hx hb dX3_takeAtOnce_5 rfl (lv_at hl 0 rfl) ?_
  refine lv_iconst (v := 0) hx hb dX3_takeAtOnce_6 (by decide) ?_
  refine put3 B hP hS h 1 (by decide) mw_96 rfl rfl rfl (fs3_1 E k _ _) dX3_takeAtOnce_7 (fun H locs hP hS => ?_)
  obtain ⟨ρ9, e10⟩ : ∃ z, z = up ρ7 k 1 0 := ⟨_, rfl⟩
  rw [← e10] at hP
  have hI : CI r S ρ9 := by rw [e10]; exact CI_up hI (kind_lt h (by decide)) (SP_plain h rfl (by decide)) ⟨(fun z2 => absurd (Eq.trans (Eq.symm h) z2) (by decide)), (fun z2 => absurd (Eq.trans (Eq.symm h) z2) (by decide))⟩ hSS
  refine lv_aload_n hx hb dX3_takeAtOnce_10 rfl (lv_at hl 0 rfl) ?_
  refine lv_iconst (v := (-1)) hx hb dX3_takeAtOnce_11 (by decide) ?_
  refine put3 B hP hS h 2 (by decide) mw_99 rfl rfl rfl (fs3_2 E k _ _) dX3_takeAtOnce_12 (fun H locs hP hS => ?_)
  obtain ⟨ρ11, e12⟩ : ∃ z, z = up ρ9 k 2 (-1) := ⟨_, rfl⟩
  rw [← e12] at hP
  have hI : CI r S ρ11 := by rw [e12]; exact CI_up hI (kind_lt h (by decide)) (SP_plain h rfl (by decide)) ⟨(fun z2 => absurd (Eq.trans (Eq.symm h) z2) (by decide)), (fun z2 => absurd (Eq.trans (Eq.symm h) z2) (by decide))⟩ hSS
  exact ret_v B hr hlk hP hS dX3_takeAtOnce_15 (hI)

theorem lk_RX3_22 : LkV RX3 22 RX3 yX3_takeAtOnce cX3_takeAtOnce 2 none 1 := ⟨⟨mw_670, mw_671, mw_672, mw_55, mw_673⟩, by decide +kernel⟩
set_option maxHeartbeats 4000000 in
set_option maxRecDepth 100000 in
theorem d_X3_changesAt (l : Launch) (E : hE) (ρ r : Nat → Nat → Int32) (S : Nat × Nat → Prop) (hSS : SK S) (k : Nat) (h : hk k = 3) (a1 : Int32) (hI : CI r S ρ) : Met l yX3_changesAt (.code yX3_changesAt cX3_changesAt 2 (some .boolean) :: gw_all) (rmk 2 80) (cPre E ρ [.ref (E.2.1 + k), .int a1]) (cI E (fun v ρ1 => CI r S ρ1 ∧ iR v (0) (1))) 0 0 (hA E) := by
  refine ent (own := RX3) (by decide) rfl (Nat.le_of_ble_eq_true rfl) ?_
  intro p e s m below meth c ls B hr hlk hl hP hS
  have hx := B.1.1
  have hb := B.1.2.1
  have hown := B.1.2.2.2.1
  have hts := B.1.2.2.2.2
  have hl : lv_has ls 2 [(0, .ref (E.2.1 + k)), (1, .int a1)] := hl
  refine lv_aload_n hx hb dX3_changesAt_0 rfl (lv_at hl 0 rfl) ?_
  refine get3 B hP h 1 (by decide) mw_96 rfl dX3_changesAt_1 ?_
  refine lv_if_eq (tgt := 15) hx hb dX3_changesAt_4 (by decide) (fun c8 => ?_) (fun c8 => ?_)
  · skip
    have i9 : iR (ρ k 1) (0) (0) := (by rw [c8]; exact ⟨by decide, by decide⟩)
    refine lv_iconst (v := 0) hx hb dX3_changesAt_15 (by decide) ?_
    exact ret_z B hr hlk hP hS dX3_changesAt_16 (Or.inl rfl) (⟨hI, (iR_w (a := 0) (b := 0) (show iR 0 (0) (0) from ⟨by decide, by decide⟩) (by decide) (by decide))⟩)
  · skip
    refine lv_aload_n hx hb dX3_changesAt_7 rfl (lv_at hl 0 rfl) ?_
    refine get3 B hP h 2 (by decide) mw_99 rfl dX3_changesAt_8 ?_
    refine lv_iload_n hx hb dX3_changesAt_11 rfl (lv_at hl 1 rfl) ?_
    refine lv_icmp_le (tgt := 17) hx hb dX3_changesAt_12 (by decide) (fun c10 => ?_) (fun c10 => ?_)
    · skip
      refine lv_aload_n hx hb dX3_changesAt_17 rfl (lv_at hl 0 rfl) ?_
      refine lv_aload_n hx hb dX3_changesAt_18 rfl (lv_at hl 0 rfl) ?_
      refine get3 B hP h 1 (by decide) mw_96 (v := .int (ρ k 1)) (show some (Value.int (ρ k 1)) = some (Value.int (ρ k 1)) from congrArg (fun z => some (Value.int z)) rfl) dX3_changesAt_19 ?_
      refine call_v (cVt (k := k) (av := [.int (ρ k 1)]) (rest := []) B hP hS (d_X3_takeAtOnce l E ρ r S hSS k h (ρ k 1) hI) lk_RX3_22 (hrecv (ci := 3) B hP (hk_lt (c := 3) h (by decide)) (hcc3 _ _ h) rfl) rfl rfl hl.1 (Nat.le_of_ble_eq_true rfl) ⟨Nat.le_of_ble_eq_true rfl, Nat.le_of_ble_eq_true rfl⟩ ⟨Nat.le_of_ble_eq_true rfl, Nat.le_of_ble_eq_true rfl⟩ dX3_changesAt_22) hS (fun ρ12 H locs q13 hP hS => ?_)
      have hI := q13
      refine lv_iconst (v := 1) hx hb dX3_changesAt_25 (by decide) ?_
      exact ret_z B hr hlk hP hS dX3_changesAt_26 (Or.inr rfl) (⟨hI, (iR_w (a := 1) (b := 1) (show iR 1 (1) (1) from ⟨by decide, by decide⟩) (by decide) (by decide))⟩)
    · skip
      refine lv_iconst (v := 0) hx hb dX3_changesAt_15 (by decide) ?_
      exact ret_z B hr hlk hP hS dX3_changesAt_16 (Or.inl rfl) (⟨hI, (iR_w (a := 0) (b := 0) (show iR 0 (0) (0) from ⟨by decide, by decide⟩) (by decide) (by decide))⟩)

set_option maxHeartbeats 4000000 in
set_option maxRecDepth 100000 in
theorem d_X3_copyFrom (l : Launch) (E : hE) (ρ r : Nat → Nat → Int32) (S : Nat × Nat → Prop) (hSS : SK S) (k : Nat) (h : hk k = 3) (k1 : Nat) (h1 : hk k1 = 3) (hI : CI r S ρ) : Met l yX3_copyFrom (.code yX3_copyFrom cX3_copyFrom 2 none :: gw_all) (rmk 1 40) (cPre E ρ [.ref (E.2.1 + k), .ref (E.2.1 + k1)]) (cV E (fun ρ1 => CI r S ρ1)) 0 0 (hA E) := by
  refine ent (own := RX3) (by decide) rfl (Nat.le_of_ble_eq_true rfl) ?_
  intro p e s m below meth c ls B hr hlk hl hP hS
  have hx := B.1.1
  have hb := B.1.2.1
  have hown := B.1.2.2.2.1
  have hts := B.1.2.2.2.2
  have hl : lv_has ls 2 [(0, .ref (E.2.1 + k)), (1, .ref (E.2.1 + k1))] := hl
  refine lv_aload_n hx hb dX3_copyFrom_0 rfl (lv_at hl 0 rfl) ?_
  refine lv_aload_n hx hb dX3_copyFrom_1 rfl (lv_at hl 1 rfl) ?_
  refine get3 B hP h1 0 (by decide) mw_91 rfl dX3_copyFrom_2 ?_
  refine put3 B hP hS h 0 (by decide) mw_91 rfl rfl rfl (fs3_0 E k _ _) dX3_copyFrom_5 (fun H locs hP hS => ?_)
  obtain ⟨ρ7, e8⟩ : ∃ z, z = up ρ k 0 (ρ k1 0) := ⟨_, rfl⟩
  rw [← e8] at hP
  have hI : CI r S ρ7 := by rw [e8]; exact CI_up hI (kind_lt h (by decide)) (SP_plain h rfl (by decide)) ⟨(fun z2 => absurd (Eq.trans (Eq.symm h) z2) (by decide)), (fun z2 => absurd (Eq.trans (Eq.symm h) z2) (by decide))⟩ hSS
  refine lv_aload_n hx hb dX3_copyFrom_8 rfl (lv_at hl 0 rfl) ?_
  refine lv_aload_n hx hb dX3_copyFrom_9 rfl (lv_at hl 1 rfl) ?_
  refine get3 B hP h1 1 (by decide) mw_96 rfl dX3_copyFrom_10 ?_
  refine put3 B hP hS h 1 (by decide) mw_96 rfl rfl rfl (fs3_1 E k _ _) dX3_copyFrom_13 (fun H locs hP hS => ?_)
  obtain ⟨ρ9, e10⟩ : ∃ z, z = up ρ7 k 1 (ρ7 k1 1) := ⟨_, rfl⟩
  rw [← e10] at hP
  have hI : CI r S ρ9 := by rw [e10]; exact CI_up hI (kind_lt h (by decide)) (SP_plain h rfl (by decide)) ⟨(fun z2 => absurd (Eq.trans (Eq.symm h) z2) (by decide)), (fun z2 => absurd (Eq.trans (Eq.symm h) z2) (by decide))⟩ hSS
  refine lv_aload_n hx hb dX3_copyFrom_16 rfl (lv_at hl 0 rfl) ?_
  refine lv_aload_n hx hb dX3_copyFrom_17 rfl (lv_at hl 1 rfl) ?_
  refine get3 B hP h1 2 (by decide) mw_99 rfl dX3_copyFrom_18 ?_
  refine put3 B hP hS h 2 (by decide) mw_99 rfl rfl rfl (fs3_2 E k _ _) dX3_copyFrom_21 (fun H locs hP hS => ?_)
  obtain ⟨ρ11, e12⟩ : ∃ z, z = up ρ9 k 2 (ρ9 k1 2) := ⟨_, rfl⟩
  rw [← e12] at hP
  have hI : CI r S ρ11 := by rw [e12]; exact CI_up hI (kind_lt h (by decide)) (SP_plain h rfl (by decide)) ⟨(fun z2 => absurd (Eq.trans (Eq.symm h) z2) (by decide)), (fun z2 => absurd (Eq.trans (Eq.symm h) z2) (by decide))⟩ hSS
  exact ret_v B hr hlk hP hS dX3_copyFrom_24 (hI)

set_option maxHeartbeats 4000000 in
set_option maxRecDepth 100000 in
theorem d_X3_expect (l : Launch) (E : hE) (ρ r : Nat → Nat → Int32) (S : Nat × Nat → Prop) (hSS : SK S) (k : Nat) (h : hk k = 3) (a1 : Int32) (a2 : Int32) (hI : CI r S ρ) : Met l yX3_expect (.code yX3_expect cX3_expect 3 none :: gw_all) (rmk 1 40) (cPre E ρ [.ref (E.2.1 + k), .int a1, .int a2]) (cV E (fun ρ1 => CI r S ρ1)) 0 0 (hA E) := by
  refine ent (own := RX3) (by decide) rfl (Nat.le_of_ble_eq_true rfl) ?_
  intro p e s m below meth c ls B hr hlk hl hP hS
  have hx := B.1.1
  have hb := B.1.2.1
  have hown := B.1.2.2.2.1
  have hts := B.1.2.2.2.2
  have hl : lv_has ls 3 [(0, .ref (E.2.1 + k)), (1, .int a1), (2, .int a2)] := hl
  refine lv_aload_n hx hb dX3_expect_0 rfl (lv_at hl 0 rfl) ?_
  refine lv_iload_n hx hb dX3_expect_1 rfl (lv_at hl 1 rfl) ?_
  refine put3 B hP hS h 1 (by decide) mw_96 rfl rfl rfl (fs3_1 E k _ _) dX3_expect_2 (fun H locs hP hS => ?_)
  obtain ⟨ρ5, e6⟩ : ∃ z, z = up ρ k 1 a1 := ⟨_, rfl⟩
  rw [← e6] at hP
  have hI : CI r S ρ5 := by rw [e6]; exact CI_up hI (kind_lt h (by decide)) (SP_plain h rfl (by decide)) ⟨(fun z2 => absurd (Eq.trans (Eq.symm h) z2) (by decide)), (fun z2 => absurd (Eq.trans (Eq.symm h) z2) (by decide))⟩ hSS
  refine lv_aload_n hx hb dX3_expect_5 rfl (lv_at hl 0 rfl) ?_
  refine lv_iload_n hx hb dX3_expect_6 rfl (lv_at hl 2 rfl) ?_
  refine put3 B hP hS h 2 (by decide) mw_99 rfl rfl rfl (fs3_2 E k _ _) dX3_expect_7 (fun H locs hP hS => ?_)
  obtain ⟨ρ7, e8⟩ : ∃ z, z = up ρ5 k 2 a2 := ⟨_, rfl⟩
  rw [← e8] at hP
  have hI : CI r S ρ7 := by rw [e8]; exact CI_up hI (kind_lt h (by decide)) (SP_plain h rfl (by decide)) ⟨(fun z2 => absurd (Eq.trans (Eq.symm h) z2) (by decide)), (fun z2 => absurd (Eq.trans (Eq.symm h) z2) (by decide))⟩ hSS
  exact ret_v B hr hlk hP hS dX3_expect_10 (hI)

set_option maxHeartbeats 4000000 in
set_option maxRecDepth 100000 in
theorem d_X3_isLike (l : Launch) (E : hE) (ρ r : Nat → Nat → Int32) (S : Nat × Nat → Prop) (hSS : SK S) (k : Nat) (h : hk k = 3) (k1 : Nat) (h1 : hk k1 = 3) (hI : CI r S ρ) : Met l yX3_isLike (.code yX3_isLike cX3_isLike 2 (some .boolean) :: gw_all) (rmk 1 40) (cPre E ρ [.ref (E.2.1 + k), .ref (E.2.1 + k1)]) (cI E (fun v ρ1 => ρ = ρ1 ∧ CI r S ρ1 ∧ iR v (0) (1))) 0 0 (hA E) := by
  refine ent (own := RX3) (by decide) rfl (Nat.le_of_ble_eq_true rfl) ?_
  intro p e s m below meth c ls B hr hlk hl hP hS
  have hx := B.1.1
  have hb := B.1.2.1
  have hown := B.1.2.2.2.1
  have hts := B.1.2.2.2.2
  have hl : lv_has ls 2 [(0, .ref (E.2.1 + k)), (1, .ref (E.2.1 + k1))] := hl
  refine lv_aload_n hx hb dX3_isLike_0 rfl (lv_at hl 0 rfl) ?_
  refine get3 B hP h 0 (by decide) mw_91 rfl dX3_isLike_1 ?_
  refine lv_aload_n hx hb dX3_isLike_4 rfl (lv_at hl 1 rfl) ?_
  refine get3 B hP h1 0 (by decide) mw_91 rfl dX3_isLike_5 ?_
  refine lv_icmp_ne (tgt := 37) hx hb dX3_isLike_8 (by decide) (fun c4 => ?_) (fun c4 => ?_)
  · skip
    refine lv_iconst (v := 0) hx hb dX3_isLike_37 (by decide) ?_
    exact ret_z B hr hlk hP hS dX3_isLike_38 (Or.inl rfl) (⟨rfl, hI, (iR_w (a := 0) (b := 0) (show iR 0 (0) (0) from ⟨by decide, by decide⟩) (by decide) (by decide))⟩)
  · skip
    refine lv_aload_n hx hb dX3_isLike_11 rfl (lv_at hl 0 rfl) ?_
    refine get3 B hP h 1 (by decide) mw_96 rfl dX3_isLike_12 ?_
    refine lv_aload_n hx hb dX3_isLike_15 rfl (lv_at hl 1 rfl) ?_
    refine get3 B hP h1 1 (by decide) mw_96 rfl dX3_isLike_16 ?_
    refine lv_icmp_ne (tgt := 37) hx hb dX3_isLike_19 (by decide) (fun c5 => ?_) (fun c5 => ?_)
    · skip
      refine lv_iconst (v := 0) hx hb dX3_isLike_37 (by decide) ?_
      exact ret_z B hr hlk hP hS dX3_isLike_38 (Or.inl rfl) (⟨rfl, hI, (iR_w (a := 0) (b := 0) (show iR 0 (0) (0) from ⟨by decide, by decide⟩) (by decide) (by decide))⟩)
    · skip
      refine lv_aload_n hx hb dX3_isLike_22 rfl (lv_at hl 0 rfl) ?_
      refine get3 B hP h 2 (by decide) mw_99 rfl dX3_isLike_23 ?_
      refine lv_aload_n hx hb dX3_isLike_26 rfl (lv_at hl 1 rfl) ?_
      refine get3 B hP h1 2 (by decide) mw_99 rfl dX3_isLike_27 ?_
      refine lv_icmp_ne (tgt := 37) hx hb dX3_isLike_30 (by decide) (fun c6 => ?_) (fun c6 => ?_)
      · skip
        refine lv_iconst (v := 0) hx hb dX3_isLike_37 (by decide) ?_
        exact ret_z B hr hlk hP hS dX3_isLike_38 (Or.inl rfl) (⟨rfl, hI, (iR_w (a := 0) (b := 0) (show iR 0 (0) (0) from ⟨by decide, by decide⟩) (by decide) (by decide))⟩)
      · skip
        refine lv_iconst (v := 1) hx hb dX3_isLike_33 (by decide) ?_
        refine lv_goto (tgt := 38) hx hb dX3_isLike_34 (by decide) ?_
        exact ret_z B hr hlk hP hS dX3_isLike_38 (Or.inr rfl) (⟨rfl, hI, (iR_w (a := 1) (b := 1) (show iR 1 (1) (1) from ⟨by decide, by decide⟩) (by decide) (by decide))⟩)

set_option maxHeartbeats 4000000 in
set_option maxRecDepth 100000 in
theorem d_X4_append (l : Launch) (E : hE) (ρ r : Nat → Nat → Int32) (S : Nat × Nat → Prop) (hSS : SK S) (k : Nat) (h : hk k = 4) (a1 : Int32) (a2 : Int32) (hI : CI r S ρ) : Met l yX4_append (.code yX4_append cX4_append 3 none :: gw_all) (rmk 1 40) (cPre E ρ [.ref (E.2.1 + k), .int a1, .int a2]) (cV E (fun ρ1 => CI r S ρ1)) 0 0 (hA E) := by
  refine ent (own := RX4) (by decide) rfl (Nat.le_of_ble_eq_true rfl) ?_
  intro p e s m below meth c ls B hr hlk hl hP hS
  have hx := B.1.1
  have hb := B.1.2.1
  have hown := B.1.2.2.2.1
  have hts := B.1.2.2.2.2
  have hl : lv_has ls 3 [(0, .ref (E.2.1 + k)), (1, .int a1), (2, .int a2)] := hl
  refine lv_aload_n hx hb dX4_append_0 rfl (lv_at hl 0 rfl) ?_
  refine get4 B hP h 2 (by decide) mw_129 rfl dX4_append_1 ?_
  have i14 : iR (ρ k 2) 0 8 := CI_get hI (kind_lt h (by decide)) h rfl
  obtain ⟨j15, lj15, uj15, ej15⟩ := iR_nat (a := 0) (b := 8) i14
  refine lv_topi (fun z16 ez16 => ?_)
  obtain rfl : z16 = nI j15 := ez16.trans ej15
  refine lv_bipush (v := 8) hx hb dX4_append_4 (by decide) ?_
  refine lv_icmp_ge (tgt := 39) hx hb dX4_append_6 (by decide) (fun c17 => ?_) (fun c17 => ?_)
  · skip
    have n18 := mt (nx_lt (a := j15) (b := 8) (by omega) (by omega)).mpr (show ¬ (nI j15 < nI 8) from (Int32.not_lt.mpr c17))
    exact ret_v B hr hlk hP hS dX4_append_39 (hI)
  · skip
    have n19 := (nx_lt (a := j15) (b := 8) (by omega) (by omega)).mp (show (nI j15 < nI 8) from (Int32.not_le.mp c17))
    refine lv_aload_n hx hb dX4_append_9 rfl (lv_at hl 0 rfl) ?_
    refine get4 B hP h 0 (by decide) mw_126 rfl dX4_append_10 ?_
    refine lv_aload_n hx hb dX4_append_13 rfl (lv_at hl 0 rfl) ?_
    refine get4 B hP h 2 (by decide) mw_129 (v := .int (nI j15)) (show some (Value.int (ρ k 2)) = some (Value.int (nI j15)) from congrArg (fun z => some (Value.int z)) ej15) dX4_append_14 ?_
    refine lv_iload_n hx hb dX4_append_17 rfl (lv_at hl 1 rfl) ?_
    refine astn (n := 8) (j := j15) B hP hS (lay4 h).1 (lay4 h).2.1 rfl (by omega) (by decide) dX4_append_18 (fun H locs hP hS => ?_)
    obtain ⟨ρ20, e21⟩ : ∃ z, z = up ρ (k + 1) j15 a1 := ⟨_, rfl⟩
    rw [← e21] at hP
    have hI : CI r S ρ20 := by rw [e21]; exact CI_up hI (by have := lay4l h; omega) (SP_plain (lay4 h).1 rfl (by decide)) ⟨(fun z2 => absurd (Eq.trans (Eq.symm (lay4 h).1) z2) (by decide)), (fun z2 => absurd (Eq.trans (Eq.symm (lay4 h).1) z2) (by decide))⟩ hSS
    refine lv_aload_n hx hb dX4_append_19 rfl (lv_at hl 0 rfl) ?_
    refine get4 B hP h 1 (by decide) mw_128 rfl dX4_append_20 ?_
    refine lv_aload_n hx hb dX4_append_23 rfl (lv_at hl 0 rfl) ?_
    refine get4 B hP h 2 (by decide) mw_129 (v := .int (nI j15)) (show some (Value.int (ρ20 k 2)) = some (Value.int (nI j15)) from congrArg (fun z => some (Value.int z)) (by rw [e21]; exact up_get_ne (Or.inl (fun z => absurd (Eq.trans (Eq.symm h) (Eq.trans (congrArg hk z) (lay4 h).1)) (by decide))) ej15)) dX4_append_24 ?_
    refine lv_iload_n hx hb dX4_append_27 rfl (lv_at hl 2 rfl) ?_
    refine astn (n := 8) (j := j15) B hP hS (lay4 h).2.2.1 (lay4 h).2.2.2 rfl (by omega) (by decide) dX4_append_28 (fun H locs hP hS => ?_)
    obtain ⟨ρ22, e23⟩ : ∃ z, z = up ρ20 (k + 2) j15 a2 := ⟨_, rfl⟩
    rw [← e23] at hP
    have hI : CI r S ρ22 := by rw [e23]; exact CI_up hI (by have := lay4l h; omega) (SP_plain (lay4 h).2.2.1 rfl (by decide)) ⟨(fun z2 => absurd (Eq.trans (Eq.symm (lay4 h).2.2.1) z2) (by decide)), (fun z2 => absurd (Eq.trans (Eq.symm (lay4 h).2.2.1) z2) (by decide))⟩ hSS
    refine lv_aload_n hx hb dX4_append_29 rfl (lv_at hl 0 rfl) ?_
    refine lv_dup hx hb dX4_append_30 rfl ?_
    refine get4 B hP h 2 (by decide) mw_129 (v := .int (nI j15)) (show some (Value.int (ρ22 k 2)) = some (Value.int (nI j15)) from congrArg (fun z => some (Value.int z)) (by rw [e23]; exact up_get_ne (Or.inl (fun z => absurd (Eq.trans (Eq.symm h) (Eq.trans (congrArg hk z) (lay4 h).2.2.1)) (by decide))) (by rw [e21]; exact up_get_ne (Or.inl (fun z => absurd (Eq.trans (Eq.symm h) (Eq.trans (congrArg hk z) (lay4 h).1)) (by decide))) ej15))) dX4_append_31 ?_
    refine lv_iconst (v := 1) hx hb dX4_append_34 (by decide) ?_
    refine lv_iadd hx hb dX4_append_35 ?_
    refine lv_topi (fun z24 ez24 => ?_)
    obtain rfl : z24 = (nI (1 + j15)) := ez24.trans (by rw [show (nI j15) = nI j15 from rfl, show 1 = nI 1 from rfl, nI_add] <;> exact congrArg nI (by omega))
    refine put4 B hP hS h 2 (by decide) mw_129 rfl rfl rfl (fs4_2 E k _ _) dX4_append_36 (fun H locs hP hS => ?_)
    obtain ⟨ρ25, e26⟩ : ∃ z, z = up ρ22 k 2 (nI (1 + j15)) := ⟨_, rfl⟩
    rw [← e26] at hP
    have hI : CI r S ρ25 := by rw [e26]; exact CI_up hI (kind_lt h (by decide)) (SP_rng h rfl (by decide) (iR_w (a := 1) (b := 8) (nI_iR (j := (1 + j15)) (a := 1) (b := 8) (by omega) (by omega) (by omega)) (by decide) (by decide))) ⟨(fun z2 => absurd (Eq.trans (Eq.symm h) z2) (by decide)), (fun z2 => absurd (Eq.trans (Eq.symm h) z2) (by decide))⟩ hSS
    exact ret_v B hr hlk hP hS dX4_append_39 (hI)

set_option maxHeartbeats 4000000 in
set_option maxRecDepth 100000 in
theorem d_X4_begin (l : Launch) (E : hE) (ρ r : Nat → Nat → Int32) (S : Nat × Nat → Prop) (hSS : SK S) (k : Nat) (h : hk k = 4) (hI : CI r S ρ) : Met l yX4_begin (.code yX4_begin cX4_begin 1 none :: gw_all) (rmk 1 40) (cPre E ρ [.ref (E.2.1 + k)]) (cV E (fun ρ1 => CI r S ρ1)) 0 0 (hA E) := by
  refine ent (own := RX4) (by decide) rfl (Nat.le_of_ble_eq_true rfl) ?_
  intro p e s m below meth c ls B hr hlk hl hP hS
  have hx := B.1.1
  have hb := B.1.2.1
  have hown := B.1.2.2.2.1
  have hts := B.1.2.2.2.2
  have hl : lv_has ls 1 [(0, .ref (E.2.1 + k))] := hl
  refine lv_aload_n hx hb dX4_begin_0 rfl (lv_at hl 0 rfl) ?_
  refine lv_iconst (v := 0) hx hb dX4_begin_1 (by decide) ?_
  refine put4 B hP hS h 2 (by decide) mw_129 rfl rfl rfl (fs4_2 E k _ _) dX4_begin_2 (fun H locs hP hS => ?_)
  obtain ⟨ρ13, e14⟩ : ∃ z, z = up ρ k 2 0 := ⟨_, rfl⟩
  rw [← e14] at hP
  have hI : CI r S ρ13 := by rw [e14]; exact CI_up hI (kind_lt h (by decide)) (SP_rng h rfl (by decide) (iR_w (a := 0) (b := 0) (show iR 0 (0) (0) from ⟨by decide, by decide⟩) (by decide) (by decide))) ⟨(fun z2 => absurd (Eq.trans (Eq.symm h) z2) (by decide)), (fun z2 => absurd (Eq.trans (Eq.symm h) z2) (by decide))⟩ hSS
  refine lv_aload_n hx hb dX4_begin_5 rfl (lv_at hl 0 rfl) ?_
  refine lv_iconst (v := 0) hx hb dX4_begin_6 (by decide) ?_
  refine put4 B hP hS h 3 (by decide) mw_132 rfl rfl rfl (fs4_3 E k _ _) dX4_begin_7 (fun H locs hP hS => ?_)
  obtain ⟨ρ15, e16⟩ : ∃ z, z = up ρ13 k 3 0 := ⟨_, rfl⟩
  rw [← e16] at hP
  have hI : CI r S ρ15 := by rw [e16]; exact CI_up hI (kind_lt h (by decide)) (SP_plain h rfl (by decide)) ⟨(fun z2 => absurd (Eq.trans (Eq.symm h) z2) (by decide)), (fun z2 => absurd (Eq.trans (Eq.symm h) z2) (by decide))⟩ hSS
  refine lv_aload_n hx hb dX4_begin_10 rfl (lv_at hl 0 rfl) ?_
  refine lv_iconst (v := 1) hx hb dX4_begin_11 (by decide) ?_
  refine put4 B hP hS h 4 (by decide) mw_134 rfl rfl rfl (fs4_4 E k _ _) dX4_begin_12 (fun H locs hP hS => ?_)
  obtain ⟨ρ17, e18⟩ : ∃ z, z = up ρ15 k 4 1 := ⟨_, rfl⟩
  rw [← e18] at hP
  have hI : CI r S ρ17 := by rw [e18]; exact CI_up hI (kind_lt h (by decide)) (SP_plain h rfl (by decide)) ⟨(fun z2 => absurd (Eq.trans (Eq.symm h) z2) (by decide)), (fun z2 => absurd (Eq.trans (Eq.symm h) z2) (by decide))⟩ hSS
  refine lv_aload_n hx hb dX4_begin_15 rfl (lv_at hl 0 rfl) ?_
  refine lv_iconst (v := 0) hx hb dX4_begin_16 (by decide) ?_
  refine put4 B hP hS h 5 (by decide) mw_136 rfl rfl rfl (fs4_5 E k _ _) dX4_begin_17 (fun H locs hP hS => ?_)
  obtain ⟨ρ19, e20⟩ : ∃ z, z = up ρ17 k 5 0 := ⟨_, rfl⟩
  rw [← e20] at hP
  have hI : CI r S ρ19 := by rw [e20]; exact CI_up hI (kind_lt h (by decide)) (SP_plain h rfl (by decide)) ⟨(fun z2 => absurd (Eq.trans (Eq.symm h) z2) (by decide)), (fun z2 => absurd (Eq.trans (Eq.symm h) z2) (by decide))⟩ hSS
  refine lv_aload_n hx hb dX4_begin_20 rfl (lv_at hl 0 rfl) ?_
  refine lv_iconst (v := 0) hx hb dX4_begin_21 (by decide) ?_
  refine put4 B hP hS h 6 (by decide) mw_139 rfl rfl rfl (fs4_6 E k _ _) dX4_begin_22 (fun H locs hP hS => ?_)
  obtain ⟨ρ21, e22⟩ : ∃ z, z = up ρ19 k 6 0 := ⟨_, rfl⟩
  rw [← e22] at hP
  have hI : CI r S ρ21 := by rw [e22]; exact CI_up hI (kind_lt h (by decide)) (SP_plain h rfl (by decide)) ⟨(fun z2 => absurd (Eq.trans (Eq.symm h) z2) (by decide)), (fun z2 => absurd (Eq.trans (Eq.symm h) z2) (by decide))⟩ hSS
  refine lv_aload_n hx hb dX4_begin_25 rfl (lv_at hl 0 rfl) ?_
  refine lv_iconst (v := 0) hx hb dX4_begin_26 (by decide) ?_
  refine put4 B hP hS h 7 (by decide) mw_141 rfl rfl rfl (fs4_7 E k _ _) dX4_begin_27 (fun H locs hP hS => ?_)
  obtain ⟨ρ23, e24⟩ : ∃ z, z = up ρ21 k 7 0 := ⟨_, rfl⟩
  rw [← e24] at hP
  have hI : CI r S ρ23 := by rw [e24]; exact CI_up hI (kind_lt h (by decide)) (SP_plain h rfl (by decide)) ⟨(fun z2 => absurd (Eq.trans (Eq.symm h) z2) (by decide)), (fun z2 => absurd (Eq.trans (Eq.symm h) z2) (by decide))⟩ hSS
  exact ret_v B hr hlk hP hS dX4_begin_30 (hI)

set_option maxHeartbeats 4000000 in
set_option maxRecDepth 100000 in
theorem d_X4_copyFrom (l : Launch) (E : hE) (ρ r : Nat → Nat → Int32) (S : Nat × Nat → Prop) (hSS : SK S) (k : Nat) (h : hk k = 4) (k1 : Nat) (h1 : hk k1 = 4) (hI : CI r S ρ) : Met l yX4_copyFrom (.code yX4_copyFrom cX4_copyFrom 2 none :: gw_all) (rmk 2 80) (cPre E ρ [.ref (E.2.1 + k), .ref (E.2.1 + k1)]) (cV E (fun ρ1 => CI r S ρ1)) 0 0 (hA E) := by
  refine ent (own := RX4) (by decide) rfl (Nat.le_of_ble_eq_true rfl) ?_
  intro p e s m below meth c ls B hr hlk hl hP hS
  have hx := B.1.1
  have hb := B.1.2.1
  have hown := B.1.2.2.2.1
  have hts := B.1.2.2.2.2
  have hl : lv_has ls 2 [(0, .ref (E.2.1 + k)), (1, .ref (E.2.1 + k1))] := hl
  refine lv_aload_n hx hb dX4_copyFrom_0 rfl (lv_at hl 1 rfl) ?_
  refine get4 B hP h1 0 (by decide) mw_126 rfl dX4_copyFrom_1 ?_
  refine lv_iconst (v := 0) hx hb dX4_copyFrom_4 (by decide) ?_
  refine lv_aload_n hx hb dX4_copyFrom_5 rfl (lv_at hl 0 rfl) ?_
  refine get4 B hP h 0 (by decide) mw_126 rfl dX4_copyFrom_6 ?_
  refine lv_iconst (v := 0) hx hb dX4_copyFrom_9 (by decide) ?_
  refine lv_bipush (v := 8) hx hb dX4_copyFrom_10 (by decide) ?_
  refine acopy (n := 8) B hP hS (lay4 h1).1 (lay4 h).1 (lay4 h1).2.1 (lay4 h).2.1 rfl (by decide) hl.1 mw_491 mw_472 mw_471 mw_60 (Nat.le_of_ble_eq_true rfl) (Nat.le_of_ble_eq_true rfl) dX4_copyFrom_12 (fun H locs hP hS => ?_)
  obtain ⟨ρ20, e21⟩ : ∃ z, z = upc ρ (k + 1) (va_cpy (ρ (k1 + 1)) (ρ (k + 1)) 0 0 8) := ⟨_, rfl⟩
  rw [← e21] at hP
  have hI : CI r S ρ20 := by rw [e21]; exact CI_upc hI (by have := lay4l h; omega) (lay4 h).1 hSS
  refine lv_aload_n hx hb dX4_copyFrom_15 rfl (lv_at hl 1 rfl) ?_
  refine get4 B hP h1 1 (by decide) mw_128 rfl dX4_copyFrom_16 ?_
  refine lv_iconst (v := 0) hx hb dX4_copyFrom_19 (by decide) ?_
  refine lv_aload_n hx hb dX4_copyFrom_20 rfl (lv_at hl 0 rfl) ?_
  refine get4 B hP h 1 (by decide) mw_128 rfl dX4_copyFrom_21 ?_
  refine lv_iconst (v := 0) hx hb dX4_copyFrom_24 (by decide) ?_
  refine lv_bipush (v := 8) hx hb dX4_copyFrom_25 (by decide) ?_
  refine acopy (n := 8) B hP hS (lay4 h1).2.2.1 (lay4 h).2.2.1 (lay4 h1).2.2.2 (lay4 h).2.2.2 rfl (by decide) hl.1 mw_491 mw_472 mw_471 mw_60 (Nat.le_of_ble_eq_true rfl) (Nat.le_of_ble_eq_true rfl) dX4_copyFrom_27 (fun H locs hP hS => ?_)
  obtain ⟨ρ22, e23⟩ : ∃ z, z = upc ρ20 (k + 2) (va_cpy (ρ20 (k1 + 2)) (ρ20 (k + 2)) 0 0 8) := ⟨_, rfl⟩
  rw [← e23] at hP
  have hI : CI r S ρ22 := by rw [e23]; exact CI_upc hI (by have := lay4l h; omega) (lay4 h).2.2.1 hSS
  refine lv_aload_n hx hb dX4_copyFrom_30 rfl (lv_at hl 0 rfl) ?_
  refine lv_aload_n hx hb dX4_copyFrom_31 rfl (lv_at hl 1 rfl) ?_
  refine get4 B hP h1 2 (by decide) mw_129 rfl dX4_copyFrom_32 ?_
  have i24 : iR (ρ22 k1 2) 0 8 := CI_get hI (kind_lt h1 (by decide)) h1 rfl
  obtain ⟨j25, lj25, uj25, ej25⟩ := iR_nat (a := 0) (b := 8) i24
  refine lv_topi (fun z26 ez26 => ?_)
  obtain rfl : z26 = nI j25 := ez26.trans ej25
  refine put4 B hP hS h 2 (by decide) mw_129 rfl rfl rfl (fs4_2 E k _ _) dX4_copyFrom_35 (fun H locs hP hS => ?_)
  obtain ⟨ρ27, e28⟩ : ∃ z, z = up ρ22 k 2 (nI j25) := ⟨_, rfl⟩
  rw [← e28] at hP
  have hI : CI r S ρ27 := by rw [e28]; exact CI_up hI (kind_lt h (by decide)) (SP_rng h rfl (by decide) (iR_w (a := 0) (b := 8) (nI_iR (j := j25) (a := 0) (b := 8) (by omega) (by omega) (by omega)) (by decide) (by decide))) ⟨(fun z2 => absurd (Eq.trans (Eq.symm h) z2) (by decide)), (fun z2 => absurd (Eq.trans (Eq.symm h) z2) (by decide))⟩ hSS
  refine lv_aload_n hx hb dX4_copyFrom_38 rfl (lv_at hl 0 rfl) ?_
  refine lv_aload_n hx hb dX4_copyFrom_39 rfl (lv_at hl 1 rfl) ?_
  refine get4 B hP h1 3 (by decide) mw_132 rfl dX4_copyFrom_40 ?_
  refine put4 B hP hS h 3 (by decide) mw_132 rfl rfl rfl (fs4_3 E k _ _) dX4_copyFrom_43 (fun H locs hP hS => ?_)
  obtain ⟨ρ29, e30⟩ : ∃ z, z = up ρ27 k 3 (ρ27 k1 3) := ⟨_, rfl⟩
  rw [← e30] at hP
  have hI : CI r S ρ29 := by rw [e30]; exact CI_up hI (kind_lt h (by decide)) (SP_plain h rfl (by decide)) ⟨(fun z2 => absurd (Eq.trans (Eq.symm h) z2) (by decide)), (fun z2 => absurd (Eq.trans (Eq.symm h) z2) (by decide))⟩ hSS
  refine lv_aload_n hx hb dX4_copyFrom_46 rfl (lv_at hl 0 rfl) ?_
  refine lv_aload_n hx hb dX4_copyFrom_47 rfl (lv_at hl 1 rfl) ?_
  refine get4 B hP h1 4 (by decide) mw_134 rfl dX4_copyFrom_48 ?_
  refine put4 B hP hS h 4 (by decide) mw_134 rfl rfl rfl (fs4_4 E k _ _) dX4_copyFrom_51 (fun H locs hP hS => ?_)
  obtain ⟨ρ31, e32⟩ : ∃ z, z = up ρ29 k 4 (ρ29 k1 4) := ⟨_, rfl⟩
  rw [← e32] at hP
  have hI : CI r S ρ31 := by rw [e32]; exact CI_up hI (kind_lt h (by decide)) (SP_plain h rfl (by decide)) ⟨(fun z2 => absurd (Eq.trans (Eq.symm h) z2) (by decide)), (fun z2 => absurd (Eq.trans (Eq.symm h) z2) (by decide))⟩ hSS
  refine lv_aload_n hx hb dX4_copyFrom_54 rfl (lv_at hl 0 rfl) ?_
  refine lv_aload_n hx hb dX4_copyFrom_55 rfl (lv_at hl 1 rfl) ?_
  refine get4 B hP h1 5 (by decide) mw_136 rfl dX4_copyFrom_56 ?_
  refine put4 B hP hS h 5 (by decide) mw_136 rfl rfl rfl (fs4_5 E k _ _) dX4_copyFrom_59 (fun H locs hP hS => ?_)
  obtain ⟨ρ33, e34⟩ : ∃ z, z = up ρ31 k 5 (ρ31 k1 5) := ⟨_, rfl⟩
  rw [← e34] at hP
  have hI : CI r S ρ33 := by rw [e34]; exact CI_up hI (kind_lt h (by decide)) (SP_plain h rfl (by decide)) ⟨(fun z2 => absurd (Eq.trans (Eq.symm h) z2) (by decide)), (fun z2 => absurd (Eq.trans (Eq.symm h) z2) (by decide))⟩ hSS
  refine lv_aload_n hx hb dX4_copyFrom_62 rfl (lv_at hl 0 rfl) ?_
  refine lv_aload_n hx hb dX4_copyFrom_63 rfl (lv_at hl 1 rfl) ?_
  refine get4 B hP h1 6 (by decide) mw_139 rfl dX4_copyFrom_64 ?_
  refine put4 B hP hS h 6 (by decide) mw_139 rfl rfl rfl (fs4_6 E k _ _) dX4_copyFrom_67 (fun H locs hP hS => ?_)
  obtain ⟨ρ35, e36⟩ : ∃ z, z = up ρ33 k 6 (ρ33 k1 6) := ⟨_, rfl⟩
  rw [← e36] at hP
  have hI : CI r S ρ35 := by rw [e36]; exact CI_up hI (kind_lt h (by decide)) (SP_plain h rfl (by decide)) ⟨(fun z2 => absurd (Eq.trans (Eq.symm h) z2) (by decide)), (fun z2 => absurd (Eq.trans (Eq.symm h) z2) (by decide))⟩ hSS
  refine lv_aload_n hx hb dX4_copyFrom_70 rfl (lv_at hl 0 rfl) ?_
  refine lv_aload_n hx hb dX4_copyFrom_71 rfl (lv_at hl 1 rfl) ?_
  refine get4 B hP h1 7 (by decide) mw_141 rfl dX4_copyFrom_72 ?_
  refine put4 B hP hS h 7 (by decide) mw_141 rfl rfl rfl (fs4_7 E k _ _) dX4_copyFrom_75 (fun H locs hP hS => ?_)
  obtain ⟨ρ37, e38⟩ : ∃ z, z = up ρ35 k 7 (ρ35 k1 7) := ⟨_, rfl⟩
  rw [← e38] at hP
  have hI : CI r S ρ37 := by rw [e38]; exact CI_up hI (kind_lt h (by decide)) (SP_plain h rfl (by decide)) ⟨(fun z2 => absurd (Eq.trans (Eq.symm h) z2) (by decide)), (fun z2 => absurd (Eq.trans (Eq.symm h) z2) (by decide))⟩ hSS
  exact ret_v B hr hlk hP hS dX4_copyFrom_78 (hI)

set_option maxHeartbeats 4000000 in
set_option maxRecDepth 100000 in
theorem d_X4_isFull (l : Launch) (E : hE) (ρ r : Nat → Nat → Int32) (S : Nat × Nat → Prop) (hSS : SK S) (k : Nat) (h : hk k = 4) (hI : CI r S ρ) : Met l yX4_isFull (.code yX4_isFull cX4_isFull 1 (some .boolean) :: gw_all) (rmk 1 40) (cPre E ρ [.ref (E.2.1 + k)]) (cI E (fun v ρ1 => ρ = ρ1 ∧ CI r S ρ1 ∧ iR v (0) (1))) 0 0 (hA E) := by
  refine ent (own := RX4) (by decide) rfl (Nat.le_of_ble_eq_true rfl) ?_
  intro p e s m below meth c ls B hr hlk hl hP hS
  have hx := B.1.1
  have hb := B.1.2.1
  have hown := B.1.2.2.2.1
  have hts := B.1.2.2.2.2
  have hl : lv_has ls 1 [(0, .ref (E.2.1 + k))] := hl
  refine lv_aload_n hx hb dX4_isFull_0 rfl (lv_at hl 0 rfl) ?_
  refine get4 B hP h 2 (by decide) mw_129 rfl dX4_isFull_1 ?_
  have i7 : iR (ρ k 2) 0 8 := CI_get hI (kind_lt h (by decide)) h rfl
  obtain ⟨j8, lj8, uj8, ej8⟩ := iR_nat (a := 0) (b := 8) i7
  refine lv_topi (fun z9 ez9 => ?_)
  obtain rfl : z9 = nI j8 := ez9.trans ej8
  refine lv_bipush (v := 8) hx hb dX4_isFull_4 (by decide) ?_
  refine lv_icmp_lt (tgt := 13) hx hb dX4_isFull_6 (by decide) (fun c10 => ?_) (fun c10 => ?_)
  · skip
    have n11 := (nx_lt (a := j8) (b := 8) (by omega) (by omega)).mp (show (nI j8 < nI 8) from c10)
    refine lv_iconst (v := 0) hx hb dX4_isFull_13 (by decide) ?_
    exact ret_z B hr hlk hP hS dX4_isFull_14 (Or.inl rfl) (⟨rfl, hI, (iR_w (a := 0) (b := 0) (show iR 0 (0) (0) from ⟨by decide, by decide⟩) (by decide) (by decide))⟩)
  · skip
    have n12 := mt (nx_lt (a := j8) (b := 8) (by omega) (by omega)).mpr (show ¬ (nI j8 < nI 8) from c10)
    refine lv_iconst (v := 1) hx hb dX4_isFull_9 (by decide) ?_
    refine lv_goto (tgt := 14) hx hb dX4_isFull_10 (by decide) ?_
    exact ret_z B hr hlk hP hS dX4_isFull_14 (Or.inr rfl) (⟨rfl, hI, (iR_w (a := 1) (b := 1) (show iR 1 (1) (1) from ⟨by decide, by decide⟩) (by decide) (by decide))⟩)

set_option maxHeartbeats 4000000 in
set_option maxRecDepth 100000 in
theorem d_X4_hearFirst (l : Launch) (E : hE) (ρ r : Nat → Nat → Int32) (S : Nat × Nat → Prop) (hSS : SK S) (k : Nat) (h : hk k = 4) (hI : CI r S ρ) : Met l yX4_hearFirst (.code yX4_hearFirst cX4_hearFirst 1 (some .boolean) :: gw_all) (rmk 1 40) (cPre E ρ [.ref (E.2.1 + k)]) (cI E (fun v ρ1 => CI r S ρ1 ∧ iR v (0) (1))) 0 0 (hA E) := by
  refine ent (own := RX4) (by decide) rfl (Nat.le_of_ble_eq_true rfl) ?_
  intro p e s m below meth c ls B hr hlk hl hP hS
  have hx := B.1.1
  have hb := B.1.2.1
  have hown := B.1.2.2.2.1
  have hts := B.1.2.2.2.2
  have hl : lv_has ls 1 [(0, .ref (E.2.1 + k))] := hl
  refine lv_aload_n hx hb dX4_hearFirst_0 rfl (lv_at hl 0 rfl) ?_
  refine get4 B hP h 2 (by decide) mw_129 rfl dX4_hearFirst_1 ?_
  have i14 : iR (ρ k 2) 0 8 := CI_get hI (kind_lt h (by decide)) h rfl
  obtain ⟨j15, lj15, uj15, ej15⟩ := iR_nat (a := 0) (b := 8) i14
  refine lv_topi (fun z16 ez16 => ?_)
  obtain rfl : z16 = nI j15 := ez16.trans ej15
  refine lv_if_eq (tgt := 18) hx hb dX4_hearFirst_4 (by decide) (fun c17 => ?_) (fun c17 => ?_)
  · skip
    have n18 := (nI_eq (a := j15) (b := 0) (by omega) (by omega)).mp (show (nI j15 = nI 0) from c17)
    refine lv_iconst (v := 0) hx hb dX4_hearFirst_18 (by decide) ?_
    exact ret_z B hr hlk hP hS dX4_hearFirst_19 (Or.inl rfl) (⟨hI, (iR_w (a := 0) (b := 0) (show iR 0 (0) (0) from ⟨by decide, by decide⟩) (by decide) (by decide))⟩)
  · skip
    have n19 := mt (nI_eq (a := j15) (b := 0) (by omega) (by omega)).mpr (show ¬ (nI j15 = nI 0) from c17)
    refine lv_aload_n hx hb dX4_hearFirst_7 rfl (lv_at hl 0 rfl) ?_
    refine get4 B hP h 3 (by decide) mw_132 rfl dX4_hearFirst_8 ?_
    refine lv_aload_n hx hb dX4_hearFirst_11 rfl (lv_at hl 0 rfl) ?_
    refine get4 B hP h 4 (by decide) mw_134 rfl dX4_hearFirst_12 ?_
    refine lv_icmp_ne (tgt := 20) hx hb dX4_hearFirst_15 (by decide) (fun c20 => ?_) (fun c20 => ?_)
    · skip
      refine lv_aload_n hx hb dX4_hearFirst_20 rfl (lv_at hl 0 rfl) ?_
      refine lv_aload_n hx hb dX4_hearFirst_21 rfl (lv_at hl 0 rfl) ?_
      refine get4 B hP h 3 (by decide) mw_132 (v := .int (ρ k 3)) (show some (Value.int (ρ k 3)) = some (Value.int (ρ k 3)) from congrArg (fun z => some (Value.int z)) rfl) dX4_hearFirst_22 ?_
      refine put4 B hP hS h 4 (by decide) mw_134 rfl rfl rfl (fs4_4 E k _ _) dX4_hearFirst_25 (fun H locs hP hS => ?_)
      obtain ⟨ρ21, e22⟩ : ∃ z, z = up ρ k 4 (ρ k 3) := ⟨_, rfl⟩
      rw [← e22] at hP
      have hI : CI r S ρ21 := by rw [e22]; exact CI_up hI (kind_lt h (by decide)) (SP_plain h rfl (by decide)) ⟨(fun z2 => absurd (Eq.trans (Eq.symm h) z2) (by decide)), (fun z2 => absurd (Eq.trans (Eq.symm h) z2) (by decide))⟩ hSS
      refine lv_aload_n hx hb dX4_hearFirst_28 rfl (lv_at hl 0 rfl) ?_
      refine lv_dup hx hb dX4_hearFirst_29 rfl ?_
      refine get4 B hP h 5 (by decide) mw_136 rfl dX4_hearFirst_30 ?_
      refine lv_iconst (v := 1) hx hb dX4_hearFirst_33 (by decide) ?_
      refine lv_iadd hx hb dX4_hearFirst_34 ?_
      refine put4 B hP hS h 5 (by decide) mw_136 rfl rfl rfl (fs4_5 E k _ _) dX4_hearFirst_35 (fun H locs hP hS => ?_)
      obtain ⟨ρ23, e24⟩ : ∃ z, z = up ρ21 k 5 ((ρ21 k 5) + 1) := ⟨_, rfl⟩
      rw [← e24] at hP
      have hI : CI r S ρ23 := by rw [e24]; exact CI_up hI (kind_lt h (by decide)) (SP_plain h rfl (by decide)) ⟨(fun z2 => absurd (Eq.trans (Eq.symm h) z2) (by decide)), (fun z2 => absurd (Eq.trans (Eq.symm h) z2) (by decide))⟩ hSS
      refine lv_aload_n hx hb dX4_hearFirst_38 rfl (lv_at hl 0 rfl) ?_
      refine lv_bipush (v := 31) hx hb dX4_hearFirst_39 (by decide) ?_
      refine lv_aload_n hx hb dX4_hearFirst_41 rfl (lv_at hl 0 rfl) ?_
      refine get4 B hP h 6 (by decide) mw_139 rfl dX4_hearFirst_42 ?_
      refine lv_imul hx hb dX4_hearFirst_45 ?_
      refine lv_aload_n hx hb dX4_hearFirst_46 rfl (lv_at hl 0 rfl) ?_
      refine get4 B hP h 0 (by decide) mw_126 rfl dX4_hearFirst_47 ?_
      refine lv_iconst (v := 0) hx hb dX4_hearFirst_50 (by decide) ?_
      refine aldn (n := 8) (j := 0) B hP (lay4 h).1 (lay4 h).2.1 rfl (by decide) (by decide) dX4_hearFirst_51 ?_
      refine lv_iadd hx hb dX4_hearFirst_52 ?_
      refine lv_iconst (v := 1) hx hb dX4_hearFirst_53 (by decide) ?_
      refine lv_iadd hx hb dX4_hearFirst_54 ?_
      refine put4 B hP hS h 6 (by decide) mw_139 rfl rfl rfl (fs4_6 E k _ _) dX4_hearFirst_55 (fun H locs hP hS => ?_)
      obtain ⟨ρ25, e26⟩ : ∃ z, z = up ρ23 k 6 (((31 * (ρ23 k 6)) + (ρ23 (k + 1) 0)) + 1) := ⟨_, rfl⟩
      rw [← e26] at hP
      have hI : CI r S ρ25 := by rw [e26]; exact CI_up hI (kind_lt h (by decide)) (SP_plain h rfl (by decide)) ⟨(fun z2 => absurd (Eq.trans (Eq.symm h) z2) (by decide)), (fun z2 => absurd (Eq.trans (Eq.symm h) z2) (by decide))⟩ hSS
      refine lv_iconst (v := 1) hx hb dX4_hearFirst_58 (by decide) ?_
      exact ret_z B hr hlk hP hS dX4_hearFirst_59 (Or.inr rfl) (⟨hI, (iR_w (a := 1) (b := 1) (show iR 1 (1) (1) from ⟨by decide, by decide⟩) (by decide) (by decide))⟩)
    · skip
      refine lv_iconst (v := 0) hx hb dX4_hearFirst_18 (by decide) ?_
      exact ret_z B hr hlk hP hS dX4_hearFirst_19 (Or.inl rfl) (⟨hI, (iR_w (a := 0) (b := 0) (show iR 0 (0) (0) from ⟨by decide, by decide⟩) (by decide) (by decide))⟩)

set_option maxHeartbeats 4000000 in
set_option maxRecDepth 100000 in
theorem d_X4_takeFirst (l : Launch) (E : hE) (ρ r : Nat → Nat → Int32) (S : Nat × Nat → Prop) (hSS : SK S) (k : Nat) (h : hk k = 4) (a1 : Int32) (hI : CI r S ρ) : Met l yX4_takeFirst (.code yX4_takeFirst cX4_takeFirst 3 none :: gw_all) (rmk 2 80) (cPre E ρ [.ref (E.2.1 + k), .int a1]) (cV E (fun ρ1 => CI r S ρ1)) 0 0 (hA E) := by
  refine ent (own := RX4) (by decide) rfl (Nat.le_of_ble_eq_true rfl) ?_
  intro p e s m below meth c ls B hr hlk hl hP hS
  have hx := B.1.1
  have hb := B.1.2.1
  have hown := B.1.2.2.2.1
  have hts := B.1.2.2.2.2
  have hl : lv_has ls 3 [(0, .ref (E.2.1 + k)), (1, .int a1)] := hl
  have b79_0 : ∀ (ls : Array Slot) (ρ : Nat → Nat → Int32) (H : Heap) (locs : List Loc) , lv_has ls 3 [(0, .ref (E.2.1 + k))] → WP E ρ H → va_S (hA E) s.heap H locs → CI r S ρ → iR (ρ k 2) 1 8 → W p l e (rmk 2 80) s m ([.ref (E.2.1 + k), .int a1] : List Value).toArray below meth c H locs 0 0 (MQ below (cV E (fun ρ1 => CI r S ρ1)) ([.ref (E.2.1 + k), .int a1] : List Value).toArray s 0 0 (hA E)) (F0 m 79 ls []) := by
    intro ls ρ H locs  hl hP hS hI kp0
    refine lv_aload_n hx hb dX4_takeFirst_79 rfl (lv_at hl 0 rfl) ?_
    refine lv_dup hx hb dX4_takeFirst_80 rfl ?_
    refine get4 B hP h 2 (by decide) mw_129 rfl dX4_takeFirst_81 ?_
    obtain ⟨j94, lj94, uj94, ej94⟩ := iR_nat (a := 1) (b := 8) kp0
    refine lv_topi (fun z95 ez95 => ?_)
    obtain rfl : z95 = nI j94 := ez95.trans ej94
    refine lv_iconst (v := 1) hx hb dX4_takeFirst_84 (by decide) ?_
    refine lv_isub hx hb dX4_takeFirst_85 ?_
    obtain ⟨j96, lj96, uj96, ej96⟩ := iR_nat (a := 0) (b := 7) (iR_sub (a' := 0) (b' := 7) (nI_iR (j := j94) (a := 1) (b := 8) (by omega) (by omega) (by omega)) (show iR 1 (1) (1) from ⟨by decide, by decide⟩) (by decide) (by decide) (by decide) (by decide))
    refine lv_topi (fun z97 ez97 => ?_)
    obtain rfl : z97 = nI j96 := ez97.trans ej96
    refine put4 B hP hS h 2 (by decide) mw_129 rfl rfl rfl (fs4_2 E k _ _) dX4_takeFirst_86 (fun H locs hP hS => ?_)
    obtain ⟨ρ98, e99⟩ : ∃ z, z = up ρ k 2 (nI j96) := ⟨_, rfl⟩
    rw [← e99] at hP
    have hI : CI r S ρ98 := by rw [e99]; exact CI_up hI (kind_lt h (by decide)) (SP_rng h rfl (by decide) (iR_w (a := 0) (b := 7) (nI_iR (j := j96) (a := 0) (b := 7) (by omega) (by omega) (by omega)) (by decide) (by decide))) ⟨(fun z2 => absurd (Eq.trans (Eq.symm h) z2) (by decide)), (fun z2 => absurd (Eq.trans (Eq.symm h) z2) (by decide))⟩ hSS
    refine lv_aload_n hx hb dX4_takeFirst_89 rfl (lv_at hl 0 rfl) ?_
    refine lv_iconst (v := 1) hx hb dX4_takeFirst_90 (by decide) ?_
    refine lv_aload_n hx hb dX4_takeFirst_91 rfl (lv_at hl 0 rfl) ?_
    refine get4 B hP h 3 (by decide) mw_132 rfl dX4_takeFirst_92 ?_
    refine lv_isub hx hb dX4_takeFirst_95 ?_
    refine put4 B hP hS h 3 (by decide) mw_132 rfl rfl rfl (fs4_3 E k _ _) dX4_takeFirst_96 (fun H locs hP hS => ?_)
    obtain ⟨ρ100, e101⟩ : ∃ z, z = up ρ98 k 3 (1 - (ρ98 k 3)) := ⟨_, rfl⟩
    rw [← e101] at hP
    have hI : CI r S ρ100 := by rw [e101]; exact CI_up hI (kind_lt h (by decide)) (SP_plain h rfl (by decide)) ⟨(fun z2 => absurd (Eq.trans (Eq.symm h) z2) (by decide)), (fun z2 => absurd (Eq.trans (Eq.symm h) z2) (by decide))⟩ hSS
    exact ret_v B hr hlk hP hS dX4_takeFirst_99 (hI)
  have b31_0 : ∀ (ls : Array Slot) (ρ : Nat → Nat → Int32) (H : Heap) (locs : List Loc) (d31 : Nat) (j31_2 : Nat), lv_has ls 3 [(0, .ref (E.2.1 + k)), (2, .int (nI j31_2))] → WP E ρ H → va_S (hA E) s.heap H locs → CI r S ρ → 9 - j31_2 < d31 → 1 ≤ j31_2 → j31_2 ≤ 8 → iR (ρ k 2) 1 8 → W p l e (rmk 2 80) s m ([.ref (E.2.1 + k), .int a1] : List Value).toArray below meth c H locs 0 0 (MQ below (cV E (fun ρ1 => CI r S ρ1)) ([.ref (E.2.1 + k), .int a1] : List Value).toArray s 0 0 (hA E)) (F0 m 31 ls []) := by
    intro ls ρ H locs d31
    induction d31 generalizing ls ρ H locs with
    | zero => intro j31_2 hl hP hS hI hd31 lj31_2 uj31_2 kp0; exact absurd hd31 (Nat.not_lt_zero _)
    | succ d31 ih31 =>
      intro j31_2 hl hP hS hI hd31 lj31_2 uj31_2 kp0
      refine lv_iload_n hx hb dX4_takeFirst_31 rfl (lv_at hl 1 rfl) ?_
      refine lv_aload_n hx hb dX4_takeFirst_32 rfl (lv_at hl 0 rfl) ?_
      refine get4 B hP h 2 (by decide) mw_129 rfl dX4_takeFirst_33 ?_
      obtain ⟨j102, lj102, uj102, ej102⟩ := iR_nat (a := 1) (b := 8) kp0
      refine lv_topi (fun z103 ez103 => ?_)
      obtain rfl : z103 = nI j102 := ez103.trans ej102
      refine lv_icmp_ge (tgt := 79) hx hb dX4_takeFirst_36 (by decide) (fun c104 => ?_) (fun c104 => ?_)
      · skip
        have n105 := mt (nx_lt (a := j31_2) (b := j102) (by omega) (by omega)).mpr (show ¬ (nI j31_2 < nI j102) from (Int32.not_lt.mpr c104))
        exact b79_0 ls ρ _ _  (lv_sub hl [0] rfl) hP hS hI (show iR (ρ k 2) 1 8 from by rw [show (ρ k 2) = (nI j102) from ej102]; exact iR_w (nI_iR (j := j102) (a := 1) (b := 8) (by omega) (by omega) (by omega)) (by decide) (by decide))
      · skip
        have n106 := (nx_lt (a := j31_2) (b := j102) (by omega) (by omega)).mp (show (nI j31_2 < nI j102) from (Int32.not_le.mp c104))
        refine lv_iload_n hx hb dX4_takeFirst_39 rfl (lv_at hl 1 rfl) ?_
        refine lv_bipush (v := 8) hx hb dX4_takeFirst_40 (by decide) ?_
        refine lv_icmp_ge (tgt := 79) hx hb dX4_takeFirst_42 (by decide) (fun c107 => absurd c107 (iR_nle (show iR 8 (8) (8) from ⟨by decide, by decide⟩) (nI_iR (j := j31_2) (a := 1) (b := 7) (by omega) (by omega) (by omega)) (by decide))) (fun _ => ?_)
        refine lv_aload_n hx hb dX4_takeFirst_45 rfl (lv_at hl 0 rfl) ?_
        refine get4 B hP h 0 (by decide) mw_126 rfl dX4_takeFirst_46 ?_
        refine lv_iload_n hx hb dX4_takeFirst_49 rfl (lv_at hl 1 rfl) ?_
        refine lv_iconst (v := 1) hx hb dX4_takeFirst_50 (by decide) ?_
        refine lv_isub hx hb dX4_takeFirst_51 ?_
        obtain ⟨j108, lj108, uj108, ej108⟩ := iR_nat (a := 0) (b := 6) (iR_sub (a' := 0) (b' := 6) (nI_iR (j := j31_2) (a := 1) (b := 7) (by omega) (by omega) (by omega)) (show iR 1 (1) (1) from ⟨by decide, by decide⟩) (by decide) (by decide) (by decide) (by decide))
        refine lv_topi (fun z109 ez109 => ?_)
        obtain rfl : z109 = nI j108 := ez109.trans ej108
        refine lv_aload_n hx hb dX4_takeFirst_52 rfl (lv_at hl 0 rfl) ?_
        refine get4 B hP h 0 (by decide) mw_126 rfl dX4_takeFirst_53 ?_
        refine lv_iload_n hx hb dX4_takeFirst_56 rfl (lv_at hl 1 rfl) ?_
        refine aldn (n := 8) (j := j31_2) B hP (lay4 h).1 (lay4 h).2.1 rfl (by omega) (by decide) dX4_takeFirst_57 ?_
        refine astn (n := 8) (j := j108) B hP hS (lay4 h).1 (lay4 h).2.1 rfl (by omega) (by decide) dX4_takeFirst_58 (fun H locs hP hS => ?_)
        obtain ⟨ρ110, e111⟩ : ∃ z, z = up ρ (k + 1) j108 (ρ (k + 1) j31_2) := ⟨_, rfl⟩
        rw [← e111] at hP
        have hI : CI r S ρ110 := by rw [e111]; exact CI_up hI (by have := lay4l h; omega) (SP_plain (lay4 h).1 rfl (by decide)) ⟨(fun z2 => absurd (Eq.trans (Eq.symm (lay4 h).1) z2) (by decide)), (fun z2 => absurd (Eq.trans (Eq.symm (lay4 h).1) z2) (by decide))⟩ hSS
        refine lv_aload_n hx hb dX4_takeFirst_59 rfl (lv_at hl 0 rfl) ?_
        refine get4 B hP h 1 (by decide) mw_128 rfl dX4_takeFirst_60 ?_
        refine lv_iload_n hx hb dX4_takeFirst_63 rfl (lv_at hl 1 rfl) ?_
        refine lv_iconst (v := 1) hx hb dX4_takeFirst_64 (by decide) ?_
        refine lv_isub hx hb dX4_takeFirst_65 ?_
        refine lv_topi (fun z112 ez112 => ?_)
        obtain rfl : z112 = nI j108 := ez112.trans ej108
        refine lv_aload_n hx hb dX4_takeFirst_66 rfl (lv_at hl 0 rfl) ?_
        refine get4 B hP h 1 (by decide) mw_128 rfl dX4_takeFirst_67 ?_
        refine lv_iload_n hx hb dX4_takeFirst_70 rfl (lv_at hl 1 rfl) ?_
        refine aldn (n := 8) (j := j31_2) B hP (lay4 h).2.2.1 (lay4 h).2.2.2 rfl (by omega) (by decide) dX4_takeFirst_71 ?_
        refine astn (n := 8) (j := j108) B hP hS (lay4 h).2.2.1 (lay4 h).2.2.2 rfl (by omega) (by decide) dX4_takeFirst_72 (fun H locs hP hS => ?_)
        obtain ⟨ρ113, e114⟩ : ∃ z, z = up ρ110 (k + 2) j108 (ρ110 (k + 2) j31_2) := ⟨_, rfl⟩
        rw [← e114] at hP
        have hI : CI r S ρ113 := by rw [e114]; exact CI_up hI (by have := lay4l h; omega) (SP_plain (lay4 h).2.2.1 rfl (by decide)) ⟨(fun z2 => absurd (Eq.trans (Eq.symm (lay4 h).2.2.1) z2) (by decide)), (fun z2 => absurd (Eq.trans (Eq.symm (lay4 h).2.2.1) z2) (by decide))⟩ hSS
        refine lv_iinc (v := (nI (1 + j31_2))) (lv' := [(2, .int (nI (1 + j31_2))), (0, .ref (E.2.1 + k))]) hx hb dX4_takeFirst_73 hl (k := 1) rfl (show nI j31_2 + nI 1 = _ from (nI_add _ _).trans (congrArg nI (by omega))) (by decide) rfl (fun ls hl => ?_)
        refine lv_goto (tgt := 31) hx hb dX4_takeFirst_76 (by decide) ?_
        exact ih31 ls ρ113 _ _ (1 + j31_2) (lv_sub hl [1, 0] rfl) hP hS hI (by omega) (by omega) (by omega) (show iR (ρ113 k 2) 1 8 from by rw [show (ρ113 k 2) = (nI j102) from (by rw [e114]; exact up_get_ne (Or.inl (fun z => absurd (Eq.trans (Eq.symm h) (Eq.trans (congrArg hk z) (lay4 h).2.2.1)) (by decide))) (by rw [e111]; exact up_get_ne (Or.inl (fun z => absurd (Eq.trans (Eq.symm h) (Eq.trans (congrArg hk z) (lay4 h).1)) (by decide))) ej102))]; exact iR_w (nI_iR (j := j102) (a := 2) (b := 8) (by omega) (by omega) (by omega)) (by decide) (by decide))
  refine lv_aload_n hx hb dX4_takeFirst_0 rfl (lv_at hl 0 rfl) ?_
  refine get4 B hP h 2 (by decide) mw_129 rfl dX4_takeFirst_1 ?_
  have i115 : iR (ρ k 2) 0 8 := CI_get hI (kind_lt h (by decide)) h rfl
  obtain ⟨j116, lj116, uj116, ej116⟩ := iR_nat (a := 0) (b := 8) i115
  refine lv_topi (fun z117 ez117 => ?_)
  obtain rfl : z117 = nI j116 := ez117.trans ej116
  refine lv_if_ne (tgt := 8) hx hb dX4_takeFirst_4 (by decide) (fun c118 => ?_) (fun c118 => ?_)
  · skip
    have n119 := mt (nI_eq (a := j116) (b := 0) (by omega) (by omega)).mpr (show ¬ (nI j116 = nI 0) from c118)
    refine lv_aload_n hx hb dX4_takeFirst_8 rfl (lv_at hl 0 rfl) ?_
    refine lv_aload_n hx hb dX4_takeFirst_9 rfl (lv_at hl 0 rfl) ?_
    refine get4 B hP h 7 (by decide) mw_141 rfl dX4_takeFirst_10 ?_
    refine lv_iload_n hx hb dX4_takeFirst_13 rfl (lv_at hl 1 rfl) ?_
    refine lv_aload_n hx hb dX4_takeFirst_14 rfl (lv_at hl 0 rfl) ?_
    refine get4 B hP h 1 (by decide) mw_128 rfl dX4_takeFirst_15 ?_
    refine lv_iconst (v := 0) hx hb dX4_takeFirst_18 (by decide) ?_
    refine aldn (n := 8) (j := 0) B hP (lay4 h).2.2.1 (lay4 h).2.2.2 rfl (by decide) (by decide) dX4_takeFirst_19 ?_
    refine lv_isub hx hb dX4_takeFirst_20 ?_
    refine lv_iconst (v := 2) hx hb dX4_takeFirst_21 (by decide) ?_
    refine lv_idiv hx hb dX4_takeFirst_22 (by decide) ?_
    refine va_mmax hx hb (by rw [hl.1]; exact B.1.2.2.1) hown (hts _ mw_781) (hts _ mw_782) (hts _ mw_61) (hts _ mw_783) (Nat.le_of_ble_eq_true rfl) (Nat.le_of_ble_eq_true rfl) (Nat.le_refl _) (Nat.le_refl _) dX4_takeFirst_23 ?_
    refine put4 B hP hS h 7 (by decide) mw_141 rfl rfl rfl (fs4_7 E k _ _) dX4_takeFirst_26 (fun H locs hP hS => ?_)
    obtain ⟨ρ120, e121⟩ : ∃ z, z = up ρ k 7 (if (ρ k 7) < ((a1 - (ρ (k + 2) 0)) / 2) then ((a1 - (ρ (k + 2) 0)) / 2) else (ρ k 7)) := ⟨_, rfl⟩
    rw [← e121] at hP
    have hI : CI r S ρ120 := by rw [e121]; exact CI_up hI (kind_lt h (by decide)) (SP_plain h rfl (by decide)) ⟨(fun z2 => absurd (Eq.trans (Eq.symm h) z2) (by decide)), (fun z2 => absurd (Eq.trans (Eq.symm h) z2) (by decide))⟩ hSS
    refine lv_iconst (v := 1) hx hb dX4_takeFirst_29 (by decide) ?_
    refine lv_istore_n (lv' := [(2, .int 1), (0, .ref (E.2.1 + k)), (1, .int a1)]) hx hb dX4_takeFirst_30 rfl hl (by decide) rfl (fun ls hl => ?_)
    exact b31_0 ls ρ120 _ _ _ 1 (lv_sub hl [1, 0] rfl) hP hS hI (Nat.lt_succ_self _) (by omega) (by omega) (show iR (ρ120 k 2) 1 8 from by rw [show (ρ120 k 2) = (nI j116) from (by rw [e121]; exact up_get_ne (Or.inr (by decide)) ej116)]; exact iR_w (nI_iR (j := j116) (a := 1) (b := 8) (by omega) (by omega) (by omega)) (by decide) (by decide))
  · skip
    have n122 := (nI_eq (a := j116) (b := 0) (by omega) (by omega)).mp (show (nI j116 = nI 0) from c118)
    exact ret_v B hr hlk hP hS dX4_takeFirst_7 (hI)

set_option maxHeartbeats 4000000 in
set_option maxRecDepth 100000 in
theorem d_X0_set (l : Launch) (E : hE) (ρ r : Nat → Nat → Int32) (S : Nat × Nat → Prop) (hSS : SK S) (k : Nat) (h : hk k = 0) (a1 : Int32) (a2 : Int32) (a3 : Int32) (hI : CI r S ρ) : Met l yX0_set (.code yX0_set cX0_set 4 none :: gw_all) (rmk 1 40) (cPre E ρ [.ref (E.2.1 + k), .int a1, .int a2, .int a3]) (cV E (fun ρ1 => CI r S ρ1)) 0 0 (hA E) := by
  refine ent (own := RX0) (by decide) rfl (Nat.le_of_ble_eq_true rfl) ?_
  intro p e s m below meth c ls B hr hlk hl hP hS
  have hx := B.1.1
  have hb := B.1.2.1
  have hown := B.1.2.2.2.1
  have hts := B.1.2.2.2.2
  have hl : lv_has ls 4 [(0, .ref (E.2.1 + k)), (1, .int a1), (2, .int a2), (3, .int a3)] := hl
  refine lv_aload_n hx hb dX0_set_0 rfl (lv_at hl 0 rfl) ?_
  refine lv_iload_n hx hb dX0_set_1 rfl (lv_at hl 1 rfl) ?_
  refine put0 B hP hS h 0 (by decide) mw_166 rfl rfl rfl (fs0_0 E k _ _) dX0_set_2 (fun H locs hP hS => ?_)
  obtain ⟨ρ13, e14⟩ : ∃ z, z = up ρ k 0 a1 := ⟨_, rfl⟩
  rw [← e14] at hP
  have hI : CI r S ρ13 := by rw [e14]; exact CI_up hI (kind_lt h (by decide)) (SP_plain h rfl (by decide)) ⟨(fun z2 => absurd (Eq.trans (Eq.symm h) z2) (by decide)), (fun z2 => absurd (Eq.trans (Eq.symm h) z2) (by decide))⟩ hSS
  refine lv_aload_n hx hb dX0_set_5 rfl (lv_at hl 0 rfl) ?_
  refine lv_iload_n hx hb dX0_set_6 rfl (lv_at hl 2 rfl) ?_
  refine put0 B hP hS h 1 (by decide) mw_168 rfl rfl rfl (fs0_1 E k _ _) dX0_set_7 (fun H locs hP hS => ?_)
  obtain ⟨ρ15, e16⟩ : ∃ z, z = up ρ13 k 1 a2 := ⟨_, rfl⟩
  rw [← e16] at hP
  have hI : CI r S ρ15 := by rw [e16]; exact CI_up hI (kind_lt h (by decide)) (SP_plain h rfl (by decide)) ⟨(fun z2 => absurd (Eq.trans (Eq.symm h) z2) (by decide)), (fun z2 => absurd (Eq.trans (Eq.symm h) z2) (by decide))⟩ hSS
  refine lv_aload_n hx hb dX0_set_10 rfl (lv_at hl 0 rfl) ?_
  refine lv_iload_n hx hb dX0_set_11 rfl (lv_at hl 3 rfl) ?_
  refine put0 B hP hS h 2 (by decide) mw_170 rfl rfl rfl (fs0_2 E k _ _) dX0_set_12 (fun H locs hP hS => ?_)
  obtain ⟨ρ17, e18⟩ : ∃ z, z = up ρ15 k 2 a3 := ⟨_, rfl⟩
  rw [← e18] at hP
  have hI : CI r S ρ17 := by rw [e18]; exact CI_up hI (kind_lt h (by decide)) (SP_plain h rfl (by decide)) ⟨(fun z2 => absurd (Eq.trans (Eq.symm h) z2) (by decide)), (fun z2 => absurd (Eq.trans (Eq.symm h) z2) (by decide))⟩ hSS
  refine lv_aload_n hx hb dX0_set_15 rfl (lv_at hl 0 rfl) ?_
  refine lv_iconst (v := 0) hx hb dX0_set_16 (by decide) ?_
  refine put0 B hP hS h 3 (by decide) mw_172 rfl rfl rfl (fs0_3 E k _ _) dX0_set_17 (fun H locs hP hS => ?_)
  obtain ⟨ρ19, e20⟩ : ∃ z, z = up ρ17 k 3 0 := ⟨_, rfl⟩
  rw [← e20] at hP
  have hI : CI r S ρ19 := by rw [e20]; exact CI_up hI (kind_lt h (by decide)) (SP_plain h rfl (by decide)) ⟨(fun z2 => absurd (Eq.trans (Eq.symm h) z2) (by decide)), (fun z2 => absurd (Eq.trans (Eq.symm h) z2) (by decide))⟩ hSS
  refine lv_aload_n hx hb dX0_set_20 rfl (lv_at hl 0 rfl) ?_
  refine lv_iconst (v := 0) hx hb dX0_set_21 (by decide) ?_
  refine put0 B hP hS h 4 (by decide) mw_174 rfl rfl rfl (fs0_4 E k _ _) dX0_set_22 (fun H locs hP hS => ?_)
  obtain ⟨ρ21, e22⟩ : ∃ z, z = up ρ19 k 4 0 := ⟨_, rfl⟩
  rw [← e22] at hP
  have hI : CI r S ρ21 := by rw [e22]; exact CI_up hI (kind_lt h (by decide)) (SP_plain h rfl (by decide)) ⟨(fun z2 => absurd (Eq.trans (Eq.symm h) z2) (by decide)), (fun z2 => absurd (Eq.trans (Eq.symm h) z2) (by decide))⟩ hSS
  refine lv_aload_n hx hb dX0_set_25 rfl (lv_at hl 0 rfl) ?_
  refine lv_iconst (v := 0) hx hb dX0_set_26 (by decide) ?_
  refine put0 B hP hS h 5 (by decide) mw_177 rfl rfl rfl (fs0_5 E k _ _) dX0_set_27 (fun H locs hP hS => ?_)
  obtain ⟨ρ23, e24⟩ : ∃ z, z = up ρ21 k 5 0 := ⟨_, rfl⟩
  rw [← e24] at hP
  have hI : CI r S ρ23 := by rw [e24]; exact CI_up hI (kind_lt h (by decide)) (SP_plain h rfl (by decide)) ⟨(fun z2 => absurd (Eq.trans (Eq.symm h) z2) (by decide)), (fun z2 => absurd (Eq.trans (Eq.symm h) z2) (by decide))⟩ hSS
  exact ret_v B hr hlk hP hS dX0_set_30 (hI)

set_option maxHeartbeats 4000000 in
set_option maxRecDepth 100000 in
theorem d_X0_copyFrom (l : Launch) (E : hE) (ρ r : Nat → Nat → Int32) (S : Nat × Nat → Prop) (hSS : SK S) (k : Nat) (h : hk k = 0) (k1 : Nat) (h1 : hk k1 = 0) (hI : CI r S ρ) : Met l yX0_copyFrom (.code yX0_copyFrom cX0_copyFrom 2 none :: gw_all) (rmk 1 40) (cPre E ρ [.ref (E.2.1 + k), .ref (E.2.1 + k1)]) (cV E (fun ρ1 => CI r S ρ1)) 0 0 (hA E) := by
  refine ent (own := RX0) (by decide) rfl (Nat.le_of_ble_eq_true rfl) ?_
  intro p e s m below meth c ls B hr hlk hl hP hS
  have hx := B.1.1
  have hb := B.1.2.1
  have hown := B.1.2.2.2.1
  have hts := B.1.2.2.2.2
  have hl : lv_has ls 2 [(0, .ref (E.2.1 + k)), (1, .ref (E.2.1 + k1))] := hl
  refine lv_aload_n hx hb dX0_copyFrom_0 rfl (lv_at hl 0 rfl) ?_
  refine lv_aload_n hx hb dX0_copyFrom_1 rfl (lv_at hl 1 rfl) ?_
  refine get0 B hP h1 0 (by decide) mw_166 rfl dX0_copyFrom_2 ?_
  refine put0 B hP hS h 0 (by decide) mw_166 rfl rfl rfl (fs0_0 E k _ _) dX0_copyFrom_5 (fun H locs hP hS => ?_)
  obtain ⟨ρ13, e14⟩ : ∃ z, z = up ρ k 0 (ρ k1 0) := ⟨_, rfl⟩
  rw [← e14] at hP
  have hI : CI r S ρ13 := by rw [e14]; exact CI_up hI (kind_lt h (by decide)) (SP_plain h rfl (by decide)) ⟨(fun z2 => absurd (Eq.trans (Eq.symm h) z2) (by decide)), (fun z2 => absurd (Eq.trans (Eq.symm h) z2) (by decide))⟩ hSS
  refine lv_aload_n hx hb dX0_copyFrom_8 rfl (lv_at hl 0 rfl) ?_
  refine lv_aload_n hx hb dX0_copyFrom_9 rfl (lv_at hl 1 rfl) ?_
  refine get0 B hP h1 1 (by decide) mw_168 rfl dX0_copyFrom_10 ?_
  refine put0 B hP hS h 1 (by decide) mw_168 rfl rfl rfl (fs0_1 E k _ _) dX0_copyFrom_13 (fun H locs hP hS => ?_)
  obtain ⟨ρ15, e16⟩ : ∃ z, z = up ρ13 k 1 (ρ13 k1 1) := ⟨_, rfl⟩
  rw [← e16] at hP
  have hI : CI r S ρ15 := by rw [e16]; exact CI_up hI (kind_lt h (by decide)) (SP_plain h rfl (by decide)) ⟨(fun z2 => absurd (Eq.trans (Eq.symm h) z2) (by decide)), (fun z2 => absurd (Eq.trans (Eq.symm h) z2) (by decide))⟩ hSS
  refine lv_aload_n hx hb dX0_copyFrom_16 rfl (lv_at hl 0 rfl) ?_
  refine lv_aload_n hx hb dX0_copyFrom_17 rfl (lv_at hl 1 rfl) ?_
  refine get0 B hP h1 2 (by decide) mw_170 rfl dX0_copyFrom_18 ?_
  refine put0 B hP hS h 2 (by decide) mw_170 rfl rfl rfl (fs0_2 E k _ _) dX0_copyFrom_21 (fun H locs hP hS => ?_)
  obtain ⟨ρ17, e18⟩ : ∃ z, z = up ρ15 k 2 (ρ15 k1 2) := ⟨_, rfl⟩
  rw [← e18] at hP
  have hI : CI r S ρ17 := by rw [e18]; exact CI_up hI (kind_lt h (by decide)) (SP_plain h rfl (by decide)) ⟨(fun z2 => absurd (Eq.trans (Eq.symm h) z2) (by decide)), (fun z2 => absurd (Eq.trans (Eq.symm h) z2) (by decide))⟩ hSS
  refine lv_aload_n hx hb dX0_copyFrom_24 rfl (lv_at hl 0 rfl) ?_
  refine lv_aload_n hx hb dX0_copyFrom_25 rfl (lv_at hl 1 rfl) ?_
  refine get0 B hP h1 3 (by decide) mw_172 rfl dX0_copyFrom_26 ?_
  refine put0 B hP hS h 3 (by decide) mw_172 rfl rfl rfl (fs0_3 E k _ _) dX0_copyFrom_29 (fun H locs hP hS => ?_)
  obtain ⟨ρ19, e20⟩ : ∃ z, z = up ρ17 k 3 (ρ17 k1 3) := ⟨_, rfl⟩
  rw [← e20] at hP
  have hI : CI r S ρ19 := by rw [e20]; exact CI_up hI (kind_lt h (by decide)) (SP_plain h rfl (by decide)) ⟨(fun z2 => absurd (Eq.trans (Eq.symm h) z2) (by decide)), (fun z2 => absurd (Eq.trans (Eq.symm h) z2) (by decide))⟩ hSS
  refine lv_aload_n hx hb dX0_copyFrom_32 rfl (lv_at hl 0 rfl) ?_
  refine lv_aload_n hx hb dX0_copyFrom_33 rfl (lv_at hl 1 rfl) ?_
  refine get0 B hP h1 4 (by decide) mw_174 rfl dX0_copyFrom_34 ?_
  refine put0 B hP hS h 4 (by decide) mw_174 rfl rfl rfl (fs0_4 E k _ _) dX0_copyFrom_37 (fun H locs hP hS => ?_)
  obtain ⟨ρ21, e22⟩ : ∃ z, z = up ρ19 k 4 (ρ19 k1 4) := ⟨_, rfl⟩
  rw [← e22] at hP
  have hI : CI r S ρ21 := by rw [e22]; exact CI_up hI (kind_lt h (by decide)) (SP_plain h rfl (by decide)) ⟨(fun z2 => absurd (Eq.trans (Eq.symm h) z2) (by decide)), (fun z2 => absurd (Eq.trans (Eq.symm h) z2) (by decide))⟩ hSS
  refine lv_aload_n hx hb dX0_copyFrom_40 rfl (lv_at hl 0 rfl) ?_
  refine lv_aload_n hx hb dX0_copyFrom_41 rfl (lv_at hl 1 rfl) ?_
  refine get0 B hP h1 5 (by decide) mw_177 rfl dX0_copyFrom_42 ?_
  refine put0 B hP hS h 5 (by decide) mw_177 rfl rfl rfl (fs0_5 E k _ _) dX0_copyFrom_45 (fun H locs hP hS => ?_)
  obtain ⟨ρ23, e24⟩ : ∃ z, z = up ρ21 k 5 (ρ21 k1 5) := ⟨_, rfl⟩
  rw [← e24] at hP
  have hI : CI r S ρ23 := by rw [e24]; exact CI_up hI (kind_lt h (by decide)) (SP_plain h rfl (by decide)) ⟨(fun z2 => absurd (Eq.trans (Eq.symm h) z2) (by decide)), (fun z2 => absurd (Eq.trans (Eq.symm h) z2) (by decide))⟩ hSS
  exact ret_v B hr hlk hP hS dX0_copyFrom_48 (hI)

set_option maxHeartbeats 4000000 in
set_option maxRecDepth 100000 in
theorem d_X0_isDue (l : Launch) (E : hE) (ρ r : Nat → Nat → Int32) (S : Nat × Nat → Prop) (hSS : SK S) (k : Nat) (h : hk k = 0) (a1 : Int32) (hI : CI r S ρ) : Met l yX0_isDue (.code yX0_isDue cX0_isDue 2 (some .boolean) :: gw_all) (rmk 1 40) (cPre E ρ [.ref (E.2.1 + k), .int a1]) (cI E (fun v ρ1 => ρ = ρ1 ∧ CI r S ρ1 ∧ iR v (0) (1))) 0 0 (hA E) := by
  refine ent (own := RX0) (by decide) rfl (Nat.le_of_ble_eq_true rfl) ?_
  intro p e s m below meth c ls B hr hlk hl hP hS
  have hx := B.1.1
  have hb := B.1.2.1
  have hown := B.1.2.2.2.1
  have hts := B.1.2.2.2.2
  have hl : lv_has ls 2 [(0, .ref (E.2.1 + k)), (1, .int a1)] := hl
  refine lv_aload_n hx hb dX0_isDue_0 rfl (lv_at hl 0 rfl) ?_
  refine get0 B hP h 0 (by decide) mw_166 rfl dX0_isDue_1 ?_
  refine lv_if_eq (tgt := 24) hx hb dX0_isDue_4 (by decide) (fun c4 => ?_) (fun c4 => ?_)
  · skip
    have i5 : iR (ρ k 0) (0) (0) := (by rw [c4]; exact ⟨by decide, by decide⟩)
    refine lv_iconst (v := 0) hx hb dX0_isDue_24 (by decide) ?_
    exact ret_z B hr hlk hP hS dX0_isDue_25 (Or.inl rfl) (⟨rfl, hI, (iR_w (a := 0) (b := 0) (show iR 0 (0) (0) from ⟨by decide, by decide⟩) (by decide) (by decide))⟩)
  · skip
    refine lv_iload_n hx hb dX0_isDue_7 rfl (lv_at hl 1 rfl) ?_
    refine lv_aload_n hx hb dX0_isDue_8 rfl (lv_at hl 0 rfl) ?_
    refine get0 B hP h 0 (by decide) mw_166 (v := .int (ρ k 0)) (show some (Value.int (ρ k 0)) = some (Value.int (ρ k 0)) from congrArg (fun z => some (Value.int z)) rfl) dX0_isDue_9 ?_
    refine lv_irem hx hb dX0_isDue_12 c4 ?_
    refine lv_aload_n hx hb dX0_isDue_13 rfl (lv_at hl 0 rfl) ?_
    refine get0 B hP h 1 (by decide) mw_168 rfl dX0_isDue_14 ?_
    refine lv_icmp_ne (tgt := 24) hx hb dX0_isDue_17 (by decide) (fun c6 => ?_) (fun c6 => ?_)
    · skip
      refine lv_iconst (v := 0) hx hb dX0_isDue_24 (by decide) ?_
      exact ret_z B hr hlk hP hS dX0_isDue_25 (Or.inl rfl) (⟨rfl, hI, (iR_w (a := 0) (b := 0) (show iR 0 (0) (0) from ⟨by decide, by decide⟩) (by decide) (by decide))⟩)
    · skip
      refine lv_iconst (v := 1) hx hb dX0_isDue_20 (by decide) ?_
      refine lv_goto (tgt := 25) hx hb dX0_isDue_21 (by decide) ?_
      exact ret_z B hr hlk hP hS dX0_isDue_25 (Or.inr rfl) (⟨rfl, hI, (iR_w (a := 1) (b := 1) (show iR 1 (1) (1) from ⟨by decide, by decide⟩) (by decide) (by decide))⟩)

theorem lk_RX0_28 : LkV RX0 28 RX0 yX0_isDue cX0_isDue 2 (some .boolean) 1 := ⟨⟨mw_682, mw_683, mw_684, mw_58, mw_685⟩, by decide +kernel⟩
set_option maxHeartbeats 4000000 in
set_option maxRecDepth 100000 in
theorem d_X0_openAt (l : Launch) (E : hE) (ρ r : Nat → Nat → Int32) (S : Nat × Nat → Prop) (hSS : SK S) (k : Nat) (h : hk k = 0) (a1 : Int32) (hI : CI r S ρ) : Met l yX0_openAt (.code yX0_openAt cX0_openAt 2 none :: gw_all) (rmk 2 80) (cPre E ρ [.ref (E.2.1 + k), .int a1]) (cV E (fun ρ1 => CI r S ρ1)) 0 0 (hA E) := by
  refine ent (own := RX0) (by decide) rfl (Nat.le_of_ble_eq_true rfl) ?_
  intro p e s m below meth c ls B hr hlk hl hP hS
  have hx := B.1.1
  have hb := B.1.2.1
  have hown := B.1.2.2.2.1
  have hts := B.1.2.2.2.2
  have hl : lv_has ls 2 [(0, .ref (E.2.1 + k)), (1, .int a1)] := hl
  refine lv_aload_n hx hb dX0_openAt_0 rfl (lv_at hl 0 rfl) ?_
  refine lv_iload_n hx hb dX0_openAt_1 rfl (lv_at hl 1 rfl) ?_
  refine call_i (cVt (k := k) (av := [.int a1]) (rest := []) B hP hS (d_X0_isDue l E ρ r S hSS k h a1 hI) lk_RX0_28 (hrecv (ci := 0) B hP (hk_lt (c := 0) h (by decide)) (hcc0 _ _ h) rfl) rfl rfl hl.1 (Nat.le_of_ble_eq_true rfl) ⟨Nat.le_of_ble_eq_true rfl, Nat.le_of_ble_eq_true rfl⟩ ⟨Nat.le_of_ble_eq_true rfl, Nat.le_of_ble_eq_true rfl⟩ dX0_openAt_2) hS (fun r12 ρ13 H locs q14 hP hS => ?_)
  obtain ⟨rfl, hI, i15⟩ := q14
  obtain ⟨j16, lj16, uj16, ej16⟩ := iR_nat (a := 0) (b := 1) i15
  refine lv_topi (fun z17 ez17 => ?_)
  obtain rfl : z17 = nI j16 := ez17.trans ej16
  refine lv_if_eq (tgt := 16) hx hb dX0_openAt_5 (by decide) (fun c18 => ?_) (fun c18 => ?_)
  · skip
    have n19 := (nI_eq (a := j16) (b := 0) (by omega) (by omega)).mp (show (nI j16 = nI 0) from c18)
    exact ret_v B hr hlk hP hS dX0_openAt_16 (hI)
  · skip
    have n20 := mt (nI_eq (a := j16) (b := 0) (by omega) (by omega)).mpr (show ¬ (nI j16 = nI 0) from c18)
    refine lv_aload_n hx hb dX0_openAt_8 rfl (lv_at hl 0 rfl) ?_
    refine lv_aload_n hx hb dX0_openAt_9 rfl (lv_at hl 0 rfl) ?_
    refine get0 B hP h 2 (by decide) mw_170 rfl dX0_openAt_10 ?_
    refine put0 B hP hS h 5 (by decide) mw_177 rfl rfl rfl (fs0_5 E k _ _) dX0_openAt_13 (fun H locs hP hS => ?_)
    obtain ⟨ρ21, e22⟩ : ∃ z, z = up ρ k 5 (ρ k 2) := ⟨_, rfl⟩
    rw [← e22] at hP
    have hI : CI r S ρ21 := by rw [e22]; exact CI_up hI (kind_lt h (by decide)) (SP_plain h rfl (by decide)) ⟨(fun z2 => absurd (Eq.trans (Eq.symm h) z2) (by decide)), (fun z2 => absurd (Eq.trans (Eq.symm h) z2) (by decide))⟩ hSS
    exact ret_v B hr hlk hP hS dX0_openAt_16 (hI)

set_option maxHeartbeats 4000000 in
set_option maxRecDepth 100000 in
theorem d_X0_answer (l : Launch) (E : hE) (ρ r : Nat → Nat → Int32) (S : Nat × Nat → Prop) (hSS : SK S) (k : Nat) (h : hk k = 0) (hI : CI r S ρ) : Met l yX0_answer (.code yX0_answer cX0_answer 1 none :: gw_all) (rmk 1 40) (cPre E ρ [.ref (E.2.1 + k)]) (cV E (fun ρ1 => CI r S ρ1)) 0 0 (hA E) := by
  refine ent (own := RX0) (by decide) rfl (Nat.le_of_ble_eq_true rfl) ?_
  intro p e s m below meth c ls B hr hlk hl hP hS
  have hx := B.1.1
  have hb := B.1.2.1
  have hown := B.1.2.2.2.1
  have hts := B.1.2.2.2.2
  have hl : lv_has ls 1 [(0, .ref (E.2.1 + k))] := hl
  refine lv_aload_n hx hb dX0_answer_0 rfl (lv_at hl 0 rfl) ?_
  refine get0 B hP h 5 (by decide) mw_177 rfl dX0_answer_1 ?_
  refine lv_if_le (tgt := 22) hx hb dX0_answer_4 (by decide) (fun c8 => ?_) (fun c8 => ?_)
  · skip
    have i9 : iR (ρ k 5) (-2147483648) (0) := (iR_geR (show iR 0 (0) (0) from ⟨by decide, by decide⟩) (iR_any (ρ k 5)) (Int32.not_lt.mpr c8) (by decide))
    exact ret_v B hr hlk hP hS dX0_answer_22 (hI)
  · skip
    have i10 : iR (ρ k 5) (1) (2147483647) := (iR_ltR (show iR 0 (0) (0) from ⟨by decide, by decide⟩) (iR_any (ρ k 5)) (Int32.not_le.mp c8) (by decide))
    refine lv_aload_n hx hb dX0_answer_7 rfl (lv_at hl 0 rfl) ?_
    refine lv_dup hx hb dX0_answer_8 rfl ?_
    refine get0 B hP h 3 (by decide) mw_172 rfl dX0_answer_9 ?_
    refine lv_iconst (v := 1) hx hb dX0_answer_12 (by decide) ?_
    refine lv_iadd hx hb dX0_answer_13 ?_
    refine put0 B hP hS h 3 (by decide) mw_172 rfl rfl rfl (fs0_3 E k _ _) dX0_answer_14 (fun H locs hP hS => ?_)
    obtain ⟨ρ11, e12⟩ : ∃ z, z = up ρ k 3 ((ρ k 3) + 1) := ⟨_, rfl⟩
    rw [← e12] at hP
    have hI : CI r S ρ11 := by rw [e12]; exact CI_up hI (kind_lt h (by decide)) (SP_plain h rfl (by decide)) ⟨(fun z2 => absurd (Eq.trans (Eq.symm h) z2) (by decide)), (fun z2 => absurd (Eq.trans (Eq.symm h) z2) (by decide))⟩ hSS
    refine lv_aload_n hx hb dX0_answer_17 rfl (lv_at hl 0 rfl) ?_
    refine lv_iconst (v := 0) hx hb dX0_answer_18 (by decide) ?_
    refine put0 B hP hS h 5 (by decide) mw_177 rfl rfl rfl (fs0_5 E k _ _) dX0_answer_19 (fun H locs hP hS => ?_)
    obtain ⟨ρ13, e14⟩ : ∃ z, z = up ρ11 k 5 0 := ⟨_, rfl⟩
    rw [← e14] at hP
    have hI : CI r S ρ13 := by rw [e14]; exact CI_up hI (kind_lt h (by decide)) (SP_plain h rfl (by decide)) ⟨(fun z2 => absurd (Eq.trans (Eq.symm h) z2) (by decide)), (fun z2 => absurd (Eq.trans (Eq.symm h) z2) (by decide))⟩ hSS
    exact ret_v B hr hlk hP hS dX0_answer_22 (hI)

set_option maxHeartbeats 4000000 in
set_option maxRecDepth 100000 in
theorem d_X0_endTurn (l : Launch) (E : hE) (ρ r : Nat → Nat → Int32) (S : Nat × Nat → Prop) (hSS : SK S) (k : Nat) (h : hk k = 0) (hI : CI r S ρ) : Met l yX0_endTurn (.code yX0_endTurn cX0_endTurn 1 none :: gw_all) (rmk 1 40) (cPre E ρ [.ref (E.2.1 + k)]) (cV E (fun ρ1 => CI r S ρ1)) 0 0 (hA E) := by
  refine ent (own := RX0) (by decide) rfl (Nat.le_of_ble_eq_true rfl) ?_
  intro p e s m below meth c ls B hr hlk hl hP hS
  have hx := B.1.1
  have hb := B.1.2.1
  have hown := B.1.2.2.2.1
  have hts := B.1.2.2.2.2
  have hl : lv_has ls 1 [(0, .ref (E.2.1 + k))] := hl
  refine lv_aload_n hx hb dX0_endTurn_0 rfl (lv_at hl 0 rfl) ?_
  refine get0 B hP h 5 (by decide) mw_177 rfl dX0_endTurn_1 ?_
  refine lv_if_le (tgt := 34) hx hb dX0_endTurn_4 (by decide) (fun c11 => ?_) (fun c11 => ?_)
  · skip
    have i12 : iR (ρ k 5) (-2147483648) (0) := (iR_geR (show iR 0 (0) (0) from ⟨by decide, by decide⟩) (iR_any (ρ k 5)) (Int32.not_lt.mpr c11) (by decide))
    exact ret_v B hr hlk hP hS dX0_endTurn_34 (hI)
  · skip
    have i13 : iR (ρ k 5) (1) (2147483647) := (iR_ltR (show iR 0 (0) (0) from ⟨by decide, by decide⟩) (iR_any (ρ k 5)) (Int32.not_le.mp c11) (by decide))
    refine lv_aload_n hx hb dX0_endTurn_7 rfl (lv_at hl 0 rfl) ?_
    refine lv_dup hx hb dX0_endTurn_8 rfl ?_
    refine get0 B hP h 5 (by decide) mw_177 (v := .int (ρ k 5)) (show some (Value.int (ρ k 5)) = some (Value.int (ρ k 5)) from congrArg (fun z => some (Value.int z)) rfl) dX0_endTurn_9 ?_
    refine lv_iconst (v := 1) hx hb dX0_endTurn_12 (by decide) ?_
    refine lv_isub hx hb dX0_endTurn_13 ?_
    refine put0 B hP hS h 5 (by decide) mw_177 rfl rfl rfl (fs0_5 E k _ _) dX0_endTurn_14 (fun H locs hP hS => ?_)
    obtain ⟨ρ14, e15⟩ : ∃ z, z = up ρ k 5 ((ρ k 5) - 1) := ⟨_, rfl⟩
    rw [← e15] at hP
    have hI : CI r S ρ14 := by rw [e15]; exact CI_up hI (kind_lt h (by decide)) (SP_plain h rfl (by decide)) ⟨(fun z2 => absurd (Eq.trans (Eq.symm h) z2) (by decide)), (fun z2 => absurd (Eq.trans (Eq.symm h) z2) (by decide))⟩ hSS
    refine lv_aload_n hx hb dX0_endTurn_17 rfl (lv_at hl 0 rfl) ?_
    refine get0 B hP h 5 (by decide) mw_177 (v := .int ((ρ k 5) - 1)) (show some (Value.int (ρ14 k 5)) = some (Value.int ((ρ k 5) - 1)) from congrArg (fun z => some (Value.int z)) (by rw [e15]; exact up_get_at)) dX0_endTurn_18 ?_
    refine lv_if_ne (tgt := 34) hx hb dX0_endTurn_21 (by decide) (fun c16 => ?_) (fun c16 => ?_)
    · skip
      have i17 : iR ((ρ k 5) - 1) (1) (2147483646) := (iR_neL (iR_sub (a' := 0) (b' := 2147483646) i13 (show iR 1 (1) (1) from ⟨by decide, by decide⟩) (by decide) (by decide) (by decide) (by decide)) (show iR 0 (0) (0) from ⟨by decide, by decide⟩) c16 (by decide) (by decide))
      exact ret_v B hr hlk hP hS dX0_endTurn_34 (hI)
    · skip
      have i18 : iR ((ρ k 5) - 1) (0) (0) := (by rw [c16]; exact ⟨by decide, by decide⟩)
      refine lv_aload_n hx hb dX0_endTurn_24 rfl (lv_at hl 0 rfl) ?_
      refine lv_dup hx hb dX0_endTurn_25 rfl ?_
      refine get0 B hP h 4 (by decide) mw_174 rfl dX0_endTurn_26 ?_
      refine lv_iconst (v := 1) hx hb dX0_endTurn_29 (by decide) ?_
      refine lv_iadd hx hb dX0_endTurn_30 ?_
      refine put0 B hP hS h 4 (by decide) mw_174 rfl rfl rfl (fs0_4 E k _ _) dX0_endTurn_31 (fun H locs hP hS => ?_)
      obtain ⟨ρ19, e20⟩ : ∃ z, z = up ρ14 k 4 ((ρ14 k 4) + 1) := ⟨_, rfl⟩
      rw [← e20] at hP
      have hI : CI r S ρ19 := by rw [e20]; exact CI_up hI (kind_lt h (by decide)) (SP_plain h rfl (by decide)) ⟨(fun z2 => absurd (Eq.trans (Eq.symm h) z2) (by decide)), (fun z2 => absurd (Eq.trans (Eq.symm h) z2) (by decide))⟩ hSS
      exact ret_v B hr hlk hP hS dX0_endTurn_34 (hI)
