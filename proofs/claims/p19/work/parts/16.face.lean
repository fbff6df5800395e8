theorem hw_181 {j : Nat} (h : j < 8) : hk (hw 181 + 89 * j) = 5 := by
  rcases (show j = 0 ∨ j = 1 ∨ j = 2 ∨ j = 3 ∨ j = 4 ∨ j = 5 ∨ j = 6 ∨ j = 7 by omega) with rfl | rfl | rfl | rfl | rfl | rfl | rfl | rfl <;> decide +kernel
theorem hw_179 {j : Nat} (h : j < 2) : hk (hw 179 + 89 * j) = 5 := by
  rcases (show j = 0 ∨ j = 1 by omega) with rfl | rfl <;> decide +kernel
theorem dX6_isTerm_0 : decode cX6_isTerm 0 = .ok (.iload_n 0, 1) := by decide +kernel
theorem dX6_isTerm_1 : decode cX6_isTerm 1 = .ok (.tableswitch 51 0 2 #[27, 36, 44], 27) := by decide +kernel
theorem dX6_isTerm_28 : decode cX6_isTerm 28 = .ok (.iload_n 1, 1) := by decide +kernel
theorem dX6_isTerm_29 : decode cX6_isTerm 29 = .ok (.iconst 0, 1) := by decide +kernel
theorem dX6_isTerm_30 : decode cX6_isTerm 30 = .ok (.ldc_w 401, 3) := by decide +kernel
theorem dX6_isTerm_33 : decode cX6_isTerm 33 = .ok (.invokestatic 54, 3) := by decide +kernel
theorem dX6_isTerm_36 : decode cX6_isTerm 36 = .ok (.ireturn, 1) := by decide +kernel
theorem dX6_isTerm_37 : decode cX6_isTerm 37 = .ok (.iload_n 1, 1) := by decide +kernel
theorem dX6_isTerm_38 : decode cX6_isTerm 38 = .ok (.iconst 0, 1) := by decide +kernel
theorem dX6_isTerm_39 : decode cX6_isTerm 39 = .ok (.bipush 32, 2) := by decide +kernel
theorem dX6_isTerm_41 : decode cX6_isTerm 41 = .ok (.invokestatic 156, 3) := by decide +kernel
theorem dX6_isTerm_44 : decode cX6_isTerm 44 = .ok (.ireturn, 1) := by decide +kernel
theorem dX6_isTerm_45 : decode cX6_isTerm 45 = .ok (.iload_n 1, 1) := by decide +kernel
theorem dX6_isTerm_46 : decode cX6_isTerm 46 = .ok (.iconst 1, 1) := by decide +kernel
theorem dX6_isTerm_47 : decode cX6_isTerm 47 = .ok (.iconst 4, 1) := by decide +kernel
theorem dX6_isTerm_48 : decode cX6_isTerm 48 = .ok (.invokestatic 54, 3) := by decide +kernel
theorem dX6_isTerm_51 : decode cX6_isTerm 51 = .ok (.ireturn, 1) := by decide +kernel
theorem dX6_isTerm_52 : decode cX6_isTerm 52 = .ok (.iconst 0, 1) := by decide +kernel
theorem dX6_isTerm_53 : decode cX6_isTerm 53 = .ok (.ireturn, 1) := by decide +kernel
theorem dX6_isMap_0 : decode cX6_isMap 0 = .ok (.iload_n 0, 1) := by decide +kernel
theorem dX6_isMap_1 : decode cX6_isMap 1 = .ok (.ldc_w 402, 3) := by decide +kernel
theorem dX6_isMap_4 : decode cX6_isMap 4 = .ok (.iand, 1) := by decide +kernel
theorem dX6_isMap_5 : decode cX6_isMap 5 = .ok (.ifCond .ne 16, 3) := by decide +kernel
theorem dX6_isMap_8 : decode cX6_isMap 8 = .ok (.iload_n 0, 1) := by decide +kernel
theorem dX6_isMap_9 : decode cX6_isMap 9 = .ok (.invokestatic 403, 3) := by decide +kernel
theorem dX6_isMap_12 : decode cX6_isMap 12 = .ok (.bipush 8, 2) := by decide +kernel
theorem dX6_isMap_14 : decode cX6_isMap 14 = .ok (.if_icmp .lt 7, 3) := by decide +kernel
theorem dX6_isMap_17 : decode cX6_isMap 17 = .ok (.iconst 1, 1) := by decide +kernel
theorem dX6_isMap_18 : decode cX6_isMap 18 = .ok (.goto 4, 3) := by decide +kernel
theorem dX6_isMap_21 : decode cX6_isMap 21 = .ok (.iconst 0, 1) := by decide +kernel
theorem dX6_isMap_22 : decode cX6_isMap 22 = .ok (.ireturn, 1) := by decide +kernel
theorem dX6_bit_0 : decode cX6_bit 0 = .ok (.iload_n 0, 1) := by decide +kernel
theorem dX6_bit_1 : decode cX6_bit 1 = .ok (.ifCond .eq 7, 3) := by decide +kernel
theorem dX6_bit_4 : decode cX6_bit 4 = .ok (.iconst 1, 1) := by decide +kernel
theorem dX6_bit_5 : decode cX6_bit 5 = .ok (.goto 4, 3) := by decide +kernel
theorem dX6_bit_8 : decode cX6_bit 8 = .ok (.iconst 0, 1) := by decide +kernel
theorem dX6_bit_9 : decode cX6_bit 9 = .ok (.ireturn, 1) := by decide +kernel
theorem dX6_greatestDivisor_0 : decode cX6_greatestDivisor 0 = .ok (.iload_n 0, 1) := by decide +kernel
theorem dX6_greatestDivisor_1 : decode cX6_greatestDivisor 1 = .ok (.istore_n 2, 1) := by decide +kernel
theorem dX6_greatestDivisor_2 : decode cX6_greatestDivisor 2 = .ok (.iload_n 1, 1) := by decide +kernel
theorem dX6_greatestDivisor_3 : decode cX6_greatestDivisor 3 = .ok (.istore_n 3, 1) := by decide +kernel
theorem dX6_greatestDivisor_4 : decode cX6_greatestDivisor 4 = .ok (.iconst 0, 1) := by decide +kernel
theorem dX6_greatestDivisor_5 : decode cX6_greatestDivisor 5 = .ok (.istore 4, 2) := by decide +kernel
theorem dX6_greatestDivisor_7 : decode cX6_greatestDivisor 7 = .ok (.iload 4, 2) := by decide +kernel
theorem dX6_greatestDivisor_9 : decode cX6_greatestDivisor 9 = .ok (.bipush 64, 2) := by decide +kernel
theorem dX6_greatestDivisor_11 : decode cX6_greatestDivisor 11 = .ok (.if_icmp .ge 23, 3) := by decide +kernel
theorem dX6_greatestDivisor_14 : decode cX6_greatestDivisor 14 = .ok (.iload_n 3, 1) := by decide +kernel
theorem dX6_greatestDivisor_15 : decode cX6_greatestDivisor 15 = .ok (.ifCond .eq 19, 3) := by decide +kernel
theorem dX6_greatestDivisor_18 : decode cX6_greatestDivisor 18 = .ok (.iload_n 2, 1) := by decide +kernel
theorem dX6_greatestDivisor_19 : decode cX6_greatestDivisor 19 = .ok (.iload_n 3, 1) := by decide +kernel
theorem dX6_greatestDivisor_20 : decode cX6_greatestDivisor 20 = .ok (.irem, 1) := by decide +kernel
theorem dX6_greatestDivisor_21 : decode cX6_greatestDivisor 21 = .ok (.istore 5, 2) := by decide +kernel
theorem dX6_greatestDivisor_23 : decode cX6_greatestDivisor 23 = .ok (.iload_n 3, 1) := by decide +kernel
theorem dX6_greatestDivisor_24 : decode cX6_greatestDivisor 24 = .ok (.istore_n 2, 1) := by decide +kernel
theorem dX6_greatestDivisor_25 : decode cX6_greatestDivisor 25 = .ok (.iload 5, 2) := by decide +kernel
theorem dX6_greatestDivisor_27 : decode cX6_greatestDivisor 27 = .ok (.istore_n 3, 1) := by decide +kernel
theorem dX6_greatestDivisor_28 : decode cX6_greatestDivisor 28 = .ok (.iinc 4 1, 3) := by decide +kernel
theorem dX6_greatestDivisor_31 : decode cX6_greatestDivisor 31 = .ok (.goto (-24), 3) := by decide +kernel
theorem dX6_greatestDivisor_34 : decode cX6_greatestDivisor 34 = .ok (.iload_n 2, 1) := by decide +kernel
theorem dX6_greatestDivisor_35 : decode cX6_greatestDivisor 35 = .ok (.ireturn, 1) := by decide +kernel
theorem dX6_refuse_0 : decode cX6_refuse 0 = .ok (.aload_n 0, 1) := by decide +kernel
theorem dX6_refuse_1 : decode cX6_refuse 1 = .ok (.iload_n 1, 1) := by decide +kernel
theorem dX6_refuse_2 : decode cX6_refuse 2 = .ok (.putfield 44, 3) := by decide +kernel
theorem dX6_refuse_5 : decode cX6_refuse 5 = .ok (.iload_n 1, 1) := by decide +kernel
theorem dX6_refuse_6 : decode cX6_refuse 6 = .ok (.ineg, 1) := by decide +kernel
theorem dX6_refuse_7 : decode cX6_refuse 7 = .ok (.iconst 1, 1) := by decide +kernel
theorem dX6_refuse_8 : decode cX6_refuse 8 = .ok (.isub, 1) := by decide +kernel
theorem dX6_refuse_9 : decode cX6_refuse 9 = .ok (.istore_n 2, 1) := by decide +kernel
theorem dX6_refuse_10 : decode cX6_refuse 10 = .ok (.iload_n 2, 1) := by decide +kernel
theorem dX6_refuse_11 : decode cX6_refuse 11 = .ok (.ifCond .lt 22, 3) := by decide +kernel
theorem dX6_refuse_14 : decode cX6_refuse 14 = .ok (.iload_n 2, 1) := by decide +kernel
theorem dX6_refuse_15 : decode cX6_refuse 15 = .ok (.aload_n 0, 1) := by decide +kernel
theorem dX6_refuse_16 : decode cX6_refuse 16 = .ok (.getfield 41, 3) := by decide +kernel
theorem dX6_refuse_19 : decode cX6_refuse 19 = .ok (.arraylength, 1) := by decide +kernel
theorem dX6_refuse_20 : decode cX6_refuse 20 = .ok (.if_icmp .ge 13, 3) := by decide +kernel
theorem dX6_refuse_23 : decode cX6_refuse 23 = .ok (.aload_n 0, 1) := by decide +kernel
theorem dX6_refuse_24 : decode cX6_refuse 24 = .ok (.getfield 41, 3) := by decide +kernel
theorem dX6_refuse_27 : decode cX6_refuse 27 = .ok (.iload_n 2, 1) := by decide +kernel
theorem dX6_refuse_28 : decode cX6_refuse 28 = .ok (.dup2, 1) := by decide +kernel
theorem dX6_refuse_29 : decode cX6_refuse 29 = .ok (.iaload, 1) := by decide +kernel
theorem dX6_refuse_30 : decode cX6_refuse 30 = .ok (.iconst 1, 1) := by decide +kernel
theorem dX6_refuse_31 : decode cX6_refuse 31 = .ok (.iadd, 1) := by decide +kernel
theorem dX6_refuse_32 : decode cX6_refuse 32 = .ok (.iastore, 1) := by decide +kernel
theorem dX6_refuse_33 : decode cX6_refuse 33 = .ok (.iload_n 1, 1) := by decide +kernel
theorem dX6_refuse_34 : decode cX6_refuse 34 = .ok (.ireturn, 1) := by decide +kernel
theorem dX6_accept_0 : decode cX6_accept 0 = .ok (.aload_n 0, 1) := by decide +kernel
theorem dX6_accept_1 : decode cX6_accept 1 = .ok (.iconst 0, 1) := by decide +kernel
theorem dX6_accept_2 : decode cX6_accept 2 = .ok (.putfield 44, 3) := by decide +kernel
theorem dX6_accept_5 : decode cX6_accept 5 = .ok (.iload_n 1, 1) := by decide +kernel
theorem dX6_accept_6 : decode cX6_accept 6 = .ok (.ireturn, 1) := by decide +kernel
theorem dX6_keepForUndo_0 : decode cX6_keepForUndo 0 = .ok (.aload_n 0, 1) := by decide +kernel
theorem dX6_keepForUndo_1 : decode cX6_keepForUndo 1 = .ok (.getfield 27, 3) := by decide +kernel
theorem dX6_keepForUndo_4 : decode cX6_keepForUndo 4 = .ok (.aload_n 0, 1) := by decide +kernel
theorem dX6_keepForUndo_5 : decode cX6_keepForUndo 5 = .ok (.getfield 34, 3) := by decide +kernel
theorem dX6_keepForUndo_8 : decode cX6_keepForUndo 8 = .ok (.aaload, 1) := by decide +kernel
theorem dX6_keepForUndo_9 : decode cX6_keepForUndo 9 = .ok (.aload_n 0, 1) := by decide +kernel
theorem dX6_keepForUndo_10 : decode cX6_keepForUndo 10 = .ok (.getfield 12, 3) := by decide +kernel
theorem dX6_keepForUndo_13 : decode cX6_keepForUndo 13 = .ok (.invokevirtual 219, 3) := by decide +kernel
theorem dX6_keepForUndo_16 : decode cX6_keepForUndo 16 = .ok (.aload_n 0, 1) := by decide +kernel
theorem dX6_keepForUndo_17 : decode cX6_keepForUndo 17 = .ok (.getfield 30, 3) := by decide +kernel
theorem dX6_keepForUndo_20 : decode cX6_keepForUndo 20 = .ok (.aload_n 0, 1) := by decide +kernel
theorem dX6_keepForUndo_21 : decode cX6_keepForUndo 21 = .ok (.getfield 34, 3) := by decide +kernel
theorem dX6_keepForUndo_24 : decode cX6_keepForUndo 24 = .ok (.iload_n 1, 1) := by decide +kernel
theorem dX6_keepForUndo_25 : decode cX6_keepForUndo 25 = .ok (.iastore, 1) := by decide +kernel
theorem dX6_keepForUndo_26 : decode cX6_keepForUndo 26 = .ok (.aload_n 0, 1) := by decide +kernel
theorem dX6_keepForUndo_27 : decode cX6_keepForUndo 27 = .ok (.aload_n 0, 1) := by decide +kernel
theorem dX6_keepForUndo_28 : decode cX6_keepForUndo 28 = .ok (.getfield 34, 3) := by decide +kernel
theorem dX6_keepForUndo_31 : decode cX6_keepForUndo 31 = .ok (.iconst 1, 1) := by decide +kernel
theorem dX6_keepForUndo_32 : decode cX6_keepForUndo 32 = .ok (.iadd, 1) := by decide +kernel
theorem dX6_keepForUndo_33 : decode cX6_keepForUndo 33 = .ok (.bipush 8, 2) := by decide +kernel
theorem dX6_keepForUndo_35 : decode cX6_keepForUndo 35 = .ok (.irem, 1) := by decide +kernel
theorem dX6_keepForUndo_36 : decode cX6_keepForUndo 36 = .ok (.putfield 34, 3) := by decide +kernel
theorem dX6_keepForUndo_39 : decode cX6_keepForUndo 39 = .ok (.aload_n 0, 1) := by decide +kernel
theorem dX6_keepForUndo_40 : decode cX6_keepForUndo 40 = .ok (.aload_n 0, 1) := by decide +kernel
theorem dX6_keepForUndo_41 : decode cX6_keepForUndo 41 = .ok (.getfield 38, 3) := by decide +kernel
theorem dX6_keepForUndo_44 : decode cX6_keepForUndo 44 = .ok (.iconst 1, 1) := by decide +kernel
theorem dX6_keepForUndo_45 : decode cX6_keepForUndo 45 = .ok (.iadd, 1) := by decide +kernel
theorem dX6_keepForUndo_46 : decode cX6_keepForUndo 46 = .ok (.bipush 8, 2) := by decide +kernel
theorem dX6_keepForUndo_48 : decode cX6_keepForUndo 48 = .ok (.invokestatic 388, 3) := by decide +kernel
theorem dX6_keepForUndo_51 : decode cX6_keepForUndo 51 = .ok (.putfield 38, 3) := by decide +kernel
theorem dX6_keepForUndo_54 : decode cX6_keepForUndo 54 = .ok (.return_, 1) := by decide +kernel
theorem dX6_tellMap_0 : decode cX6_tellMap 0 = .ok (.aload_n 0, 1) := by decide +kernel
theorem dX6_tellMap_1 : decode cX6_tellMap 1 = .ok (.bipush 8, 2) := by decide +kernel
theorem dX6_tellMap_3 : decode cX6_tellMap 3 = .ok (.invokevirtual 65, 3) := by decide +kernel
theorem dX6_tellMap_6 : decode cX6_tellMap 6 = .ok (.aload_n 1, 1) := by decide +kernel
theorem dX6_tellMap_7 : decode cX6_tellMap 7 = .ok (.iload_n 2, 1) := by decide +kernel
theorem dX6_tellMap_8 : decode cX6_tellMap 8 = .ok (.aload_n 0, 1) := by decide +kernel
theorem dX6_tellMap_9 : decode cX6_tellMap 9 = .ok (.getfield 12, 3) := by decide +kernel
theorem dX6_tellMap_12 : decode cX6_tellMap 12 = .ok (.getfield 102, 3) := by decide +kernel
theorem dX6_tellMap_15 : decode cX6_tellMap 15 = .ok (.iconst 2, 1) := by decide +kernel
theorem dX6_tellMap_16 : decode cX6_tellMap 16 = .ok (.iload_n 3, 1) := by decide +kernel
theorem dX6_tellMap_17 : decode cX6_tellMap 17 = .ok (.imul, 1) := by decide +kernel
theorem dX6_tellMap_18 : decode cX6_tellMap 18 = .ok (.iadd, 1) := by decide +kernel
theorem dX6_tellMap_19 : decode cX6_tellMap 19 = .ok (.invokevirtual 393, 3) := by decide +kernel
theorem dX6_tellMap_22 : decode cX6_tellMap 22 = .ok (.aload_n 0, 1) := by decide +kernel
theorem dX6_tellMap_23 : decode cX6_tellMap 23 = .ok (.aload_n 1, 1) := by decide +kernel
theorem dX6_tellMap_24 : decode cX6_tellMap 24 = .ok (.getfield 190, 3) := by decide +kernel
theorem dX6_tellMap_27 : decode cX6_tellMap 27 = .ok (.getfield 253, 3) := by decide +kernel
theorem dX6_tellMap_30 : decode cX6_tellMap 30 = .ok (.invokevirtual 72, 3) := by decide +kernel
theorem dX6_tellMap_33 : decode cX6_tellMap 33 = .ok (.ireturn, 1) := by decide +kernel
theorem dX6_hasTimeFor_0 : decode cX6_hasTimeFor 0 = .ok (.aload_n 0, 1) := by decide +kernel
theorem dX6_hasTimeFor_1 : decode cX6_hasTimeFor 1 = .ok (.getfield 12, 3) := by decide +kernel
theorem dX6_hasTimeFor_4 : decode cX6_hasTimeFor 4 = .ok (.getfield 102, 3) := by decide +kernel
theorem dX6_hasTimeFor_7 : decode cX6_hasTimeFor 7 = .ok (.iconst 2, 1) := by decide +kernel
theorem dX6_hasTimeFor_8 : decode cX6_hasTimeFor 8 = .ok (.iload_n 1, 1) := by decide +kernel
theorem dX6_hasTimeFor_9 : decode cX6_hasTimeFor 9 = .ok (.imul, 1) := by decide +kernel
theorem dX6_hasTimeFor_10 : decode cX6_hasTimeFor 10 = .ok (.iadd, 1) := by decide +kernel
theorem dX6_hasTimeFor_11 : decode cX6_hasTimeFor 11 = .ok (.ldc_w 338, 3) := by decide +kernel
theorem dX6_hasTimeFor_14 : decode cX6_hasTimeFor 14 = .ok (.if_icmp .gt 7, 3) := by decide +kernel
theorem dX6_hasTimeFor_17 : decode cX6_hasTimeFor 17 = .ok (.iconst 1, 1) := by decide +kernel
theorem dX6_hasTimeFor_18 : decode cX6_hasTimeFor 18 = .ok (.goto 4, 3) := by decide +kernel
theorem dX6_hasTimeFor_21 : decode cX6_hasTimeFor 21 = .ok (.iconst 0, 1) := by decide +kernel
theorem dX6_hasTimeFor_22 : decode cX6_hasTimeFor 22 = .ok (.ireturn, 1) := by decide +kernel
theorem dX6_paperWith_0 : decode cX6_paperWith 0 = .ok (.aload_n 0, 1) := by decide +kernel
theorem dX6_paperWith_1 : decode cX6_paperWith 1 = .ok (.getfield 16, 3) := by decide +kernel
theorem dX6_paperWith_4 : decode cX6_paperWith 4 = .ok (.aload_n 0, 1) := by decide +kernel
theorem dX6_paperWith_5 : decode cX6_paperWith 5 = .ok (.getfield 12, 3) := by decide +kernel
theorem dX6_paperWith_8 : decode cX6_paperWith 8 = .ok (.invokevirtual 219, 3) := by decide +kernel
theorem dX6_paperWith_11 : decode cX6_paperWith 11 = .ok (.aload_n 0, 1) := by decide +kernel
theorem dX6_paperWith_12 : decode cX6_paperWith 12 = .ok (.getfield 16, 3) := by decide +kernel
theorem dX6_paperWith_15 : decode cX6_paperWith 15 = .ok (.iload_n 1, 1) := by decide +kernel
theorem dX6_paperWith_16 : decode cX6_paperWith 16 = .ok (.putfield 126, 3) := by decide +kernel
theorem dX6_paperWith_19 : decode cX6_paperWith 19 = .ok (.aload_n 0, 1) := by decide +kernel
theorem dX6_paperWith_20 : decode cX6_paperWith 20 = .ok (.getfield 16, 3) := by decide +kernel
theorem dX6_paperWith_23 : decode cX6_paperWith 23 = .ok (.areturn, 1) := by decide +kernel
theorem dX6_planOf_0 : decode cX6_planOf 0 = .ok (.aload_n 0, 1) := by decide +kernel
theorem dX6_planOf_1 : decode cX6_planOf 1 = .ok (.getfield 12, 3) := by decide +kernel
theorem dX6_planOf_4 : decode cX6_planOf 4 = .ok (.iload_n 1, 1) := by decide +kernel
theorem dX6_planOf_5 : decode cX6_planOf 5 = .ok (.invokevirtual 95, 3) := by decide +kernel
theorem dX6_planOf_8 : decode cX6_planOf 8 = .ok (.astore_n 3, 1) := by decide +kernel
theorem dX6_planOf_9 : decode cX6_planOf 9 = .ok (.aload_n 3, 1) := by decide +kernel
theorem dX6_planOf_10 : decode cX6_planOf 10 = .ok (.ifnonnull 5, 3) := by decide +kernel
theorem dX6_planOf_13 : decode cX6_planOf 13 = .ok (.aconst_null, 1) := by decide +kernel
theorem dX6_planOf_14 : decode cX6_planOf 14 = .ok (.areturn, 1) := by decide +kernel
theorem dX6_planOf_15 : decode cX6_planOf 15 = .ok (.iload_n 2, 1) := by decide +kernel
theorem dX6_planOf_16 : decode cX6_planOf 16 = .ok (.iconst (-1), 1) := by decide +kernel
theorem dX6_planOf_17 : decode cX6_planOf 17 = .ok (.if_icmp .ne 8, 3) := by decide +kernel
theorem dX6_planOf_20 : decode cX6_planOf 20 = .ok (.aload_n 3, 1) := by decide +kernel
theorem dX6_planOf_21 : decode cX6_planOf 21 = .ok (.getfield 190, 3) := by decide +kernel
theorem dX6_planOf_24 : decode cX6_planOf 24 = .ok (.areturn, 1) := by decide +kernel
theorem dX6_planOf_25 : decode cX6_planOf 25 = .ok (.aload_n 3, 1) := by decide +kernel
theorem dX6_planOf_26 : decode cX6_planOf 26 = .ok (.iload_n 2, 1) := by decide +kernel
theorem dX6_planOf_27 : decode cX6_planOf 27 = .ok (.invokevirtual 109, 3) := by decide +kernel
theorem dX6_planOf_30 : decode cX6_planOf 30 = .ok (.astore 4, 2) := by decide +kernel
theorem dX6_planOf_32 : decode cX6_planOf 32 = .ok (.aload 4, 2) := by decide +kernel
theorem dX6_planOf_34 : decode cX6_planOf 34 = .ok (.ifnonnull 7, 3) := by decide +kernel
theorem dX6_planOf_37 : decode cX6_planOf 37 = .ok (.aconst_null, 1) := by decide +kernel
theorem dX6_planOf_38 : decode cX6_planOf 38 = .ok (.goto 8, 3) := by decide +kernel
theorem dX6_planOf_41 : decode cX6_planOf 41 = .ok (.aload 4, 2) := by decide +kernel
theorem dX6_planOf_43 : decode cX6_planOf 43 = .ok (.getfield 237, 3) := by decide +kernel
theorem dX6_planOf_46 : decode cX6_planOf 46 = .ok (.areturn, 1) := by decide +kernel
theorem dX6_noteHops_0 : decode cX6_noteHops 0 = .ok (.iconst 0, 1) := by decide +kernel
theorem dX6_noteHops_1 : decode cX6_noteHops 1 = .ok (.istore_n 2, 1) := by decide +kernel
theorem dX6_noteHops_2 : decode cX6_noteHops 2 = .ok (.iload_n 2, 1) := by decide +kernel
theorem dX6_noteHops_3 : decode cX6_noteHops 3 = .ok (.iload_n 1, 1) := by decide +kernel
theorem dX6_noteHops_4 : decode cX6_noteHops 4 = .ok (.if_icmp .ge 56, 3) := by decide +kernel
theorem dX6_noteHops_7 : decode cX6_noteHops 7 = .ok (.iload_n 2, 1) := by decide +kernel
theorem dX6_noteHops_8 : decode cX6_noteHops 8 = .ok (.aload_n 0, 1) := by decide +kernel
theorem dX6_noteHops_9 : decode cX6_noteHops 9 = .ok (.getfield 47, 3) := by decide +kernel
theorem dX6_noteHops_12 : decode cX6_noteHops 12 = .ok (.arraylength, 1) := by decide +kernel
theorem dX6_noteHops_13 : decode cX6_noteHops 13 = .ok (.if_icmp .ge 47, 3) := by decide +kernel
theorem dX6_noteHops_16 : decode cX6_noteHops 16 = .ok (.aload_n 0, 1) := by decide +kernel
theorem dX6_noteHops_17 : decode cX6_noteHops 17 = .ok (.getfield 47, 3) := by decide +kernel
theorem dX6_noteHops_20 : decode cX6_noteHops 20 = .ok (.iload_n 2, 1) := by decide +kernel
theorem dX6_noteHops_21 : decode cX6_noteHops 21 = .ok (.aload_n 0, 1) := by decide +kernel
theorem dX6_noteHops_22 : decode cX6_noteHops 22 = .ok (.getfield 12, 3) := by decide +kernel
theorem dX6_noteHops_25 : decode cX6_noteHops 25 = .ok (.iconst 0, 1) := by decide +kernel
theorem dX6_noteHops_26 : decode cX6_noteHops 26 = .ok (.aload_n 0, 1) := by decide +kernel
theorem dX6_noteHops_27 : decode cX6_noteHops 27 = .ok (.getfield 12, 3) := by decide +kernel
theorem dX6_noteHops_30 : decode cX6_noteHops 30 = .ok (.getfield 80, 3) := by decide +kernel
theorem dX6_noteHops_33 : decode cX6_noteHops 33 = .ok (.iconst 0, 1) := by decide +kernel
theorem dX6_noteHops_34 : decode cX6_noteHops 34 = .ok (.aaload, 1) := by decide +kernel
theorem dX6_noteHops_35 : decode cX6_noteHops 35 = .ok (.getfield 190, 3) := by decide +kernel
theorem dX6_noteHops_38 : decode cX6_noteHops 38 = .ok (.getfield 206, 3) := by decide +kernel
theorem dX6_noteHops_41 : decode cX6_noteHops 41 = .ok (.aload_n 0, 1) := by decide +kernel
theorem dX6_noteHops_42 : decode cX6_noteHops 42 = .ok (.getfield 12, 3) := by decide +kernel
theorem dX6_noteHops_45 : decode cX6_noteHops 45 = .ok (.getfield 102, 3) := by decide +kernel
theorem dX6_noteHops_48 : decode cX6_noteHops 48 = .ok (.iload_n 2, 1) := by decide +kernel
theorem dX6_noteHops_49 : decode cX6_noteHops 49 = .ok (.iadd, 1) := by decide +kernel
theorem dX6_noteHops_50 : decode cX6_noteHops 50 = .ok (.invokevirtual 233, 3) := by decide +kernel
theorem dX6_noteHops_53 : decode cX6_noteHops 53 = .ok (.iastore, 1) := by decide +kernel
theorem dX6_noteHops_54 : decode cX6_noteHops 54 = .ok (.iinc 2 1, 3) := by decide +kernel
theorem dX6_noteHops_57 : decode cX6_noteHops 57 = .ok (.goto (-55), 3) := by decide +kernel
theorem dX6_noteHops_60 : decode cX6_noteHops 60 = .ok (.aload_n 0, 1) := by decide +kernel
theorem dX6_noteHops_61 : decode cX6_noteHops 61 = .ok (.getfield 12, 3) := by decide +kernel
theorem dX6_noteHops_64 : decode cX6_noteHops 64 = .ok (.aload_n 0, 1) := by decide +kernel
theorem dX6_noteHops_65 : decode cX6_noteHops 65 = .ok (.getfield 12, 3) := by decide +kernel
theorem dX6_noteHops_68 : decode cX6_noteHops 68 = .ok (.getfield 80, 3) := by decide +kernel
theorem dX6_noteHops_71 : decode cX6_noteHops 71 = .ok (.iconst 1, 1) := by decide +kernel
theorem dX6_noteHops_72 : decode cX6_noteHops 72 = .ok (.aaload, 1) := by decide +kernel
theorem dX6_noteHops_73 : decode cX6_noteHops 73 = .ok (.getfield 84, 3) := by decide +kernel
theorem dX6_noteHops_76 : decode cX6_noteHops 76 = .ok (.invokevirtual 395, 3) := by decide +kernel
theorem dX6_noteHops_79 : decode cX6_noteHops 79 = .ok (.istore_n 2, 1) := by decide +kernel
theorem dX6_noteHops_80 : decode cX6_noteHops 80 = .ok (.iconst 0, 1) := by decide +kernel
theorem dX6_noteHops_81 : decode cX6_noteHops 81 = .ok (.istore_n 3, 1) := by decide +kernel
theorem dX6_noteHops_82 : decode cX6_noteHops 82 = .ok (.iload_n 3, 1) := by decide +kernel
theorem dX6_noteHops_83 : decode cX6_noteHops 83 = .ok (.iload_n 1, 1) := by decide +kernel
theorem dX6_noteHops_84 : decode cX6_noteHops 84 = .ok (.bipush 64, 2) := by decide +kernel
theorem dX6_noteHops_86 : decode cX6_noteHops 86 = .ok (.iadd, 1) := by decide +kernel
theorem dX6_noteHops_87 : decode cX6_noteHops 87 = .ok (.if_icmp .ge 55, 3) := by decide +kernel
theorem dX6_noteHops_90 : decode cX6_noteHops 90 = .ok (.iload_n 3, 1) := by decide +kernel
theorem dX6_noteHops_91 : decode cX6_noteHops 91 = .ok (.aload_n 0, 1) := by decide +kernel
theorem dX6_noteHops_92 : decode cX6_noteHops 92 = .ok (.getfield 50, 3) := by decide +kernel
theorem dX6_noteHops_95 : decode cX6_noteHops 95 = .ok (.arraylength, 1) := by decide +kernel
theorem dX6_noteHops_96 : decode cX6_noteHops 96 = .ok (.if_icmp .ge 46, 3) := by decide +kernel
theorem dX6_noteHops_99 : decode cX6_noteHops 99 = .ok (.aload_n 0, 1) := by decide +kernel
theorem dX6_noteHops_100 : decode cX6_noteHops 100 = .ok (.getfield 50, 3) := by decide +kernel
theorem dX6_noteHops_103 : decode cX6_noteHops 103 = .ok (.iload_n 3, 1) := by decide +kernel
theorem dX6_noteHops_104 : decode cX6_noteHops 104 = .ok (.iload_n 2, 1) := by decide +kernel
theorem dX6_noteHops_105 : decode cX6_noteHops 105 = .ok (.aload_n 0, 1) := by decide +kernel
theorem dX6_noteHops_106 : decode cX6_noteHops 106 = .ok (.getfield 12, 3) := by decide +kernel
theorem dX6_noteHops_109 : decode cX6_noteHops 109 = .ok (.getfield 102, 3) := by decide +kernel
theorem dX6_noteHops_112 : decode cX6_noteHops 112 = .ok (.iload_n 3, 1) := by decide +kernel
theorem dX6_noteHops_113 : decode cX6_noteHops 113 = .ok (.iadd, 1) := by decide +kernel
theorem dX6_noteHops_114 : decode cX6_noteHops 114 = .ok (.invokestatic 224, 3) := by decide +kernel
theorem dX6_noteHops_117 : decode cX6_noteHops 117 = .ok (.aload_n 0, 1) := by decide +kernel
theorem dX6_noteHops_118 : decode cX6_noteHops 118 = .ok (.getfield 12, 3) := by decide +kernel
theorem dX6_noteHops_121 : decode cX6_noteHops 121 = .ok (.getfield 80, 3) := by decide +kernel
theorem dX6_noteHops_124 : decode cX6_noteHops 124 = .ok (.iconst 1, 1) := by decide +kernel
theorem dX6_noteHops_125 : decode cX6_noteHops 125 = .ok (.aaload, 1) := by decide +kernel
theorem dX6_noteHops_126 : decode cX6_noteHops 126 = .ok (.getfield 190, 3) := by decide +kernel
theorem dX6_noteHops_129 : decode cX6_noteHops 129 = .ok (.getfield 206, 3) := by decide +kernel
theorem dX6_noteHops_132 : decode cX6_noteHops 132 = .ok (.invokestatic 398, 3) := by decide +kernel
theorem dX6_noteHops_135 : decode cX6_noteHops 135 = .ok (.iastore, 1) := by decide +kernel
theorem dX6_noteHops_136 : decode cX6_noteHops 136 = .ok (.iinc 3 1, 3) := by decide +kernel
theorem dX6_noteHops_139 : decode cX6_noteHops 139 = .ok (.goto (-57), 3) := by decide +kernel
theorem dX6_noteHops_142 : decode cX6_noteHops 142 = .ok (.return_, 1) := by decide +kernel
theorem dX6_clashesAt_0 : decode cX6_clashesAt 0 = .ok (.iconst 0, 1) := by decide +kernel
theorem dX6_clashesAt_1 : decode cX6_clashesAt 1 = .ok (.istore_n 3, 1) := by decide +kernel
theorem dX6_clashesAt_2 : decode cX6_clashesAt 2 = .ok (.iconst 0, 1) := by decide +kernel
theorem dX6_clashesAt_3 : decode cX6_clashesAt 3 = .ok (.istore 4, 2) := by decide +kernel
theorem dX6_clashesAt_5 : decode cX6_clashesAt 5 = .ok (.iload 4, 2) := by decide +kernel
theorem dX6_clashesAt_7 : decode cX6_clashesAt 7 = .ok (.iload_n 2, 1) := by decide +kernel
theorem dX6_clashesAt_8 : decode cX6_clashesAt 8 = .ok (.if_icmp .ge 53, 3) := by decide +kernel
theorem dX6_clashesAt_11 : decode cX6_clashesAt 11 = .ok (.iload 4, 2) := by decide +kernel
theorem dX6_clashesAt_13 : decode cX6_clashesAt 13 = .ok (.aload_n 0, 1) := by decide +kernel
theorem dX6_clashesAt_14 : decode cX6_clashesAt 14 = .ok (.getfield 47, 3) := by decide +kernel
theorem dX6_clashesAt_17 : decode cX6_clashesAt 17 = .ok (.arraylength, 1) := by decide +kernel
theorem dX6_clashesAt_18 : decode cX6_clashesAt 18 = .ok (.if_icmp .ge 43, 3) := by decide +kernel
theorem dX6_clashesAt_21 : decode cX6_clashesAt 21 = .ok (.iload 4, 2) := by decide +kernel
theorem dX6_clashesAt_23 : decode cX6_clashesAt 23 = .ok (.iload_n 1, 1) := by decide +kernel
theorem dX6_clashesAt_24 : decode cX6_clashesAt 24 = .ok (.iadd, 1) := by decide +kernel
theorem dX6_clashesAt_25 : decode cX6_clashesAt 25 = .ok (.aload_n 0, 1) := by decide +kernel
theorem dX6_clashesAt_26 : decode cX6_clashesAt 26 = .ok (.getfield 50, 3) := by decide +kernel
theorem dX6_clashesAt_29 : decode cX6_clashesAt 29 = .ok (.arraylength, 1) := by decide +kernel
theorem dX6_clashesAt_30 : decode cX6_clashesAt 30 = .ok (.if_icmp .ge 25, 3) := by decide +kernel
theorem dX6_clashesAt_33 : decode cX6_clashesAt 33 = .ok (.aload_n 0, 1) := by decide +kernel
theorem dX6_clashesAt_34 : decode cX6_clashesAt 34 = .ok (.getfield 47, 3) := by decide +kernel
theorem dX6_clashesAt_37 : decode cX6_clashesAt 37 = .ok (.iload 4, 2) := by decide +kernel
theorem dX6_clashesAt_39 : decode cX6_clashesAt 39 = .ok (.iaload, 1) := by decide +kernel
theorem dX6_clashesAt_40 : decode cX6_clashesAt 40 = .ok (.aload_n 0, 1) := by decide +kernel
theorem dX6_clashesAt_41 : decode cX6_clashesAt 41 = .ok (.getfield 50, 3) := by decide +kernel
theorem dX6_clashesAt_44 : decode cX6_clashesAt 44 = .ok (.iload 4, 2) := by decide +kernel
theorem dX6_clashesAt_46 : decode cX6_clashesAt 46 = .ok (.iload_n 1, 1) := by decide +kernel
theorem dX6_clashesAt_47 : decode cX6_clashesAt 47 = .ok (.iadd, 1) := by decide +kernel
theorem dX6_clashesAt_48 : decode cX6_clashesAt 48 = .ok (.iaload, 1) := by decide +kernel
theorem dX6_clashesAt_49 : decode cX6_clashesAt 49 = .ok (.if_icmp .ne 6, 3) := by decide +kernel
theorem dX6_clashesAt_52 : decode cX6_clashesAt 52 = .ok (.iinc 3 1, 3) := by decide +kernel
theorem dX6_clashesAt_55 : decode cX6_clashesAt 55 = .ok (.iinc 4 1, 3) := by decide +kernel
theorem dX6_clashesAt_58 : decode cX6_clashesAt 58 = .ok (.goto (-53), 3) := by decide +kernel
theorem dX6_clashesAt_61 : decode cX6_clashesAt 61 = .ok (.iload_n 3, 1) := by decide +kernel
theorem dX6_clashesAt_62 : decode cX6_clashesAt 62 = .ok (.ireturn, 1) := by decide +kernel
theorem lk_RX6_156 : LkS RX6 156 yX6_isEvenWithin cX6_isEvenWithin 3 (some .boolean) 3 := ⟨⟨mw_565, mw_566, mw_52, mw_567⟩, by decide +kernel⟩
set_option maxHeartbeats 4000000 in
set_option maxRecDepth 100000 in
theorem d_X6_isTerm (l : Launch) (E : hE) (ρ r : Nat → Nat → Int32) (S : Nat × Nat → Prop) (hSS : SK S) (a1 : Int32) (a2 : Int32) (hI : CI r S ρ) : Met l yX6_isTerm (.code yX6_isTerm cX6_isTerm 2 (some .boolean) :: gw_all) (rmk 2 80) (cPre E ρ [.int a1, .int a2]) (cI E (fun v ρ1 => ρ = ρ1 ∧ CI r S ρ1 ∧ iR v (0) (1))) 0 0 (hA E) := by
  refine ent (own := RX6) (by decide) rfl (Nat.le_of_ble_eq_true rfl) ?_
  intro p e s m below meth c ls B hr hlk hl hP hS
  have hx := B.1.1
  have hb := B.1.2.1
  have hown := B.1.2.2.2.1
  have hts := B.1.2.2.2.2
  have hl : lv_has ls 2 [(0, .int a1), (1, .int a2)] := hl
  refine lv_iload_n hx hb dX6_isTerm_0 rfl (lv_at hl 0 rfl) ?_
  rcases sw_split (x := a1) (lo := 0) (hi := 2) (by decide) with c11 | c11
  · skip
    refine lv_tableOut (tgt := 52) hx hb dX6_isTerm_1 c11 (by decide) ?_
    refine lv_iconst (v := 0) hx hb dX6_isTerm_52 (by decide) ?_
    exact ret_z B hr hlk hP hS dX6_isTerm_53 (Or.inl rfl) (⟨rfl, hI, (iR_w (a := 0) (b := 0) (show iR 0 (0) (0) from ⟨by decide, by decide⟩) (by decide) (by decide))⟩)
  · skip
    rcases sw_step (x := a1) (n := 0) (n' := 1) (by decide) c11 with c11 | c11
    · skip
      refine lv_tableIn (off := 27) (tgt := 28) hx hb dX6_isTerm_1 (by rw [c11]; decide) (by rw [c11]; decide) (by rw [c11]; decide) (by decide) ?_
      refine lv_iload_n hx hb dX6_isTerm_28 rfl (lv_at hl 1 rfl) ?_
      refine lv_iconst (v := 0) hx hb dX6_isTerm_29 (by decide) ?_
      refine lv_ldcw (v := 1000000) hx hb hown (hts _ mw_564) dX6_isTerm_30 ?_
      refine call_i (cS (av := [.int a2, .int 0, .int 1000000]) (rest := []) B hP hS (c_isWithin l E ρ a2 0 1000000 0 1000000 (by decide) (by decide)) lk_RX6_54 rfl rfl hl.1 (Nat.le_of_ble_eq_true rfl) ⟨Nat.le_of_ble_eq_true rfl, Nat.le_of_ble_eq_true rfl⟩ ⟨Nat.le_of_ble_eq_true rfl, Nat.le_of_ble_eq_true rfl⟩ dX6_isTerm_33) hS (fun r12 ρ13 H locs q14 hP hS => ?_)
      obtain ⟨rfl, q14⟩ := q14
      rcases q14 with ⟨rfl, q14⟩ | ⟨rfl, q14⟩
      · skip
        exact ret_z B hr hlk hP hS dX6_isTerm_36 (Or.inr rfl) (⟨rfl, hI, (iR_w (a := 1) (b := 1) (show iR 1 (1) (1) from ⟨by decide, by decide⟩) (by decide) (by decide))⟩)
      · skip
        exact ret_z B hr hlk hP hS dX6_isTerm_36 (Or.inl rfl) (⟨rfl, hI, (iR_w (a := 0) (b := 0) (show iR 0 (0) (0) from ⟨by decide, by decide⟩) (by decide) (by decide))⟩)
    · skip
      rcases sw_step (x := a1) (n := 1) (n' := 2) (by decide) c11 with c11 | c11
      · skip
        refine lv_tableIn (off := 36) (tgt := 37) hx hb dX6_isTerm_1 (by rw [c11]; decide) (by rw [c11]; decide) (by rw [c11]; decide) (by decide) ?_
        refine lv_iload_n hx hb dX6_isTerm_37 rfl (lv_at hl 1 rfl) ?_
        refine lv_iconst (v := 0) hx hb dX6_isTerm_38 (by decide) ?_
        refine lv_bipush (v := 32) hx hb dX6_isTerm_39 (by decide) ?_
        refine call_i (cS (av := [.int a2, .int 0, .int 32]) (rest := []) B hP hS (c_isEvenWithin l E ρ a2 0 32 0 32 (by decide) (by decide)) lk_RX6_156 rfl rfl hl.1 (Nat.le_of_ble_eq_true rfl) ⟨Nat.le_of_ble_eq_true rfl, Nat.le_of_ble_eq_true rfl⟩ ⟨Nat.le_of_ble_eq_true rfl, Nat.le_of_ble_eq_true rfl⟩ dX6_isTerm_41) hS (fun r15 ρ16 H locs q17 hP hS => ?_)
        obtain ⟨rfl, q17⟩ := q17
        rcases q17 with ⟨rfl, q17⟩ | ⟨rfl, q17⟩
        · skip
          exact ret_z B hr hlk hP hS dX6_isTerm_44 (Or.inr rfl) (⟨rfl, hI, (iR_w (a := 1) (b := 1) (show iR 1 (1) (1) from ⟨by decide, by decide⟩) (by decide) (by decide))⟩)
        · skip
          exact ret_z B hr hlk hP hS dX6_isTerm_44 (Or.inl rfl) (⟨rfl, hI, (iR_w (a := 0) (b := 0) (show iR 0 (0) (0) from ⟨by decide, by decide⟩) (by decide) (by decide))⟩)
      · skip
        have c11 := sw_last (n := 2) c11
        refine lv_tableIn (off := 44) (tgt := 45) hx hb dX6_isTerm_1 (by rw [c11]; decide) (by rw [c11]; decide) (by rw [c11]; decide) (by decide) ?_
        refine lv_iload_n hx hb dX6_isTerm_45 rfl (lv_at hl 1 rfl) ?_
        refine lv_iconst (v := 1) hx hb dX6_isTerm_46 (by decide) ?_
        refine lv_iconst (v := 4) hx hb dX6_isTerm_47 (by decide) ?_
        refine call_i (cS (av := [.int a2, .int 1, .int 4]) (rest := []) B hP hS (c_isWithin l E ρ a2 1 4 1 4 (by decide) (by decide)) lk_RX6_54 rfl rfl hl.1 (Nat.le_of_ble_eq_true rfl) ⟨Nat.le_of_ble_eq_true rfl, Nat.le_of_ble_eq_true rfl⟩ ⟨Nat.le_of_ble_eq_true rfl, Nat.le_of_ble_eq_true rfl⟩ dX6_isTerm_48) hS (fun r18 ρ19 H locs q20 hP hS => ?_)
        obtain ⟨rfl, q20⟩ := q20
        rcases q20 with ⟨rfl, q20⟩ | ⟨rfl, q20⟩
        · skip
          exact ret_z B hr hlk hP hS dX6_isTerm_51 (Or.inr rfl) (⟨rfl, hI, (iR_w (a := 1) (b := 1) (show iR 1 (1) (1) from ⟨by decide, by decide⟩) (by decide) (by decide))⟩)
        · skip
          exact ret_z B hr hlk hP hS dX6_isTerm_51 (Or.inl rfl) (⟨rfl, hI, (iR_w (a := 0) (b := 0) (show iR 0 (0) (0) from ⟨by decide, by decide⟩) (by decide) (by decide))⟩)

set_option maxHeartbeats 4000000 in
set_option maxRecDepth 100000 in
theorem d_X6_isMap (l : Launch) (E : hE) (ρ r : Nat → Nat → Int32) (S : Nat × Nat → Prop) (hSS : SK S) (a1 : Int32) (hI : CI r S ρ) : Met l yX6_isMap (.code yX6_isMap cX6_isMap 1 (some .boolean) :: gw_all) (rmk 2 80) (cPre E ρ [.int a1]) (cI E (fun v ρ1 => ρ = ρ1 ∧ CI r S ρ1 ∧ iR v (0) (1))) 0 0 (hA E) := by
  refine ent (own := RX6) (by decide) rfl (Nat.le_of_ble_eq_true rfl) ?_
  intro p e s m below meth c ls B hr hlk hl hP hS
  have hx := B.1.1
  have hb := B.1.2.1
  have hown := B.1.2.2.2.1
  have hts := B.1.2.2.2.2
  have hl : lv_has ls 1 [(0, .int a1)] := hl
  refine lv_iload_n hx hb dX6_isMap_0 rfl (lv_at hl 0 rfl) ?_
  refine lv_ldcw (v := (-8388608)) hx hb hown (hts _ mw_610) dX6_isMap_1 ?_
  refine lv_iand hx hb dX6_isMap_4 ?_
  refine lv_if_ne (tgt := 21) hx hb dX6_isMap_5 (by decide) (fun c10 => ?_) (fun c10 => ?_)
  · skip
    refine lv_iconst (v := 0) hx hb dX6_isMap_21 (by decide) ?_
    exact ret_z B hr hlk hP hS dX6_isMap_22 (Or.inl rfl) (⟨rfl, hI, (iR_w (a := 0) (b := 0) (show iR 0 (0) (0) from ⟨by decide, by decide⟩) (by decide) (by decide))⟩)
  · skip
    have i11 : iR (a1 &&& (-8388608)) (0) (0) := (by rw [c10]; exact ⟨by decide, by decide⟩)
    refine lv_iload_n hx hb dX6_isMap_8 rfl (lv_at hl 0 rfl) ?_
    refine call_i (cJ (av := [.int a1]) (rest := []) B hP hS (d_J6_bitCount_0f7a4 l E ρ r S hSS a1 hI) lk_RX6_403 rfl rfl hl.1 (Nat.le_of_ble_eq_true rfl) ⟨Nat.le_of_ble_eq_true rfl, Nat.le_of_ble_eq_true rfl⟩ ⟨Nat.le_of_ble_eq_true rfl, Nat.le_of_ble_eq_true rfl⟩ dX6_isMap_9) hS (fun r12 ρ13 H locs q14 hP hS => ?_)
    obtain ⟨rfl, hI⟩ := q14
    refine lv_bipush (v := 8) hx hb dX6_isMap_12 (by decide) ?_
    refine lv_icmp_lt (tgt := 21) hx hb dX6_isMap_14 (by decide) (fun c16 => ?_) (fun c16 => ?_)
    · skip
      have i17 : iR r12 (-2147483648) (7) := (iR_ltL (iR_any r12) (show iR 8 (8) (8) from ⟨by decide, by decide⟩) c16 (by decide))
      refine lv_iconst (v := 0) hx hb dX6_isMap_21 (by decide) ?_
      exact ret_z B hr hlk hP hS dX6_isMap_22 (Or.inl rfl) (⟨rfl, hI, (iR_w (a := 0) (b := 0) (show iR 0 (0) (0) from ⟨by decide, by decide⟩) (by decide) (by decide))⟩)
    · skip
      have i18 : iR r12 (8) (2147483647) := (iR_geL (iR_any r12) (show iR 8 (8) (8) from ⟨by decide, by decide⟩) c16 (by decide))
      refine lv_iconst (v := 1) hx hb dX6_isMap_17 (by decide) ?_
      refine lv_goto (tgt := 22) hx hb dX6_isMap_18 (by decide) ?_
      exact ret_z B hr hlk hP hS dX6_isMap_22 (Or.inr rfl) (⟨rfl, hI, (iR_w (a := 1) (b := 1) (show iR 1 (1) (1) from ⟨by decide, by decide⟩) (by decide) (by decide))⟩)

set_option maxHeartbeats 4000000 in
set_option maxRecDepth 100000 in
theorem d_X6_bit (l : Launch) (E : hE) (ρ r : Nat → Nat → Int32) (S : Nat × Nat → Prop) (hSS : SK S) (a1 : Int32) (ha1 : iR a1 0 1) (hI : CI r S ρ) : Met l yX6_bit (.code yX6_bit cX6_bit 1 (some .int) :: gw_all) (rmk 1 40) (cPre E ρ [.int a1]) (cI E (fun v ρ1 => ρ = ρ1 ∧ CI r S ρ1)) 0 0 (hA E) := by
  refine ent (own := RX6) (by decide) rfl (Nat.le_of_ble_eq_true rfl) ?_
  intro p e s m below meth c ls B hr hlk hl hP hS
  have hx := B.1.1
  have hb := B.1.2.1
  have hown := B.1.2.2.2.1
  have hts := B.1.2.2.2.2
  have hl : lv_has ls 1 [(0, .int a1)] := hl
  refine lv_iload_n hx hb dX6_bit_0 rfl (lv_at hl 0 rfl) ?_
  obtain ⟨j6, lj6, uj6, ej6⟩ := iR_nat (a := 0) (b := 1) ha1
  refine lv_topi (fun z7 ez7 => ?_)
  obtain rfl : z7 = nI j6 := ez7.trans ej6
  refine lv_if_eq (tgt := 8) hx hb dX6_bit_1 (by decide) (fun c8 => ?_) (fun c8 => ?_)
  · skip
    have n9 := (nI_eq (a := j6) (b := 0) (by omega) (by omega)).mp (show (nI j6 = nI 0) from c8)
    refine lv_iconst (v := 0) hx hb dX6_bit_8 (by decide) ?_
    exact ret_i B hr hlk hP hS dX6_bit_9 (⟨rfl, hI⟩)
  · skip
    have n10 := mt (nI_eq (a := j6) (b := 0) (by omega) (by omega)).mpr (show ¬ (nI j6 = nI 0) from c8)
    refine lv_iconst (v := 1) hx hb dX6_bit_4 (by decide) ?_
    refine lv_goto (tgt := 9) hx hb dX6_bit_5 (by decide) ?_
    exact ret_i B hr hlk hP hS dX6_bit_9 (⟨rfl, hI⟩)

set_option maxHeartbeats 4000000 in
set_option maxRecDepth 100000 in
theorem d_X6_greatestDivisor (l : Launch) (E : hE) (ρ r : Nat → Nat → Int32) (S : Nat × Nat → Prop) (hSS : SK S) (a1 : Int32) (a2 : Int32) (hI : CI r S ρ) : Met l yX6_greatestDivisor (.code yX6_greatestDivisor cX6_greatestDivisor 6 (some .int) :: gw_all) (rmk 1 40) (cPre E ρ [.int a1, .int a2]) (cI E (fun v ρ1 => ρ = ρ1 ∧ CI r S ρ1)) 0 0 (hA E) := by
  refine ent (own := RX6) (by decide) rfl (Nat.le_of_ble_eq_true rfl) ?_
  intro p e s m below meth c ls B hr hlk hl hP hS
  have hx := B.1.1
  have hb := B.1.2.1
  have hown := B.1.2.2.2.1
  have hts := B.1.2.2.2.2
  have hl : lv_has ls 6 [(0, .int a1), (1, .int a2)] := hl
  have b7_0 : ∀ (ls : Array Slot) (H : Heap) (locs : List Loc) (d7 : Nat) (x7_2 : Int32) (x7_3 : Int32) (j7_4 : Nat), lv_has ls 6 [(2, .int x7_2), (3, .int x7_3), (4, .int (nI j7_4))] → WP E ρ H → va_S (hA E) s.heap H locs → 65 - j7_4 < d7 → iR x7_2 (-2147483648) (2147483647) → iR x7_3 (-2147483648) (2147483647) → 0 ≤ j7_4 → j7_4 ≤ 64 → W p l e (rmk 1 40) s m ([.int a1, .int a2] : List Value).toArray below meth c H locs 0 0 (MQ below (cI E (fun v ρ1 => ρ = ρ1 ∧ CI r S ρ1)) ([.int a1, .int a2] : List Value).toArray s 0 0 (hA E)) (F0 m 7 ls []) := by
    intro ls H locs d7
    induction d7 generalizing ls H locs with
    | zero => intro x7_2 x7_3 j7_4 hl hP hS hd7 hx7_2 hx7_3 lj7_4 uj7_4; exact absurd hd7 (Nat.not_lt_zero _)
    | succ d7 ih7 =>
      intro x7_2 x7_3 j7_4 hl hP hS hd7 hx7_2 hx7_3 lj7_4 uj7_4
      refine lv_iload hx hb dX6_greatestDivisor_7 (lv_at hl 2 rfl) ?_
      refine lv_bipush (v := 64) hx hb dX6_greatestDivisor_9 (by decide) ?_
      refine lv_icmp_ge (tgt := 34) hx hb dX6_greatestDivisor_11 (by decide) (fun c33 => ?_) (fun c33 => ?_)
      · skip
        have n34 := mt (nx_lt (a := j7_4) (b := 64) (by omega) (by omega)).mpr (show ¬ (nI j7_4 < nI 64) from (Int32.not_lt.mpr c33))
        refine lv_iload_n hx hb dX6_greatestDivisor_34 rfl (lv_at hl 0 rfl) ?_
        exact ret_i B hr hlk hP hS dX6_greatestDivisor_35 (⟨rfl, hI⟩)
      · skip
        have n35 := (nx_lt (a := j7_4) (b := 64) (by omega) (by omega)).mp (show (nI j7_4 < nI 64) from (Int32.not_le.mp c33))
        refine lv_iload_n hx hb dX6_greatestDivisor_14 rfl (lv_at hl 1 rfl) ?_
        refine lv_if_eq (tgt := 34) hx hb dX6_greatestDivisor_15 (by decide) (fun c36 => ?_) (fun c36 => ?_)
        · skip
          have i37 : iR x7_3 (0) (0) := (by rw [c36]; exact ⟨by decide, by decide⟩)
          refine lv_iload_n hx hb dX6_greatestDivisor_34 rfl (lv_at hl 0 rfl) ?_
          exact ret_i B hr hlk hP hS dX6_greatestDivisor_35 (⟨rfl, hI⟩)
        · skip
          refine lv_iload_n hx hb dX6_greatestDivisor_18 rfl (lv_at hl 0 rfl) ?_
          refine lv_iload_n hx hb dX6_greatestDivisor_19 rfl (lv_at hl 1 rfl) ?_
          refine lv_irem hx hb dX6_greatestDivisor_20 c36 ?_
          refine lv_istore (lv' := [(5, .int (x7_2 - x7_2 / x7_3 * x7_3)), (2, .int x7_2), (3, .int x7_3), (4, .int (nI j7_4))]) hx hb dX6_greatestDivisor_21 hl (by decide) rfl (fun ls hl => ?_)
          refine lv_iload_n hx hb dX6_greatestDivisor_23 rfl (lv_at hl 2 rfl) ?_
          refine lv_istore_n (lv' := [(2, .int x7_3), (5, .int (x7_2 - x7_2 / x7_3 * x7_3)), (3, .int x7_3), (4, .int (nI j7_4))]) hx hb dX6_greatestDivisor_24 rfl hl (by decide) rfl (fun ls hl => ?_)
          refine lv_iload hx hb dX6_greatestDivisor_25 (lv_at hl 1 rfl) ?_
          refine lv_istore_n (lv' := [(3, .int (x7_2 - x7_2 / x7_3 * x7_3)), (2, .int x7_3), (5, .int (x7_2 - x7_2 / x7_3 * x7_3)), (4, .int (nI j7_4))]) hx hb dX6_greatestDivisor_27 rfl hl (by decide) rfl (fun ls hl => ?_)
          refine lv_iinc (v := (nI (1 + j7_4))) (lv' := [(4, .int (nI (1 + j7_4))), (3, .int (x7_2 - x7_2 / x7_3 * x7_3)), (2, .int x7_3), (5, .int (x7_2 - x7_2 / x7_3 * x7_3))]) hx hb dX6_greatestDivisor_28 hl (k := 3) rfl (show nI j7_4 + nI 1 = _ from (nI_add _ _).trans (congrArg nI (by omega))) (by decide) rfl (fun ls hl => ?_)
          refine lv_goto (tgt := 7) hx hb dX6_greatestDivisor_31 (by decide) ?_
          exact ih7 ls _ _ (x7_3 : Int32) ((x7_2 - x7_2 / x7_3 * x7_3) : Int32) (1 + j7_4) (lv_sub hl [2, 1, 0] rfl) hP hS (by omega) (iR_w hx7_3 (by decide) (by decide)) (iR_w (iR_any (x7_2 - x7_2 / x7_3 * x7_3)) (by decide) (by decide)) (by omega) (by omega)
  refine lv_iload_n hx hb dX6_greatestDivisor_0 rfl (lv_at hl 0 rfl) ?_
  refine lv_istore_n (lv' := [(2, .int a1), (0, .int a1), (1, .int a2)]) hx hb dX6_greatestDivisor_1 rfl hl (by decide) rfl (fun ls hl => ?_)
  refine lv_iload_n hx hb dX6_greatestDivisor_2 rfl (lv_at hl 2 rfl) ?_
  refine lv_istore_n (lv' := [(3, .int a2), (2, .int a1), (0, .int a1), (1, .int a2)]) hx hb dX6_greatestDivisor_3 rfl hl (by decide) rfl (fun ls hl => ?_)
  refine lv_iconst (v := 0) hx hb dX6_greatestDivisor_4 (by decide) ?_
  refine lv_istore (lv' := [(4, .int 0), (3, .int a2), (2, .int a1), (0, .int a1), (1, .int a2)]) hx hb dX6_greatestDivisor_5 hl (by decide) rfl (fun ls hl => ?_)
  exact b7_0 ls _ _ _ (a1 : Int32) (a2 : Int32) 0 (lv_sub hl [2, 1, 0] rfl) hP hS (Nat.lt_succ_self _) (iR_w (iR_any a1) (by decide) (by decide)) (iR_w (iR_any a2) (by decide) (by decide)) (by omega) (by omega)

set_option maxHeartbeats 4000000 in
set_option maxRecDepth 100000 in
theorem d_X6_refuse (l : Launch) (E : hE) (ρ r : Nat → Nat → Int32) (a1 : Int32) (hI : CI r S0 ρ) : Met l yX6_refuse (.code yX6_refuse cX6_refuse 3 (some .int) :: gw_all) (rmk 1 40) (cPre E ρ [.ref (E.2.1 + 0), .int a1]) (cI E (fun v ρ1 => CI r S0 ρ1)) 0 0 (hA E) := by
  refine ent (own := RX6) (by decide) rfl (Nat.le_of_ble_eq_true rfl) ?_
  intro p e s m below meth c ls B hr hlk hl hP hS
  have hx := B.1.1
  have hb := B.1.2.1
  have hown := B.1.2.2.2.1
  have hts := B.1.2.2.2.2
  have hl : lv_has ls 3 [(0, .ref (E.2.1 + 0)), (1, .int a1)] := hl
  refine lv_aload_n hx hb dX6_refuse_0 rfl (lv_at hl 0 rfl) ?_
  refine lv_iload_n hx hb dX6_refuse_1 rfl (lv_at hl 1 rfl) ?_
  refine put6 B hP hS (show hk 0 = 6 by decide +kernel) 9 (by decide) mw_421 rfl rfl rfl (fs6_9 E 0 _ _) dX6_refuse_2 (fun H locs hP hS => ?_)
  obtain ⟨ρ13, e14⟩ : ∃ z, z = up ρ 0 9 a1 := ⟨_, rfl⟩
  rw [← e14] at hP
  have hI : CI r S0 ρ13 := by rw [e14]; exact CI_up hI (by decide) (SP_plain (show hk 0 = 6 by decide +kernel) rfl (by decide)) ⟨(fun z2 => absurd (Eq.trans (Eq.symm (show hk 0 = 6 by decide +kernel)) z2) (by decide)), (fun z2 => absurd (Eq.trans (Eq.symm (show hk 0 = 6 by decide +kernel)) z2) (by decide))⟩ hS0
  refine lv_iload_n hx hb dX6_refuse_5 rfl (lv_at hl 1 rfl) ?_
  refine lv_ineg hx hb dX6_refuse_6 ?_
  refine lv_iconst (v := 1) hx hb dX6_refuse_7 (by decide) ?_
  refine lv_isub hx hb dX6_refuse_8 ?_
  refine lv_istore_n (lv' := [(2, .int ((-a1) - 1)), (0, .ref (E.2.1 + 0)), (1, .int a1)]) hx hb dX6_refuse_9 rfl hl (by decide) rfl (fun ls hl => ?_)
  refine lv_iload_n hx hb dX6_refuse_10 rfl (lv_at hl 0 rfl) ?_
  refine lv_if_lt (tgt := 33) hx hb dX6_refuse_11 (by decide) (fun c15 => ?_) (fun c15 => ?_)
  · skip
    have i16 : iR ((-a1) - 1) (-2147483648) (-1) := (iR_ltL (iR_any ((-a1) - 1)) (show iR 0 (0) (0) from ⟨by decide, by decide⟩) c15 (by decide))
    refine lv_iload_n hx hb dX6_refuse_33 rfl (lv_at hl 2 rfl) ?_
    exact ret_i B hr hlk hP hS dX6_refuse_34 (hI)
  · skip
    have i17 : iR ((-a1) - 1) (0) (2147483647) := (iR_geL (iR_any ((-a1) - 1)) (show iR 0 (0) (0) from ⟨by decide, by decide⟩) c15 (by decide))
    refine lv_iload_n hx hb dX6_refuse_14 rfl (lv_at hl 0 rfl) ?_
    refine lv_aload_n hx hb dX6_refuse_15 rfl (lv_at hl 1 rfl) ?_
    refine get6 B hP (show hk 0 = 6 by decide +kernel) 8 (by decide) mw_420 rfl dX6_refuse_16 ?_
    refine alen8 (n := 5) B hP (show hk 183 = 8 by decide +kernel) (show hlen 183 = 5 by decide +kernel) (v := 5) (by decide) dX6_refuse_19 ?_
    refine lv_icmp_ge (tgt := 33) hx hb dX6_refuse_20 (by decide) (fun c18 => ?_) (fun c18 => ?_)
    · skip
      have i19 : iR ((-a1) - 1) (5) (2147483647) := (iR_geL i17 (show iR 5 (5) (5) from ⟨by decide, by decide⟩) (Int32.not_lt.mpr c18) (by decide))
      refine lv_iload_n hx hb dX6_refuse_33 rfl (lv_at hl 2 rfl) ?_
      exact ret_i B hr hlk hP hS dX6_refuse_34 (hI)
    · skip
      have i20 : iR ((-a1) - 1) (0) (4) := (iR_ltL i17 (show iR 5 (5) (5) from ⟨by decide, by decide⟩) (Int32.not_le.mp c18) (by decide))
      refine lv_aload_n hx hb dX6_refuse_23 rfl (lv_at hl 1 rfl) ?_
      refine get6 B hP (show hk 0 = 6 by decide +kernel) 8 (by decide) mw_420 rfl dX6_refuse_24 ?_
      refine lv_iload_n hx hb dX6_refuse_27 rfl (lv_at hl 0 rfl) ?_
      obtain ⟨j21, lj21, uj21, ej21⟩ := iR_nat (a := 0) (b := 4) i20
      refine lv_topi (fun z22 ez22 => ?_)
      obtain rfl : z22 = nI j21 := ez22.trans ej21
      refine lv_dup2_11 hx hb dX6_refuse_28 rfl rfl ?_
      refine aldn (n := 5) (j := j21) B hP (show hk 183 = 8 by decide +kernel) (show hlen 183 = 5 by decide +kernel) rfl (by omega) (by decide) dX6_refuse_29 ?_
      refine lv_iconst (v := 1) hx hb dX6_refuse_30 (by decide) ?_
      refine lv_iadd hx hb dX6_refuse_31 ?_
      refine astn (n := 5) (j := j21) B hP hS (show hk 183 = 8 by decide +kernel) (show hlen 183 = 5 by decide +kernel) rfl (by omega) (by decide) dX6_refuse_32 (fun H locs hP hS => ?_)
      obtain ⟨ρ23, e24⟩ : ∃ z, z = up ρ13 183 j21 ((ρ13 183 j21) + 1) := ⟨_, rfl⟩
      rw [← e24] at hP
      have hI : CI r S0 ρ23 := by rw [e24]; exact CI_up hI (by decide) (SP_plain (show hk 183 = 8 by decide +kernel) rfl (by decide)) ⟨(fun z2 => absurd (Eq.trans (Eq.symm (show hk 183 = 8 by decide +kernel)) z2) (by decide)), (fun z2 => absurd (Eq.trans (Eq.symm (show hk 183 = 8 by decide +kernel)) z2) (by decide))⟩ hS0
      refine lv_iload_n hx hb dX6_refuse_33 rfl (lv_at hl 2 rfl) ?_
      exact ret_i B hr hlk hP hS dX6_refuse_34 (hI)

set_option maxHeartbeats 4000000 in
set_option maxRecDepth 100000 in
theorem d_X6_accept (l : Launch) (E : hE) (ρ r : Nat → Nat → Int32) (a1 : Int32) (hI : CI r S0 ρ) : Met l yX6_accept (.code yX6_accept cX6_accept 2 (some .int) :: gw_all) (rmk 1 40) (cPre E ρ [.ref (E.2.1 + 0), .int a1]) (cI E (fun v ρ1 => CI r S0 ρ1)) 0 0 (hA E) := by
  refine ent (own := RX6) (by decide) rfl (Nat.le_of_ble_eq_true rfl) ?_
  intro p e s m below meth c ls B hr hlk hl hP hS
  have hx := B.1.1
  have hb := B.1.2.1
  have hown := B.1.2.2.2.1
  have hts := B.1.2.2.2.2
  have hl : lv_has ls 2 [(0, .ref (E.2.1 + 0)), (1, .int a1)] := hl
  refine lv_aload_n hx hb dX6_accept_0 rfl (lv_at hl 0 rfl) ?_
  refine lv_iconst (v := 0) hx hb dX6_accept_1 (by decide) ?_
  refine put6 B hP hS (show hk 0 = 6 by decide +kernel) 9 (by decide) mw_421 rfl rfl rfl (fs6_9 E 0 _ _) dX6_accept_2 (fun H locs hP hS => ?_)
  obtain ⟨ρ3, e4⟩ : ∃ z, z = up ρ 0 9 0 := ⟨_, rfl⟩
  rw [← e4] at hP
  have hI : CI r S0 ρ3 := by rw [e4]; exact CI_up hI (by decide) (SP_plain (show hk 0 = 6 by decide +kernel) rfl (by decide)) ⟨(fun z2 => absurd (Eq.trans (Eq.symm (show hk 0 = 6 by decide +kernel)) z2) (by decide)), (fun z2 => absurd (Eq.trans (Eq.symm (show hk 0 = 6 by decide +kernel)) z2) (by decide))⟩ hS0
  refine lv_iload_n hx hb dX6_accept_5 rfl (lv_at hl 1 rfl) ?_
  exact ret_i B hr hlk hP hS dX6_accept_6 (hI)

theorem lk_RX6_219 : LkV RX6 219 RX5 yX5_copyFrom cX5_copyFrom 3 none 1 := ⟨⟨mw_466, mw_467, mw_468, mw_53, mw_469⟩, by decide +kernel⟩
set_option maxHeartbeats 4000000 in
set_option maxRecDepth 100000 in
theorem d_X6_keepForUndo (l : Launch) (E : hE) (ρ r : Nat → Nat → Int32) (S : Nat × Nat → Prop) (hSS : SK S) (a1 : Int32) (hI : CI r S ρ) (hlow : ∀ x, S x → x.1 < 364) : Met l yX6_keepForUndo (.code yX6_keepForUndo cX6_keepForUndo 2 none :: gw_all) (rmk 6 240) (cPre E ρ [.ref (E.2.1 + 0), .int a1]) (cV E (fun ρ1 => CI r S ρ1)) 0 0 (hA E) := by
  refine ent (own := RX6) (by decide) rfl (Nat.le_of_ble_eq_true rfl) ?_
  intro p e s m below meth c ls B hr hlk hl hP hS
  have hx := B.1.1
  have hb := B.1.2.1
  have hown := B.1.2.2.2.1
  have hts := B.1.2.2.2.2
  have hl : lv_has ls 2 [(0, .ref (E.2.1 + 0)), (1, .int a1)] := hl
  refine lv_aload_n hx hb dX6_keepForUndo_0 rfl (lv_at hl 0 rfl) ?_
  refine get6 B hP (show hk 0 = 6 by decide +kernel) 4 (by decide) mw_416 rfl dX6_keepForUndo_1 ?_
  refine lv_aload_n hx hb dX6_keepForUndo_4 rfl (lv_at hl 0 rfl) ?_
  refine get6 B hP (show hk 0 = 6 by decide +kernel) 6 (by decide) mw_418 rfl dX6_keepForUndo_5 ?_
  have i21 : iR (ρ 0 6) 0 7 := CI_get hI (by decide) (show hk 0 = 6 by decide +kernel) rfl
  obtain ⟨j22, lj22, uj22, ej22⟩ := iR_nat (a := 0) (b := 7) i21
  refine lv_topi (fun z23 ez23 => ?_)
  obtain rfl : z23 = nI j22 := ez23.trans ej22
  refine aldWn (n := 8) (j := j22) B hP (show hk 181 = 12 by decide +kernel) (show hlen 181 = 8 by decide +kernel) rfl (by omega) (by decide) dX6_keepForUndo_8 ?_
  refine lv_aload_n hx hb dX6_keepForUndo_9 rfl (lv_at hl 0 rfl) ?_
  refine get6 B hP (show hk 0 = 6 by decide +kernel) 0 (by decide) mw_412 rfl dX6_keepForUndo_10 ?_
  refine call_v (cVt (k := (hw 181 + 89 * j22)) (av := [.ref (E.2.1 + 1)]) (rest := []) B hP hS (d_X5_copyFrom l E ρ r S hSS (hw 181 + 89 * j22) (hw_181 (by omega)) 1 (show hk 1 = 5 by decide +kernel) hI (fun x hx => by have q9 := hlow x hx; show x.1 ≠ hw 181 + 89 * _ ∧ x.1 ≠ hw 181 + 89 * _ + 5 ∧ x.1 ≠ hw 181 + 89 * _ + 47; have q8 : hw 181 = 364 := rfl; omega)) lk_RX6_219 (hrecv (ci := 5) B hP (hk_lt (c := 5) (hw_181 (by omega)) (by decide)) (hcc5 _ _ (hw_181 (by omega))) rfl) rfl rfl hl.1 (Nat.le_of_ble_eq_true rfl) ⟨Nat.le_of_ble_eq_true rfl, Nat.le_of_ble_eq_true rfl⟩ ⟨Nat.le_of_ble_eq_true rfl, Nat.le_of_ble_eq_true rfl⟩ dX6_keepForUndo_13) hS (fun ρ25 H locs q26 hP hS => ?_)
  have hI := q26
  refine lv_aload_n hx hb dX6_keepForUndo_16 rfl (lv_at hl 0 rfl) ?_
  refine get6 B hP (show hk 0 = 6 by decide +kernel) 5 (by decide) mw_417 rfl dX6_keepForUndo_17 ?_
  refine lv_aload_n hx hb dX6_keepForUndo_20 rfl (lv_at hl 0 rfl) ?_
  refine get6 B hP (show hk 0 = 6 by decide +kernel) 6 (by decide) mw_418 rfl dX6_keepForUndo_21 ?_
  have i28 : iR (ρ25 0 6) 0 7 := CI_get hI (by decide) (show hk 0 = 6 by decide +kernel) rfl
  obtain ⟨j29, lj29, uj29, ej29⟩ := iR_nat (a := 0) (b := 7) i28
  refine lv_topi (fun z30 ez30 => ?_)
  obtain rfl : z30 = nI j29 := ez30.trans ej29
  refine lv_iload_n hx hb dX6_keepForUndo_24 rfl (lv_at hl 1 rfl) ?_
  refine astn (n := 8) (j := j29) B hP hS (show hk 182 = 8 by decide +kernel) (show hlen 182 = 8 by decide +kernel) rfl (by omega) (by decide) dX6_keepForUndo_25 (fun H locs hP hS => ?_)
  obtain ⟨ρ31, e32⟩ : ∃ z, z = up ρ25 182 j29 a1 := ⟨_, rfl⟩
  rw [← e32] at hP
  have hI : CI r S ρ31 := by rw [e32]; exact CI_up hI (by decide) (SP_plain (show hk 182 = 8 by decide +kernel) rfl (by decide)) ⟨(fun z2 => absurd (Eq.trans (Eq.symm (show hk 182 = 8 by decide +kernel)) z2) (by decide)), (fun z2 => absurd (Eq.trans (Eq.symm (show hk 182 = 8 by decide +kernel)) z2) (by decide))⟩ hSS
  refine lv_aload_n hx hb dX6_keepForUndo_26 rfl (lv_at hl 0 rfl) ?_
  refine lv_aload_n hx hb dX6_keepForUndo_27 rfl (lv_at hl 0 rfl) ?_
  refine get6 B hP (show hk 0 = 6 by decide +kernel) 6 (by decide) mw_418 (v := .int (nI j29)) (show some (Value.int (ρ31 0 6)) = some (Value.int (nI j29)) from congrArg (fun z => some (Value.int z)) (by rw [e32]; exact up_get_ne (Or.inl (fun z => absurd (Eq.trans (Eq.symm (show hk 0 = 6 by decide +kernel)) (Eq.trans (congrArg hk z) (show hk 182 = 8 by decide +kernel))) (by decide))) ej29)) dX6_keepForUndo_28 ?_
  refine lv_iconst (v := 1) hx hb dX6_keepForUndo_31 (by decide) ?_
  refine lv_iadd hx hb dX6_keepForUndo_32 ?_
  refine lv_topi (fun z33 ez33 => ?_)
  obtain rfl : z33 = (nI (1 + j29)) := ez33.trans (by rw [show (nI j29) = nI j29 from rfl, show 1 = nI 1 from rfl, nI_add] <;> exact congrArg nI (by omega))
  refine lv_bipush (v := 8) hx hb dX6_keepForUndo_33 (by decide) ?_
  refine lv_irem hx hb dX6_keepForUndo_35 (by decide) ?_
  obtain ⟨j34, m35, ej34⟩ := nI_rem (a := (1 + j29)) (b := 8) (by omega) (by omega) (by omega)
  refine lv_topi (fun z36 ez36 => ?_)
  obtain rfl : z36 = (nI j34) := ez36.trans ej34
  refine put6 B hP hS (show hk 0 = 6 by decide +kernel) 6 (by decide) mw_418 rfl rfl rfl (fs6_6 E 0 _ _) dX6_keepForUndo_36 (fun H locs hP hS => ?_)
  obtain ⟨ρ37, e38⟩ : ∃ z, z = up ρ31 0 6 (nI j34) := ⟨_, rfl⟩
  rw [← e38] at hP
  have hI : CI r S ρ37 := by rw [e38]; exact CI_up hI (by decide) (SP_rng (show hk 0 = 6 by decide +kernel) rfl (by decide) (iR_w (a := 0) (b := 7) (nI_iR (j := j34) (a := 0) (b := 7) (by omega) (by omega) (by omega)) (by decide) (by decide))) ⟨(fun z2 => absurd (Eq.trans (Eq.symm (show hk 0 = 6 by decide +kernel)) z2) (by decide)), (fun z2 => absurd (Eq.trans (Eq.symm (show hk 0 = 6 by decide +kernel)) z2) (by decide))⟩ hSS
  refine lv_aload_n hx hb dX6_keepForUndo_39 rfl (lv_at hl 0 rfl) ?_
  refine lv_aload_n hx hb dX6_keepForUndo_40 rfl (lv_at hl 0 rfl) ?_
  refine get6 B hP (show hk 0 = 6 by decide +kernel) 7 (by decide) mw_419 rfl dX6_keepForUndo_41 ?_
  refine lv_iconst (v := 1) hx hb dX6_keepForUndo_44 (by decide) ?_
  refine lv_iadd hx hb dX6_keepForUndo_45 ?_
  refine lv_bipush (v := 8) hx hb dX6_keepForUndo_46 (by decide) ?_
  refine va_mmin hx hb (by rw [hl.1]; exact B.1.2.2.1) hown (hts _ mw_496) (hts _ mw_497) (hts _ mw_61) (hts _ mw_498) (Nat.le_of_ble_eq_true rfl) (Nat.le_of_ble_eq_true rfl) (Nat.le_refl _) (Nat.le_refl _) dX6_keepForUndo_48 ?_
  refine put6 B hP hS (show hk 0 = 6 by decide +kernel) 7 (by decide) mw_419 rfl rfl rfl (fs6_7 E 0 _ _) dX6_keepForUndo_51 (fun H locs hP hS => ?_)
  obtain ⟨ρ39, e40⟩ : ∃ z, z = up ρ37 0 7 (if 8 < ((ρ37 0 7) + 1) then 8 else ((ρ37 0 7) + 1)) := ⟨_, rfl⟩
  rw [← e40] at hP
  have hI : CI r S ρ39 := by rw [e40]; exact CI_up hI (by decide) (SP_plain (show hk 0 = 6 by decide +kernel) rfl (by decide)) ⟨(fun z2 => absurd (Eq.trans (Eq.symm (show hk 0 = 6 by decide +kernel)) z2) (by decide)), (fun z2 => absurd (Eq.trans (Eq.symm (show hk 0 = 6 by decide +kernel)) z2) (by decide))⟩ hSS
  exact ret_v B hr hlk hP hS dX6_keepForUndo_54 (hI)

theorem lk_RX6_393 : LkV RX6 393 RX2 yX2_tellMap cX2_tellMap 4 none 2 := ⟨⟨mw_625, mw_626, mw_627, mw_54, mw_628⟩, by decide +kernel⟩
theorem lk_RX6_65 : LkV RX6 65 RX6 yX6_keepForUndo cX6_keepForUndo 2 none 1 := ⟨⟨mw_462, mw_464, mw_1, mw_52, mw_465⟩, by decide +kernel⟩
theorem lk_RX6_72 : LkV RX6 72 RX6 yX6_accept cX6_accept 2 (some .int) 1 := ⟨⟨mw_499, mw_501, mw_2, mw_52, mw_502⟩, by decide +kernel⟩
set_option maxHeartbeats 4000000 in
set_option maxRecDepth 100000 in
theorem d_X6_tellMap (l : Launch) (E : hE) (ρ r : Nat → Nat → Int32) (k1 : Nat) (h1 : hk k1 = 2) (a2 : Int32) (a3 : Int32) (hI : CI r S0 ρ) : Met l yX6_tellMap (.code yX6_tellMap cX6_tellMap 4 (some .int) :: gw_all) (rmk 7 280) (cPre E ρ [.ref (E.2.1 + 0), .ref (E.2.1 + k1), .int a2, .int a3]) (cI E (fun v ρ1 => CI r S0 ρ1)) 0 0 (hA E) := by
  refine ent (own := RX6) (by decide) rfl (Nat.le_of_ble_eq_true rfl) ?_
  intro p e s m below meth c ls B hr hlk hl hP hS
  have hx := B.1.1
  have hb := B.1.2.1
  have hown := B.1.2.2.2.1
  have hts := B.1.2.2.2.2
  have hl : lv_has ls 4 [(0, .ref (E.2.1 + 0)), (1, .ref (E.2.1 + k1)), (2, .int a2), (3, .int a3)] := hl
  refine lv_aload_n hx hb dX6_tellMap_0 rfl (lv_at hl 0 rfl) ?_
  refine lv_bipush (v := 8) hx hb dX6_tellMap_1 (by decide) ?_
  refine call_v (cVt (k := 0) (av := [.int 8]) (rest := []) B hP hS (d_X6_keepForUndo l E ρ r S0 hS0 8 hI (fun _ q => q.elim)) lk_RX6_65 (hrecv (ci := 6) B hP (hk_lt (c := 6) (show hk 0 = 6 by decide +kernel) (by decide)) (hcc6 _ _ (show hk 0 = 6 by decide +kernel)) rfl) rfl rfl hl.1 (Nat.le_of_ble_eq_true rfl) ⟨Nat.le_of_ble_eq_true rfl, Nat.le_of_ble_eq_true rfl⟩ ⟨Nat.le_of_ble_eq_true rfl, Nat.le_of_ble_eq_true rfl⟩ dX6_tellMap_3) hS (fun ρ14 H locs q15 hP hS => ?_)
  have hI := q15
  refine lv_aload_n hx hb dX6_tellMap_6 rfl (lv_at hl 1 rfl) ?_
  refine lv_iload_n hx hb dX6_tellMap_7 rfl (lv_at hl 2 rfl) ?_
  refine lv_aload_n hx hb dX6_tellMap_8 rfl (lv_at hl 0 rfl) ?_
  refine get6 B hP (show hk 0 = 6 by decide +kernel) 0 (by decide) mw_412 rfl dX6_tellMap_9 ?_
  refine get5 B hP (show hk 1 = 5 by decide +kernel) 5 (by decide) mw_382 rfl dX6_tellMap_12 ?_
  refine lv_iconst (v := 2) hx hb dX6_tellMap_15 (by decide) ?_
  refine lv_iload_n hx hb dX6_tellMap_16 rfl (lv_at hl 3 rfl) ?_
  refine lv_imul hx hb dX6_tellMap_17 ?_
  refine lv_iadd hx hb dX6_tellMap_18 ?_
  refine call_v (cVt (k := k1) (av := [.int a2, .int ((ρ14 1 5) + (2 * a3))]) (rest := []) B hP hS (d_X2_tellMap l E ρ14 r S0 hS0 k1 h1 a2 ((ρ14 1 5) + (2 * a3)) hI) lk_RX6_393 (hrecv (ci := 2) B hP (hk_lt (c := 2) h1 (by decide)) (hcc2 _ _ h1) rfl) rfl rfl hl.1 (Nat.le_of_ble_eq_true rfl) ⟨Nat.le_of_ble_eq_true rfl, Nat.le_of_ble_eq_true rfl⟩ ⟨Nat.le_of_ble_eq_true rfl, Nat.le_of_ble_eq_true rfl⟩ dX6_tellMap_19) hS (fun ρ18 H locs q19 hP hS => ?_)
  have hI := q19
  refine lv_aload_n hx hb dX6_tellMap_22 rfl (lv_at hl 0 rfl) ?_
  refine lv_aload_n hx hb dX6_tellMap_23 rfl (lv_at hl 1 rfl) ?_
  refine get2 B hP h1 0 (by decide) mw_284 rfl dX6_tellMap_24 ?_
  refine get3 B hP (lay2 h1).1 2 (by decide) mw_101 rfl dX6_tellMap_27 ?_
  refine call_i (cVt (k := 0) (av := [.int (ρ18 (k1 + 1) 2)]) (rest := []) B hP hS (d_X6_accept l E ρ18 r (ρ18 (k1 + 1) 2) hI) lk_RX6_72 (hrecv (ci := 6) B hP (hk_lt (c := 6) (show hk 0 = 6 by decide +kernel) (by decide)) (hcc6 _ _ (show hk 0 = 6 by decide +kernel)) rfl) rfl rfl hl.1 (Nat.le_of_ble_eq_true rfl) ⟨Nat.le_of_ble_eq_true rfl, Nat.le_of_ble_eq_true rfl⟩ ⟨Nat.le_of_ble_eq_true rfl, Nat.le_of_ble_eq_true rfl⟩ dX6_tellMap_30) hS (fun r21 ρ22 H locs q23 hP hS => ?_)
  have hI := q23
  exact ret_i B hr hlk hP hS dX6_tellMap_33 (hI)

set_option maxHeartbeats 4000000 in
set_option maxRecDepth 100000 in
theorem d_X6_hasTimeFor (l : Launch) (E : hE) (ρ r : Nat → Nat → Int32) (a1 : Int32) (hI : CI r S0 ρ) : Met l yX6_hasTimeFor (.code yX6_hasTimeFor cX6_hasTimeFor 2 (some .boolean) :: gw_all) (rmk 1 40) (cPre E ρ [.ref (E.2.1 + 0), .int a1]) (cI E (fun v ρ1 => ρ = ρ1 ∧ CI r S0 ρ1 ∧ iR v (0) (1))) 0 0 (hA E) := by
  refine ent (own := RX6) (by decide) rfl (Nat.le_of_ble_eq_true rfl) ?_
  intro p e s m below meth c ls B hr hlk hl hP hS
  have hx := B.1.1
  have hb := B.1.2.1
  have hown := B.1.2.2.2.1
  have hts := B.1.2.2.2.2
  have hl : lv_has ls 2 [(0, .ref (E.2.1 + 0)), (1, .int a1)] := hl
  refine lv_aload_n hx hb dX6_hasTimeFor_0 rfl (lv_at hl 0 rfl) ?_
  refine get6 B hP (show hk 0 = 6 by decide +kernel) 0 (by decide) mw_412 rfl dX6_hasTimeFor_1 ?_
  refine get5 B hP (show hk 1 = 5 by decide +kernel) 5 (by decide) mw_382 rfl dX6_hasTimeFor_4 ?_
  refine lv_iconst (v := 2) hx hb dX6_hasTimeFor_7 (by decide) ?_
  refine lv_iload_n hx hb dX6_hasTimeFor_8 rfl (lv_at hl 1 rfl) ?_
  refine lv_imul hx hb dX6_hasTimeFor_9 ?_
  refine lv_iadd hx hb dX6_hasTimeFor_10 ?_
  refine lv_ldcw (v := 99998) hx hb hown (hts _ mw_653) dX6_hasTimeFor_11 ?_
  refine lv_icmp_gt (tgt := 21) hx hb dX6_hasTimeFor_14 (by decide) (fun c4 => ?_) (fun c4 => ?_)
  · skip
    have i5 : iR ((ρ 1 5) + (2 * a1)) (99999) (2147483647) := (iR_ltR (show iR 99998 (99998) (99998) from ⟨by decide, by decide⟩) (iR_any ((ρ 1 5) + (2 * a1))) c4 (by decide))
    refine lv_iconst (v := 0) hx hb dX6_hasTimeFor_21 (by decide) ?_
    exact ret_z B hr hlk hP hS dX6_hasTimeFor_22 (Or.inl rfl) (⟨rfl, hI, (iR_w (a := 0) (b := 0) (show iR 0 (0) (0) from ⟨by decide, by decide⟩) (by decide) (by decide))⟩)
  · skip
    have i6 : iR ((ρ 1 5) + (2 * a1)) (-2147483648) (99998) := (iR_geR (show iR 99998 (99998) (99998) from ⟨by decide, by decide⟩) (iR_any ((ρ 1 5) + (2 * a1))) c4 (by decide))
    refine lv_iconst (v := 1) hx hb dX6_hasTimeFor_17 (by decide) ?_
    refine lv_goto (tgt := 22) hx hb dX6_hasTimeFor_18 (by decide) ?_
    exact ret_z B hr hlk hP hS dX6_hasTimeFor_22 (Or.inr rfl) (⟨rfl, hI, (iR_w (a := 1) (b := 1) (show iR 1 (1) (1) from ⟨by decide, by decide⟩) (by decide) (by decide))⟩)

set_option maxHeartbeats 4000000 in
set_option maxRecDepth 100000 in
theorem d_X6_paperWith (l : Launch) (E : hE) (ρ r : Nat → Nat → Int32) (a1 : Int32) (hI : CI r S0 ρ) : Met l yX6_paperWith (.code yX6_paperWith cX6_paperWith 2 (some (.object "HopNet$World")) :: gw_all) (rmk 6 240) (cPre E ρ [.ref (E.2.1 + 0), .int a1]) (cQ E (fun v ρ1 => CI r S0 ρ1 ∧ (v = some (E.2.1 + 90)))) 0 0 (hA E) := by
  refine ent (own := RX6) (by decide) rfl (Nat.le_of_ble_eq_true rfl) ?_
  intro p e s m below meth c ls B hr hlk hl hP hS
  have hx := B.1.1
  have hb := B.1.2.1
  have hown := B.1.2.2.2.1
  have hts := B.1.2.2.2.2
  have hl : lv_has ls 2 [(0, .ref (E.2.1 + 0)), (1, .int a1)] := hl
  refine lv_aload_n hx hb dX6_paperWith_0 rfl (lv_at hl 0 rfl) ?_
  refine get6 B hP (show hk 0 = 6 by decide +kernel) 1 (by decide) mw_413 rfl dX6_paperWith_1 ?_
  refine lv_aload_n hx hb dX6_paperWith_4 rfl (lv_at hl 0 rfl) ?_
  refine get6 B hP (show hk 0 = 6 by decide +kernel) 0 (by decide) mw_412 rfl dX6_paperWith_5 ?_
  refine call_v (cVt (k := 90) (av := [.ref (E.2.1 + 1)]) (rest := []) B hP hS (d_X5_copyFrom l E ρ r S0 hS0 90 (show hk 90 = 5 by decide +kernel) 1 (show hk 1 = 5 by decide +kernel) hI (fun _ q => q.elim)) lk_RX6_219 (hrecv (ci := 5) B hP (hk_lt (c := 5) (show hk 90 = 5 by decide +kernel) (by decide)) (hcc5 _ _ (show hk 90 = 5 by decide +kernel)) rfl) rfl rfl hl.1 (Nat.le_of_ble_eq_true rfl) ⟨Nat.le_of_ble_eq_true rfl, Nat.le_of_ble_eq_true rfl⟩ ⟨Nat.le_of_ble_eq_true rfl, Nat.le_of_ble_eq_true rfl⟩ dX6_paperWith_8) hS (fun ρ8 H locs q9 hP hS => ?_)
  have hI := q9
  refine lv_aload_n hx hb dX6_paperWith_11 rfl (lv_at hl 0 rfl) ?_
  refine get6 B hP (show hk 0 = 6 by decide +kernel) 1 (by decide) mw_413 rfl dX6_paperWith_12 ?_
  refine lv_iload_n hx hb dX6_paperWith_15 rfl (lv_at hl 1 rfl) ?_
  refine put5 B hP hS (show hk 90 = 5 by decide +kernel) 7 (by decide) mw_386 rfl rfl rfl (fs5_7 E 90 _ _) dX6_paperWith_16 (fun H locs hP hS => ?_)
  obtain ⟨ρ11, e12⟩ : ∃ z, z = up ρ8 90 7 a1 := ⟨_, rfl⟩
  rw [← e12] at hP
  have hI : CI r S0 ρ11 := by rw [e12]; exact CI_up hI (by decide) (SP_plain (show hk 90 = 5 by decide +kernel) rfl (by decide)) ⟨(fun z2 => absurd (Eq.trans (Eq.symm (show hk 90 = 5 by decide +kernel)) z2) (by decide)), (fun _ => by decide)⟩ hS0
  refine lv_aload_n hx hb dX6_paperWith_19 rfl (lv_at hl 0 rfl) ?_
  refine get6 B hP (show hk 0 = 6 by decide +kernel) 1 (by decide) mw_413 rfl dX6_paperWith_20 ?_
  exact ret_q (some (E.2.1 + 90)) B hr hlk hP hS dX6_paperWith_23 (⟨hI, rfl⟩)

theorem lk_RX6_109 : LkV RX6 109 RX2 yX2_linkAt cX2_linkAt 2 (some (.object "HopNet$Link")) 1 := ⟨⟨mw_544, mw_545, mw_546, mw_54, mw_547⟩, by decide +kernel⟩
theorem lk_RX6_95 : LkV RX6 95 RX5 yX5_netAt cX5_netAt 2 (some (.object "HopNet$Net")) 1 := ⟨⟨mw_516, mw_517, mw_518, mw_53, mw_519⟩, by decide +kernel⟩
set_option maxHeartbeats 4000000 in
set_option maxRecDepth 100000 in
theorem d_X6_planOf (l : Launch) (E : hE) (ρ r : Nat → Nat → Int32) (a1 : Int32) (a2 : Int32) (hI : CI r S0 ρ) : Met l yX6_planOf (.code yX6_planOf cX6_planOf 5 (some (.object "HopNet$Plan")) :: gw_all) (rmk 2 80) (cPre E ρ [.ref (E.2.1 + 0), .int a1, .int a2]) (cQ E (fun v ρ1 => ρ = ρ1 ∧ CI r S0 ρ1 ∧ (v = none ∨ ∃ j x : Nat, v = some (E.2.1 + x) ∧ hk x = 3 ∧ a1 = nI j ∧ j < 2))) 0 0 (hA E) := by
  refine ent (own := RX6) (by decide) rfl (Nat.le_of_ble_eq_true rfl) ?_
  intro p e s m below meth c ls B hr hlk hl hP hS
  have hx := B.1.1
  have hb := B.1.2.1
  have hown := B.1.2.2.2.1
  have hts := B.1.2.2.2.2
  have hl : lv_has ls 5 [(0, .ref (E.2.1 + 0)), (1, .int a1), (2, .int a2)] := hl
  refine lv_aload_n hx hb dX6_planOf_0 rfl (lv_at hl 0 rfl) ?_
  refine get6 B hP (show hk 0 = 6 by decide +kernel) 0 (by decide) mw_412 rfl dX6_planOf_1 ?_
  refine lv_iload_n hx hb dX6_planOf_4 rfl (lv_at hl 1 rfl) ?_
  refine call_q (cVt (k := 1) (av := [.int a1]) (rest := []) B hP hS (d_X5_netAt l E ρ r S0 hS0 1 (show hk 1 = 5 by decide +kernel) a1 hI) lk_RX6_95 (hrecv (ci := 5) B hP (hk_lt (c := 5) (show hk 1 = 5 by decide +kernel) (by decide)) (hcc5 _ _ (show hk 1 = 5 by decide +kernel)) rfl) rfl rfl hl.1 (Nat.le_of_ble_eq_true rfl) ⟨Nat.le_of_ble_eq_true rfl, Nat.le_of_ble_eq_true rfl⟩ ⟨Nat.le_of_ble_eq_true rfl, Nat.le_of_ble_eq_true rfl⟩ dX6_planOf_5) hS (fun r14 ρ15 H locs q16 hP hS => ?_)
  obtain ⟨rfl, hI, q16⟩ := q16
  rcases q16 with rfl | ⟨j17, rfl, ej17, uj17⟩
  · skip
    refine W.eq (g2 := F0 m 8 ls [.null]) rfl ?_
    refine lv_astore_nN (lv' := [(3, .null), (0, .ref (E.2.1 + 0)), (1, .int a1), (2, .int a2)]) hx hb dX6_planOf_8 rfl hl (by decide) rfl (fun ls hl => ?_)
    refine lv_aload_nN hx hb dX6_planOf_9 rfl (lv_at hl 0 rfl) ?_
    refine lv_ifnonnullN hx hb dX6_planOf_10 ?_
    refine lv_null hx hb dX6_planOf_13 ?_
    exact ret_q none B hr hlk hP hS dX6_planOf_14 (⟨rfl, hI, (Or.inl rfl)⟩)
  · skip
    refine W.eq (g2 := F0 m 8 ls [.ref (E.2.1 + (5 + 1 + 42 * j17))]) rfl ?_
    refine lv_astore_n (lv' := [(3, .ref (E.2.1 + (5 + 1 + 42 * j17))), (0, .ref (E.2.1 + 0)), (1, .int a1), (2, .int a2)]) hx hb dX6_planOf_8 rfl hl (by decide) rfl (fun ls hl => ?_)
    refine lv_aload_n hx hb dX6_planOf_9 rfl (lv_at hl 0 rfl) ?_
    refine lv_ifnonnull (tgt := 15) hx hb dX6_planOf_10 (by decide) ?_
    refine lv_iload_n hx hb dX6_planOf_15 rfl (lv_at hl 3 rfl) ?_
    refine lv_iconst (v := (-1)) hx hb dX6_planOf_16 (by decide) ?_
    refine lv_icmp_ne (tgt := 25) hx hb dX6_planOf_17 (by decide) (fun c19 => ?_) (fun c19 => ?_)
    · skip
      refine lv_aload_n hx hb dX6_planOf_25 rfl (lv_at hl 0 rfl) ?_
      refine lv_iload_n hx hb dX6_planOf_26 rfl (lv_at hl 3 rfl) ?_
      refine call_q (cVt (k := (5 + 1 + 42 * j17)) (av := [.int a2]) (rest := []) B hP hS (d_X2_linkAt l E ρ r S0 hS0 (5 + 1 + 42 * j17) (lay5n (k := 1) (n := j17) (by decide +kernel) uj17) a2 hI) lk_RX6_109 (hrecv (ci := 2) B hP (hk_lt (c := 2) (lay5n (k := 1) (n := j17) (by decide +kernel) uj17) (by decide)) (hcc2 _ _ (lay5n (k := 1) (n := j17) (by decide +kernel) uj17)) rfl) rfl rfl hl.1 (Nat.le_of_ble_eq_true rfl) ⟨Nat.le_of_ble_eq_true rfl, Nat.le_of_ble_eq_true rfl⟩ ⟨Nat.le_of_ble_eq_true rfl, Nat.le_of_ble_eq_true rfl⟩ dX6_planOf_27) hS (fun r20 ρ21 H locs q22 hP hS => ?_)
      obtain ⟨rfl, hI, q22⟩ := q22
      rcases q22 with rfl | ⟨j23, k24, rfl, hk24, ej23, uj23, gj23⟩
      · skip
        refine W.eq (g2 := F0 m 30 ls [.null]) rfl ?_
        refine lv_astoreN (lv' := [(4, .null), (3, .ref (E.2.1 + (5 + 1 + 42 * j17))), (0, .ref (E.2.1 + 0)), (1, .int a1), (2, .int a2)]) hx hb dX6_planOf_30 hl (by decide) rfl (fun ls hl => ?_)
        refine lv_aloadN hx hb dX6_planOf_32 (lv_at hl 0 rfl) ?_
        refine lv_ifnonnullN hx hb dX6_planOf_34 ?_
        refine lv_null hx hb dX6_planOf_37 ?_
        refine lv_goto (tgt := 46) hx hb dX6_planOf_38 (by decide) ?_
        exact ret_q none B hr hlk hP hS dX6_planOf_46 (⟨rfl, hI, (Or.inl rfl)⟩)
      · skip
        refine W.eq (g2 := F0 m 30 ls [.ref (E.2.1 + k24)]) rfl ?_
        have i25 : iR (ρ (5 + 1 + 42 * j17) 8) 1 4 := iR_w gj23 (by omega) (by omega)
        refine lv_astore (lv' := [(4, .ref (E.2.1 + k24)), (3, .ref (E.2.1 + (5 + 1 + 42 * j17))), (0, .ref (E.2.1 + 0)), (1, .int a1), (2, .int a2)]) hx hb dX6_planOf_30 hl (by decide) rfl (fun ls hl => ?_)
        refine lv_aload hx hb dX6_planOf_32 (lv_at hl 0 rfl) ?_
        refine lv_ifnonnull (tgt := 41) hx hb dX6_planOf_34 (by decide) ?_
        refine lv_aload hx hb dX6_planOf_41 (lv_at hl 0 rfl) ?_
        refine get1 B hP hk24 0 (by decide) mw_196 rfl dX6_planOf_43 ?_
        exact ret_q (some (E.2.1 + (k24 + 1))) B hr hlk hP hS dX6_planOf_46 (⟨rfl, hI, (Or.inr ⟨j17, (k24 + 1), rfl, (lay1 hk24).1, ej17, by omega⟩)⟩)
    · skip
      have i26 : iR a2 (-1) (-1) := (by rw [c19]; exact ⟨by decide, by decide⟩)
      refine lv_aload_n hx hb dX6_planOf_20 rfl (lv_at hl 0 rfl) ?_
      refine get2 B hP (lay5n (k := 1) (n := j17) (by decide +kernel) uj17) 0 (by decide) mw_284 rfl dX6_planOf_21 ?_
      exact ret_q (some (E.2.1 + ((5 + 1 + 42 * j17) + 1))) B hr hlk hP hS dX6_planOf_24 (⟨rfl, hI, (Or.inr ⟨j17, ((5 + 1 + 42 * j17) + 1), rfl, (lay2 (lay5n (k := 1) (n := j17) (by decide +kernel) uj17)).1, ej17, by omega⟩)⟩)

theorem lk_RX6_224 : LkS RX6 224 yX6_hopOf cX6_hopOf 8 (some .int) 2 := ⟨⟨mw_850, mw_730, mw_52, mw_731⟩, by decide +kernel⟩
theorem lk_RX6_233 : LkV RX6 233 RX5 yX5_channelBy cX5_channelBy 4 (some .int) 3 := ⟨⟨mw_860, mw_861, mw_862, mw_53, mw_863⟩, by decide +kernel⟩
theorem lk_RX6_395 : LkV RX6 395 RX5 yX5_addressOf cX5_addressOf 2 (some .int) 1 := ⟨⟨mw_944, mw_725, mw_726, mw_53, mw_727⟩, by decide +kernel⟩
theorem lk_RX6_398 : LkS RX6 398 yX6_byMap cX6_byMap 5 (some .int) 2 := ⟨⟨mw_945, mw_737, mw_52, mw_738⟩, by decide +kernel⟩
set_option maxHeartbeats 4000000 in
set_option maxRecDepth 100000 in
theorem d_X6_noteHops (l : Launch) (E : hE) (ρ r : Nat → Nat → Int32) (na1 : Nat) (lna1 : 1 ≤ na1) (una1 : na1 ≤ 512) (hI : CI r S0 ρ) : Met l yX6_noteHops (.code yX6_noteHops cX6_noteHops 4 none :: gw_all) (rmk 5 200) (cPre E ρ [.ref (E.2.1 + 0), .int (nI na1)]) (cV E (fun ρ1 => CI r S0 ρ1)) 0 0 (hA E) := by
  refine ent (own := RX6) (by decide) rfl (Nat.le_of_ble_eq_true rfl) ?_
  intro p e s m below meth c ls B hr hlk hl hP hS
  have hx := B.1.1
  have hb := B.1.2.1
  have hown := B.1.2.2.2.1
  have hts := B.1.2.2.2.2
  have hl : lv_has ls 4 [(0, .ref (E.2.1 + 0)), (1, .int (nI na1))] := hl
  have b82_0 : ∀ (ls : Array Slot) (ρ : Nat → Nat → Int32) (H : Heap) (locs : List Loc) (d82 : Nat) (x82_2 : Int32) (j82_3 : Nat), lv_has ls 4 [(0, .ref (E.2.1 + 0)), (1, .int (nI na1)), (2, .int x82_2), (3, .int (nI j82_3))] → WP E ρ H → va_S (hA E) s.heap H locs → CI r S0 ρ → 65536 - j82_3 < d82 → iR x82_2 (-2147483648) (2147483647) → 0 ≤ j82_3 → j82_3 ≤ 65535 → 1 ≤ na1 → na1 ≤ 512 → W p l e (rmk 5 200) s m ([.ref (E.2.1 + 0), .int (nI na1)] : List Value).toArray below meth c H locs 0 0 (MQ below (cV E (fun ρ1 => CI r S0 ρ1)) ([.ref (E.2.1 + 0), .int (nI na1)] : List Value).toArray s 0 0 (hA E)) (F0 m 82 ls []) := by
    intro ls ρ H locs d82
    induction d82 generalizing ls ρ H locs with
    | zero => intro x82_2 j82_3 hl hP hS hI hd82 hx82_2 lj82_3 uj82_3 tlna1 tuna1; exact absurd hd82 (Nat.not_lt_zero _)
    | succ d82 ih82 =>
      intro x82_2 j82_3 hl hP hS hI hd82 hx82_2 lj82_3 uj82_3 tlna1 tuna1
      refine lv_iload_n hx hb dX6_noteHops_82 rfl (lv_at hl 3 rfl) ?_
      refine lv_iload_n hx hb dX6_noteHops_83 rfl (lv_at hl 1 rfl) ?_
      refine lv_bipush (v := 64) hx hb dX6_noteHops_84 (by decide) ?_
      refine lv_iadd hx hb dX6_noteHops_86 ?_
      refine lv_topi (fun z283 ez283 => ?_)
      obtain rfl : z283 = (nI (64 + na1)) := ez283.trans (by rw [show (nI na1) = nI na1 from rfl, show 64 = nI 64 from rfl, nI_add] <;> exact congrArg nI (by omega))
      refine lv_icmp_ge (tgt := 142) hx hb dX6_noteHops_87 (by decide) (fun c284 => ?_) (fun c284 => ?_)
      · skip
        have n285 := mt (nx_lt (a := j82_3) (b := (64 + na1)) (by omega) (by omega)).mpr (show ¬ (nI j82_3 < nI (64 + na1)) from (Int32.not_lt.mpr c284))
        exact ret_v B hr hlk hP hS dX6_noteHops_142 (hI)
      · skip
        have n286 := (nx_lt (a := j82_3) (b := (64 + na1)) (by omega) (by omega)).mp (show (nI j82_3 < nI (64 + na1)) from (Int32.not_le.mp c284))
        refine lv_iload_n hx hb dX6_noteHops_90 rfl (lv_at hl 3 rfl) ?_
        refine lv_aload_n hx hb dX6_noteHops_91 rfl (lv_at hl 0 rfl) ?_
        refine get6 B hP (show hk 0 = 6 by decide +kernel) 11 (by decide) mw_423 rfl dX6_noteHops_92 ?_
        refine alen8 (n := 576) B hP (show hk 185 = 8 by decide +kernel) (show hlen 185 = 576 by decide +kernel) (v := 576) (by decide) dX6_noteHops_95 ?_
        refine lv_icmp_ge (tgt := 142) hx hb dX6_noteHops_96 (by decide) (fun c287 => absurd c287 (iR_nle (show iR 576 (576) (576) from ⟨by decide, by decide⟩) (nI_iR (j := j82_3) (a := 0) (b := 575) (by omega) (by omega) (by omega)) (by decide))) (fun _ => ?_)
        refine lv_aload_n hx hb dX6_noteHops_99 rfl (lv_at hl 0 rfl) ?_
        refine get6 B hP (show hk 0 = 6 by decide +kernel) 11 (by decide) mw_423 rfl dX6_noteHops_100 ?_
        refine lv_iload_n hx hb dX6_noteHops_103 rfl (lv_at hl 3 rfl) ?_
        refine lv_iload_n hx hb dX6_noteHops_104 rfl (lv_at hl 2 rfl) ?_
        refine lv_aload_n hx hb dX6_noteHops_105 rfl (lv_at hl 0 rfl) ?_
        refine get6 B hP (show hk 0 = 6 by decide +kernel) 0 (by decide) mw_412 rfl dX6_noteHops_106 ?_
        refine get5 B hP (show hk 1 = 5 by decide +kernel) 5 (by decide) mw_382 rfl dX6_noteHops_109 ?_
        refine lv_iload_n hx hb dX6_noteHops_112 rfl (lv_at hl 3 rfl) ?_
        refine lv_iadd hx hb dX6_noteHops_113 ?_
        refine call_i (cS (av := [.int x82_2, .int ((ρ 1 5) + (nI j82_3))]) (rest := [.int (nI j82_3), .ref (E.2.1 + 185)]) B hP hS (c_hopOf l E ρ x82_2 ((ρ 1 5) + (nI j82_3))) lk_RX6_224 rfl rfl hl.1 (Nat.le_of_ble_eq_true rfl) ⟨Nat.le_of_ble_eq_true rfl, Nat.le_of_ble_eq_true rfl⟩ ⟨Nat.le_of_ble_eq_true rfl, Nat.le_of_ble_eq_true rfl⟩ dX6_noteHops_114) hS (fun r288 ρ289 H locs q290 hP hS => ?_)
        obtain ⟨rfl, rfl⟩ := q290
        refine lv_aload_n hx hb dX6_noteHops_117 rfl (lv_at hl 0 rfl) ?_
        refine get6 B hP (show hk 0 = 6 by decide +kernel) 0 (by decide) mw_412 rfl dX6_noteHops_118 ?_
        refine get5 B hP (show hk 1 = 5 by decide +kernel) 3 (by decide) mw_378 rfl dX6_noteHops_121 ?_
        refine lv_iconst (v := 1) hx hb dX6_noteHops_124 (by decide) ?_
        refine aldNn (j := 1) B hP (show hk 5 = 11 by decide +kernel) (show hlen 5 = 2 by decide +kernel) rfl (by decide) dX6_noteHops_125 ?_
        refine get2 B hP (show hk 48 = 2 by decide +kernel) 0 (by decide) mw_284 rfl dX6_noteHops_126 ?_
        refine get3 B hP (show hk 49 = 3 by decide +kernel) 0 (by decide) mw_95 rfl dX6_noteHops_129 ?_
        refine call_i (cS (av := [.int (HOP x82_2 ((ρ 1 5) + (nI j82_3))), .int (ρ 49 0)]) (rest := [.int (nI j82_3), .ref (E.2.1 + 185)]) B hP hS (d_X6_byMap l E ρ r S0 hS0 (HOP x82_2 ((ρ 1 5) + (nI j82_3))) (ρ 49 0) hI) lk_RX6_398 rfl rfl hl.1 (Nat.le_of_ble_eq_true rfl) ⟨Nat.le_of_ble_eq_true rfl, Nat.le_of_ble_eq_true rfl⟩ ⟨Nat.le_of_ble_eq_true rfl, Nat.le_of_ble_eq_true rfl⟩ dX6_noteHops_132) hS (fun r291 ρ292 H locs q293 hP hS => ?_)
        obtain ⟨rfl, hI⟩ := q293
        refine astn (n := 576) (j := j82_3) B hP hS (show hk 185 = 8 by decide +kernel) (show hlen 185 = 576 by decide +kernel) rfl (by omega) (by decide) dX6_noteHops_135 (fun H locs hP hS => ?_)
        obtain ⟨ρ295, e296⟩ : ∃ z, z = up ρ 185 j82_3 r291 := ⟨_, rfl⟩
        rw [← e296] at hP
        have hI : CI r S0 ρ295 := by rw [e296]; exact CI_up hI (by decide) (SP_plain (show hk 185 = 8 by decide +kernel) rfl (by decide)) ⟨(fun z2 => absurd (Eq.trans (Eq.symm (show hk 185 = 8 by decide +kernel)) z2) (by decide)), (fun z2 => absurd (Eq.trans (Eq.symm (show hk 185 = 8 by decide +kernel)) z2) (by decide))⟩ hS0
        refine lv_iinc (v := (nI (1 + j82_3))) (lv' := [(3, .int (nI (1 + j82_3))), (0, .ref (E.2.1 + 0)), (1, .int (nI na1)), (2, .int x82_2)]) hx hb dX6_noteHops_136 hl (k := 3) rfl (show nI j82_3 + nI 1 = _ from (nI_add _ _).trans (congrArg nI (by omega))) (by decide) rfl (fun ls hl => ?_)
        refine lv_goto (tgt := 82) hx hb dX6_noteHops_139 (by decide) ?_
        exact ih82 ls ρ295 _ _ (x82_2 : Int32) (1 + j82_3) (lv_sub hl [1, 2, 3, 0] rfl) hP hS hI (by omega) (iR_w hx82_2 (by decide) (by decide)) (by omega) (by omega) (by omega) (by omega)
  have b60_0 : ∀ (ls : Array Slot) (ρ : Nat → Nat → Int32) (H : Heap) (locs : List Loc) , lv_has ls 4 [(0, .ref (E.2.1 + 0)), (1, .int (nI na1))] → WP E ρ H → va_S (hA E) s.heap H locs → CI r S0 ρ → 1 ≤ na1 → na1 ≤ 512 → W p l e (rmk 5 200) s m ([.ref (E.2.1 + 0), .int (nI na1)] : List Value).toArray below meth c H locs 0 0 (MQ below (cV E (fun ρ1 => CI r S0 ρ1)) ([.ref (E.2.1 + 0), .int (nI na1)] : List Value).toArray s 0 0 (hA E)) (F0 m 60 ls []) := by
    intro ls ρ H locs  hl hP hS hI tlna1 tuna1
    refine lv_aload_n hx hb dX6_noteHops_60 rfl (lv_at hl 0 rfl) ?_
    refine get6 B hP (show hk 0 = 6 by decide +kernel) 0 (by decide) mw_412 rfl dX6_noteHops_61 ?_
    refine lv_aload_n hx hb dX6_noteHops_64 rfl (lv_at hl 0 rfl) ?_
    refine get6 B hP (show hk 0 = 6 by decide +kernel) 0 (by decide) mw_412 rfl dX6_noteHops_65 ?_
    refine get5 B hP (show hk 1 = 5 by decide +kernel) 3 (by decide) mw_378 rfl dX6_noteHops_68 ?_
    refine lv_iconst (v := 1) hx hb dX6_noteHops_71 (by decide) ?_
    refine aldNn (j := 1) B hP (show hk 5 = 11 by decide +kernel) (show hlen 5 = 2 by decide +kernel) rfl (by decide) dX6_noteHops_72 ?_
    refine get2 B hP (show hk 48 = 2 by decide +kernel) 5 (by decide) mw_295 rfl dX6_noteHops_73 ?_
    refine call_i (cVt (k := 1) (av := [.int (ρ 48 5)]) (rest := []) B hP hS (d_X5_addressOf l E ρ r S0 hS0 1 (show hk 1 = 5 by decide +kernel) (ρ 48 5) hI) lk_RX6_395 (hrecv (ci := 5) B hP (hk_lt (c := 5) (show hk 1 = 5 by decide +kernel) (by decide)) (hcc5 _ _ (show hk 1 = 5 by decide +kernel)) rfl) rfl rfl hl.1 (Nat.le_of_ble_eq_true rfl) ⟨Nat.le_of_ble_eq_true rfl, Nat.le_of_ble_eq_true rfl⟩ ⟨Nat.le_of_ble_eq_true rfl, Nat.le_of_ble_eq_true rfl⟩ dX6_noteHops_76) hS (fun r297 ρ298 H locs q299 hP hS => ?_)
    obtain ⟨rfl, hI⟩ := q299
    refine lv_istore_n (lv' := [(2, .int r297), (0, .ref (E.2.1 + 0)), (1, .int (nI na1))]) hx hb dX6_noteHops_79 rfl hl (by decide) rfl (fun ls hl => ?_)
    refine lv_iconst (v := 0) hx hb dX6_noteHops_80 (by decide) ?_
    refine lv_istore_n (lv' := [(3, .int 0), (2, .int r297), (0, .ref (E.2.1 + 0)), (1, .int (nI na1))]) hx hb dX6_noteHops_81 rfl hl (by decide) rfl (fun ls hl => ?_)
    exact b82_0 ls ρ _ _ _ (r297 : Int32) 0 (lv_sub hl [2, 3, 1, 0] rfl) hP hS hI (Nat.lt_succ_self _) (iR_w (iR_any r297) (by decide) (by decide)) (by omega) (by omega) (by omega) (by omega)
  have b2_0 : ∀ (ls : Array Slot) (ρ : Nat → Nat → Int32) (H : Heap) (locs : List Loc) (d2 : Nat) (j2_2 : Nat), lv_has ls 4 [(0, .ref (E.2.1 + 0)), (1, .int (nI na1)), (2, .int (nI j2_2))] → WP E ρ H → va_S (hA E) s.heap H locs → CI r S0 ρ → 65536 - j2_2 < d2 → 0 ≤ j2_2 → j2_2 ≤ 65535 → 1 ≤ na1 → na1 ≤ 512 → W p l e (rmk 5 200) s m ([.ref (E.2.1 + 0), .int (nI na1)] : List Value).toArray below meth c H locs 0 0 (MQ below (cV E (fun ρ1 => CI r S0 ρ1)) ([.ref (E.2.1 + 0), .int (nI na1)] : List Value).toArray s 0 0 (hA E)) (F0 m 2 ls []) := by
    intro ls ρ H locs d2
    induction d2 generalizing ls ρ H locs with
    | zero => intro j2_2 hl hP hS hI hd2 lj2_2 uj2_2 tlna1 tuna1; exact absurd hd2 (Nat.not_lt_zero _)
    | succ d2 ih2 =>
      intro j2_2 hl hP hS hI hd2 lj2_2 uj2_2 tlna1 tuna1
      refine lv_iload_n hx hb dX6_noteHops_2 rfl (lv_at hl 2 rfl) ?_
      refine lv_iload_n hx hb dX6_noteHops_3 rfl (lv_at hl 1 rfl) ?_
      refine lv_icmp_ge (tgt := 60) hx hb dX6_noteHops_4 (by decide) (fun c301 => ?_) (fun c301 => ?_)
      · skip
        have n302 := mt (nx_lt (a := j2_2) (b := na1) (by omega) (by omega)).mpr (show ¬ (nI j2_2 < nI na1) from (Int32.not_lt.mpr c301))
        exact b60_0 ls ρ _ _  (lv_sub hl [0, 1] rfl) hP hS hI (by omega) (by omega)
      · skip
        have n303 := (nx_lt (a := j2_2) (b := na1) (by omega) (by omega)).mp (show (nI j2_2 < nI na1) from (Int32.not_le.mp c301))
        refine lv_iload_n hx hb dX6_noteHops_7 rfl (lv_at hl 2 rfl) ?_
        refine lv_aload_n hx hb dX6_noteHops_8 rfl (lv_at hl 0 rfl) ?_
        refine get6 B hP (show hk 0 = 6 by decide +kernel) 10 (by decide) mw_422 rfl dX6_noteHops_9 ?_
        refine alen8 (n := 512) B hP (show hk 184 = 8 by decide +kernel) (show hlen 184 = 512 by decide +kernel) (v := 512) (by decide) dX6_noteHops_12 ?_
        refine lv_icmp_ge (tgt := 60) hx hb dX6_noteHops_13 (by decide) (fun c304 => absurd c304 (iR_nle (show iR 512 (512) (512) from ⟨by decide, by decide⟩) (nI_iR (j := j2_2) (a := 0) (b := 511) (by omega) (by omega) (by omega)) (by decide))) (fun _ => ?_)
        refine lv_aload_n hx hb dX6_noteHops_16 rfl (lv_at hl 0 rfl) ?_
        refine get6 B hP (show hk 0 = 6 by decide +kernel) 10 (by decide) mw_422 rfl dX6_noteHops_17 ?_
        refine lv_iload_n hx hb dX6_noteHops_20 rfl (lv_at hl 2 rfl) ?_
        refine lv_aload_n hx hb dX6_noteHops_21 rfl (lv_at hl 0 rfl) ?_
        refine get6 B hP (show hk 0 = 6 by decide +kernel) 0 (by decide) mw_412 rfl dX6_noteHops_22 ?_
        refine lv_iconst (v := 0) hx hb dX6_noteHops_25 (by decide) ?_
        refine lv_aload_n hx hb dX6_noteHops_26 rfl (lv_at hl 0 rfl) ?_
        refine get6 B hP (show hk 0 = 6 by decide +kernel) 0 (by decide) mw_412 rfl dX6_noteHops_27 ?_
        refine get5 B hP (show hk 1 = 5 by decide +kernel) 3 (by decide) mw_378 rfl dX6_noteHops_30 ?_
        refine lv_iconst (v := 0) hx hb dX6_noteHops_33 (by decide) ?_
        refine aldNn (j := 0) B hP (show hk 5 = 11 by decide +kernel) (show hlen 5 = 2 by decide +kernel) rfl (by decide) dX6_noteHops_34 ?_
        refine get2 B hP (show hk 6 = 2 by decide +kernel) 0 (by decide) mw_284 rfl dX6_noteHops_35 ?_
        refine get3 B hP (show hk 7 = 3 by decide +kernel) 0 (by decide) mw_95 rfl dX6_noteHops_38 ?_
        refine lv_aload_n hx hb dX6_noteHops_41 rfl (lv_at hl 0 rfl) ?_
        refine get6 B hP (show hk 0 = 6 by decide +kernel) 0 (by decide) mw_412 rfl dX6_noteHops_42 ?_
        refine get5 B hP (show hk 1 = 5 by decide +kernel) 5 (by decide) mw_382 rfl dX6_noteHops_45 ?_
        refine lv_iload_n hx hb dX6_noteHops_48 rfl (lv_at hl 2 rfl) ?_
        refine lv_iadd hx hb dX6_noteHops_49 ?_
        refine call_i (cVt (k := 1) (av := [.int 0, .int (ρ 7 0), .int ((ρ 1 5) + (nI j2_2))]) (rest := [.int (nI j2_2), .ref (E.2.1 + 184)]) B hP hS (d_X5_channelBy l E ρ r S0 hS0 1 (show hk 1 = 5 by decide +kernel) 0 (by omega) (by omega) (ρ 7 0) ((ρ 1 5) + (nI j2_2)) hI) lk_RX6_233 (hrecv (ci := 5) B hP (hk_lt (c := 5) (show hk 1 = 5 by decide +kernel) (by decide)) (hcc5 _ _ (show hk 1 = 5 by decide +kernel)) rfl) rfl rfl hl.1 (Nat.le_of_ble_eq_true rfl) ⟨Nat.le_of_ble_eq_true rfl, Nat.le_of_ble_eq_true rfl⟩ ⟨Nat.le_of_ble_eq_true rfl, Nat.le_of_ble_eq_true rfl⟩ dX6_noteHops_50) hS (fun r305 ρ306 H locs q307 hP hS => ?_)
        obtain ⟨rfl, hI⟩ := q307
        refine astn (n := 512) (j := j2_2) B hP hS (show hk 184 = 8 by decide +kernel) (show hlen 184 = 512 by decide +kernel) rfl (by omega) (by decide) dX6_noteHops_53 (fun H locs hP hS => ?_)
        obtain ⟨ρ309, e310⟩ : ∃ z, z = up ρ 184 j2_2 r305 := ⟨_, rfl⟩
        rw [← e310] at hP
        have hI : CI r S0 ρ309 := by rw [e310]; exact CI_up hI (by decide) (SP_plain (show hk 184 = 8 by decide +kernel) rfl (by decide)) ⟨(fun z2 => absurd (Eq.trans (Eq.symm (show hk 184 = 8 by decide +kernel)) z2) (by decide)), (fun z2 => absurd (Eq.trans (Eq.symm (show hk 184 = 8 by decide +kernel)) z2) (by decide))⟩ hS0
        refine lv_iinc (v := (nI (1 + j2_2))) (lv' := [(2, .int (nI (1 + j2_2))), (0, .ref (E.2.1 + 0)), (1, .int (nI na1))]) hx hb dX6_noteHops_54 hl (k := 2) rfl (show nI j2_2 + nI 1 = _ from (nI_add _ _).trans (congrArg nI (by omega))) (by decide) rfl (fun ls hl => ?_)
        refine lv_goto (tgt := 2) hx hb dX6_noteHops_57 (by decide) ?_
        exact ih2 ls ρ309 _ _ (1 + j2_2) (lv_sub hl [1, 2, 0] rfl) hP hS hI (by omega) (by omega) (by omega) (by omega) (by omega)
  refine lv_iconst (v := 0) hx hb dX6_noteHops_0 (by decide) ?_
  refine lv_istore_n (lv' := [(2, .int 0), (0, .ref (E.2.1 + 0)), (1, .int (nI na1))]) hx hb dX6_noteHops_1 rfl hl (by decide) rfl (fun ls hl => ?_)
  exact b2_0 ls ρ _ _ _ 0 (lv_sub hl [1, 2, 0] rfl) hP hS hI (Nat.lt_succ_self _) (by omega) (by omega) (by omega) (by omega)

set_option maxHeartbeats 4000000 in
set_option maxRecDepth 100000 in
theorem d_X6_clashesAt (l : Launch) (E : hE) (ρ r : Nat → Nat → Int32) (na1 : Nat) (lna1 : 0 ≤ na1) (una1 : na1 ≤ 63) (na2 : Nat) (lna2 : 1 ≤ na2) (una2 : na2 ≤ 512) (hI : CI r S0 ρ) : Met l yX6_clashesAt (.code yX6_clashesAt cX6_clashesAt 5 (some .int) :: gw_all) (rmk 1 40) (cPre E ρ [.ref (E.2.1 + 0), .int (nI na1), .int (nI na2)]) (cI E (fun v ρ1 => ρ = ρ1 ∧ CI r S0 ρ1)) 0 0 (hA E) := by
  refine ent (own := RX6) (by decide) rfl (Nat.le_of_ble_eq_true rfl) ?_
  intro p e s m below meth c ls B hr hlk hl hP hS
  have hx := B.1.1
  have hb := B.1.2.1
  have hown := B.1.2.2.2.1
  have hts := B.1.2.2.2.2
  have hl : lv_has ls 5 [(0, .ref (E.2.1 + 0)), (1, .int (nI na1)), (2, .int (nI na2))] := hl
  have b5_0 : ∀ (ls : Array Slot) (H : Heap) (locs : List Loc) (d5 : Nat) (x5_3 : Int32) (j5_4 : Nat), lv_has ls 5 [(0, .ref (E.2.1 + 0)), (1, .int (nI na1)), (2, .int (nI na2)), (3, .int x5_3), (4, .int (nI j5_4))] → WP E ρ H → va_S (hA E) s.heap H locs → 65536 - j5_4 < d5 → iR x5_3 (-2147483648) (2147483647) → 0 ≤ j5_4 → j5_4 ≤ 65535 → 0 ≤ na1 → na1 ≤ 63 → 1 ≤ na2 → na2 ≤ 512 → W p l e (rmk 1 40) s m ([.ref (E.2.1 + 0), .int (nI na1), .int (nI na2)] : List Value).toArray below meth c H locs 0 0 (MQ below (cI E (fun v ρ1 => ρ = ρ1 ∧ CI r S0 ρ1)) ([.ref (E.2.1 + 0), .int (nI na1), .int (nI na2)] : List Value).toArray s 0 0 (hA E)) (F0 m 5 ls []) := by
    intro ls H locs d5
    induction d5 generalizing ls H locs with
    | zero => intro x5_3 j5_4 hl hP hS hd5 hx5_3 lj5_4 uj5_4 tlna1 tuna1 tlna2 tuna2; exact absurd hd5 (Nat.not_lt_zero _)
    | succ d5 ih5 =>
      intro x5_3 j5_4 hl hP hS hd5 hx5_3 lj5_4 uj5_4 tlna1 tuna1 tlna2 tuna2
      have b55_0 : ∀ (ls : Array Slot) (H : Heap) (locs : List Loc) (x55_3 : Int32), lv_has ls 5 [(0, .ref (E.2.1 + 0)), (1, .int (nI na1)), (2, .int (nI na2)), (3, .int x55_3), (4, .int (nI j5_4))] → WP E ρ H → va_S (hA E) s.heap H locs → iR x55_3 (-2147483648) (2147483647) → 0 ≤ j5_4 → j5_4 ≤ 511 → 0 ≤ na1 → na1 ≤ 63 → 1 ≤ na2 → na2 ≤ 512 → W p l e (rmk 1 40) s m ([.ref (E.2.1 + 0), .int (nI na1), .int (nI na2)] : List Value).toArray below meth c H locs 0 0 (MQ below (cI E (fun v ρ1 => ρ = ρ1 ∧ CI r S0 ρ1)) ([.ref (E.2.1 + 0), .int (nI na1), .int (nI na2)] : List Value).toArray s 0 0 (hA E)) (F0 m 55 ls []) := by
        intro ls H locs x55_3 hl hP hS hx55_3 tlj5_4 tuj5_4 tlna1 tuna1 tlna2 tuna2
        refine lv_iinc (v := (nI (1 + j5_4))) (lv' := [(4, .int (nI (1 + j5_4))), (0, .ref (E.2.1 + 0)), (1, .int (nI na1)), (2, .int (nI na2)), (3, .int x55_3)]) hx hb dX6_clashesAt_55 hl (k := 4) rfl (show nI j5_4 + nI 1 = _ from (nI_add _ _).trans (congrArg nI (by omega))) (by decide) rfl (fun ls hl => ?_)
        refine lv_goto (tgt := 5) hx hb dX6_clashesAt_58 (by decide) ?_
        exact ih5 ls _ _ (x55_3 : Int32) (1 + j5_4) (lv_sub hl [1, 2, 3, 4, 0] rfl) hP hS (by omega) (iR_w hx55_3 (by decide) (by decide)) (by omega) (by omega) (by omega) (by omega) (by omega) (by omega)
      refine lv_iload hx hb dX6_clashesAt_5 (lv_at hl 4 rfl) ?_
      refine lv_iload_n hx hb dX6_clashesAt_7 rfl (lv_at hl 2 rfl) ?_
      refine lv_icmp_ge (tgt := 61) hx hb dX6_clashesAt_8 (by decide) (fun c127 => ?_) (fun c127 => ?_)
      · skip
        have n128 := mt (nx_lt (a := j5_4) (b := na2) (by omega) (by omega)).mpr (show ¬ (nI j5_4 < nI na2) from (Int32.not_lt.mpr c127))
        refine lv_iload_n hx hb dX6_clashesAt_61 rfl (lv_at hl 3 rfl) ?_
        exact ret_i B hr hlk hP hS dX6_clashesAt_62 (⟨rfl, hI⟩)
      · skip
        have n129 := (nx_lt (a := j5_4) (b := na2) (by omega) (by omega)).mp (show (nI j5_4 < nI na2) from (Int32.not_le.mp c127))
        refine lv_iload hx hb dX6_clashesAt_11 (lv_at hl 4 rfl) ?_
        refine lv_aload_n hx hb dX6_clashesAt_13 rfl (lv_at hl 0 rfl) ?_
        refine get6 B hP (show hk 0 = 6 by decide +kernel) 10 (by decide) mw_422 rfl dX6_clashesAt_14 ?_
        refine alen8 (n := 512) B hP (show hk 184 = 8 by decide +kernel) (show hlen 184 = 512 by decide +kernel) (v := 512) (by decide) dX6_clashesAt_17 ?_
        refine lv_icmp_ge (tgt := 61) hx hb dX6_clashesAt_18 (by decide) (fun c130 => absurd c130 (iR_nle (show iR 512 (512) (512) from ⟨by decide, by decide⟩) (nI_iR (j := j5_4) (a := 0) (b := 511) (by omega) (by omega) (by omega)) (by decide))) (fun _ => ?_)
        refine lv_iload hx hb dX6_clashesAt_21 (lv_at hl 4 rfl) ?_
        refine lv_iload_n hx hb dX6_clashesAt_23 rfl (lv_at hl 1 rfl) ?_
        refine lv_iadd hx hb dX6_clashesAt_24 ?_
        refine lv_topi (fun z131 ez131 => ?_)
        obtain rfl : z131 = (nI (j5_4 + na1)) := ez131.trans (by rw [show (nI j5_4) = nI j5_4 from rfl, show (nI na1) = nI na1 from rfl, nI_add] <;> exact congrArg nI (by omega))
        refine lv_aload_n hx hb dX6_clashesAt_25 rfl (lv_at hl 0 rfl) ?_
        refine get6 B hP (show hk 0 = 6 by decide +kernel) 11 (by decide) mw_423 rfl dX6_clashesAt_26 ?_
        refine alen8 (n := 576) B hP (show hk 185 = 8 by decide +kernel) (show hlen 185 = 576 by decide +kernel) (v := 576) (by decide) dX6_clashesAt_29 ?_
        refine lv_icmp_ge (tgt := 55) hx hb dX6_clashesAt_30 (by decide) (fun c132 => absurd c132 (iR_nle (show iR 576 (576) (576) from ⟨by decide, by decide⟩) (nI_iR (j := (j5_4 + na1)) (a := 0) (b := 574) (by omega) (by omega) (by omega)) (by decide))) (fun _ => ?_)
        refine lv_aload_n hx hb dX6_clashesAt_33 rfl (lv_at hl 0 rfl) ?_
        refine get6 B hP (show hk 0 = 6 by decide +kernel) 10 (by decide) mw_422 rfl dX6_clashesAt_34 ?_
        refine lv_iload hx hb dX6_clashesAt_37 (lv_at hl 4 rfl) ?_
        refine aldn (n := 512) (j := j5_4) B hP (show hk 184 = 8 by decide +kernel) (show hlen 184 = 512 by decide +kernel) rfl (by omega) (by decide) dX6_clashesAt_39 ?_
        refine lv_aload_n hx hb dX6_clashesAt_40 rfl (lv_at hl 0 rfl) ?_
        refine get6 B hP (show hk 0 = 6 by decide +kernel) 11 (by decide) mw_423 rfl dX6_clashesAt_41 ?_
        refine lv_iload hx hb dX6_clashesAt_44 (lv_at hl 4 rfl) ?_
        refine lv_iload_n hx hb dX6_clashesAt_46 rfl (lv_at hl 1 rfl) ?_
        refine lv_iadd hx hb dX6_clashesAt_47 ?_
        refine lv_topi (fun z133 ez133 => ?_)
        obtain rfl : z133 = (nI (j5_4 + na1)) := ez133.trans (by rw [show (nI j5_4) = nI j5_4 from rfl, show (nI na1) = nI na1 from rfl, nI_add] <;> exact congrArg nI (by omega))
        refine aldn (n := 576) (j := (j5_4 + na1)) B hP (show hk 185 = 8 by decide +kernel) (show hlen 185 = 576 by decide +kernel) rfl (by omega) (by decide) dX6_clashesAt_48 ?_
        refine lv_icmp_ne (tgt := 55) hx hb dX6_clashesAt_49 (by decide) (fun c134 => ?_) (fun c134 => ?_)
        · skip
          exact b55_0 ls _ _ (x5_3 : Int32) (lv_sub hl [0, 1, 2, 3, 4] rfl) hP hS (iR_w hx5_3 (by decide) (by decide)) (by omega) (by omega) (by omega) (by omega) (by omega) (by omega)
        · skip
          refine lv_iinc (v := (x5_3 + 1)) (lv' := [(3, .int (x5_3 + 1)), (0, .ref (E.2.1 + 0)), (1, .int (nI na1)), (2, .int (nI na2)), (4, .int (nI j5_4))]) hx hb dX6_clashesAt_52 hl (k := 3) rfl rfl (by decide) rfl (fun ls hl => ?_)
          exact b55_0 ls _ _ ((x5_3 + 1) : Int32) (lv_sub hl [1, 2, 3, 0, 4] rfl) hP hS (iR_w (iR_any (x5_3 + 1)) (by decide) (by decide)) (by omega) (by omega) (by omega) (by omega) (by omega) (by omega)
  refine lv_iconst (v := 0) hx hb dX6_clashesAt_0 (by decide) ?_
  refine lv_istore_n (lv' := [(3, .int 0), (0, .ref (E.2.1 + 0)), (1, .int (nI na1)), (2, .int (nI na2))]) hx hb dX6_clashesAt_1 rfl hl (by decide) rfl (fun ls hl => ?_)
  refine lv_iconst (v := 0) hx hb dX6_clashesAt_2 (by decide) ?_
  refine lv_istore (lv' := [(4, .int 0), (3, .int 0), (0, .ref (E.2.1 + 0)), (1, .int (nI na1)), (2, .int (nI na2))]) hx hb dX6_clashesAt_3 hl (by decide) rfl (fun ls hl => ?_)
  exact b5_0 ls _ _ _ (0 : Int32) 0 (lv_sub hl [2, 3, 4, 1, 0] rfl) hP hS (Nat.lt_succ_self _) (iR_w (show iR 0 (0) (0) from ⟨by decide, by decide⟩) (by decide) (by decide)) (by omega) (by omega) (by omega) (by omega) (by omega) (by omega)
