theorem dX0_init_0 : decode cX0_init 0 = .ok (.aload_n 0, 1) := by decide +kernel
theorem dX0_init_1 : decode cX0_init 1 = .ok (.invokespecial 3, 3) := by decide +kernel
theorem dX0_init_4 : decode cX0_init 4 = .ok (.aload_n 0, 1) := by decide +kernel
theorem dX0_init_5 : decode cX0_init 5 = .ok (.bipush 6, 2) := by decide +kernel
theorem dX0_init_7 : decode cX0_init 7 = .ok (.newarray .int, 2) := by decide +kernel
theorem dX0_init_9 : decode cX0_init 9 = .ok (.putfield 9, 3) := by decide +kernel
theorem dX0_init_12 : decode cX0_init 12 = .ok (.aload_n 0, 1) := by decide +kernel
theorem dX0_init_13 : decode cX0_init 13 = .ok (.bipush 10, 2) := by decide +kernel
theorem dX0_init_15 : decode cX0_init 15 = .ok (.newarray .int, 2) := by decide +kernel
theorem dX0_init_17 : decode cX0_init 17 = .ok (.putfield 15, 3) := by decide +kernel
theorem dX0_init_20 : decode cX0_init 20 = .ok (.aload_n 0, 1) := by decide +kernel
theorem dX0_init_21 : decode cX0_init 21 = .ok (.bipush 16, 2) := by decide +kernel
theorem dX0_init_23 : decode cX0_init 23 = .ok (.iconst 4, 1) := by decide +kernel
theorem dX0_init_24 : decode cX0_init 24 = .ok (.multianewarray 18 2, 4) := by decide +kernel
theorem dX0_init_28 : decode cX0_init 28 = .ok (.putfield 20, 3) := by decide +kernel
theorem dX0_init_31 : decode cX0_init 31 = .ok (.aload_n 0, 1) := by decide +kernel
theorem dX0_init_32 : decode cX0_init 32 = .ok (.bipush 16, 2) := by decide +kernel
theorem dX0_init_34 : decode cX0_init 34 = .ok (.newarray .int, 2) := by decide +kernel
theorem dX0_init_36 : decode cX0_init 36 = .ok (.putfield 23, 3) := by decide +kernel
theorem dX0_init_39 : decode cX0_init 39 = .ok (.aload_n 0, 1) := by decide +kernel
theorem dX0_init_40 : decode cX0_init 40 = .ok (.bipush 10, 2) := by decide +kernel
theorem dX0_init_42 : decode cX0_init 42 = .ok (.newarray .boolean, 2) := by decide +kernel
theorem dX0_init_44 : decode cX0_init 44 = .ok (.putfield 26, 3) := by decide +kernel
theorem dX0_init_47 : decode cX0_init 47 = .ok (.aload_n 0, 1) := by decide +kernel
theorem dX0_init_48 : decode cX0_init 48 = .ok (.bipush 10, 2) := by decide +kernel
theorem dX0_init_50 : decode cX0_init 50 = .ok (.newarray .int, 2) := by decide +kernel
theorem dX0_init_52 : decode cX0_init 52 = .ok (.putfield 30, 3) := by decide +kernel
theorem dX0_init_55 : decode cX0_init 55 = .ok (.return_, 1) := by decide +kernel
theorem dX0_clear_0 : decode cX0_clear 0 = .ok (.aload_n 0, 1) := by decide +kernel
theorem dX0_clear_1 : decode cX0_clear 1 = .ok (.getfield 9, 3) := by decide +kernel
theorem dX0_clear_4 : decode cX0_clear 4 = .ok (.iconst 0, 1) := by decide +kernel
theorem dX0_clear_5 : decode cX0_clear 5 = .ok (.invokestatic 33, 3) := by decide +kernel
theorem dX0_clear_8 : decode cX0_clear 8 = .ok (.aload_n 0, 1) := by decide +kernel
theorem dX0_clear_9 : decode cX0_clear 9 = .ok (.getfield 15, 3) := by decide +kernel
theorem dX0_clear_12 : decode cX0_clear 12 = .ok (.iconst 0, 1) := by decide +kernel
theorem dX0_clear_13 : decode cX0_clear 13 = .ok (.invokestatic 33, 3) := by decide +kernel
theorem dX0_clear_16 : decode cX0_clear 16 = .ok (.aload_n 0, 1) := by decide +kernel
theorem dX0_clear_17 : decode cX0_clear 17 = .ok (.getfield 23, 3) := by decide +kernel
theorem dX0_clear_20 : decode cX0_clear 20 = .ok (.iconst 0, 1) := by decide +kernel
theorem dX0_clear_21 : decode cX0_clear 21 = .ok (.invokestatic 33, 3) := by decide +kernel
theorem dX0_clear_24 : decode cX0_clear 24 = .ok (.iconst 0, 1) := by decide +kernel
theorem dX0_clear_25 : decode cX0_clear 25 = .ok (.istore_n 1, 1) := by decide +kernel
theorem dX0_clear_26 : decode cX0_clear 26 = .ok (.iload_n 1, 1) := by decide +kernel
theorem dX0_clear_27 : decode cX0_clear 27 = .ok (.bipush 10, 2) := by decide +kernel
theorem dX0_clear_29 : decode cX0_clear 29 = .ok (.if_icmp .ge 16, 3) := by decide +kernel
theorem dX0_clear_32 : decode cX0_clear 32 = .ok (.aload_n 0, 1) := by decide +kernel
theorem dX0_clear_33 : decode cX0_clear 33 = .ok (.getfield 26, 3) := by decide +kernel
theorem dX0_clear_36 : decode cX0_clear 36 = .ok (.iload_n 1, 1) := by decide +kernel
theorem dX0_clear_37 : decode cX0_clear 37 = .ok (.iconst 0, 1) := by decide +kernel
theorem dX0_clear_38 : decode cX0_clear 38 = .ok (.bastore, 1) := by decide +kernel
theorem dX0_clear_39 : decode cX0_clear 39 = .ok (.iinc 1 1, 3) := by decide +kernel
theorem dX0_clear_42 : decode cX0_clear 42 = .ok (.goto (-16), 3) := by decide +kernel
theorem dX0_clear_45 : decode cX0_clear 45 = .ok (.return_, 1) := by decide +kernel
theorem dX0_putRow_0 : decode cX0_putRow 0 = .ok (.iload_n 3, 1) := by decide +kernel
theorem dX0_putRow_1 : decode cX0_putRow 1 = .ok (.ifCond .lt 9, 3) := by decide +kernel
theorem dX0_putRow_4 : decode cX0_putRow 4 = .ok (.iload_n 3, 1) := by decide +kernel
theorem dX0_putRow_5 : decode cX0_putRow 5 = .ok (.aload_n 2, 1) := by decide +kernel
theorem dX0_putRow_6 : decode cX0_putRow 6 = .ok (.arraylength, 1) := by decide +kernel
theorem dX0_putRow_7 : decode cX0_putRow 7 = .ok (.if_icmp .le 4, 3) := by decide +kernel
theorem dX0_putRow_10 : decode cX0_putRow 10 = .ok (.return_, 1) := by decide +kernel
theorem dX0_putRow_11 : decode cX0_putRow 11 = .ok (.aload_n 0, 1) := by decide +kernel
theorem dX0_putRow_12 : decode cX0_putRow 12 = .ok (.getfield 20, 3) := by decide +kernel
theorem dX0_putRow_15 : decode cX0_putRow 15 = .ok (.iload_n 1, 1) := by decide +kernel
theorem dX0_putRow_16 : decode cX0_putRow 16 = .ok (.aaload, 1) := by decide +kernel
theorem dX0_putRow_17 : decode cX0_putRow 17 = .ok (.arraylength, 1) := by decide +kernel
theorem dX0_putRow_18 : decode cX0_putRow 18 = .ok (.iload_n 3, 1) := by decide +kernel
theorem dX0_putRow_19 : decode cX0_putRow 19 = .ok (.if_icmp .ge 24, 3) := by decide +kernel
theorem dX0_putRow_22 : decode cX0_putRow 22 = .ok (.aload_n 0, 1) := by decide +kernel
theorem dX0_putRow_23 : decode cX0_putRow 23 = .ok (.getfield 20, 3) := by decide +kernel
theorem dX0_putRow_26 : decode cX0_putRow 26 = .ok (.iload_n 1, 1) := by decide +kernel
theorem dX0_putRow_27 : decode cX0_putRow 27 = .ok (.iload_n 3, 1) := by decide +kernel
theorem dX0_putRow_28 : decode cX0_putRow 28 = .ok (.iconst 2, 1) := by decide +kernel
theorem dX0_putRow_29 : decode cX0_putRow 29 = .ok (.aload_n 0, 1) := by decide +kernel
theorem dX0_putRow_30 : decode cX0_putRow 30 = .ok (.getfield 20, 3) := by decide +kernel
theorem dX0_putRow_33 : decode cX0_putRow 33 = .ok (.iload_n 1, 1) := by decide +kernel
theorem dX0_putRow_34 : decode cX0_putRow 34 = .ok (.aaload, 1) := by decide +kernel
theorem dX0_putRow_35 : decode cX0_putRow 35 = .ok (.arraylength, 1) := by decide +kernel
theorem dX0_putRow_36 : decode cX0_putRow 36 = .ok (.imul, 1) := by decide +kernel
theorem dX0_putRow_37 : decode cX0_putRow 37 = .ok (.invokestatic 39, 3) := by decide +kernel
theorem dX0_putRow_40 : decode cX0_putRow 40 = .ok (.newarray .int, 2) := by decide +kernel
theorem dX0_putRow_42 : decode cX0_putRow 42 = .ok (.aastore, 1) := by decide +kernel
theorem dX0_putRow_43 : decode cX0_putRow 43 = .ok (.aload_n 2, 1) := by decide +kernel
theorem dX0_putRow_44 : decode cX0_putRow 44 = .ok (.iconst 0, 1) := by decide +kernel
theorem dX0_putRow_45 : decode cX0_putRow 45 = .ok (.aload_n 0, 1) := by decide +kernel
theorem dX0_putRow_46 : decode cX0_putRow 46 = .ok (.getfield 20, 3) := by decide +kernel
theorem dX0_putRow_49 : decode cX0_putRow 49 = .ok (.iload_n 1, 1) := by decide +kernel
theorem dX0_putRow_50 : decode cX0_putRow 50 = .ok (.aaload, 1) := by decide +kernel
theorem dX0_putRow_51 : decode cX0_putRow 51 = .ok (.iconst 0, 1) := by decide +kernel
theorem dX0_putRow_52 : decode cX0_putRow 52 = .ok (.iload_n 3, 1) := by decide +kernel
theorem dX0_putRow_53 : decode cX0_putRow 53 = .ok (.invokestatic 45, 3) := by decide +kernel
theorem dX0_putRow_56 : decode cX0_putRow 56 = .ok (.aload_n 0, 1) := by decide +kernel
theorem dX0_putRow_57 : decode cX0_putRow 57 = .ok (.getfield 23, 3) := by decide +kernel
theorem dX0_putRow_60 : decode cX0_putRow 60 = .ok (.iload_n 1, 1) := by decide +kernel
theorem dX0_putRow_61 : decode cX0_putRow 61 = .ok (.iload_n 3, 1) := by decide +kernel
theorem dX0_putRow_62 : decode cX0_putRow 62 = .ok (.iastore, 1) := by decide +kernel
theorem dX0_putRow_63 : decode cX0_putRow 63 = .ok (.return_, 1) := by decide +kernel
theorem dX0_putTypeHole_0 : decode cX0_putTypeHole 0 = .ok (.aload_n 0, 1) := by decide +kernel
theorem dX0_putTypeHole_1 : decode cX0_putTypeHole 1 = .ok (.getfield 9, 3) := by decide +kernel
theorem dX0_putTypeHole_4 : decode cX0_putTypeHole 4 = .ok (.iload_n 1, 1) := by decide +kernel
theorem dX0_putTypeHole_5 : decode cX0_putTypeHole 5 = .ok (.iconst 1, 1) := by decide +kernel
theorem dX0_putTypeHole_6 : decode cX0_putTypeHole 6 = .ok (.iastore, 1) := by decide +kernel
theorem dX0_putTypeHole_7 : decode cX0_putTypeHole 7 = .ok (.return_, 1) := by decide +kernel
theorem dX0_putType_0 : decode cX0_putType 0 = .ok (.aload_n 0, 1) := by decide +kernel
theorem dX0_putType_1 : decode cX0_putType 1 = .ok (.getfield 9, 3) := by decide +kernel
theorem dX0_putType_4 : decode cX0_putType 4 = .ok (.iload_n 1, 1) := by decide +kernel
theorem dX0_putType_5 : decode cX0_putType 5 = .ok (.iconst 2, 1) := by decide +kernel
theorem dX0_putType_6 : decode cX0_putType 6 = .ok (.iastore, 1) := by decide +kernel
theorem dX0_putType_7 : decode cX0_putType 7 = .ok (.aload_n 0, 1) := by decide +kernel
theorem dX0_putType_8 : decode cX0_putType 8 = .ok (.iload_n 1, 1) := by decide +kernel
theorem dX0_putType_9 : decode cX0_putType 9 = .ok (.aload_n 2, 1) := by decide +kernel
theorem dX0_putType_10 : decode cX0_putType 10 = .ok (.iload_n 3, 1) := by decide +kernel
theorem dX0_putType_11 : decode cX0_putType 11 = .ok (.invokevirtual 51, 3) := by decide +kernel
theorem dX0_putType_14 : decode cX0_putType 14 = .ok (.return_, 1) := by decide +kernel
theorem dX0_putStamp_0 : decode cX0_putStamp 0 = .ok (.aload_n 0, 1) := by decide +kernel
theorem dX0_putStamp_1 : decode cX0_putStamp 1 = .ok (.getfield 9, 3) := by decide +kernel
theorem dX0_putStamp_4 : decode cX0_putStamp 4 = .ok (.iload_n 1, 1) := by decide +kernel
theorem dX0_putStamp_5 : decode cX0_putStamp 5 = .ok (.iconst 2, 1) := by decide +kernel
theorem dX0_putStamp_6 : decode cX0_putStamp 6 = .ok (.iastore, 1) := by decide +kernel
theorem dX0_putStamp_7 : decode cX0_putStamp 7 = .ok (.aload_n 0, 1) := by decide +kernel
theorem dX0_putStamp_8 : decode cX0_putStamp 8 = .ok (.getfield 20, 3) := by decide +kernel
theorem dX0_putStamp_11 : decode cX0_putStamp 11 = .ok (.iload_n 1, 1) := by decide +kernel
theorem dX0_putStamp_12 : decode cX0_putStamp 12 = .ok (.aaload, 1) := by decide +kernel
theorem dX0_putStamp_13 : decode cX0_putStamp 13 = .ok (.iconst 0, 1) := by decide +kernel
theorem dX0_putStamp_14 : decode cX0_putStamp 14 = .ok (.iload_n 2, 1) := by decide +kernel
theorem dX0_putStamp_15 : decode cX0_putStamp 15 = .ok (.iastore, 1) := by decide +kernel
theorem dX0_putStamp_16 : decode cX0_putStamp 16 = .ok (.aload_n 0, 1) := by decide +kernel
theorem dX0_putStamp_17 : decode cX0_putStamp 17 = .ok (.getfield 23, 3) := by decide +kernel
theorem dX0_putStamp_20 : decode cX0_putStamp 20 = .ok (.iload_n 1, 1) := by decide +kernel
theorem dX0_putStamp_21 : decode cX0_putStamp 21 = .ok (.iconst 1, 1) := by decide +kernel
theorem dX0_putStamp_22 : decode cX0_putStamp 22 = .ok (.iastore, 1) := by decide +kernel
theorem dX0_putStamp_23 : decode cX0_putStamp 23 = .ok (.return_, 1) := by decide +kernel
theorem dX0_putValue_0 : decode cX0_putValue 0 = .ok (.aload_n 0, 1) := by decide +kernel
theorem dX0_putValue_1 : decode cX0_putValue 1 = .ok (.getfield 15, 3) := by decide +kernel
theorem dX0_putValue_4 : decode cX0_putValue 4 = .ok (.iload_n 1, 1) := by decide +kernel
theorem dX0_putValue_5 : decode cX0_putValue 5 = .ok (.iload_n 2, 1) := by decide +kernel
theorem dX0_putValue_6 : decode cX0_putValue 6 = .ok (.iastore, 1) := by decide +kernel
theorem dX0_putValue_7 : decode cX0_putValue 7 = .ok (.aload_n 0, 1) := by decide +kernel
theorem dX0_putValue_8 : decode cX0_putValue 8 = .ok (.getfield 26, 3) := by decide +kernel
theorem dX0_putValue_11 : decode cX0_putValue 11 = .ok (.iload_n 1, 1) := by decide +kernel
theorem dX0_putValue_12 : decode cX0_putValue 12 = .ok (.iconst 0, 1) := by decide +kernel
theorem dX0_putValue_13 : decode cX0_putValue 13 = .ok (.bastore, 1) := by decide +kernel
theorem dX0_putValue_14 : decode cX0_putValue 14 = .ok (.aload_n 0, 1) := by decide +kernel
theorem dX0_putValue_15 : decode cX0_putValue 15 = .ok (.bipush 6, 2) := by decide +kernel
theorem dX0_putValue_17 : decode cX0_putValue 17 = .ok (.iload_n 1, 1) := by decide +kernel
theorem dX0_putValue_18 : decode cX0_putValue 18 = .ok (.iadd, 1) := by decide +kernel
theorem dX0_putValue_19 : decode cX0_putValue 19 = .ok (.aload_n 3, 1) := by decide +kernel
theorem dX0_putValue_20 : decode cX0_putValue 20 = .ok (.iload 4, 2) := by decide +kernel
theorem dX0_putValue_22 : decode cX0_putValue 22 = .ok (.invokevirtual 51, 3) := by decide +kernel
theorem dX0_putValue_25 : decode cX0_putValue 25 = .ok (.return_, 1) := by decide +kernel
theorem dX0_putNumber_0 : decode cX0_putNumber 0 = .ok (.aload_n 0, 1) := by decide +kernel
theorem dX0_putNumber_1 : decode cX0_putNumber 1 = .ok (.getfield 26, 3) := by decide +kernel
theorem dX0_putNumber_4 : decode cX0_putNumber 4 = .ok (.iload_n 1, 1) := by decide +kernel
theorem dX0_putNumber_5 : decode cX0_putNumber 5 = .ok (.iconst 1, 1) := by decide +kernel
theorem dX0_putNumber_6 : decode cX0_putNumber 6 = .ok (.bastore, 1) := by decide +kernel
theorem dX0_putNumber_7 : decode cX0_putNumber 7 = .ok (.aload_n 0, 1) := by decide +kernel
theorem dX0_putNumber_8 : decode cX0_putNumber 8 = .ok (.getfield 30, 3) := by decide +kernel
theorem dX0_putNumber_11 : decode cX0_putNumber 11 = .ok (.iload_n 1, 1) := by decide +kernel
theorem dX0_putNumber_12 : decode cX0_putNumber 12 = .ok (.iload_n 2, 1) := by decide +kernel
theorem dX0_putNumber_13 : decode cX0_putNumber 13 = .ok (.iastore, 1) := by decide +kernel
theorem dX0_putNumber_14 : decode cX0_putNumber 14 = .ok (.return_, 1) := by decide +kernel
theorem dX0_putNumberOf_0 : decode cX0_putNumberOf 0 = .ok (.aload_n 2, 1) := by decide +kernel
theorem dX0_putNumberOf_1 : decode cX0_putNumberOf 1 = .ok (.getfield 26, 3) := by decide +kernel
theorem dX0_putNumberOf_4 : decode cX0_putNumberOf 4 = .ok (.iload_n 3, 1) := by decide +kernel
theorem dX0_putNumberOf_5 : decode cX0_putNumberOf 5 = .ok (.baload, 1) := by decide +kernel
theorem dX0_putNumberOf_6 : decode cX0_putNumberOf 6 = .ok (.ifCond .eq 14, 3) := by decide +kernel
theorem dX0_putNumberOf_9 : decode cX0_putNumberOf 9 = .ok (.aload_n 0, 1) := by decide +kernel
theorem dX0_putNumberOf_10 : decode cX0_putNumberOf 10 = .ok (.iload_n 1, 1) := by decide +kernel
theorem dX0_putNumberOf_11 : decode cX0_putNumberOf 11 = .ok (.aload_n 2, 1) := by decide +kernel
theorem dX0_putNumberOf_12 : decode cX0_putNumberOf 12 = .ok (.getfield 30, 3) := by decide +kernel
theorem dX0_putNumberOf_15 : decode cX0_putNumberOf 15 = .ok (.iload_n 3, 1) := by decide +kernel
theorem dX0_putNumberOf_16 : decode cX0_putNumberOf 16 = .ok (.iaload, 1) := by decide +kernel
theorem dX0_putNumberOf_17 : decode cX0_putNumberOf 17 = .ok (.invokevirtual 55, 3) := by decide +kernel
theorem dX0_putNumberOf_20 : decode cX0_putNumberOf 20 = .ok (.return_, 1) := by decide +kernel
theorem dX0_removeType_0 : decode cX0_removeType 0 = .ok (.aload_n 0, 1) := by decide +kernel
theorem dX0_removeType_1 : decode cX0_removeType 1 = .ok (.getfield 9, 3) := by decide +kernel
theorem dX0_removeType_4 : decode cX0_removeType 4 = .ok (.iload_n 1, 1) := by decide +kernel
theorem dX0_removeType_5 : decode cX0_removeType 5 = .ok (.iconst 0, 1) := by decide +kernel
theorem dX0_removeType_6 : decode cX0_removeType 6 = .ok (.iastore, 1) := by decide +kernel
theorem dX0_removeType_7 : decode cX0_removeType 7 = .ok (.aload_n 0, 1) := by decide +kernel
theorem dX0_removeType_8 : decode cX0_removeType 8 = .ok (.getfield 23, 3) := by decide +kernel
theorem dX0_removeType_11 : decode cX0_removeType 11 = .ok (.iload_n 1, 1) := by decide +kernel
theorem dX0_removeType_12 : decode cX0_removeType 12 = .ok (.iconst 0, 1) := by decide +kernel
theorem dX0_removeType_13 : decode cX0_removeType 13 = .ok (.iastore, 1) := by decide +kernel
theorem dX0_removeType_14 : decode cX0_removeType 14 = .ok (.return_, 1) := by decide +kernel
theorem dX0_removeValue_0 : decode cX0_removeValue 0 = .ok (.aload_n 0, 1) := by decide +kernel
theorem dX0_removeValue_1 : decode cX0_removeValue 1 = .ok (.getfield 15, 3) := by decide +kernel
theorem dX0_removeValue_4 : decode cX0_removeValue 4 = .ok (.iload_n 1, 1) := by decide +kernel
theorem dX0_removeValue_5 : decode cX0_removeValue 5 = .ok (.iconst 0, 1) := by decide +kernel
theorem dX0_removeValue_6 : decode cX0_removeValue 6 = .ok (.iastore, 1) := by decide +kernel
theorem dX0_removeValue_7 : decode cX0_removeValue 7 = .ok (.aload_n 0, 1) := by decide +kernel
theorem dX0_removeValue_8 : decode cX0_removeValue 8 = .ok (.getfield 23, 3) := by decide +kernel
theorem dX0_removeValue_11 : decode cX0_removeValue 11 = .ok (.bipush 6, 2) := by decide +kernel
theorem dX0_removeValue_13 : decode cX0_removeValue 13 = .ok (.iload_n 1, 1) := by decide +kernel
theorem dX0_removeValue_14 : decode cX0_removeValue 14 = .ok (.iadd, 1) := by decide +kernel
theorem dX0_removeValue_15 : decode cX0_removeValue 15 = .ok (.iconst 0, 1) := by decide +kernel
theorem dX0_removeValue_16 : decode cX0_removeValue 16 = .ok (.iastore, 1) := by decide +kernel
theorem dX0_removeValue_17 : decode cX0_removeValue 17 = .ok (.aload_n 0, 1) := by decide +kernel
theorem dX0_removeValue_18 : decode cX0_removeValue 18 = .ok (.getfield 26, 3) := by decide +kernel
theorem dX0_removeValue_21 : decode cX0_removeValue 21 = .ok (.iload_n 1, 1) := by decide +kernel
theorem dX0_removeValue_22 : decode cX0_removeValue 22 = .ok (.iconst 0, 1) := by decide +kernel
theorem dX0_removeValue_23 : decode cX0_removeValue 23 = .ok (.bastore, 1) := by decide +kernel
theorem dX0_removeValue_24 : decode cX0_removeValue 24 = .ok (.return_, 1) := by decide +kernel
theorem dX0_copy_0 : decode cX0_copy 0 = .ok (.iconst 0, 1) := by decide +kernel
theorem dX0_copy_1 : decode cX0_copy 1 = .ok (.istore_n 2, 1) := by decide +kernel
theorem dX0_copy_2 : decode cX0_copy 2 = .ok (.iload_n 2, 1) := by decide +kernel
theorem dX0_copy_3 : decode cX0_copy 3 = .ok (.bipush 6, 2) := by decide +kernel
theorem dX0_copy_5 : decode cX0_copy 5 = .ok (.if_icmp .ge 38, 3) := by decide +kernel
theorem dX0_copy_8 : decode cX0_copy 8 = .ok (.aload_n 0, 1) := by decide +kernel
theorem dX0_copy_9 : decode cX0_copy 9 = .ok (.getfield 9, 3) := by decide +kernel
theorem dX0_copy_12 : decode cX0_copy 12 = .ok (.iload_n 2, 1) := by decide +kernel
theorem dX0_copy_13 : decode cX0_copy 13 = .ok (.aload_n 1, 1) := by decide +kernel
theorem dX0_copy_14 : decode cX0_copy 14 = .ok (.getfield 9, 3) := by decide +kernel
theorem dX0_copy_17 : decode cX0_copy 17 = .ok (.iload_n 2, 1) := by decide +kernel
theorem dX0_copy_18 : decode cX0_copy 18 = .ok (.iaload, 1) := by decide +kernel
theorem dX0_copy_19 : decode cX0_copy 19 = .ok (.iastore, 1) := by decide +kernel
theorem dX0_copy_20 : decode cX0_copy 20 = .ok (.aload_n 0, 1) := by decide +kernel
theorem dX0_copy_21 : decode cX0_copy 21 = .ok (.iload_n 2, 1) := by decide +kernel
theorem dX0_copy_22 : decode cX0_copy 22 = .ok (.aload_n 1, 1) := by decide +kernel
theorem dX0_copy_23 : decode cX0_copy 23 = .ok (.getfield 20, 3) := by decide +kernel
theorem dX0_copy_26 : decode cX0_copy 26 = .ok (.iload_n 2, 1) := by decide +kernel
theorem dX0_copy_27 : decode cX0_copy 27 = .ok (.aaload, 1) := by decide +kernel
theorem dX0_copy_28 : decode cX0_copy 28 = .ok (.aload_n 1, 1) := by decide +kernel
theorem dX0_copy_29 : decode cX0_copy 29 = .ok (.getfield 23, 3) := by decide +kernel
theorem dX0_copy_32 : decode cX0_copy 32 = .ok (.iload_n 2, 1) := by decide +kernel
theorem dX0_copy_33 : decode cX0_copy 33 = .ok (.iaload, 1) := by decide +kernel
theorem dX0_copy_34 : decode cX0_copy 34 = .ok (.invokevirtual 51, 3) := by decide +kernel
theorem dX0_copy_37 : decode cX0_copy 37 = .ok (.iinc 2 1, 3) := by decide +kernel
theorem dX0_copy_40 : decode cX0_copy 40 = .ok (.goto (-38), 3) := by decide +kernel
theorem dX0_copy_43 : decode cX0_copy 43 = .ok (.iconst 0, 1) := by decide +kernel
theorem dX0_copy_44 : decode cX0_copy 44 = .ok (.istore_n 2, 1) := by decide +kernel
theorem dX0_copy_45 : decode cX0_copy 45 = .ok (.iload_n 2, 1) := by decide +kernel
theorem dX0_copy_46 : decode cX0_copy 46 = .ok (.bipush 10, 2) := by decide +kernel
theorem dX0_copy_48 : decode cX0_copy 48 = .ok (.if_icmp .ge 16, 3) := by decide +kernel
theorem dX0_copy_51 : decode cX0_copy 51 = .ok (.aload_n 0, 1) := by decide +kernel
theorem dX0_copy_52 : decode cX0_copy 52 = .ok (.iload_n 2, 1) := by decide +kernel
theorem dX0_copy_53 : decode cX0_copy 53 = .ok (.aload_n 1, 1) := by decide +kernel
theorem dX0_copy_54 : decode cX0_copy 54 = .ok (.iload_n 2, 1) := by decide +kernel
theorem dX0_copy_55 : decode cX0_copy 55 = .ok (.invokevirtual 59, 3) := by decide +kernel
theorem dX0_copy_58 : decode cX0_copy 58 = .ok (.iinc 2 1, 3) := by decide +kernel
theorem dX0_copy_61 : decode cX0_copy 61 = .ok (.goto (-16), 3) := by decide +kernel
theorem dX0_copy_64 : decode cX0_copy 64 = .ok (.return_, 1) := by decide +kernel
theorem dX0_copyValue_0 : decode cX0_copyValue 0 = .ok (.aload_n 0, 1) := by decide +kernel
theorem dX0_copyValue_1 : decode cX0_copyValue 1 = .ok (.iload_n 1, 1) := by decide +kernel
theorem dX0_copyValue_2 : decode cX0_copyValue 2 = .ok (.aload_n 2, 1) := by decide +kernel
theorem dX0_copyValue_3 : decode cX0_copyValue 3 = .ok (.getfield 15, 3) := by decide +kernel
theorem dX0_copyValue_6 : decode cX0_copyValue 6 = .ok (.iload_n 3, 1) := by decide +kernel
theorem dX0_copyValue_7 : decode cX0_copyValue 7 = .ok (.iaload, 1) := by decide +kernel
theorem dX0_copyValue_8 : decode cX0_copyValue 8 = .ok (.aload_n 2, 1) := by decide +kernel
theorem dX0_copyValue_9 : decode cX0_copyValue 9 = .ok (.getfield 20, 3) := by decide +kernel
theorem dX0_copyValue_12 : decode cX0_copyValue 12 = .ok (.bipush 6, 2) := by decide +kernel
theorem dX0_copyValue_14 : decode cX0_copyValue 14 = .ok (.iload_n 3, 1) := by decide +kernel
theorem dX0_copyValue_15 : decode cX0_copyValue 15 = .ok (.iadd, 1) := by decide +kernel
theorem dX0_copyValue_16 : decode cX0_copyValue 16 = .ok (.aaload, 1) := by decide +kernel
theorem dX0_copyValue_17 : decode cX0_copyValue 17 = .ok (.aload_n 2, 1) := by decide +kernel
theorem dX0_copyValue_18 : decode cX0_copyValue 18 = .ok (.getfield 23, 3) := by decide +kernel
theorem dX0_copyValue_21 : decode cX0_copyValue 21 = .ok (.bipush 6, 2) := by decide +kernel
theorem dX0_copyValue_23 : decode cX0_copyValue 23 = .ok (.iload_n 3, 1) := by decide +kernel
theorem dX0_copyValue_24 : decode cX0_copyValue 24 = .ok (.iadd, 1) := by decide +kernel
theorem dX0_copyValue_25 : decode cX0_copyValue 25 = .ok (.iaload, 1) := by decide +kernel
theorem dX0_copyValue_26 : decode cX0_copyValue 26 = .ok (.invokevirtual 63, 3) := by decide +kernel
theorem dX0_copyValue_29 : decode cX0_copyValue 29 = .ok (.aload_n 0, 1) := by decide +kernel
theorem dX0_copyValue_30 : decode cX0_copyValue 30 = .ok (.iload_n 1, 1) := by decide +kernel
theorem dX0_copyValue_31 : decode cX0_copyValue 31 = .ok (.aload_n 2, 1) := by decide +kernel
theorem dX0_copyValue_32 : decode cX0_copyValue 32 = .ok (.iload_n 3, 1) := by decide +kernel
theorem dX0_copyValue_33 : decode cX0_copyValue 33 = .ok (.invokevirtual 67, 3) := by decide +kernel
theorem dX0_copyValue_36 : decode cX0_copyValue 36 = .ok (.return_, 1) := by decide +kernel
theorem dX0_hasType_0 : decode cX0_hasType 0 = .ok (.aload_n 0, 1) := by decide +kernel
theorem dX0_hasType_1 : decode cX0_hasType 1 = .ok (.getfield 9, 3) := by decide +kernel
theorem dX0_hasType_4 : decode cX0_hasType 4 = .ok (.iload_n 1, 1) := by decide +kernel
theorem dX0_hasType_5 : decode cX0_hasType 5 = .ok (.iaload, 1) := by decide +kernel
theorem dX0_hasType_6 : decode cX0_hasType 6 = .ok (.ifCond .eq 7, 3) := by decide +kernel
theorem dX0_hasType_9 : decode cX0_hasType 9 = .ok (.iconst 1, 1) := by decide +kernel
theorem dX0_hasType_10 : decode cX0_hasType 10 = .ok (.goto 4, 3) := by decide +kernel
theorem dX0_hasType_13 : decode cX0_hasType 13 = .ok (.iconst 0, 1) := by decide +kernel
theorem dX0_hasType_14 : decode cX0_hasType 14 = .ok (.ireturn, 1) := by decide +kernel
theorem dX0_hasValue_0 : decode cX0_hasValue 0 = .ok (.aload_n 0, 1) := by decide +kernel
theorem dX0_hasValue_1 : decode cX0_hasValue 1 = .ok (.getfield 15, 3) := by decide +kernel
theorem dX0_hasValue_4 : decode cX0_hasValue 4 = .ok (.iload_n 1, 1) := by decide +kernel
theorem dX0_hasValue_5 : decode cX0_hasValue 5 = .ok (.iaload, 1) := by decide +kernel
theorem dX0_hasValue_6 : decode cX0_hasValue 6 = .ok (.ifCond .eq 7, 3) := by decide +kernel
theorem dX0_hasValue_9 : decode cX0_hasValue 9 = .ok (.iconst 1, 1) := by decide +kernel
theorem dX0_hasValue_10 : decode cX0_hasValue 10 = .ok (.goto 4, 3) := by decide +kernel
theorem dX0_hasValue_13 : decode cX0_hasValue 13 = .ok (.iconst 0, 1) := by decide +kernel
theorem dX0_hasValue_14 : decode cX0_hasValue 14 = .ok (.ireturn, 1) := by decide +kernel
theorem dX0_isValueHole_0 : decode cX0_isValueHole 0 = .ok (.aload_n 0, 1) := by decide +kernel
theorem dX0_isValueHole_1 : decode cX0_isValueHole 1 = .ok (.getfield 15, 3) := by decide +kernel
theorem dX0_isValueHole_4 : decode cX0_isValueHole 4 = .ok (.iload_n 1, 1) := by decide +kernel
theorem dX0_isValueHole_5 : decode cX0_isValueHole 5 = .ok (.iaload, 1) := by decide +kernel
theorem dX0_isValueHole_6 : decode cX0_isValueHole 6 = .ok (.iconst 1, 1) := by decide +kernel
theorem dX0_isValueHole_7 : decode cX0_isValueHole 7 = .ok (.iand, 1) := by decide +kernel
theorem dX0_isValueHole_8 : decode cX0_isValueHole 8 = .ok (.ifCond .eq 7, 3) := by decide +kernel
theorem dX0_isValueHole_11 : decode cX0_isValueHole 11 = .ok (.iconst 1, 1) := by decide +kernel
theorem dX0_isValueHole_12 : decode cX0_isValueHole 12 = .ok (.goto 4, 3) := by decide +kernel
theorem dX0_isValueHole_15 : decode cX0_isValueHole 15 = .ok (.iconst 0, 1) := by decide +kernel
theorem dX0_isValueHole_16 : decode cX0_isValueHole 16 = .ok (.ireturn, 1) := by decide +kernel
theorem dX0_isGhost_0 : decode cX0_isGhost 0 = .ok (.aload_n 0, 1) := by decide +kernel
theorem dX0_isGhost_1 : decode cX0_isGhost 1 = .ok (.getfield 15, 3) := by decide +kernel
theorem dX0_isGhost_4 : decode cX0_isGhost 4 = .ok (.iload_n 1, 1) := by decide +kernel
theorem dX0_isGhost_5 : decode cX0_isGhost 5 = .ok (.iaload, 1) := by decide +kernel
theorem dX0_isGhost_6 : decode cX0_isGhost 6 = .ok (.iconst 4, 1) := by decide +kernel
theorem dX0_isGhost_7 : decode cX0_isGhost 7 = .ok (.iand, 1) := by decide +kernel
theorem dX0_isGhost_8 : decode cX0_isGhost 8 = .ok (.ifCond .eq 7, 3) := by decide +kernel
theorem dX0_isGhost_11 : decode cX0_isGhost 11 = .ok (.iconst 1, 1) := by decide +kernel
theorem dX0_isGhost_12 : decode cX0_isGhost 12 = .ok (.goto 4, 3) := by decide +kernel
theorem dX0_isGhost_15 : decode cX0_isGhost 15 = .ok (.iconst 0, 1) := by decide +kernel
theorem dX0_isGhost_16 : decode cX0_isGhost 16 = .ok (.ireturn, 1) := by decide +kernel
theorem dX0_isStamp_0 : decode cX0_isStamp 0 = .ok (.aload_n 0, 1) := by decide +kernel
theorem dX0_isStamp_1 : decode cX0_isStamp 1 = .ok (.getfield 9, 3) := by decide +kernel
theorem dX0_isStamp_4 : decode cX0_isStamp 4 = .ok (.iload_n 1, 1) := by decide +kernel
theorem dX0_isStamp_5 : decode cX0_isStamp 5 = .ok (.iaload, 1) := by decide +kernel
theorem dX0_isStamp_6 : decode cX0_isStamp 6 = .ok (.iconst 2, 1) := by decide +kernel
theorem dX0_isStamp_7 : decode cX0_isStamp 7 = .ok (.if_icmp .ne 30, 3) := by decide +kernel
theorem dX0_isStamp_10 : decode cX0_isStamp 10 = .ok (.aload_n 0, 1) := by decide +kernel
theorem dX0_isStamp_11 : decode cX0_isStamp 11 = .ok (.getfield 23, 3) := by decide +kernel
theorem dX0_isStamp_14 : decode cX0_isStamp 14 = .ok (.iload_n 1, 1) := by decide +kernel
theorem dX0_isStamp_15 : decode cX0_isStamp 15 = .ok (.iaload, 1) := by decide +kernel
theorem dX0_isStamp_16 : decode cX0_isStamp 16 = .ok (.iconst 1, 1) := by decide +kernel
theorem dX0_isStamp_17 : decode cX0_isStamp 17 = .ok (.if_icmp .ne 20, 3) := by decide +kernel
theorem dX0_isStamp_20 : decode cX0_isStamp 20 = .ok (.aload_n 0, 1) := by decide +kernel
theorem dX0_isStamp_21 : decode cX0_isStamp 21 = .ok (.getfield 20, 3) := by decide +kernel
theorem dX0_isStamp_24 : decode cX0_isStamp 24 = .ok (.iload_n 1, 1) := by decide +kernel
theorem dX0_isStamp_25 : decode cX0_isStamp 25 = .ok (.aaload, 1) := by decide +kernel
theorem dX0_isStamp_26 : decode cX0_isStamp 26 = .ok (.iconst 0, 1) := by decide +kernel
theorem dX0_isStamp_27 : decode cX0_isStamp 27 = .ok (.iaload, 1) := by decide +kernel
theorem dX0_isStamp_28 : decode cX0_isStamp 28 = .ok (.bipush 8, 2) := by decide +kernel
theorem dX0_isStamp_30 : decode cX0_isStamp 30 = .ok (.if_icmp .lt 7, 3) := by decide +kernel
theorem dX0_isStamp_33 : decode cX0_isStamp 33 = .ok (.iconst 1, 1) := by decide +kernel
theorem dX0_isStamp_34 : decode cX0_isStamp 34 = .ok (.goto 4, 3) := by decide +kernel
theorem dX0_isStamp_37 : decode cX0_isStamp 37 = .ok (.iconst 0, 1) := by decide +kernel
theorem dX0_isStamp_38 : decode cX0_isStamp 38 = .ok (.ireturn, 1) := by decide +kernel
theorem dX0_valueNames_0 : decode cX0_valueNames 0 = .ok (.iconst 0, 1) := by decide +kernel
theorem dX0_valueNames_1 : decode cX0_valueNames 1 = .ok (.istore_n 1, 1) := by decide +kernel
theorem dX0_valueNames_2 : decode cX0_valueNames 2 = .ok (.iconst 0, 1) := by decide +kernel
theorem dX0_valueNames_3 : decode cX0_valueNames 3 = .ok (.istore_n 2, 1) := by decide +kernel
theorem dX0_valueNames_4 : decode cX0_valueNames 4 = .ok (.iload_n 2, 1) := by decide +kernel
theorem dX0_valueNames_5 : decode cX0_valueNames 5 = .ok (.bipush 10, 2) := by decide +kernel
theorem dX0_valueNames_7 : decode cX0_valueNames 7 = .ok (.if_icmp .ge 27, 3) := by decide +kernel
theorem dX0_valueNames_10 : decode cX0_valueNames 10 = .ok (.iload_n 1, 1) := by decide +kernel
theorem dX0_valueNames_11 : decode cX0_valueNames 11 = .ok (.aload_n 0, 1) := by decide +kernel
theorem dX0_valueNames_12 : decode cX0_valueNames 12 = .ok (.iload_n 2, 1) := by decide +kernel
theorem dX0_valueNames_13 : decode cX0_valueNames 13 = .ok (.invokevirtual 70, 3) := by decide +kernel
theorem dX0_valueNames_16 : decode cX0_valueNames 16 = .ok (.ifCond .eq 9, 3) := by decide +kernel
theorem dX0_valueNames_19 : decode cX0_valueNames 19 = .ok (.iconst 1, 1) := by decide +kernel
theorem dX0_valueNames_20 : decode cX0_valueNames 20 = .ok (.iload_n 2, 1) := by decide +kernel
theorem dX0_valueNames_21 : decode cX0_valueNames 21 = .ok (.ishl, 1) := by decide +kernel
theorem dX0_valueNames_22 : decode cX0_valueNames 22 = .ok (.goto 4, 3) := by decide +kernel
theorem dX0_valueNames_25 : decode cX0_valueNames 25 = .ok (.iconst 0, 1) := by decide +kernel
theorem dX0_valueNames_26 : decode cX0_valueNames 26 = .ok (.ior, 1) := by decide +kernel
theorem dX0_valueNames_27 : decode cX0_valueNames 27 = .ok (.istore_n 1, 1) := by decide +kernel
theorem dX0_valueNames_28 : decode cX0_valueNames 28 = .ok (.iinc 2 1, 3) := by decide +kernel
theorem dX0_valueNames_31 : decode cX0_valueNames 31 = .ok (.goto (-27), 3) := by decide +kernel
theorem dX0_valueNames_34 : decode cX0_valueNames 34 = .ok (.iload_n 1, 1) := by decide +kernel
theorem dX0_valueNames_35 : decode cX0_valueNames 35 = .ok (.ireturn, 1) := by decide +kernel
theorem dX1_init_0 : decode cX1_init 0 = .ok (.aload_n 0, 1) := by decide +kernel
theorem dX1_init_1 : decode cX1_init 1 = .ok (.invokespecial 3, 3) := by decide +kernel
theorem dX1_init_4 : decode cX1_init 4 = .ok (.aload_n 0, 1) := by decide +kernel
theorem dX1_init_5 : decode cX1_init 5 = .ok (.bipush 6, 2) := by decide +kernel
theorem dX1_init_7 : decode cX1_init 7 = .ok (.sipush 200, 3) := by decide +kernel
theorem dX1_init_10 : decode cX1_init 10 = .ok (.multianewarray 9 2, 4) := by decide +kernel
theorem dX1_init_14 : decode cX1_init 14 = .ok (.putfield 11, 3) := by decide +kernel
theorem dX1_init_17 : decode cX1_init 17 = .ok (.aload_n 0, 1) := by decide +kernel
theorem dX1_init_18 : decode cX1_init 18 = .ok (.bipush 6, 2) := by decide +kernel
theorem dX1_init_20 : decode cX1_init 20 = .ok (.newarray .int, 2) := by decide +kernel
theorem dX1_init_22 : decode cX1_init 22 = .ok (.putfield 16, 3) := by decide +kernel
theorem dX1_init_25 : decode cX1_init 25 = .ok (.aload_n 0, 1) := by decide +kernel
theorem dX1_init_26 : decode cX1_init 26 = .ok (.bipush 6, 2) := by decide +kernel
theorem dX1_init_28 : decode cX1_init 28 = .ok (.newarray .int, 2) := by decide +kernel
theorem dX1_init_30 : decode cX1_init 30 = .ok (.putfield 20, 3) := by decide +kernel
theorem dX1_init_33 : decode cX1_init 33 = .ok (.aload_n 0, 1) := by decide +kernel
theorem dX1_init_34 : decode cX1_init 34 = .ok (.bipush 6, 2) := by decide +kernel
theorem dX1_init_36 : decode cX1_init 36 = .ok (.sipush 200, 3) := by decide +kernel
theorem dX1_init_39 : decode cX1_init 39 = .ok (.multianewarray 9 2, 4) := by decide +kernel
theorem dX1_init_43 : decode cX1_init 43 = .ok (.putfield 23, 3) := by decide +kernel
theorem dX1_init_46 : decode cX1_init 46 = .ok (.aload_n 0, 1) := by decide +kernel
theorem dX1_init_47 : decode cX1_init 47 = .ok (.bipush 6, 2) := by decide +kernel
theorem dX1_init_49 : decode cX1_init 49 = .ok (.newarray .int, 2) := by decide +kernel
theorem dX1_init_51 : decode cX1_init 51 = .ok (.putfield 26, 3) := by decide +kernel
theorem dX1_init_54 : decode cX1_init 54 = .ok (.return_, 1) := by decide +kernel
theorem dX1_clear_0 : decode cX1_clear 0 = .ok (.aload_n 0, 1) := by decide +kernel
theorem dX1_clear_1 : decode cX1_clear 1 = .ok (.getfield 16, 3) := by decide +kernel
theorem dX1_clear_4 : decode cX1_clear 4 = .ok (.iconst 0, 1) := by decide +kernel
theorem dX1_clear_5 : decode cX1_clear 5 = .ok (.invokestatic 29, 3) := by decide +kernel
theorem dX1_clear_8 : decode cX1_clear 8 = .ok (.aload_n 0, 1) := by decide +kernel
theorem dX1_clear_9 : decode cX1_clear 9 = .ok (.getfield 26, 3) := by decide +kernel
theorem dX1_clear_12 : decode cX1_clear 12 = .ok (.iconst 0, 1) := by decide +kernel
theorem dX1_clear_13 : decode cX1_clear 13 = .ok (.invokestatic 29, 3) := by decide +kernel
theorem dX1_clear_16 : decode cX1_clear 16 = .ok (.return_, 1) := by decide +kernel
theorem dX1_tell_0 : decode cX1_tell 0 = .ok (.aload_n 0, 1) := by decide +kernel
theorem dX1_tell_1 : decode cX1_tell 1 = .ok (.getfield 16, 3) := by decide +kernel
theorem dX1_tell_4 : decode cX1_tell 4 = .ok (.iload_n 1, 1) := by decide +kernel
theorem dX1_tell_5 : decode cX1_tell 5 = .ok (.aload_n 2, 1) := by decide +kernel
theorem dX1_tell_6 : decode cX1_tell 6 = .ok (.iload_n 3, 1) := by decide +kernel
theorem dX1_tell_7 : decode cX1_tell 7 = .ok (.aload_n 0, 1) := by decide +kernel
theorem dX1_tell_8 : decode cX1_tell 8 = .ok (.getfield 11, 3) := by decide +kernel
theorem dX1_tell_11 : decode cX1_tell 11 = .ok (.iload_n 1, 1) := by decide +kernel
theorem dX1_tell_12 : decode cX1_tell 12 = .ok (.aaload, 1) := by decide +kernel
theorem dX1_tell_13 : decode cX1_tell 13 = .ok (.invokestatic 35, 3) := by decide +kernel
theorem dX1_tell_16 : decode cX1_tell 16 = .ok (.iastore, 1) := by decide +kernel
theorem dX1_tell_17 : decode cX1_tell 17 = .ok (.return_, 1) := by decide +kernel
theorem dX1_fill_0 : decode cX1_fill 0 = .ok (.aload_n 0, 1) := by decide +kernel
theorem dX1_fill_1 : decode cX1_fill 1 = .ok (.getfield 26, 3) := by decide +kernel
theorem dX1_fill_4 : decode cX1_fill 4 = .ok (.iload_n 1, 1) := by decide +kernel
theorem dX1_fill_5 : decode cX1_fill 5 = .ok (.aload_n 2, 1) := by decide +kernel
theorem dX1_fill_6 : decode cX1_fill 6 = .ok (.iload_n 3, 1) := by decide +kernel
theorem dX1_fill_7 : decode cX1_fill 7 = .ok (.aload_n 0, 1) := by decide +kernel
theorem dX1_fill_8 : decode cX1_fill 8 = .ok (.getfield 23, 3) := by decide +kernel
theorem dX1_fill_11 : decode cX1_fill 11 = .ok (.iload_n 1, 1) := by decide +kernel
theorem dX1_fill_12 : decode cX1_fill 12 = .ok (.aaload, 1) := by decide +kernel
theorem dX1_fill_13 : decode cX1_fill 13 = .ok (.invokestatic 35, 3) := by decide +kernel
theorem dX1_fill_16 : decode cX1_fill 16 = .ok (.iastore, 1) := by decide +kernel
theorem dX1_fill_17 : decode cX1_fill 17 = .ok (.return_, 1) := by decide +kernel
theorem dX1_fillPart_0 : decode cX1_fillPart 0 = .ok (.aload_n 0, 1) := by decide +kernel
theorem dX1_fillPart_1 : decode cX1_fillPart 1 = .ok (.getfield 23, 3) := by decide +kernel
theorem dX1_fillPart_4 : decode cX1_fillPart 4 = .ok (.iload_n 1, 1) := by decide +kernel
theorem dX1_fillPart_5 : decode cX1_fillPart 5 = .ok (.aaload, 1) := by decide +kernel
theorem dX1_fillPart_6 : decode cX1_fillPart 6 = .ok (.iconst 0, 1) := by decide +kernel
theorem dX1_fillPart_7 : decode cX1_fillPart 7 = .ok (.iload_n 2, 1) := by decide +kernel
theorem dX1_fillPart_8 : decode cX1_fillPart 8 = .ok (.iastore, 1) := by decide +kernel
theorem dX1_fillPart_9 : decode cX1_fillPart 9 = .ok (.aload_n 0, 1) := by decide +kernel
theorem dX1_fillPart_10 : decode cX1_fillPart 10 = .ok (.getfield 26, 3) := by decide +kernel
theorem dX1_fillPart_13 : decode cX1_fillPart 13 = .ok (.iload_n 1, 1) := by decide +kernel
theorem dX1_fillPart_14 : decode cX1_fillPart 14 = .ok (.iconst 1, 1) := by decide +kernel
theorem dX1_fillPart_15 : decode cX1_fillPart 15 = .ok (.iastore, 1) := by decide +kernel
theorem dX1_fillPart_16 : decode cX1_fillPart 16 = .ok (.return_, 1) := by decide +kernel
theorem dX1_copied_0 : decode cX1_copied 0 = .ok (.iload_n 1, 1) := by decide +kernel
theorem dX1_copied_1 : decode cX1_copied 1 = .ok (.ifCond .lt 15, 3) := by decide +kernel
theorem dX1_copied_4 : decode cX1_copied 4 = .ok (.iload_n 1, 1) := by decide +kernel
theorem dX1_copied_5 : decode cX1_copied 5 = .ok (.aload_n 0, 1) := by decide +kernel
theorem dX1_copied_6 : decode cX1_copied 6 = .ok (.arraylength, 1) := by decide +kernel
theorem dX1_copied_7 : decode cX1_copied 7 = .ok (.if_icmp .gt 9, 3) := by decide +kernel
theorem dX1_copied_10 : decode cX1_copied 10 = .ok (.iload_n 1, 1) := by decide +kernel
theorem dX1_copied_11 : decode cX1_copied 11 = .ok (.aload_n 2, 1) := by decide +kernel
theorem dX1_copied_12 : decode cX1_copied 12 = .ok (.arraylength, 1) := by decide +kernel
theorem dX1_copied_13 : decode cX1_copied 13 = .ok (.if_icmp .le 5, 3) := by decide +kernel
theorem dX1_copied_16 : decode cX1_copied 16 = .ok (.iconst 0, 1) := by decide +kernel
theorem dX1_copied_17 : decode cX1_copied 17 = .ok (.ireturn, 1) := by decide +kernel
theorem dX1_copied_18 : decode cX1_copied 18 = .ok (.aload_n 0, 1) := by decide +kernel
theorem dX1_copied_19 : decode cX1_copied 19 = .ok (.iconst 0, 1) := by decide +kernel
theorem dX1_copied_20 : decode cX1_copied 20 = .ok (.aload_n 2, 1) := by decide +kernel
theorem dX1_copied_21 : decode cX1_copied 21 = .ok (.iconst 0, 1) := by decide +kernel
theorem dX1_copied_22 : decode cX1_copied 22 = .ok (.iload_n 1, 1) := by decide +kernel
theorem dX1_copied_23 : decode cX1_copied 23 = .ok (.invokestatic 39, 3) := by decide +kernel
theorem dX1_copied_26 : decode cX1_copied 26 = .ok (.iload_n 1, 1) := by decide +kernel
theorem dX1_copied_27 : decode cX1_copied 27 = .ok (.ireturn, 1) := by decide +kernel
theorem dX1_makeFull_0 : decode cX1_makeFull 0 = .ok (.aload_n 0, 1) := by decide +kernel
theorem dX1_makeFull_1 : decode cX1_makeFull 1 = .ok (.invokevirtual 45, 3) := by decide +kernel
theorem dX1_makeFull_4 : decode cX1_makeFull 4 = .ok (.iconst 0, 1) := by decide +kernel
theorem dX1_makeFull_5 : decode cX1_makeFull 5 = .ok (.istore_n 1, 1) := by decide +kernel
theorem dX1_makeFull_6 : decode cX1_makeFull 6 = .ok (.iload_n 1, 1) := by decide +kernel
theorem dX1_makeFull_7 : decode cX1_makeFull 7 = .ok (.bipush 6, 2) := by decide +kernel
theorem dX1_makeFull_9 : decode cX1_makeFull 9 = .ok (.if_icmp .ge 28, 3) := by decide +kernel
theorem dX1_makeFull_12 : decode cX1_makeFull 12 = .ok (.aload_n 0, 1) := by decide +kernel
theorem dX1_makeFull_13 : decode cX1_makeFull 13 = .ok (.getfield 20, 3) := by decide +kernel
theorem dX1_makeFull_16 : decode cX1_makeFull 16 = .ok (.iload_n 1, 1) := by decide +kernel
theorem dX1_makeFull_17 : decode cX1_makeFull 17 = .ok (.iaload, 1) := by decide +kernel
theorem dX1_makeFull_18 : decode cX1_makeFull 18 = .ok (.iload_n 1, 1) := by decide +kernel
theorem dX1_makeFull_19 : decode cX1_makeFull 19 = .ok (.invokestatic 48, 3) := by decide +kernel
theorem dX1_makeFull_22 : decode cX1_makeFull 22 = .ok (.ifCond .eq 9, 3) := by decide +kernel
theorem dX1_makeFull_25 : decode cX1_makeFull 25 = .ok (.iconst 3, 1) := by decide +kernel
theorem dX1_makeFull_26 : decode cX1_makeFull 26 = .ok (.iload_n 1, 1) := by decide +kernel
theorem dX1_makeFull_27 : decode cX1_makeFull 27 = .ok (.invokestatic 52, 3) := by decide +kernel
theorem dX1_makeFull_30 : decode cX1_makeFull 30 = .ok (.ireturn, 1) := by decide +kernel
theorem dX1_makeFull_31 : decode cX1_makeFull 31 = .ok (.iinc 1 1, 3) := by decide +kernel
theorem dX1_makeFull_34 : decode cX1_makeFull 34 = .ok (.goto (-28), 3) := by decide +kernel
theorem dX1_makeFull_37 : decode cX1_makeFull 37 = .ok (.iconst 0, 1) := by decide +kernel
theorem dX1_makeFull_38 : decode cX1_makeFull 38 = .ok (.istore_n 1, 1) := by decide +kernel
theorem dX1_makeFull_39 : decode cX1_makeFull 39 = .ok (.iload_n 1, 1) := by decide +kernel
theorem dX1_makeFull_40 : decode cX1_makeFull 40 = .ok (.bipush 6, 2) := by decide +kernel
theorem dX1_makeFull_42 : decode cX1_makeFull 42 = .ok (.if_icmp .ge 77, 3) := by decide +kernel
theorem dX1_makeFull_45 : decode cX1_makeFull 45 = .ok (.iconst 0, 1) := by decide +kernel
theorem dX1_makeFull_46 : decode cX1_makeFull 46 = .ok (.istore_n 2, 1) := by decide +kernel
theorem dX1_makeFull_47 : decode cX1_makeFull 47 = .ok (.iload_n 2, 1) := by decide +kernel
theorem dX1_makeFull_48 : decode cX1_makeFull 48 = .ok (.bipush 6, 2) := by decide +kernel
theorem dX1_makeFull_50 : decode cX1_makeFull 50 = .ok (.if_icmp .ge 63, 3) := by decide +kernel
theorem dX1_makeFull_53 : decode cX1_makeFull 53 = .ok (.aload_n 0, 1) := by decide +kernel
theorem dX1_makeFull_54 : decode cX1_makeFull 54 = .ok (.getfield 16, 3) := by decide +kernel
theorem dX1_makeFull_57 : decode cX1_makeFull 57 = .ok (.iload_n 2, 1) := by decide +kernel
theorem dX1_makeFull_58 : decode cX1_makeFull 58 = .ok (.iaload, 1) := by decide +kernel
theorem dX1_makeFull_59 : decode cX1_makeFull 59 = .ok (.ifCond .le 48, 3) := by decide +kernel
theorem dX1_makeFull_62 : decode cX1_makeFull 62 = .ok (.aload_n 0, 1) := by decide +kernel
theorem dX1_makeFull_63 : decode cX1_makeFull 63 = .ok (.getfield 26, 3) := by decide +kernel
theorem dX1_makeFull_66 : decode cX1_makeFull 66 = .ok (.iload_n 2, 1) := by decide +kernel
theorem dX1_makeFull_67 : decode cX1_makeFull 67 = .ok (.iaload, 1) := by decide +kernel
theorem dX1_makeFull_68 : decode cX1_makeFull 68 = .ok (.ifCond .ne 39, 3) := by decide +kernel
theorem dX1_makeFull_71 : decode cX1_makeFull 71 = .ok (.aload_n 0, 1) := by decide +kernel
theorem dX1_makeFull_72 : decode cX1_makeFull 72 = .ok (.iload_n 2, 1) := by decide +kernel
theorem dX1_makeFull_73 : decode cX1_makeFull 73 = .ok (.invokevirtual 56, 3) := by decide +kernel
theorem dX1_makeFull_76 : decode cX1_makeFull 76 = .ok (.ifCond .eq 31, 3) := by decide +kernel
theorem dX1_makeFull_79 : decode cX1_makeFull 79 = .ok (.aload_n 0, 1) := by decide +kernel
theorem dX1_makeFull_80 : decode cX1_makeFull 80 = .ok (.getfield 26, 3) := by decide +kernel
theorem dX1_makeFull_83 : decode cX1_makeFull 83 = .ok (.iload_n 2, 1) := by decide +kernel
theorem dX1_makeFull_84 : decode cX1_makeFull 84 = .ok (.aload_n 0, 1) := by decide +kernel
theorem dX1_makeFull_85 : decode cX1_makeFull 85 = .ok (.aload_n 0, 1) := by decide +kernel
theorem dX1_makeFull_86 : decode cX1_makeFull 86 = .ok (.getfield 11, 3) := by decide +kernel
theorem dX1_makeFull_89 : decode cX1_makeFull 89 = .ok (.iload_n 2, 1) := by decide +kernel
theorem dX1_makeFull_90 : decode cX1_makeFull 90 = .ok (.aaload, 1) := by decide +kernel
theorem dX1_makeFull_91 : decode cX1_makeFull 91 = .ok (.aload_n 0, 1) := by decide +kernel
theorem dX1_makeFull_92 : decode cX1_makeFull 92 = .ok (.getfield 16, 3) := by decide +kernel
theorem dX1_makeFull_95 : decode cX1_makeFull 95 = .ok (.iload_n 2, 1) := by decide +kernel
theorem dX1_makeFull_96 : decode cX1_makeFull 96 = .ok (.iaload, 1) := by decide +kernel
theorem dX1_makeFull_97 : decode cX1_makeFull 97 = .ok (.aload_n 0, 1) := by decide +kernel
theorem dX1_makeFull_98 : decode cX1_makeFull 98 = .ok (.getfield 23, 3) := by decide +kernel
theorem dX1_makeFull_101 : decode cX1_makeFull 101 = .ok (.iload_n 2, 1) := by decide +kernel
theorem dX1_makeFull_102 : decode cX1_makeFull 102 = .ok (.aaload, 1) := by decide +kernel
theorem dX1_makeFull_103 : decode cX1_makeFull 103 = .ok (.invokevirtual 60, 3) := by decide +kernel
theorem dX1_makeFull_106 : decode cX1_makeFull 106 = .ok (.iastore, 1) := by decide +kernel
theorem dX1_makeFull_107 : decode cX1_makeFull 107 = .ok (.iinc 2 1, 3) := by decide +kernel
theorem dX1_makeFull_110 : decode cX1_makeFull 110 = .ok (.goto (-63), 3) := by decide +kernel
theorem dX1_makeFull_113 : decode cX1_makeFull 113 = .ok (.iinc 1 1, 3) := by decide +kernel
theorem dX1_makeFull_116 : decode cX1_makeFull 116 = .ok (.goto (-77), 3) := by decide +kernel
theorem dX1_makeFull_119 : decode cX1_makeFull 119 = .ok (.iconst 0, 1) := by decide +kernel
theorem dX1_makeFull_120 : decode cX1_makeFull 120 = .ok (.istore_n 1, 1) := by decide +kernel
theorem dX1_makeFull_121 : decode cX1_makeFull 121 = .ok (.iload_n 1, 1) := by decide +kernel
theorem dX1_makeFull_122 : decode cX1_makeFull 122 = .ok (.bipush 6, 2) := by decide +kernel
theorem dX1_makeFull_124 : decode cX1_makeFull 124 = .ok (.if_icmp .ge 28, 3) := by decide +kernel
theorem dX1_makeFull_127 : decode cX1_makeFull 127 = .ok (.aload_n 0, 1) := by decide +kernel
theorem dX1_makeFull_128 : decode cX1_makeFull 128 = .ok (.getfield 26, 3) := by decide +kernel
theorem dX1_makeFull_131 : decode cX1_makeFull 131 = .ok (.iload_n 1, 1) := by decide +kernel
theorem dX1_makeFull_132 : decode cX1_makeFull 132 = .ok (.iaload, 1) := by decide +kernel
theorem dX1_makeFull_133 : decode cX1_makeFull 133 = .ok (.sipush 200, 3) := by decide +kernel
theorem dX1_makeFull_136 : decode cX1_makeFull 136 = .ok (.if_icmp .le 10, 3) := by decide +kernel
theorem dX1_makeFull_139 : decode cX1_makeFull 139 = .ok (.bipush 7, 2) := by decide +kernel
theorem dX1_makeFull_141 : decode cX1_makeFull 141 = .ok (.iload_n 1, 1) := by decide +kernel
theorem dX1_makeFull_142 : decode cX1_makeFull 142 = .ok (.invokestatic 52, 3) := by decide +kernel
theorem dX1_makeFull_145 : decode cX1_makeFull 145 = .ok (.ireturn, 1) := by decide +kernel
theorem dX1_makeFull_146 : decode cX1_makeFull 146 = .ok (.iinc 1 1, 3) := by decide +kernel
theorem dX1_makeFull_149 : decode cX1_makeFull 149 = .ok (.goto (-28), 3) := by decide +kernel
theorem dX1_makeFull_152 : decode cX1_makeFull 152 = .ok (.iconst 0, 1) := by decide +kernel
theorem dX1_makeFull_153 : decode cX1_makeFull 153 = .ok (.ireturn, 1) := by decide +kernel
theorem dX1_findUses_0 : decode cX1_findUses 0 = .ok (.iconst 0, 1) := by decide +kernel
theorem dX1_findUses_1 : decode cX1_findUses 1 = .ok (.istore_n 1, 1) := by decide +kernel
theorem dX1_findUses_2 : decode cX1_findUses 2 = .ok (.iload_n 1, 1) := by decide +kernel
theorem dX1_findUses_3 : decode cX1_findUses 3 = .ok (.bipush 6, 2) := by decide +kernel
theorem dX1_findUses_5 : decode cX1_findUses 5 = .ok (.if_icmp .ge 73, 3) := by decide +kernel
theorem dX1_findUses_8 : decode cX1_findUses 8 = .ok (.aload_n 0, 1) := by decide +kernel
theorem dX1_findUses_9 : decode cX1_findUses 9 = .ok (.getfield 20, 3) := by decide +kernel
theorem dX1_findUses_12 : decode cX1_findUses 12 = .ok (.iload_n 1, 1) := by decide +kernel
theorem dX1_findUses_13 : decode cX1_findUses 13 = .ok (.iconst 0, 1) := by decide +kernel
theorem dX1_findUses_14 : decode cX1_findUses 14 = .ok (.iastore, 1) := by decide +kernel
theorem dX1_findUses_15 : decode cX1_findUses 15 = .ok (.iconst 0, 1) := by decide +kernel
theorem dX1_findUses_16 : decode cX1_findUses 16 = .ok (.istore_n 2, 1) := by decide +kernel
theorem dX1_findUses_17 : decode cX1_findUses 17 = .ok (.iload_n 2, 1) := by decide +kernel
theorem dX1_findUses_18 : decode cX1_findUses 18 = .ok (.aload_n 0, 1) := by decide +kernel
theorem dX1_findUses_19 : decode cX1_findUses 19 = .ok (.getfield 16, 3) := by decide +kernel
theorem dX1_findUses_22 : decode cX1_findUses 22 = .ok (.iload_n 1, 1) := by decide +kernel
theorem dX1_findUses_23 : decode cX1_findUses 23 = .ok (.iaload, 1) := by decide +kernel
theorem dX1_findUses_24 : decode cX1_findUses 24 = .ok (.if_icmp .ge 48, 3) := by decide +kernel
theorem dX1_findUses_27 : decode cX1_findUses 27 = .ok (.aload_n 0, 1) := by decide +kernel
theorem dX1_findUses_28 : decode cX1_findUses 28 = .ok (.getfield 11, 3) := by decide +kernel
theorem dX1_findUses_31 : decode cX1_findUses 31 = .ok (.iload_n 1, 1) := by decide +kernel
theorem dX1_findUses_32 : decode cX1_findUses 32 = .ok (.aaload, 1) := by decide +kernel
theorem dX1_findUses_33 : decode cX1_findUses 33 = .ok (.iload_n 2, 1) := by decide +kernel
theorem dX1_findUses_34 : decode cX1_findUses 34 = .ok (.iaload, 1) := by decide +kernel
theorem dX1_findUses_35 : decode cX1_findUses 35 = .ok (.iconst 2, 1) := by decide +kernel
theorem dX1_findUses_36 : decode cX1_findUses 36 = .ok (.isub, 1) := by decide +kernel
theorem dX1_findUses_37 : decode cX1_findUses 37 = .ok (.istore_n 3, 1) := by decide +kernel
theorem dX1_findUses_38 : decode cX1_findUses 38 = .ok (.iload_n 3, 1) := by decide +kernel
theorem dX1_findUses_39 : decode cX1_findUses 39 = .ok (.invokestatic 63, 3) := by decide +kernel
theorem dX1_findUses_42 : decode cX1_findUses 42 = .ok (.ifCond .eq 24, 3) := by decide +kernel
theorem dX1_findUses_45 : decode cX1_findUses 45 = .ok (.aload_n 0, 1) := by decide +kernel
theorem dX1_findUses_46 : decode cX1_findUses 46 = .ok (.getfield 16, 3) := by decide +kernel
theorem dX1_findUses_49 : decode cX1_findUses 49 = .ok (.iload_n 3, 1) := by decide +kernel
theorem dX1_findUses_50 : decode cX1_findUses 50 = .ok (.iaload, 1) := by decide +kernel
theorem dX1_findUses_51 : decode cX1_findUses 51 = .ok (.ifCond .le 15, 3) := by decide +kernel
theorem dX1_findUses_54 : decode cX1_findUses 54 = .ok (.aload_n 0, 1) := by decide +kernel
theorem dX1_findUses_55 : decode cX1_findUses 55 = .ok (.getfield 20, 3) := by decide +kernel
theorem dX1_findUses_58 : decode cX1_findUses 58 = .ok (.iload_n 1, 1) := by decide +kernel
theorem dX1_findUses_59 : decode cX1_findUses 59 = .ok (.dup2, 1) := by decide +kernel
theorem dX1_findUses_60 : decode cX1_findUses 60 = .ok (.iaload, 1) := by decide +kernel
theorem dX1_findUses_61 : decode cX1_findUses 61 = .ok (.iconst 1, 1) := by decide +kernel
theorem dX1_findUses_62 : decode cX1_findUses 62 = .ok (.iload_n 3, 1) := by decide +kernel
theorem dX1_findUses_63 : decode cX1_findUses 63 = .ok (.ishl, 1) := by decide +kernel
theorem dX1_findUses_64 : decode cX1_findUses 64 = .ok (.ior, 1) := by decide +kernel
theorem dX1_findUses_65 : decode cX1_findUses 65 = .ok (.iastore, 1) := by decide +kernel
theorem dX1_findUses_66 : decode cX1_findUses 66 = .ok (.iinc 2 1, 3) := by decide +kernel
theorem dX1_findUses_69 : decode cX1_findUses 69 = .ok (.goto (-52), 3) := by decide +kernel
theorem dX1_findUses_72 : decode cX1_findUses 72 = .ok (.iinc 1 1, 3) := by decide +kernel
theorem dX1_findUses_75 : decode cX1_findUses 75 = .ok (.goto (-73), 3) := by decide +kernel
theorem dX1_findUses_78 : decode cX1_findUses 78 = .ok (.iconst 0, 1) := by decide +kernel
theorem dX1_findUses_79 : decode cX1_findUses 79 = .ok (.istore_n 1, 1) := by decide +kernel
theorem dX1_findUses_80 : decode cX1_findUses 80 = .ok (.iload_n 1, 1) := by decide +kernel
theorem dX1_findUses_81 : decode cX1_findUses 81 = .ok (.bipush 6, 2) := by decide +kernel
theorem dX1_findUses_83 : decode cX1_findUses 83 = .ok (.if_icmp .ge 51, 3) := by decide +kernel
theorem dX1_findUses_86 : decode cX1_findUses 86 = .ok (.iconst 0, 1) := by decide +kernel
theorem dX1_findUses_87 : decode cX1_findUses 87 = .ok (.istore_n 2, 1) := by decide +kernel
theorem dX1_findUses_88 : decode cX1_findUses 88 = .ok (.iload_n 2, 1) := by decide +kernel
theorem dX1_findUses_89 : decode cX1_findUses 89 = .ok (.bipush 6, 2) := by decide +kernel
theorem dX1_findUses_91 : decode cX1_findUses 91 = .ok (.if_icmp .ge 37, 3) := by decide +kernel
theorem dX1_findUses_94 : decode cX1_findUses 94 = .ok (.aload_n 0, 1) := by decide +kernel
theorem dX1_findUses_95 : decode cX1_findUses 95 = .ok (.getfield 20, 3) := by decide +kernel
theorem dX1_findUses_98 : decode cX1_findUses 98 = .ok (.iload_n 2, 1) := by decide +kernel
theorem dX1_findUses_99 : decode cX1_findUses 99 = .ok (.iaload, 1) := by decide +kernel
theorem dX1_findUses_100 : decode cX1_findUses 100 = .ok (.iload_n 1, 1) := by decide +kernel
theorem dX1_findUses_101 : decode cX1_findUses 101 = .ok (.invokestatic 48, 3) := by decide +kernel
theorem dX1_findUses_104 : decode cX1_findUses 104 = .ok (.ifCond .eq 18, 3) := by decide +kernel
theorem dX1_findUses_107 : decode cX1_findUses 107 = .ok (.aload_n 0, 1) := by decide +kernel
theorem dX1_findUses_108 : decode cX1_findUses 108 = .ok (.getfield 20, 3) := by decide +kernel
theorem dX1_findUses_111 : decode cX1_findUses 111 = .ok (.iload_n 2, 1) := by decide +kernel
theorem dX1_findUses_112 : decode cX1_findUses 112 = .ok (.dup2, 1) := by decide +kernel
theorem dX1_findUses_113 : decode cX1_findUses 113 = .ok (.iaload, 1) := by decide +kernel
theorem dX1_findUses_114 : decode cX1_findUses 114 = .ok (.aload_n 0, 1) := by decide +kernel
theorem dX1_findUses_115 : decode cX1_findUses 115 = .ok (.getfield 20, 3) := by decide +kernel
theorem dX1_findUses_118 : decode cX1_findUses 118 = .ok (.iload_n 1, 1) := by decide +kernel
theorem dX1_findUses_119 : decode cX1_findUses 119 = .ok (.iaload, 1) := by decide +kernel
theorem dX1_findUses_120 : decode cX1_findUses 120 = .ok (.ior, 1) := by decide +kernel
theorem dX1_findUses_121 : decode cX1_findUses 121 = .ok (.iastore, 1) := by decide +kernel
theorem dX1_findUses_122 : decode cX1_findUses 122 = .ok (.iinc 2 1, 3) := by decide +kernel
theorem dX1_findUses_125 : decode cX1_findUses 125 = .ok (.goto (-37), 3) := by decide +kernel
theorem dX1_findUses_128 : decode cX1_findUses 128 = .ok (.iinc 1 1, 3) := by decide +kernel
theorem dX1_findUses_131 : decode cX1_findUses 131 = .ok (.goto (-51), 3) := by decide +kernel
theorem dX1_findUses_134 : decode cX1_findUses 134 = .ok (.return_, 1) := by decide +kernel
theorem dX1_isReady_0 : decode cX1_isReady 0 = .ok (.iconst 0, 1) := by decide +kernel
theorem dX1_isReady_1 : decode cX1_isReady 1 = .ok (.istore_n 2, 1) := by decide +kernel
theorem dX1_isReady_2 : decode cX1_isReady 2 = .ok (.iload_n 2, 1) := by decide +kernel
theorem dX1_isReady_3 : decode cX1_isReady 3 = .ok (.bipush 6, 2) := by decide +kernel
theorem dX1_isReady_5 : decode cX1_isReady 5 = .ok (.if_icmp .ge 33, 3) := by decide +kernel
theorem dX1_isReady_8 : decode cX1_isReady 8 = .ok (.aload_n 0, 1) := by decide +kernel
theorem dX1_isReady_9 : decode cX1_isReady 9 = .ok (.getfield 20, 3) := by decide +kernel
theorem dX1_isReady_12 : decode cX1_isReady 12 = .ok (.iload_n 1, 1) := by decide +kernel
theorem dX1_isReady_13 : decode cX1_isReady 13 = .ok (.iaload, 1) := by decide +kernel
theorem dX1_isReady_14 : decode cX1_isReady 14 = .ok (.iload_n 2, 1) := by decide +kernel
theorem dX1_isReady_15 : decode cX1_isReady 15 = .ok (.invokestatic 48, 3) := by decide +kernel
theorem dX1_isReady_18 : decode cX1_isReady 18 = .ok (.ifCond .eq 14, 3) := by decide +kernel
theorem dX1_isReady_21 : decode cX1_isReady 21 = .ok (.aload_n 0, 1) := by decide +kernel
theorem dX1_isReady_22 : decode cX1_isReady 22 = .ok (.getfield 26, 3) := by decide +kernel
theorem dX1_isReady_25 : decode cX1_isReady 25 = .ok (.iload_n 2, 1) := by decide +kernel
theorem dX1_isReady_26 : decode cX1_isReady 26 = .ok (.iaload, 1) := by decide +kernel
theorem dX1_isReady_27 : decode cX1_isReady 27 = .ok (.ifCond .ne 5, 3) := by decide +kernel
theorem dX1_isReady_30 : decode cX1_isReady 30 = .ok (.iconst 0, 1) := by decide +kernel
theorem dX1_isReady_31 : decode cX1_isReady 31 = .ok (.ireturn, 1) := by decide +kernel
theorem dX1_isReady_32 : decode cX1_isReady 32 = .ok (.iinc 2 1, 3) := by decide +kernel
theorem dX1_isReady_35 : decode cX1_isReady 35 = .ok (.goto (-33), 3) := by decide +kernel
theorem dX1_isReady_38 : decode cX1_isReady 38 = .ok (.iconst 1, 1) := by decide +kernel
theorem dX1_isReady_39 : decode cX1_isReady 39 = .ok (.ireturn, 1) := by decide +kernel
theorem dX1_put_0 : decode cX1_put 0 = .ok (.iconst 0, 1) := by decide +kernel
theorem dX1_put_1 : decode cX1_put 1 = .ok (.istore 4, 2) := by decide +kernel
theorem dX1_put_3 : decode cX1_put 3 = .ok (.iconst 0, 1) := by decide +kernel
theorem dX1_put_4 : decode cX1_put 4 = .ok (.istore 5, 2) := by decide +kernel
theorem dX1_put_6 : decode cX1_put 6 = .ok (.iload 5, 2) := by decide +kernel
theorem dX1_put_8 : decode cX1_put 8 = .ok (.iload_n 2, 1) := by decide +kernel
theorem dX1_put_9 : decode cX1_put 9 = .ok (.if_icmp .ge 135, 3) := by decide +kernel
theorem dX1_put_12 : decode cX1_put 12 = .ok (.iload 5, 2) := by decide +kernel
theorem dX1_put_14 : decode cX1_put 14 = .ok (.aload_n 1, 1) := by decide +kernel
theorem dX1_put_15 : decode cX1_put 15 = .ok (.arraylength, 1) := by decide +kernel
theorem dX1_put_16 : decode cX1_put 16 = .ok (.if_icmp .ge 128, 3) := by decide +kernel
theorem dX1_put_19 : decode cX1_put 19 = .ok (.aload_n 1, 1) := by decide +kernel
theorem dX1_put_20 : decode cX1_put 20 = .ok (.iload 5, 2) := by decide +kernel
theorem dX1_put_22 : decode cX1_put 22 = .ok (.iaload, 1) := by decide +kernel
theorem dX1_put_23 : decode cX1_put 23 = .ok (.iconst 2, 1) := by decide +kernel
theorem dX1_put_24 : decode cX1_put 24 = .ok (.isub, 1) := by decide +kernel
theorem dX1_put_25 : decode cX1_put 25 = .ok (.istore 6, 2) := by decide +kernel
theorem dX1_put_27 : decode cX1_put 27 = .ok (.iload 6, 2) := by decide +kernel
theorem dX1_put_29 : decode cX1_put 29 = .ok (.ifCond .lt 24, 3) := by decide +kernel
theorem dX1_put_32 : decode cX1_put 32 = .ok (.iload 6, 2) := by decide +kernel
theorem dX1_put_34 : decode cX1_put 34 = .ok (.bipush 6, 2) := by decide +kernel
theorem dX1_put_36 : decode cX1_put 36 = .ok (.if_icmp .ge 17, 3) := by decide +kernel
theorem dX1_put_39 : decode cX1_put 39 = .ok (.aload_n 0, 1) := by decide +kernel
theorem dX1_put_40 : decode cX1_put 40 = .ok (.getfield 26, 3) := by decide +kernel
theorem dX1_put_43 : decode cX1_put 43 = .ok (.iload 6, 2) := by decide +kernel
theorem dX1_put_45 : decode cX1_put 45 = .ok (.iaload, 1) := by decide +kernel
theorem dX1_put_46 : decode cX1_put 46 = .ok (.ifCond .le 7, 3) := by decide +kernel
theorem dX1_put_49 : decode cX1_put 49 = .ok (.iconst 1, 1) := by decide +kernel
theorem dX1_put_50 : decode cX1_put 50 = .ok (.goto 4, 3) := by decide +kernel
theorem dX1_put_53 : decode cX1_put 53 = .ok (.iconst 0, 1) := by decide +kernel
theorem dX1_put_54 : decode cX1_put 54 = .ok (.istore 7, 2) := by decide +kernel
theorem dX1_put_56 : decode cX1_put 56 = .ok (.iload 7, 2) := by decide +kernel
theorem dX1_put_58 : decode cX1_put 58 = .ok (.ifCond .eq 13, 3) := by decide +kernel
theorem dX1_put_61 : decode cX1_put 61 = .ok (.aload_n 0, 1) := by decide +kernel
theorem dX1_put_62 : decode cX1_put 62 = .ok (.getfield 26, 3) := by decide +kernel
theorem dX1_put_65 : decode cX1_put 65 = .ok (.iload 6, 2) := by decide +kernel
theorem dX1_put_67 : decode cX1_put 67 = .ok (.iaload, 1) := by decide +kernel
theorem dX1_put_68 : decode cX1_put 68 = .ok (.goto 4, 3) := by decide +kernel
theorem dX1_put_71 : decode cX1_put 71 = .ok (.iconst 1, 1) := by decide +kernel
theorem dX1_put_72 : decode cX1_put 72 = .ok (.istore 8, 2) := by decide +kernel
theorem dX1_put_74 : decode cX1_put 74 = .ok (.iload 4, 2) := by decide +kernel
theorem dX1_put_76 : decode cX1_put 76 = .ok (.iload 8, 2) := by decide +kernel
theorem dX1_put_78 : decode cX1_put 78 = .ok (.iadd, 1) := by decide +kernel
theorem dX1_put_79 : decode cX1_put 79 = .ok (.sipush 200, 3) := by decide +kernel
theorem dX1_put_82 : decode cX1_put 82 = .ok (.if_icmp .gt 13, 3) := by decide +kernel
theorem dX1_put_85 : decode cX1_put 85 = .ok (.iload 4, 2) := by decide +kernel
theorem dX1_put_87 : decode cX1_put 87 = .ok (.iload 8, 2) := by decide +kernel
theorem dX1_put_89 : decode cX1_put 89 = .ok (.iadd, 1) := by decide +kernel
theorem dX1_put_90 : decode cX1_put 90 = .ok (.aload_n 3, 1) := by decide +kernel
theorem dX1_put_91 : decode cX1_put 91 = .ok (.arraylength, 1) := by decide +kernel
theorem dX1_put_92 : decode cX1_put 92 = .ok (.if_icmp .le 7, 3) := by decide +kernel
theorem dX1_put_95 : decode cX1_put 95 = .ok (.sipush 201, 3) := by decide +kernel
theorem dX1_put_98 : decode cX1_put 98 = .ok (.ireturn, 1) := by decide +kernel
theorem dX1_put_99 : decode cX1_put 99 = .ok (.iload 7, 2) := by decide +kernel
theorem dX1_put_101 : decode cX1_put 101 = .ok (.ifCond .eq 22, 3) := by decide +kernel
theorem dX1_put_104 : decode cX1_put 104 = .ok (.aload_n 0, 1) := by decide +kernel
theorem dX1_put_105 : decode cX1_put 105 = .ok (.getfield 23, 3) := by decide +kernel
theorem dX1_put_108 : decode cX1_put 108 = .ok (.iload 6, 2) := by decide +kernel
theorem dX1_put_110 : decode cX1_put 110 = .ok (.aaload, 1) := by decide +kernel
theorem dX1_put_111 : decode cX1_put 111 = .ok (.iconst 0, 1) := by decide +kernel
theorem dX1_put_112 : decode cX1_put 112 = .ok (.aload_n 3, 1) := by decide +kernel
theorem dX1_put_113 : decode cX1_put 113 = .ok (.iload 4, 2) := by decide +kernel
theorem dX1_put_115 : decode cX1_put 115 = .ok (.iload 8, 2) := by decide +kernel
theorem dX1_put_117 : decode cX1_put 117 = .ok (.invokestatic 39, 3) := by decide +kernel
theorem dX1_put_120 : decode cX1_put 120 = .ok (.goto 11, 3) := by decide +kernel
theorem dX1_put_123 : decode cX1_put 123 = .ok (.aload_n 3, 1) := by decide +kernel
theorem dX1_put_124 : decode cX1_put 124 = .ok (.iload 4, 2) := by decide +kernel
theorem dX1_put_126 : decode cX1_put 126 = .ok (.aload_n 1, 1) := by decide +kernel
theorem dX1_put_127 : decode cX1_put 127 = .ok (.iload 5, 2) := by decide +kernel
theorem dX1_put_129 : decode cX1_put 129 = .ok (.iaload, 1) := by decide +kernel
theorem dX1_put_130 : decode cX1_put 130 = .ok (.iastore, 1) := by decide +kernel
theorem dX1_put_131 : decode cX1_put 131 = .ok (.iload 4, 2) := by decide +kernel
theorem dX1_put_133 : decode cX1_put 133 = .ok (.iload 8, 2) := by decide +kernel
theorem dX1_put_135 : decode cX1_put 135 = .ok (.iadd, 1) := by decide +kernel
theorem dX1_put_136 : decode cX1_put 136 = .ok (.istore 4, 2) := by decide +kernel
theorem dX1_put_138 : decode cX1_put 138 = .ok (.iinc 5 1, 3) := by decide +kernel
theorem dX1_put_141 : decode cX1_put 141 = .ok (.goto (-135), 3) := by decide +kernel
theorem dX1_put_144 : decode cX1_put 144 = .ok (.iload 4, 2) := by decide +kernel
theorem dX1_put_146 : decode cX1_put 146 = .ok (.ireturn, 1) := by decide +kernel
theorem dX2_init_0 : decode cX2_init 0 = .ok (.aload_n 0, 1) := by decide +kernel
theorem dX2_init_1 : decode cX2_init 1 = .ok (.invokespecial 3, 3) := by decide +kernel
theorem dX2_init_4 : decode cX2_init 4 = .ok (.aload_n 0, 1) := by decide +kernel
theorem dX2_init_5 : decode cX2_init 5 = .ok (.new 9, 3) := by decide +kernel
theorem dX2_init_8 : decode cX2_init 8 = .ok (.dup, 1) := by decide +kernel
theorem dX2_init_9 : decode cX2_init 9 = .ok (.invokespecial 11, 3) := by decide +kernel
theorem dX2_init_12 : decode cX2_init 12 = .ok (.putfield 12, 3) := by decide +kernel
theorem dX2_init_15 : decode cX2_init 15 = .ok (.aload_n 0, 1) := by decide +kernel
theorem dX2_init_16 : decode cX2_init 16 = .ok (.new 18, 3) := by decide +kernel
theorem dX2_init_19 : decode cX2_init 19 = .ok (.dup, 1) := by decide +kernel
theorem dX2_init_20 : decode cX2_init 20 = .ok (.invokespecial 20, 3) := by decide +kernel
theorem dX2_init_23 : decode cX2_init 23 = .ok (.putfield 21, 3) := by decide +kernel
theorem dX2_init_26 : decode cX2_init 26 = .ok (.aload_n 0, 1) := by decide +kernel
theorem dX2_init_27 : decode cX2_init 27 = .ok (.new 18, 3) := by decide +kernel
theorem dX2_init_30 : decode cX2_init 30 = .ok (.dup, 1) := by decide +kernel
theorem dX2_init_31 : decode cX2_init 31 = .ok (.invokespecial 20, 3) := by decide +kernel
theorem dX2_init_34 : decode cX2_init 34 = .ok (.putfield 25, 3) := by decide +kernel
theorem dX2_init_37 : decode cX2_init 37 = .ok (.aload_n 0, 1) := by decide +kernel
theorem dX2_init_38 : decode cX2_init 38 = .ok (.new 28, 3) := by decide +kernel
theorem dX2_init_41 : decode cX2_init 41 = .ok (.dup, 1) := by decide +kernel
theorem dX2_init_42 : decode cX2_init 42 = .ok (.invokespecial 30, 3) := by decide +kernel
theorem dX2_init_45 : decode cX2_init 45 = .ok (.putfield 31, 3) := by decide +kernel
theorem dX2_init_48 : decode cX2_init 48 = .ok (.aload_n 0, 1) := by decide +kernel
theorem dX2_init_49 : decode cX2_init 49 = .ok (.sipush 200, 3) := by decide +kernel
theorem dX2_init_52 : decode cX2_init 52 = .ok (.newarray .int, 2) := by decide +kernel
theorem dX2_init_54 : decode cX2_init 54 = .ok (.putfield 35, 3) := by decide +kernel
theorem dX2_init_57 : decode cX2_init 57 = .ok (.aload_n 0, 1) := by decide +kernel
theorem dX2_init_58 : decode cX2_init 58 = .ok (.sipush 200, 3) := by decide +kernel
theorem dX2_init_61 : decode cX2_init 61 = .ok (.newarray .int, 2) := by decide +kernel
theorem dX2_init_63 : decode cX2_init 63 = .ok (.putfield 39, 3) := by decide +kernel
theorem dX2_init_66 : decode cX2_init 66 = .ok (.aload_n 0, 1) := by decide +kernel
theorem dX2_init_67 : decode cX2_init 67 = .ok (.aload_n 1, 1) := by decide +kernel
theorem dX2_init_68 : decode cX2_init 68 = .ok (.putfield 42, 3) := by decide +kernel
theorem dX2_init_71 : decode cX2_init 71 = .ok (.aload_n 0, 1) := by decide +kernel
theorem dX2_init_72 : decode cX2_init 72 = .ok (.new 46, 3) := by decide +kernel
theorem dX2_init_75 : decode cX2_init 75 = .ok (.dup, 1) := by decide +kernel
theorem dX2_init_76 : decode cX2_init 76 = .ok (.aload_n 1, 1) := by decide +kernel
theorem dX2_init_77 : decode cX2_init 77 = .ok (.aload_n 0, 1) := by decide +kernel
theorem dX2_init_78 : decode cX2_init 78 = .ok (.getfield 21, 3) := by decide +kernel
theorem dX2_init_81 : decode cX2_init 81 = .ok (.invokespecial 48, 3) := by decide +kernel
theorem dX2_init_84 : decode cX2_init 84 = .ok (.putfield 51, 3) := by decide +kernel
theorem dX2_init_87 : decode cX2_init 87 = .ok (.return_, 1) := by decide +kernel
theorem dX2_faceOf_0 : decode cX2_faceOf 0 = .ok (.aload_n 0, 1) := by decide +kernel
theorem dX2_faceOf_1 : decode cX2_faceOf 1 = .ok (.aload_n 1, 1) := by decide +kernel
theorem dX2_faceOf_2 : decode cX2_faceOf 2 = .ok (.invokevirtual 55, 3) := by decide +kernel
theorem dX2_faceOf_5 : decode cX2_faceOf 5 = .ok (.iconst 0, 1) := by decide +kernel
theorem dX2_faceOf_6 : decode cX2_faceOf 6 = .ok (.istore_n 2, 1) := by decide +kernel
theorem dX2_faceOf_7 : decode cX2_faceOf 7 = .ok (.iload_n 2, 1) := by decide +kernel
theorem dX2_faceOf_8 : decode cX2_faceOf 8 = .ok (.aload_n 1, 1) := by decide +kernel
theorem dX2_faceOf_9 : decode cX2_faceOf 9 = .ok (.getfield 59, 3) := by decide +kernel
theorem dX2_faceOf_12 : decode cX2_faceOf 12 = .ok (.if_icmp .gt 98, 3) := by decide +kernel
theorem dX2_faceOf_15 : decode cX2_faceOf 15 = .ok (.iload_n 2, 1) := by decide +kernel
theorem dX2_faceOf_16 : decode cX2_faceOf 16 = .ok (.aload_n 0, 1) := by decide +kernel
theorem dX2_faceOf_17 : decode cX2_faceOf 17 = .ok (.getfield 42, 3) := by decide +kernel
theorem dX2_faceOf_20 : decode cX2_faceOf 20 = .ok (.getfield 65, 3) := by decide +kernel
theorem dX2_faceOf_23 : decode cX2_faceOf 23 = .ok (.invokevirtual 71, 3) := by decide +kernel
theorem dX2_faceOf_26 : decode cX2_faceOf 26 = .ok (.if_icmp .ge 84, 3) := by decide +kernel
theorem dX2_faceOf_29 : decode cX2_faceOf 29 = .ok (.aload_n 0, 1) := by decide +kernel
theorem dX2_faceOf_30 : decode cX2_faceOf 30 = .ok (.getfield 42, 3) := by decide +kernel
theorem dX2_faceOf_33 : decode cX2_faceOf 33 = .ok (.getfield 65, 3) := by decide +kernel
theorem dX2_faceOf_36 : decode cX2_faceOf 36 = .ok (.iload_n 2, 1) := by decide +kernel
theorem dX2_faceOf_37 : decode cX2_faceOf 37 = .ok (.invokevirtual 77, 3) := by decide +kernel
theorem dX2_faceOf_40 : decode cX2_faceOf 40 = .ok (.checkcast 60, 3) := by decide +kernel
theorem dX2_faceOf_43 : decode cX2_faceOf 43 = .ok (.astore_n 3, 1) := by decide +kernel
theorem dX2_faceOf_44 : decode cX2_faceOf 44 = .ok (.aload_n 3, 1) := by decide +kernel
theorem dX2_faceOf_45 : decode cX2_faceOf 45 = .ok (.getfield 81, 3) := by decide +kernel
theorem dX2_faceOf_48 : decode cX2_faceOf 48 = .ok (.ifCond .eq 56, 3) := by decide +kernel
theorem dX2_faceOf_51 : decode cX2_faceOf 51 = .ok (.aload_n 3, 1) := by decide +kernel
theorem dX2_faceOf_52 : decode cX2_faceOf 52 = .ok (.getfield 85, 3) := by decide +kernel
theorem dX2_faceOf_55 : decode cX2_faceOf 55 = .ok (.aload_n 0, 1) := by decide +kernel
theorem dX2_faceOf_56 : decode cX2_faceOf 56 = .ok (.getfield 42, 3) := by decide +kernel
theorem dX2_faceOf_59 : decode cX2_faceOf 59 = .ok (.getfield 88, 3) := by decide +kernel
theorem dX2_faceOf_62 : decode cX2_faceOf 62 = .ok (.if_icmp .eq 42, 3) := by decide +kernel
theorem dX2_faceOf_65 : decode cX2_faceOf 65 = .ok (.aload_n 3, 1) := by decide +kernel
theorem dX2_faceOf_66 : decode cX2_faceOf 66 = .ok (.aload_n 0, 1) := by decide +kernel
theorem dX2_faceOf_67 : decode cX2_faceOf 67 = .ok (.aload_n 3, 1) := by decide +kernel
theorem dX2_faceOf_68 : decode cX2_faceOf 68 = .ok (.invokevirtual 91, 3) := by decide +kernel
theorem dX2_faceOf_71 : decode cX2_faceOf 71 = .ok (.putfield 95, 3) := by decide +kernel
theorem dX2_faceOf_74 : decode cX2_faceOf 74 = .ok (.aload_n 3, 1) := by decide +kernel
theorem dX2_faceOf_75 : decode cX2_faceOf 75 = .ok (.getfield 98, 3) := by decide +kernel
theorem dX2_faceOf_78 : decode cX2_faceOf 78 = .ok (.invokevirtual 101, 3) := by decide +kernel
theorem dX2_faceOf_81 : decode cX2_faceOf 81 = .ok (.aload_n 3, 1) := by decide +kernel
theorem dX2_faceOf_82 : decode cX2_faceOf 82 = .ok (.getfield 98, 3) := by decide +kernel
theorem dX2_faceOf_85 : decode cX2_faceOf 85 = .ok (.aload_n 0, 1) := by decide +kernel
theorem dX2_faceOf_86 : decode cX2_faceOf 86 = .ok (.aload_n 3, 1) := by decide +kernel
theorem dX2_faceOf_87 : decode cX2_faceOf 87 = .ok (.invokevirtual 104, 3) := by decide +kernel
theorem dX2_faceOf_90 : decode cX2_faceOf 90 = .ok (.putfield 107, 3) := by decide +kernel
theorem dX2_faceOf_93 : decode cX2_faceOf 93 = .ok (.aload_n 3, 1) := by decide +kernel
theorem dX2_faceOf_94 : decode cX2_faceOf 94 = .ok (.aload_n 0, 1) := by decide +kernel
theorem dX2_faceOf_95 : decode cX2_faceOf 95 = .ok (.getfield 42, 3) := by decide +kernel
theorem dX2_faceOf_98 : decode cX2_faceOf 98 = .ok (.getfield 88, 3) := by decide +kernel
theorem dX2_faceOf_101 : decode cX2_faceOf 101 = .ok (.putfield 85, 3) := by decide +kernel
theorem dX2_faceOf_104 : decode cX2_faceOf 104 = .ok (.iinc 2 1, 3) := by decide +kernel
theorem dX2_faceOf_107 : decode cX2_faceOf 107 = .ok (.goto (-100), 3) := by decide +kernel
theorem dX2_faceOf_110 : decode cX2_faceOf 110 = .ok (.aload_n 1, 1) := by decide +kernel
theorem dX2_faceOf_111 : decode cX2_faceOf 111 = .ok (.getfield 98, 3) := by decide +kernel
theorem dX2_faceOf_114 : decode cX2_faceOf 114 = .ok (.areturn, 1) := by decide +kernel
theorem dX2_markNeeded_0 : decode cX2_markNeeded 0 = .ok (.iconst 0, 1) := by decide +kernel
theorem dX2_markNeeded_1 : decode cX2_markNeeded 1 = .ok (.istore_n 2, 1) := by decide +kernel
theorem dX2_markNeeded_2 : decode cX2_markNeeded 2 = .ok (.iload_n 2, 1) := by decide +kernel
theorem dX2_markNeeded_3 : decode cX2_markNeeded 3 = .ok (.aload_n 0, 1) := by decide +kernel
theorem dX2_markNeeded_4 : decode cX2_markNeeded 4 = .ok (.getfield 42, 3) := by decide +kernel
theorem dX2_markNeeded_7 : decode cX2_markNeeded 7 = .ok (.getfield 65, 3) := by decide +kernel
theorem dX2_markNeeded_10 : decode cX2_markNeeded 10 = .ok (.invokevirtual 71, 3) := by decide +kernel
theorem dX2_markNeeded_13 : decode cX2_markNeeded 13 = .ok (.if_icmp .ge 27, 3) := by decide +kernel
theorem dX2_markNeeded_16 : decode cX2_markNeeded 16 = .ok (.aload_n 0, 1) := by decide +kernel
theorem dX2_markNeeded_17 : decode cX2_markNeeded 17 = .ok (.getfield 42, 3) := by decide +kernel
theorem dX2_markNeeded_20 : decode cX2_markNeeded 20 = .ok (.getfield 65, 3) := by decide +kernel
theorem dX2_markNeeded_23 : decode cX2_markNeeded 23 = .ok (.iload_n 2, 1) := by decide +kernel
theorem dX2_markNeeded_24 : decode cX2_markNeeded 24 = .ok (.invokevirtual 77, 3) := by decide +kernel
theorem dX2_markNeeded_27 : decode cX2_markNeeded 27 = .ok (.checkcast 60, 3) := by decide +kernel
theorem dX2_markNeeded_30 : decode cX2_markNeeded 30 = .ok (.iconst 0, 1) := by decide +kernel
theorem dX2_markNeeded_31 : decode cX2_markNeeded 31 = .ok (.putfield 81, 3) := by decide +kernel
theorem dX2_markNeeded_34 : decode cX2_markNeeded 34 = .ok (.iinc 2 1, 3) := by decide +kernel
theorem dX2_markNeeded_37 : decode cX2_markNeeded 37 = .ok (.goto (-35), 3) := by decide +kernel
theorem dX2_markNeeded_40 : decode cX2_markNeeded 40 = .ok (.aload_n 1, 1) := by decide +kernel
theorem dX2_markNeeded_41 : decode cX2_markNeeded 41 = .ok (.iconst 1, 1) := by decide +kernel
theorem dX2_markNeeded_42 : decode cX2_markNeeded 42 = .ok (.putfield 81, 3) := by decide +kernel
theorem dX2_markNeeded_45 : decode cX2_markNeeded 45 = .ok (.aload_n 1, 1) := by decide +kernel
theorem dX2_markNeeded_46 : decode cX2_markNeeded 46 = .ok (.getfield 59, 3) := by decide +kernel
theorem dX2_markNeeded_49 : decode cX2_markNeeded 49 = .ok (.aload_n 0, 1) := by decide +kernel
theorem dX2_markNeeded_50 : decode cX2_markNeeded 50 = .ok (.getfield 42, 3) := by decide +kernel
theorem dX2_markNeeded_53 : decode cX2_markNeeded 53 = .ok (.getfield 65, 3) := by decide +kernel
theorem dX2_markNeeded_56 : decode cX2_markNeeded 56 = .ok (.invokevirtual 71, 3) := by decide +kernel
theorem dX2_markNeeded_59 : decode cX2_markNeeded 59 = .ok (.iconst 1, 1) := by decide +kernel
theorem dX2_markNeeded_60 : decode cX2_markNeeded 60 = .ok (.isub, 1) := by decide +kernel
theorem dX2_markNeeded_61 : decode cX2_markNeeded 61 = .ok (.invokestatic 110, 3) := by decide +kernel
theorem dX2_markNeeded_64 : decode cX2_markNeeded 64 = .ok (.istore_n 2, 1) := by decide +kernel
theorem dX2_markNeeded_65 : decode cX2_markNeeded 65 = .ok (.iload_n 2, 1) := by decide +kernel
theorem dX2_markNeeded_66 : decode cX2_markNeeded 66 = .ok (.ifCond .lt 61, 3) := by decide +kernel
theorem dX2_markNeeded_69 : decode cX2_markNeeded 69 = .ok (.aload_n 0, 1) := by decide +kernel
theorem dX2_markNeeded_70 : decode cX2_markNeeded 70 = .ok (.getfield 42, 3) := by decide +kernel
theorem dX2_markNeeded_73 : decode cX2_markNeeded 73 = .ok (.getfield 65, 3) := by decide +kernel
theorem dX2_markNeeded_76 : decode cX2_markNeeded 76 = .ok (.iload_n 2, 1) := by decide +kernel
theorem dX2_markNeeded_77 : decode cX2_markNeeded 77 = .ok (.invokevirtual 77, 3) := by decide +kernel
theorem dX2_markNeeded_80 : decode cX2_markNeeded 80 = .ok (.checkcast 60, 3) := by decide +kernel
theorem dX2_markNeeded_83 : decode cX2_markNeeded 83 = .ok (.astore_n 3, 1) := by decide +kernel
theorem dX2_markNeeded_84 : decode cX2_markNeeded 84 = .ok (.iconst 0, 1) := by decide +kernel
theorem dX2_markNeeded_85 : decode cX2_markNeeded 85 = .ok (.istore 4, 2) := by decide +kernel
theorem dX2_markNeeded_87 : decode cX2_markNeeded 87 = .ok (.iload 4, 2) := by decide +kernel
theorem dX2_markNeeded_89 : decode cX2_markNeeded 89 = .ok (.aload_n 3, 1) := by decide +kernel
theorem dX2_markNeeded_90 : decode cX2_markNeeded 90 = .ok (.getfield 116, 3) := by decide +kernel
theorem dX2_markNeeded_93 : decode cX2_markNeeded 93 = .ok (.arraylength, 1) := by decide +kernel
theorem dX2_markNeeded_94 : decode cX2_markNeeded 94 = .ok (.if_icmp .ge 27, 3) := by decide +kernel
theorem dX2_markNeeded_97 : decode cX2_markNeeded 97 = .ok (.aload_n 3, 1) := by decide +kernel
theorem dX2_markNeeded_98 : decode cX2_markNeeded 98 = .ok (.getfield 81, 3) := by decide +kernel
theorem dX2_markNeeded_101 : decode cX2_markNeeded 101 = .ok (.ifCond .eq 20, 3) := by decide +kernel
theorem dX2_markNeeded_104 : decode cX2_markNeeded 104 = .ok (.aload_n 3, 1) := by decide +kernel
theorem dX2_markNeeded_105 : decode cX2_markNeeded 105 = .ok (.getfield 116, 3) := by decide +kernel
theorem dX2_markNeeded_108 : decode cX2_markNeeded 108 = .ok (.iload 4, 2) := by decide +kernel
theorem dX2_markNeeded_110 : decode cX2_markNeeded 110 = .ok (.aaload, 1) := by decide +kernel
theorem dX2_markNeeded_111 : decode cX2_markNeeded 111 = .ok (.iconst 1, 1) := by decide +kernel
theorem dX2_markNeeded_112 : decode cX2_markNeeded 112 = .ok (.putfield 81, 3) := by decide +kernel
theorem dX2_markNeeded_115 : decode cX2_markNeeded 115 = .ok (.iinc 4 1, 3) := by decide +kernel
theorem dX2_markNeeded_118 : decode cX2_markNeeded 118 = .ok (.goto (-31), 3) := by decide +kernel
theorem dX2_markNeeded_121 : decode cX2_markNeeded 121 = .ok (.iinc 2 (-1), 3) := by decide +kernel
theorem dX2_markNeeded_124 : decode cX2_markNeeded 124 = .ok (.goto (-59), 3) := by decide +kernel
theorem dX2_markNeeded_127 : decode cX2_markNeeded 127 = .ok (.return_, 1) := by decide +kernel
theorem dX2_findWhat_0 : decode cX2_findWhat 0 = .ok (.aload_n 1, 1) := by decide +kernel
theorem dX2_findWhat_1 : decode cX2_findWhat 1 = .ok (.invokevirtual 120, 3) := by decide +kernel
theorem dX2_findWhat_4 : decode cX2_findWhat 4 = .ok (.ifCond .eq 19, 3) := by decide +kernel
theorem dX2_findWhat_7 : decode cX2_findWhat 7 = .ok (.aload_n 0, 1) := by decide +kernel
theorem dX2_findWhat_8 : decode cX2_findWhat 8 = .ok (.getfield 12, 3) := by decide +kernel
theorem dX2_findWhat_11 : decode cX2_findWhat 11 = .ok (.bipush 7, 2) := by decide +kernel
theorem dX2_findWhat_13 : decode cX2_findWhat 13 = .ok (.aload_n 1, 1) := by decide +kernel
theorem dX2_findWhat_14 : decode cX2_findWhat 14 = .ok (.getfield 59, 3) := by decide +kernel
theorem dX2_findWhat_17 : decode cX2_findWhat 17 = .ok (.iconst 0, 1) := by decide +kernel
theorem dX2_findWhat_18 : decode cX2_findWhat 18 = .ok (.iconst 0, 1) := by decide +kernel
theorem dX2_findWhat_19 : decode cX2_findWhat 19 = .ok (.invokevirtual 124, 3) := by decide +kernel
theorem dX2_findWhat_22 : decode cX2_findWhat 22 = .ok (.ireturn, 1) := by decide +kernel
theorem dX2_findWhat_23 : decode cX2_findWhat 23 = .ok (.aload_n 1, 1) := by decide +kernel
theorem dX2_findWhat_24 : decode cX2_findWhat 24 = .ok (.getfield 128, 3) := by decide +kernel
theorem dX2_findWhat_27 : decode cX2_findWhat 27 = .ok (.bipush 6, 2) := by decide +kernel
theorem dX2_findWhat_29 : decode cX2_findWhat 29 = .ok (.if_icmp .ne 26, 3) := by decide +kernel
theorem dX2_findWhat_32 : decode cX2_findWhat 32 = .ok (.aload_n 0, 1) := by decide +kernel
theorem dX2_findWhat_33 : decode cX2_findWhat 33 = .ok (.getfield 12, 3) := by decide +kernel
theorem dX2_findWhat_36 : decode cX2_findWhat 36 = .ok (.bipush 6, 2) := by decide +kernel
theorem dX2_findWhat_38 : decode cX2_findWhat 38 = .ok (.aload_n 1, 1) := by decide +kernel
theorem dX2_findWhat_39 : decode cX2_findWhat 39 = .ok (.getfield 131, 3) := by decide +kernel
theorem dX2_findWhat_42 : decode cX2_findWhat 42 = .ok (.aload_n 0, 1) := by decide +kernel
theorem dX2_findWhat_43 : decode cX2_findWhat 43 = .ok (.getfield 42, 3) := by decide +kernel
theorem dX2_findWhat_46 : decode cX2_findWhat 46 = .ok (.aload_n 1, 1) := by decide +kernel
theorem dX2_findWhat_47 : decode cX2_findWhat 47 = .ok (.invokevirtual 134, 3) := by decide +kernel
theorem dX2_findWhat_50 : decode cX2_findWhat 50 = .ok (.iconst 0, 1) := by decide +kernel
theorem dX2_findWhat_51 : decode cX2_findWhat 51 = .ok (.invokevirtual 124, 3) := by decide +kernel
theorem dX2_findWhat_54 : decode cX2_findWhat 54 = .ok (.ireturn, 1) := by decide +kernel
theorem dX2_findWhat_55 : decode cX2_findWhat 55 = .ok (.aload_n 1, 1) := by decide +kernel
theorem dX2_findWhat_56 : decode cX2_findWhat 56 = .ok (.getfield 128, 3) := by decide +kernel
theorem dX2_findWhat_59 : decode cX2_findWhat 59 = .ok (.iconst 4, 1) := by decide +kernel
theorem dX2_findWhat_60 : decode cX2_findWhat 60 = .ok (.if_icmp .eq 11, 3) := by decide +kernel
theorem dX2_findWhat_63 : decode cX2_findWhat 63 = .ok (.aload_n 1, 1) := by decide +kernel
theorem dX2_findWhat_64 : decode cX2_findWhat 64 = .ok (.getfield 128, 3) := by decide +kernel
theorem dX2_findWhat_67 : decode cX2_findWhat 67 = .ok (.iconst 5, 1) := by decide +kernel
theorem dX2_findWhat_68 : decode cX2_findWhat 68 = .ok (.if_icmp .ne 32, 3) := by decide +kernel
theorem dX2_findWhat_71 : decode cX2_findWhat 71 = .ok (.aload_n 0, 1) := by decide +kernel
theorem dX2_findWhat_72 : decode cX2_findWhat 72 = .ok (.getfield 12, 3) := by decide +kernel
theorem dX2_findWhat_75 : decode cX2_findWhat 75 = .ok (.aload_n 1, 1) := by decide +kernel
theorem dX2_findWhat_76 : decode cX2_findWhat 76 = .ok (.getfield 128, 3) := by decide +kernel
theorem dX2_findWhat_79 : decode cX2_findWhat 79 = .ok (.aload_n 1, 1) := by decide +kernel
theorem dX2_findWhat_80 : decode cX2_findWhat 80 = .ok (.getfield 116, 3) := by decide +kernel
theorem dX2_findWhat_83 : decode cX2_findWhat 83 = .ok (.iconst 0, 1) := by decide +kernel
theorem dX2_findWhat_84 : decode cX2_findWhat 84 = .ok (.aaload, 1) := by decide +kernel
theorem dX2_findWhat_85 : decode cX2_findWhat 85 = .ok (.getfield 95, 3) := by decide +kernel
theorem dX2_findWhat_88 : decode cX2_findWhat 88 = .ok (.aload_n 1, 1) := by decide +kernel
theorem dX2_findWhat_89 : decode cX2_findWhat 89 = .ok (.getfield 131, 3) := by decide +kernel
theorem dX2_findWhat_92 : decode cX2_findWhat 92 = .ok (.aload_n 1, 1) := by decide +kernel
theorem dX2_findWhat_93 : decode cX2_findWhat 93 = .ok (.getfield 137, 3) := by decide +kernel
theorem dX2_findWhat_96 : decode cX2_findWhat 96 = .ok (.invokevirtual 124, 3) := by decide +kernel
theorem dX2_findWhat_99 : decode cX2_findWhat 99 = .ok (.ireturn, 1) := by decide +kernel
theorem dX2_findWhat_100 : decode cX2_findWhat 100 = .ok (.aload_n 0, 1) := by decide +kernel
theorem dX2_findWhat_101 : decode cX2_findWhat 101 = .ok (.getfield 12, 3) := by decide +kernel
theorem dX2_findWhat_104 : decode cX2_findWhat 104 = .ok (.aload_n 1, 1) := by decide +kernel
theorem dX2_findWhat_105 : decode cX2_findWhat 105 = .ok (.getfield 128, 3) := by decide +kernel
theorem dX2_findWhat_108 : decode cX2_findWhat 108 = .ok (.aload_n 1, 1) := by decide +kernel
theorem dX2_findWhat_109 : decode cX2_findWhat 109 = .ok (.getfield 116, 3) := by decide +kernel
theorem dX2_findWhat_112 : decode cX2_findWhat 112 = .ok (.iconst 0, 1) := by decide +kernel
theorem dX2_findWhat_113 : decode cX2_findWhat 113 = .ok (.aaload, 1) := by decide +kernel
theorem dX2_findWhat_114 : decode cX2_findWhat 114 = .ok (.getfield 95, 3) := by decide +kernel
theorem dX2_findWhat_117 : decode cX2_findWhat 117 = .ok (.aload_n 1, 1) := by decide +kernel
theorem dX2_findWhat_118 : decode cX2_findWhat 118 = .ok (.getfield 116, 3) := by decide +kernel
theorem dX2_findWhat_121 : decode cX2_findWhat 121 = .ok (.iconst 1, 1) := by decide +kernel
theorem dX2_findWhat_122 : decode cX2_findWhat 122 = .ok (.aaload, 1) := by decide +kernel
theorem dX2_findWhat_123 : decode cX2_findWhat 123 = .ok (.getfield 95, 3) := by decide +kernel
theorem dX2_findWhat_126 : decode cX2_findWhat 126 = .ok (.iconst 0, 1) := by decide +kernel
theorem dX2_findWhat_127 : decode cX2_findWhat 127 = .ok (.invokevirtual 124, 3) := by decide +kernel
theorem dX2_findWhat_130 : decode cX2_findWhat 130 = .ok (.ireturn, 1) := by decide +kernel
theorem dX2_stampOf_0 : decode cX2_stampOf 0 = .ok (.bipush 8, 2) := by decide +kernel
theorem dX2_stampOf_2 : decode cX2_stampOf 2 = .ok (.aload_n 1, 1) := by decide +kernel
theorem dX2_stampOf_3 : decode cX2_stampOf 3 = .ok (.invokevirtual 120, 3) := by decide +kernel
theorem dX2_stampOf_6 : decode cX2_stampOf 6 = .ok (.ifCond .eq 21, 3) := by decide +kernel
theorem dX2_stampOf_9 : decode cX2_stampOf 9 = .ok (.aload_n 0, 1) := by decide +kernel
theorem dX2_stampOf_10 : decode cX2_stampOf 10 = .ok (.getfield 12, 3) := by decide +kernel
theorem dX2_stampOf_13 : decode cX2_stampOf 13 = .ok (.bipush 8, 2) := by decide +kernel
theorem dX2_stampOf_15 : decode cX2_stampOf 15 = .ok (.aload_n 1, 1) := by decide +kernel
theorem dX2_stampOf_16 : decode cX2_stampOf 16 = .ok (.getfield 95, 3) := by decide +kernel
theorem dX2_stampOf_19 : decode cX2_stampOf 19 = .ok (.iload_n 2, 1) := by decide +kernel
theorem dX2_stampOf_20 : decode cX2_stampOf 20 = .ok (.iconst 0, 1) := by decide +kernel
theorem dX2_stampOf_21 : decode cX2_stampOf 21 = .ok (.invokevirtual 124, 3) := by decide +kernel
theorem dX2_stampOf_24 : decode cX2_stampOf 24 = .ok (.goto 31, 3) := by decide +kernel
theorem dX2_stampOf_27 : decode cX2_stampOf 27 = .ok (.aload_n 0, 1) := by decide +kernel
theorem dX2_stampOf_28 : decode cX2_stampOf 28 = .ok (.getfield 12, 3) := by decide +kernel
theorem dX2_stampOf_31 : decode cX2_stampOf 31 = .ok (.bipush 9, 2) := by decide +kernel
theorem dX2_stampOf_33 : decode cX2_stampOf 33 = .ok (.aload_n 1, 1) := by decide +kernel
theorem dX2_stampOf_34 : decode cX2_stampOf 34 = .ok (.getfield 116, 3) := by decide +kernel
theorem dX2_stampOf_37 : decode cX2_stampOf 37 = .ok (.iconst 0, 1) := by decide +kernel
theorem dX2_stampOf_38 : decode cX2_stampOf 38 = .ok (.aaload, 1) := by decide +kernel
theorem dX2_stampOf_39 : decode cX2_stampOf 39 = .ok (.getfield 95, 3) := by decide +kernel
theorem dX2_stampOf_42 : decode cX2_stampOf 42 = .ok (.aload_n 1, 1) := by decide +kernel
theorem dX2_stampOf_43 : decode cX2_stampOf 43 = .ok (.getfield 116, 3) := by decide +kernel
theorem dX2_stampOf_46 : decode cX2_stampOf 46 = .ok (.iconst 1, 1) := by decide +kernel
theorem dX2_stampOf_47 : decode cX2_stampOf 47 = .ok (.aaload, 1) := by decide +kernel
theorem dX2_stampOf_48 : decode cX2_stampOf 48 = .ok (.getfield 95, 3) := by decide +kernel
theorem dX2_stampOf_51 : decode cX2_stampOf 51 = .ok (.iload_n 2, 1) := by decide +kernel
theorem dX2_stampOf_52 : decode cX2_stampOf 52 = .ok (.invokevirtual 124, 3) := by decide +kernel
theorem dX2_stampOf_55 : decode cX2_stampOf 55 = .ok (.iadd, 1) := by decide +kernel
theorem dX2_stampOf_56 : decode cX2_stampOf 56 = .ok (.ireturn, 1) := by decide +kernel
theorem dX2_findMistake_0 : decode cX2_findMistake 0 = .ok (.iconst 0, 1) := by decide +kernel
theorem dX2_findMistake_1 : decode cX2_findMistake 1 = .ok (.istore_n 2, 1) := by decide +kernel
theorem dX2_findMistake_2 : decode cX2_findMistake 2 = .ok (.iload_n 2, 1) := by decide +kernel
theorem dX2_findMistake_3 : decode cX2_findMistake 3 = .ok (.aload_n 1, 1) := by decide +kernel
theorem dX2_findMistake_4 : decode cX2_findMistake 4 = .ok (.getfield 116, 3) := by decide +kernel
theorem dX2_findMistake_7 : decode cX2_findMistake 7 = .ok (.arraylength, 1) := by decide +kernel
theorem dX2_findMistake_8 : decode cX2_findMistake 8 = .ok (.if_icmp .ge 30, 3) := by decide +kernel
theorem dX2_findMistake_11 : decode cX2_findMistake 11 = .ok (.aload_n 1, 1) := by decide +kernel
theorem dX2_findMistake_12 : decode cX2_findMistake 12 = .ok (.getfield 116, 3) := by decide +kernel
theorem dX2_findMistake_15 : decode cX2_findMistake 15 = .ok (.iload_n 2, 1) := by decide +kernel
theorem dX2_findMistake_16 : decode cX2_findMistake 16 = .ok (.aaload, 1) := by decide +kernel
theorem dX2_findMistake_17 : decode cX2_findMistake 17 = .ok (.getfield 98, 3) := by decide +kernel
theorem dX2_findMistake_20 : decode cX2_findMistake 20 = .ok (.getfield 107, 3) := by decide +kernel
theorem dX2_findMistake_23 : decode cX2_findMistake 23 = .ok (.ifCond .eq 9, 3) := by decide +kernel
theorem dX2_findMistake_26 : decode cX2_findMistake 26 = .ok (.sipush 1000, 3) := by decide +kernel
theorem dX2_findMistake_29 : decode cX2_findMistake 29 = .ok (.iload_n 2, 1) := by decide +kernel
theorem dX2_findMistake_30 : decode cX2_findMistake 30 = .ok (.iadd, 1) := by decide +kernel
theorem dX2_findMistake_31 : decode cX2_findMistake 31 = .ok (.ireturn, 1) := by decide +kernel
theorem dX2_findMistake_32 : decode cX2_findMistake 32 = .ok (.iinc 2 1, 3) := by decide +kernel
theorem dX2_findMistake_35 : decode cX2_findMistake 35 = .ok (.goto (-33), 3) := by decide +kernel
theorem dX2_findMistake_38 : decode cX2_findMistake 38 = .ok (.aload_n 1, 1) := by decide +kernel
theorem dX2_findMistake_39 : decode cX2_findMistake 39 = .ok (.getfield 116, 3) := by decide +kernel
theorem dX2_findMistake_42 : decode cX2_findMistake 42 = .ok (.astore_n 2, 1) := by decide +kernel
theorem dX2_findMistake_43 : decode cX2_findMistake 43 = .ok (.aload_n 1, 1) := by decide +kernel
theorem dX2_findMistake_44 : decode cX2_findMistake 44 = .ok (.getfield 128, 3) := by decide +kernel
theorem dX2_findMistake_47 : decode cX2_findMistake 47 = .ok (.tableswitch 208 0 6 #[61, 83, 105, 184, 208, 208, 41], 41) := by decide +kernel
theorem dX2_findMistake_88 : decode cX2_findMistake 88 = .ok (.aload_n 0, 1) := by decide +kernel
theorem dX2_findMistake_89 : decode cX2_findMistake 89 = .ok (.getfield 51, 3) := by decide +kernel
theorem dX2_findMistake_92 : decode cX2_findMistake 92 = .ok (.aload_n 0, 1) := by decide +kernel
theorem dX2_findMistake_93 : decode cX2_findMistake 93 = .ok (.getfield 42, 3) := by decide +kernel
theorem dX2_findMistake_96 : decode cX2_findMistake 96 = .ok (.aload_n 1, 1) := by decide +kernel
theorem dX2_findMistake_97 : decode cX2_findMistake 97 = .ok (.invokevirtual 140, 3) := by decide +kernel
theorem dX2_findMistake_100 : decode cX2_findMistake 100 = .ok (.aload_n 1, 1) := by decide +kernel
theorem dX2_findMistake_101 : decode cX2_findMistake 101 = .ok (.getfield 98, 3) := by decide +kernel
theorem dX2_findMistake_104 : decode cX2_findMistake 104 = .ok (.invokevirtual 144, 3) := by decide +kernel
theorem dX2_findMistake_107 : decode cX2_findMistake 107 = .ok (.ireturn, 1) := by decide +kernel
theorem dX2_findMistake_108 : decode cX2_findMistake 108 = .ok (.aload_n 0, 1) := by decide +kernel
theorem dX2_findMistake_109 : decode cX2_findMistake 109 = .ok (.aload_n 2, 1) := by decide +kernel
theorem dX2_findMistake_110 : decode cX2_findMistake 110 = .ok (.iconst 0, 1) := by decide +kernel
theorem dX2_findMistake_111 : decode cX2_findMistake 111 = .ok (.aaload, 1) := by decide +kernel
theorem dX2_findMistake_112 : decode cX2_findMistake 112 = .ok (.getfield 98, 3) := by decide +kernel
theorem dX2_findMistake_115 : decode cX2_findMistake 115 = .ok (.aload_n 2, 1) := by decide +kernel
theorem dX2_findMistake_116 : decode cX2_findMistake 116 = .ok (.iconst 1, 1) := by decide +kernel
theorem dX2_findMistake_117 : decode cX2_findMistake 117 = .ok (.aaload, 1) := by decide +kernel
theorem dX2_findMistake_118 : decode cX2_findMistake 118 = .ok (.getfield 98, 3) := by decide +kernel
theorem dX2_findMistake_121 : decode cX2_findMistake 121 = .ok (.iconst (-1), 1) := by decide +kernel
theorem dX2_findMistake_122 : decode cX2_findMistake 122 = .ok (.aload_n 1, 1) := by decide +kernel
theorem dX2_findMistake_123 : decode cX2_findMistake 123 = .ok (.getfield 98, 3) := by decide +kernel
theorem dX2_findMistake_126 : decode cX2_findMistake 126 = .ok (.invokevirtual 148, 3) := by decide +kernel
theorem dX2_findMistake_129 : decode cX2_findMistake 129 = .ok (.ireturn, 1) := by decide +kernel
theorem dX2_findMistake_130 : decode cX2_findMistake 130 = .ok (.aload_n 0, 1) := by decide +kernel
theorem dX2_findMistake_131 : decode cX2_findMistake 131 = .ok (.aload_n 1, 1) := by decide +kernel
theorem dX2_findMistake_132 : decode cX2_findMistake 132 = .ok (.aload_n 2, 1) := by decide +kernel
theorem dX2_findMistake_133 : decode cX2_findMistake 133 = .ok (.iconst 0, 1) := by decide +kernel
theorem dX2_findMistake_134 : decode cX2_findMistake 134 = .ok (.aaload, 1) := by decide +kernel
theorem dX2_findMistake_135 : decode cX2_findMistake 135 = .ok (.getfield 98, 3) := by decide +kernel
theorem dX2_findMistake_138 : decode cX2_findMistake 138 = .ok (.aload_n 2, 1) := by decide +kernel
theorem dX2_findMistake_139 : decode cX2_findMistake 139 = .ok (.iconst 1, 1) := by decide +kernel
theorem dX2_findMistake_140 : decode cX2_findMistake 140 = .ok (.aaload, 1) := by decide +kernel
theorem dX2_findMistake_141 : decode cX2_findMistake 141 = .ok (.getfield 98, 3) := by decide +kernel
theorem dX2_findMistake_144 : decode cX2_findMistake 144 = .ok (.aload_n 1, 1) := by decide +kernel
theorem dX2_findMistake_145 : decode cX2_findMistake 145 = .ok (.getfield 98, 3) := by decide +kernel
theorem dX2_findMistake_148 : decode cX2_findMistake 148 = .ok (.invokevirtual 152, 3) := by decide +kernel
theorem dX2_findMistake_151 : decode cX2_findMistake 151 = .ok (.ireturn, 1) := by decide +kernel
theorem dX2_findMistake_152 : decode cX2_findMistake 152 = .ok (.aload_n 0, 1) := by decide +kernel
theorem dX2_findMistake_153 : decode cX2_findMistake 153 = .ok (.aload_n 2, 1) := by decide +kernel
theorem dX2_findMistake_154 : decode cX2_findMistake 154 = .ok (.iconst 0, 1) := by decide +kernel
theorem dX2_findMistake_155 : decode cX2_findMistake 155 = .ok (.aaload, 1) := by decide +kernel
theorem dX2_findMistake_156 : decode cX2_findMistake 156 = .ok (.getfield 98, 3) := by decide +kernel
theorem dX2_findMistake_159 : decode cX2_findMistake 159 = .ok (.aload_n 1, 1) := by decide +kernel
theorem dX2_findMistake_160 : decode cX2_findMistake 160 = .ok (.getfield 156, 3) := by decide +kernel
theorem dX2_findMistake_163 : decode cX2_findMistake 163 = .ok (.ifCond .eq 10, 3) := by decide +kernel
theorem dX2_findMistake_166 : decode cX2_findMistake 166 = .ok (.aload_n 1, 1) := by decide +kernel
theorem dX2_findMistake_167 : decode cX2_findMistake 167 = .ok (.getfield 95, 3) := by decide +kernel
theorem dX2_findMistake_170 : decode cX2_findMistake 170 = .ok (.goto 9, 3) := by decide +kernel
theorem dX2_findMistake_173 : decode cX2_findMistake 173 = .ok (.aload_n 2, 1) := by decide +kernel
theorem dX2_findMistake_174 : decode cX2_findMistake 174 = .ok (.iconst 1, 1) := by decide +kernel
theorem dX2_findMistake_175 : decode cX2_findMistake 175 = .ok (.aaload, 1) := by decide +kernel
theorem dX2_findMistake_176 : decode cX2_findMistake 176 = .ok (.getfield 95, 3) := by decide +kernel
theorem dX2_findMistake_179 : decode cX2_findMistake 179 = .ok (.invokevirtual 159, 3) := by decide +kernel
theorem dX2_findMistake_182 : decode cX2_findMistake 182 = .ok (.aload_n 0, 1) := by decide +kernel
theorem dX2_findMistake_183 : decode cX2_findMistake 183 = .ok (.aload_n 0, 1) := by decide +kernel
theorem dX2_findMistake_184 : decode cX2_findMistake 184 = .ok (.getfield 31, 3) := by decide +kernel
theorem dX2_findMistake_187 : decode cX2_findMistake 187 = .ok (.aload_n 2, 1) := by decide +kernel
theorem dX2_findMistake_188 : decode cX2_findMistake 188 = .ok (.iconst 1, 1) := by decide +kernel
theorem dX2_findMistake_189 : decode cX2_findMistake 189 = .ok (.aaload, 1) := by decide +kernel
theorem dX2_findMistake_190 : decode cX2_findMistake 190 = .ok (.getfield 98, 3) := by decide +kernel
theorem dX2_findMistake_193 : decode cX2_findMistake 193 = .ok (.aload_n 0, 1) := by decide +kernel
theorem dX2_findMistake_194 : decode cX2_findMistake 194 = .ok (.getfield 31, 3) := by decide +kernel
theorem dX2_findMistake_197 : decode cX2_findMistake 197 = .ok (.invokevirtual 163, 3) := by decide +kernel
theorem dX2_findMistake_200 : decode cX2_findMistake 200 = .ok (.aload_n 1, 1) := by decide +kernel
theorem dX2_findMistake_201 : decode cX2_findMistake 201 = .ok (.getfield 98, 3) := by decide +kernel
theorem dX2_findMistake_204 : decode cX2_findMistake 204 = .ok (.invokevirtual 148, 3) := by decide +kernel
theorem dX2_findMistake_207 : decode cX2_findMistake 207 = .ok (.istore_n 3, 1) := by decide +kernel
theorem dX2_findMistake_208 : decode cX2_findMistake 208 = .ok (.iload_n 3, 1) := by decide +kernel
theorem dX2_findMistake_209 : decode cX2_findMistake 209 = .ok (.ifCond .eq 7, 3) := by decide +kernel
theorem dX2_findMistake_212 : decode cX2_findMistake 212 = .ok (.iload_n 3, 1) := by decide +kernel
theorem dX2_findMistake_213 : decode cX2_findMistake 213 = .ok (.goto 17, 3) := by decide +kernel
theorem dX2_findMistake_216 : decode cX2_findMistake 216 = .ok (.aload_n 0, 1) := by decide +kernel
theorem dX2_findMistake_217 : decode cX2_findMistake 217 = .ok (.aload_n 2, 1) := by decide +kernel
theorem dX2_findMistake_218 : decode cX2_findMistake 218 = .ok (.iconst 1, 1) := by decide +kernel
theorem dX2_findMistake_219 : decode cX2_findMistake 219 = .ok (.aaload, 1) := by decide +kernel
theorem dX2_findMistake_220 : decode cX2_findMistake 220 = .ok (.getfield 98, 3) := by decide +kernel
theorem dX2_findMistake_223 : decode cX2_findMistake 223 = .ok (.aload_n 1, 1) := by decide +kernel
theorem dX2_findMistake_224 : decode cX2_findMistake 224 = .ok (.getfield 98, 3) := by decide +kernel
theorem dX2_findMistake_227 : decode cX2_findMistake 227 = .ok (.invokevirtual 166, 3) := by decide +kernel
theorem dX2_findMistake_230 : decode cX2_findMistake 230 = .ok (.ireturn, 1) := by decide +kernel
theorem dX2_findMistake_231 : decode cX2_findMistake 231 = .ok (.aload_n 0, 1) := by decide +kernel
theorem dX2_findMistake_232 : decode cX2_findMistake 232 = .ok (.aload_n 1, 1) := by decide +kernel
theorem dX2_findMistake_233 : decode cX2_findMistake 233 = .ok (.aload_n 2, 1) := by decide +kernel
theorem dX2_findMistake_234 : decode cX2_findMistake 234 = .ok (.iconst 0, 1) := by decide +kernel
theorem dX2_findMistake_235 : decode cX2_findMistake 235 = .ok (.aaload, 1) := by decide +kernel
theorem dX2_findMistake_236 : decode cX2_findMistake 236 = .ok (.getfield 98, 3) := by decide +kernel
theorem dX2_findMistake_239 : decode cX2_findMistake 239 = .ok (.aload_n 2, 1) := by decide +kernel
theorem dX2_findMistake_240 : decode cX2_findMistake 240 = .ok (.iconst 1, 1) := by decide +kernel
theorem dX2_findMistake_241 : decode cX2_findMistake 241 = .ok (.aaload, 1) := by decide +kernel
theorem dX2_findMistake_242 : decode cX2_findMistake 242 = .ok (.getfield 98, 3) := by decide +kernel
theorem dX2_findMistake_245 : decode cX2_findMistake 245 = .ok (.aload_n 2, 1) := by decide +kernel
theorem dX2_findMistake_246 : decode cX2_findMistake 246 = .ok (.iconst 2, 1) := by decide +kernel
theorem dX2_findMistake_247 : decode cX2_findMistake 247 = .ok (.aaload, 1) := by decide +kernel
theorem dX2_findMistake_248 : decode cX2_findMistake 248 = .ok (.getfield 98, 3) := by decide +kernel
theorem dX2_findMistake_251 : decode cX2_findMistake 251 = .ok (.invokevirtual 170, 3) := by decide +kernel
theorem dX2_findMistake_254 : decode cX2_findMistake 254 = .ok (.ireturn, 1) := by decide +kernel
theorem dX2_findMistake_255 : decode cX2_findMistake 255 = .ok (.aload_n 1, 1) := by decide +kernel
theorem dX2_findMistake_256 : decode cX2_findMistake 256 = .ok (.aload_n 2, 1) := by decide +kernel
theorem dX2_findMistake_257 : decode cX2_findMistake 257 = .ok (.iconst 0, 1) := by decide +kernel
theorem dX2_findMistake_258 : decode cX2_findMistake 258 = .ok (.aaload, 1) := by decide +kernel
theorem dX2_findMistake_259 : decode cX2_findMistake 259 = .ok (.getfield 98, 3) := by decide +kernel
theorem dX2_findMistake_262 : decode cX2_findMistake 262 = .ok (.aload_n 1, 1) := by decide +kernel
theorem dX2_findMistake_263 : decode cX2_findMistake 263 = .ok (.getfield 98, 3) := by decide +kernel
theorem dX2_findMistake_266 : decode cX2_findMistake 266 = .ok (.invokestatic 173, 3) := by decide +kernel
theorem dX2_findMistake_269 : decode cX2_findMistake 269 = .ok (.ireturn, 1) := by decide +kernel
theorem dX2_link_0 : decode cX2_link 0 = .ok (.aload_n 0, 1) := by decide +kernel
theorem dX2_link_1 : decode cX2_link 1 = .ok (.getfield 21, 3) := by decide +kernel
theorem dX2_link_4 : decode cX2_link 4 = .ok (.invokevirtual 177, 3) := by decide +kernel
theorem dX2_link_7 : decode cX2_link 7 = .ok (.iconst 0, 1) := by decide +kernel
theorem dX2_link_8 : decode cX2_link 8 = .ok (.istore 5, 2) := by decide +kernel
theorem dX2_link_10 : decode cX2_link 10 = .ok (.iload 5, 2) := by decide +kernel
theorem dX2_link_12 : decode cX2_link 12 = .ok (.bipush 6, 2) := by decide +kernel
theorem dX2_link_14 : decode cX2_link 14 = .ok (.if_icmp .ge 64, 3) := by decide +kernel
theorem dX2_link_17 : decode cX2_link 17 = .ok (.aload_n 1, 1) := by decide +kernel
theorem dX2_link_18 : decode cX2_link 18 = .ok (.getfield 178, 3) := by decide +kernel
theorem dX2_link_21 : decode cX2_link 21 = .ok (.iload 5, 2) := by decide +kernel
theorem dX2_link_23 : decode cX2_link 23 = .ok (.iaload, 1) := by decide +kernel
theorem dX2_link_24 : decode cX2_link 24 = .ok (.iconst 2, 1) := by decide +kernel
theorem dX2_link_25 : decode cX2_link 25 = .ok (.if_icmp .ne 7, 3) := by decide +kernel
theorem dX2_link_28 : decode cX2_link 28 = .ok (.aload_n 1, 1) := by decide +kernel
theorem dX2_link_29 : decode cX2_link 29 = .ok (.goto 4, 3) := by decide +kernel
theorem dX2_link_32 : decode cX2_link 32 = .ok (.aload_n 2, 1) := by decide +kernel
theorem dX2_link_33 : decode cX2_link 33 = .ok (.astore 6, 2) := by decide +kernel
theorem dX2_link_35 : decode cX2_link 35 = .ok (.aload 6, 2) := by decide +kernel
theorem dX2_link_37 : decode cX2_link 37 = .ok (.getfield 178, 3) := by decide +kernel
theorem dX2_link_40 : decode cX2_link 40 = .ok (.iload 5, 2) := by decide +kernel
theorem dX2_link_42 : decode cX2_link 42 = .ok (.iaload, 1) := by decide +kernel
theorem dX2_link_43 : decode cX2_link 43 = .ok (.iconst 2, 1) := by decide +kernel
theorem dX2_link_44 : decode cX2_link 44 = .ok (.if_icmp .ne 28, 3) := by decide +kernel
theorem dX2_link_47 : decode cX2_link 47 = .ok (.aload_n 0, 1) := by decide +kernel
theorem dX2_link_48 : decode cX2_link 48 = .ok (.getfield 21, 3) := by decide +kernel
theorem dX2_link_51 : decode cX2_link 51 = .ok (.iload 5, 2) := by decide +kernel
theorem dX2_link_53 : decode cX2_link 53 = .ok (.aload 6, 2) := by decide +kernel
theorem dX2_link_55 : decode cX2_link 55 = .ok (.getfield 181, 3) := by decide +kernel
theorem dX2_link_58 : decode cX2_link 58 = .ok (.iload 5, 2) := by decide +kernel
theorem dX2_link_60 : decode cX2_link 60 = .ok (.aaload, 1) := by decide +kernel
theorem dX2_link_61 : decode cX2_link 61 = .ok (.aload 6, 2) := by decide +kernel
theorem dX2_link_63 : decode cX2_link 63 = .ok (.getfield 185, 3) := by decide +kernel
theorem dX2_link_66 : decode cX2_link 66 = .ok (.iload 5, 2) := by decide +kernel
theorem dX2_link_68 : decode cX2_link 68 = .ok (.iaload, 1) := by decide +kernel
theorem dX2_link_69 : decode cX2_link 69 = .ok (.invokevirtual 188, 3) := by decide +kernel
theorem dX2_link_72 : decode cX2_link 72 = .ok (.iinc 5 1, 3) := by decide +kernel
theorem dX2_link_75 : decode cX2_link 75 = .ok (.goto (-65), 3) := by decide +kernel
theorem dX2_link_78 : decode cX2_link 78 = .ok (.aload_n 0, 1) := by decide +kernel
theorem dX2_link_79 : decode cX2_link 79 = .ok (.getfield 21, 3) := by decide +kernel
theorem dX2_link_82 : decode cX2_link 82 = .ok (.invokevirtual 192, 3) := by decide +kernel
theorem dX2_link_85 : decode cX2_link 85 = .ok (.istore 5, 2) := by decide +kernel
theorem dX2_link_87 : decode cX2_link 87 = .ok (.iconst 0, 1) := by decide +kernel
theorem dX2_link_88 : decode cX2_link 88 = .ok (.istore 6, 2) := by decide +kernel
theorem dX2_link_90 : decode cX2_link 90 = .ok (.iload 6, 2) := by decide +kernel
theorem dX2_link_92 : decode cX2_link 92 = .ok (.bipush 6, 2) := by decide +kernel
theorem dX2_link_94 : decode cX2_link 94 = .ok (.if_icmp .ge 26, 3) := by decide +kernel
theorem dX2_link_97 : decode cX2_link 97 = .ok (.iload 5, 2) := by decide +kernel
theorem dX2_link_99 : decode cX2_link 99 = .ok (.ifCond .ne 21, 3) := by decide +kernel
theorem dX2_link_102 : decode cX2_link 102 = .ok (.aload_n 0, 1) := by decide +kernel
theorem dX2_link_103 : decode cX2_link 103 = .ok (.iload 6, 2) := by decide +kernel
theorem dX2_link_105 : decode cX2_link 105 = .ok (.aload_n 1, 1) := by decide +kernel
theorem dX2_link_106 : decode cX2_link 106 = .ok (.aload_n 2, 1) := by decide +kernel
theorem dX2_link_107 : decode cX2_link 107 = .ok (.aload 4, 2) := by decide +kernel
theorem dX2_link_109 : decode cX2_link 109 = .ok (.invokevirtual 195, 3) := by decide +kernel
theorem dX2_link_112 : decode cX2_link 112 = .ok (.istore 5, 2) := by decide +kernel
theorem dX2_link_114 : decode cX2_link 114 = .ok (.iinc 6 1, 3) := by decide +kernel
theorem dX2_link_117 : decode cX2_link 117 = .ok (.goto (-27), 3) := by decide +kernel
theorem dX2_link_120 : decode cX2_link 120 = .ok (.iconst 0, 1) := by decide +kernel
theorem dX2_link_121 : decode cX2_link 121 = .ok (.istore 6, 2) := by decide +kernel
theorem dX2_link_123 : decode cX2_link 123 = .ok (.iload 6, 2) := by decide +kernel
theorem dX2_link_125 : decode cX2_link 125 = .ok (.bipush 10, 2) := by decide +kernel
theorem dX2_link_127 : decode cX2_link 127 = .ok (.if_icmp .ge 99, 3) := by decide +kernel
theorem dX2_link_130 : decode cX2_link 130 = .ok (.iload 5, 2) := by decide +kernel
theorem dX2_link_132 : decode cX2_link 132 = .ok (.ifCond .ne 94, 3) := by decide +kernel
theorem dX2_link_135 : decode cX2_link 135 = .ok (.iload_n 3, 1) := by decide +kernel
theorem dX2_link_136 : decode cX2_link 136 = .ok (.iload 6, 2) := by decide +kernel
theorem dX2_link_138 : decode cX2_link 138 = .ok (.invokestatic 199, 3) := by decide +kernel
theorem dX2_link_141 : decode cX2_link 141 = .ok (.ifCond .eq 13, 3) := by decide +kernel
theorem dX2_link_144 : decode cX2_link 144 = .ok (.aload_n 2, 1) := by decide +kernel
theorem dX2_link_145 : decode cX2_link 145 = .ok (.getfield 203, 3) := by decide +kernel
theorem dX2_link_148 : decode cX2_link 148 = .ok (.iload 6, 2) := by decide +kernel
theorem dX2_link_150 : decode cX2_link 150 = .ok (.iaload, 1) := by decide +kernel
theorem dX2_link_151 : decode cX2_link 151 = .ok (.goto 4, 3) := by decide +kernel
theorem dX2_link_154 : decode cX2_link 154 = .ok (.iconst 0, 1) := by decide +kernel
theorem dX2_link_155 : decode cX2_link 155 = .ok (.istore 7, 2) := by decide +kernel
theorem dX2_link_157 : decode cX2_link 157 = .ok (.aload_n 1, 1) := by decide +kernel
theorem dX2_link_158 : decode cX2_link 158 = .ok (.iload 6, 2) := by decide +kernel
theorem dX2_link_160 : decode cX2_link 160 = .ok (.invokevirtual 206, 3) := by decide +kernel
theorem dX2_link_163 : decode cX2_link 163 = .ok (.ifCond .eq 23, 3) := by decide +kernel
theorem dX2_link_166 : decode cX2_link 166 = .ok (.iload 7, 2) := by decide +kernel
theorem dX2_link_168 : decode cX2_link 168 = .ok (.ifCond .eq 18, 3) := by decide +kernel
theorem dX2_link_171 : decode cX2_link 171 = .ok (.aload_n 0, 1) := by decide +kernel
theorem dX2_link_172 : decode cX2_link 172 = .ok (.iload 6, 2) := by decide +kernel
theorem dX2_link_174 : decode cX2_link 174 = .ok (.aload_n 1, 1) := by decide +kernel
theorem dX2_link_175 : decode cX2_link 175 = .ok (.aload_n 2, 1) := by decide +kernel
theorem dX2_link_176 : decode cX2_link 176 = .ok (.aload 4, 2) := by decide +kernel
theorem dX2_link_178 : decode cX2_link 178 = .ok (.invokevirtual 210, 3) := by decide +kernel
theorem dX2_link_181 : decode cX2_link 181 = .ok (.istore 5, 2) := by decide +kernel
theorem dX2_link_183 : decode cX2_link 183 = .ok (.goto 37, 3) := by decide +kernel
theorem dX2_link_186 : decode cX2_link 186 = .ok (.aload_n 1, 1) := by decide +kernel
theorem dX2_link_187 : decode cX2_link 187 = .ok (.iload 6, 2) := by decide +kernel
theorem dX2_link_189 : decode cX2_link 189 = .ok (.invokevirtual 206, 3) := by decide +kernel
theorem dX2_link_192 : decode cX2_link 192 = .ok (.ifCond .ne 8, 3) := by decide +kernel
theorem dX2_link_195 : decode cX2_link 195 = .ok (.iload 7, 2) := by decide +kernel
theorem dX2_link_197 : decode cX2_link 197 = .ok (.ifCond .eq 23, 3) := by decide +kernel
theorem dX2_link_200 : decode cX2_link 200 = .ok (.aload_n 0, 1) := by decide +kernel
theorem dX2_link_201 : decode cX2_link 201 = .ok (.iload 6, 2) := by decide +kernel
theorem dX2_link_203 : decode cX2_link 203 = .ok (.iload 7, 2) := by decide +kernel
theorem dX2_link_205 : decode cX2_link 205 = .ok (.ifCond .ne 7, 3) := by decide +kernel
theorem dX2_link_208 : decode cX2_link 208 = .ok (.aload_n 1, 1) := by decide +kernel
theorem dX2_link_209 : decode cX2_link 209 = .ok (.goto 4, 3) := by decide +kernel
theorem dX2_link_212 : decode cX2_link 212 = .ok (.aload_n 2, 1) := by decide +kernel
theorem dX2_link_213 : decode cX2_link 213 = .ok (.aload 4, 2) := by decide +kernel
theorem dX2_link_215 : decode cX2_link 215 = .ok (.invokevirtual 213, 3) := by decide +kernel
theorem dX2_link_218 : decode cX2_link 218 = .ok (.istore 5, 2) := by decide +kernel
theorem dX2_link_220 : decode cX2_link 220 = .ok (.iinc 6 1, 3) := by decide +kernel
theorem dX2_link_223 : decode cX2_link 223 = .ok (.goto (-100), 3) := by decide +kernel
theorem dX2_link_226 : decode cX2_link 226 = .ok (.iload 5, 2) := by decide +kernel
theorem dX2_link_228 : decode cX2_link 228 = .ok (.ireturn, 1) := by decide +kernel
theorem dX2_linkType_0 : decode cX2_linkType 0 = .ok (.aload_n 0, 1) := by decide +kernel
theorem dX2_linkType_1 : decode cX2_linkType 1 = .ok (.getfield 21, 3) := by decide +kernel
theorem dX2_linkType_4 : decode cX2_linkType 4 = .ok (.getfield 217, 3) := by decide +kernel
theorem dX2_linkType_7 : decode cX2_linkType 7 = .ok (.iload_n 1, 1) := by decide +kernel
theorem dX2_linkType_8 : decode cX2_linkType 8 = .ok (.iaload, 1) := by decide +kernel
theorem dX2_linkType_9 : decode cX2_linkType 9 = .ok (.ifCond .le 30, 3) := by decide +kernel
theorem dX2_linkType_12 : decode cX2_linkType 12 = .ok (.aload 4, 2) := by decide +kernel
theorem dX2_linkType_14 : decode cX2_linkType 14 = .ok (.iload_n 1, 1) := by decide +kernel
theorem dX2_linkType_15 : decode cX2_linkType 15 = .ok (.aload_n 0, 1) := by decide +kernel
theorem dX2_linkType_16 : decode cX2_linkType 16 = .ok (.getfield 21, 3) := by decide +kernel
theorem dX2_linkType_19 : decode cX2_linkType 19 = .ok (.getfield 218, 3) := by decide +kernel
theorem dX2_linkType_22 : decode cX2_linkType 22 = .ok (.iload_n 1, 1) := by decide +kernel
theorem dX2_linkType_23 : decode cX2_linkType 23 = .ok (.aaload, 1) := by decide +kernel
theorem dX2_linkType_24 : decode cX2_linkType 24 = .ok (.aload_n 0, 1) := by decide +kernel
theorem dX2_linkType_25 : decode cX2_linkType 25 = .ok (.getfield 21, 3) := by decide +kernel
theorem dX2_linkType_28 : decode cX2_linkType 28 = .ok (.getfield 217, 3) := by decide +kernel
theorem dX2_linkType_31 : decode cX2_linkType 31 = .ok (.iload_n 1, 1) := by decide +kernel
theorem dX2_linkType_32 : decode cX2_linkType 32 = .ok (.iaload, 1) := by decide +kernel
theorem dX2_linkType_33 : decode cX2_linkType 33 = .ok (.invokevirtual 219, 3) := by decide +kernel
theorem dX2_linkType_36 : decode cX2_linkType 36 = .ok (.goto 25, 3) := by decide +kernel
theorem dX2_linkType_39 : decode cX2_linkType 39 = .ok (.aload_n 2, 1) := by decide +kernel
theorem dX2_linkType_40 : decode cX2_linkType 40 = .ok (.iload_n 1, 1) := by decide +kernel
theorem dX2_linkType_41 : decode cX2_linkType 41 = .ok (.invokevirtual 222, 3) := by decide +kernel
theorem dX2_linkType_44 : decode cX2_linkType 44 = .ok (.ifCond .ne 11, 3) := by decide +kernel
theorem dX2_linkType_47 : decode cX2_linkType 47 = .ok (.aload_n 3, 1) := by decide +kernel
theorem dX2_linkType_48 : decode cX2_linkType 48 = .ok (.iload_n 1, 1) := by decide +kernel
theorem dX2_linkType_49 : decode cX2_linkType 49 = .ok (.invokevirtual 222, 3) := by decide +kernel
theorem dX2_linkType_52 : decode cX2_linkType 52 = .ok (.ifCond .eq 9, 3) := by decide +kernel
theorem dX2_linkType_55 : decode cX2_linkType 55 = .ok (.aload 4, 2) := by decide +kernel
theorem dX2_linkType_57 : decode cX2_linkType 57 = .ok (.iload_n 1, 1) := by decide +kernel
theorem dX2_linkType_58 : decode cX2_linkType 58 = .ok (.invokevirtual 225, 3) := by decide +kernel
theorem dX2_linkType_61 : decode cX2_linkType 61 = .ok (.aload_n 2, 1) := by decide +kernel
theorem dX2_linkType_62 : decode cX2_linkType 62 = .ok (.getfield 178, 3) := by decide +kernel
theorem dX2_linkType_65 : decode cX2_linkType 65 = .ok (.iload_n 1, 1) := by decide +kernel
theorem dX2_linkType_66 : decode cX2_linkType 66 = .ok (.iaload, 1) := by decide +kernel
theorem dX2_linkType_67 : decode cX2_linkType 67 = .ok (.iconst 2, 1) := by decide +kernel
theorem dX2_linkType_68 : decode cX2_linkType 68 = .ok (.if_icmp .ne 13, 3) := by decide +kernel
theorem dX2_linkType_71 : decode cX2_linkType 71 = .ok (.aload_n 3, 1) := by decide +kernel
theorem dX2_linkType_72 : decode cX2_linkType 72 = .ok (.getfield 178, 3) := by decide +kernel
theorem dX2_linkType_75 : decode cX2_linkType 75 = .ok (.iload_n 1, 1) := by decide +kernel
theorem dX2_linkType_76 : decode cX2_linkType 76 = .ok (.iaload, 1) := by decide +kernel
theorem dX2_linkType_77 : decode cX2_linkType 77 = .ok (.iconst 2, 1) := by decide +kernel
theorem dX2_linkType_78 : decode cX2_linkType 78 = .ok (.if_icmp .eq 5, 3) := by decide +kernel
theorem dX2_linkType_81 : decode cX2_linkType 81 = .ok (.iconst 0, 1) := by decide +kernel
theorem dX2_linkType_82 : decode cX2_linkType 82 = .ok (.ireturn, 1) := by decide +kernel
theorem dX2_linkType_83 : decode cX2_linkType 83 = .ok (.aload_n 0, 1) := by decide +kernel
theorem dX2_linkType_84 : decode cX2_linkType 84 = .ok (.getfield 21, 3) := by decide +kernel
theorem dX2_linkType_87 : decode cX2_linkType 87 = .ok (.aload_n 3, 1) := by decide +kernel
theorem dX2_linkType_88 : decode cX2_linkType 88 = .ok (.getfield 181, 3) := by decide +kernel
theorem dX2_linkType_91 : decode cX2_linkType 91 = .ok (.iload_n 1, 1) := by decide +kernel
theorem dX2_linkType_92 : decode cX2_linkType 92 = .ok (.aaload, 1) := by decide +kernel
theorem dX2_linkType_93 : decode cX2_linkType 93 = .ok (.aload_n 3, 1) := by decide +kernel
theorem dX2_linkType_94 : decode cX2_linkType 94 = .ok (.getfield 185, 3) := by decide +kernel
theorem dX2_linkType_97 : decode cX2_linkType 97 = .ok (.iload_n 1, 1) := by decide +kernel
theorem dX2_linkType_98 : decode cX2_linkType 98 = .ok (.iaload, 1) := by decide +kernel
theorem dX2_linkType_99 : decode cX2_linkType 99 = .ok (.aload_n 0, 1) := by decide +kernel
theorem dX2_linkType_100 : decode cX2_linkType 100 = .ok (.getfield 35, 3) := by decide +kernel
theorem dX2_linkType_103 : decode cX2_linkType 103 = .ok (.invokevirtual 229, 3) := by decide +kernel
theorem dX2_linkType_106 : decode cX2_linkType 106 = .ok (.istore 5, 2) := by decide +kernel
theorem dX2_linkType_108 : decode cX2_linkType 108 = .ok (.aload_n 0, 1) := by decide +kernel
theorem dX2_linkType_109 : decode cX2_linkType 109 = .ok (.getfield 35, 3) := by decide +kernel
theorem dX2_linkType_112 : decode cX2_linkType 112 = .ok (.iload 5, 2) := by decide +kernel
theorem dX2_linkType_114 : decode cX2_linkType 114 = .ok (.aload_n 0, 1) := by decide +kernel
theorem dX2_linkType_115 : decode cX2_linkType 115 = .ok (.getfield 21, 3) := by decide +kernel
theorem dX2_linkType_118 : decode cX2_linkType 118 = .ok (.getfield 218, 3) := by decide +kernel
theorem dX2_linkType_121 : decode cX2_linkType 121 = .ok (.iload_n 1, 1) := by decide +kernel
theorem dX2_linkType_122 : decode cX2_linkType 122 = .ok (.aaload, 1) := by decide +kernel
theorem dX2_linkType_123 : decode cX2_linkType 123 = .ok (.aload_n 0, 1) := by decide +kernel
theorem dX2_linkType_124 : decode cX2_linkType 124 = .ok (.getfield 21, 3) := by decide +kernel
theorem dX2_linkType_127 : decode cX2_linkType 127 = .ok (.getfield 217, 3) := by decide +kernel
theorem dX2_linkType_130 : decode cX2_linkType 130 = .ok (.iload_n 1, 1) := by decide +kernel
theorem dX2_linkType_131 : decode cX2_linkType 131 = .ok (.iaload, 1) := by decide +kernel
theorem dX2_linkType_132 : decode cX2_linkType 132 = .ok (.invokestatic 233, 3) := by decide +kernel
theorem dX2_linkType_135 : decode cX2_linkType 135 = .ok (.ifCond .eq 7, 3) := by decide +kernel
theorem dX2_linkType_138 : decode cX2_linkType 138 = .ok (.iconst 0, 1) := by decide +kernel
theorem dX2_linkType_139 : decode cX2_linkType 139 = .ok (.goto 8, 3) := by decide +kernel
theorem dX2_linkType_142 : decode cX2_linkType 142 = .ok (.iconst 4, 1) := by decide +kernel
theorem dX2_linkType_143 : decode cX2_linkType 143 = .ok (.iload_n 1, 1) := by decide +kernel
theorem dX2_linkType_144 : decode cX2_linkType 144 = .ok (.invokestatic 237, 3) := by decide +kernel
theorem dX2_linkType_147 : decode cX2_linkType 147 = .ok (.ireturn, 1) := by decide +kernel
theorem dX2_linkOne_0 : decode cX2_linkOne 0 = .ok (.aload_n 0, 1) := by decide +kernel
theorem dX2_linkOne_1 : decode cX2_linkOne 1 = .ok (.getfield 21, 3) := by decide +kernel
theorem dX2_linkOne_4 : decode cX2_linkOne 4 = .ok (.aload_n 2, 1) := by decide +kernel
theorem dX2_linkOne_5 : decode cX2_linkOne 5 = .ok (.getfield 181, 3) := by decide +kernel
theorem dX2_linkOne_8 : decode cX2_linkOne 8 = .ok (.bipush 6, 2) := by decide +kernel
theorem dX2_linkOne_10 : decode cX2_linkOne 10 = .ok (.iload_n 1, 1) := by decide +kernel
theorem dX2_linkOne_11 : decode cX2_linkOne 11 = .ok (.iadd, 1) := by decide +kernel
theorem dX2_linkOne_12 : decode cX2_linkOne 12 = .ok (.aaload, 1) := by decide +kernel
theorem dX2_linkOne_13 : decode cX2_linkOne 13 = .ok (.aload_n 2, 1) := by decide +kernel
