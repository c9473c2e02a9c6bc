theorem dX0_init_0 : decode cX0_init 0 = .ok (.aload_n 0, 1) := by decide +kernel
theorem dX0_init_1 : decode cX0_init 1 = .ok (.invokespecial 5, 3) := by decide +kernel
theorem dX0_init_4 : decode cX0_init 4 = .ok (.aload_n 0, 1) := by decide +kernel
theorem dX0_init_5 : decode cX0_init 5 = .ok (.bipush 8, 2) := by decide +kernel
theorem dX0_init_7 : decode cX0_init 7 = .ok (.newarray .int, 2) := by decide +kernel
theorem dX0_init_9 : decode cX0_init 9 = .ok (.putfield 11, 3) := by decide +kernel
theorem dX0_init_12 : decode cX0_init 12 = .ok (.aload_n 0, 1) := by decide +kernel
theorem dX0_init_13 : decode cX0_init 13 = .ok (.bipush 8, 2) := by decide +kernel
theorem dX0_init_15 : decode cX0_init 15 = .ok (.newarray .int, 2) := by decide +kernel
theorem dX0_init_17 : decode cX0_init 17 = .ok (.putfield 17, 3) := by decide +kernel
theorem dX0_init_20 : decode cX0_init 20 = .ok (.aload_n 0, 1) := by decide +kernel
theorem dX0_init_21 : decode cX0_init 21 = .ok (.bipush 8, 2) := by decide +kernel
theorem dX0_init_23 : decode cX0_init 23 = .ok (.newarray .int, 2) := by decide +kernel
theorem dX0_init_25 : decode cX0_init 25 = .ok (.putfield 20, 3) := by decide +kernel
theorem dX0_init_28 : decode cX0_init 28 = .ok (.aload_n 0, 1) := by decide +kernel
theorem dX0_init_29 : decode cX0_init 29 = .ok (.bipush 8, 2) := by decide +kernel
theorem dX0_init_31 : decode cX0_init 31 = .ok (.newarray .int, 2) := by decide +kernel
theorem dX0_init_33 : decode cX0_init 33 = .ok (.putfield 23, 3) := by decide +kernel
theorem dX0_init_36 : decode cX0_init 36 = .ok (.aload_n 0, 1) := by decide +kernel
theorem dX0_init_37 : decode cX0_init 37 = .ok (.bipush 8, 2) := by decide +kernel
theorem dX0_init_39 : decode cX0_init 39 = .ok (.newarray .boolean, 2) := by decide +kernel
theorem dX0_init_41 : decode cX0_init 41 = .ok (.putfield 26, 3) := by decide +kernel
theorem dX0_init_44 : decode cX0_init 44 = .ok (.aload_n 0, 1) := by decide +kernel
theorem dX0_init_45 : decode cX0_init 45 = .ok (.bipush 8, 2) := by decide +kernel
theorem dX0_init_47 : decode cX0_init 47 = .ok (.newarray .boolean, 2) := by decide +kernel
theorem dX0_init_49 : decode cX0_init 49 = .ok (.putfield 30, 3) := by decide +kernel
theorem dX0_init_52 : decode cX0_init 52 = .ok (.aload_n 0, 1) := by decide +kernel
theorem dX0_init_53 : decode cX0_init 53 = .ok (.sipush 128, 3) := by decide +kernel
theorem dX0_init_56 : decode cX0_init 56 = .ok (.newarray .int, 2) := by decide +kernel
theorem dX0_init_58 : decode cX0_init 58 = .ok (.putfield 33, 3) := by decide +kernel
theorem dX0_init_61 : decode cX0_init 61 = .ok (.aload_n 0, 1) := by decide +kernel
theorem dX0_init_62 : decode cX0_init 62 = .ok (.aload_n 1, 1) := by decide +kernel
theorem dX0_init_63 : decode cX0_init 63 = .ok (.putfield 36, 3) := by decide +kernel
theorem dX0_init_66 : decode cX0_init 66 = .ok (.return_, 1) := by decide +kernel
theorem dX0_placeOf_0 : decode cX0_placeOf 0 = .ok (.aload_n 0, 1) := by decide +kernel
theorem dX0_placeOf_1 : decode cX0_placeOf 1 = .ok (.aload_n 1, 1) := by decide +kernel
theorem dX0_placeOf_2 : decode cX0_placeOf 2 = .ok (.iload_n 2, 1) := by decide +kernel
theorem dX0_placeOf_3 : decode cX0_placeOf 3 = .ok (.iload 4, 2) := by decide +kernel
theorem dX0_placeOf_5 : decode cX0_placeOf 5 = .ok (.invokevirtual 40, 3) := by decide +kernel
theorem dX0_placeOf_8 : decode cX0_placeOf 8 = .ok (.aload_n 0, 1) := by decide +kernel
theorem dX0_placeOf_9 : decode cX0_placeOf 9 = .ok (.getfield 36, 3) := by decide +kernel
theorem dX0_placeOf_12 : decode cX0_placeOf 12 = .ok (.invokevirtual 44, 3) := by decide +kernel
theorem dX0_placeOf_15 : decode cX0_placeOf 15 = .ok (.aload_n 1, 1) := by decide +kernel
theorem dX0_placeOf_16 : decode cX0_placeOf 16 = .ok (.getfield 50, 3) := by decide +kernel
theorem dX0_placeOf_19 : decode cX0_placeOf 19 = .ok (.iload_n 2, 1) := by decide +kernel
theorem dX0_placeOf_20 : decode cX0_placeOf 20 = .ok (.iload_n 3, 1) := by decide +kernel
theorem dX0_placeOf_21 : decode cX0_placeOf 21 = .ok (.invokestatic 53, 3) := by decide +kernel
theorem dX0_placeOf_24 : decode cX0_placeOf 24 = .ok (.iload 4, 2) := by decide +kernel
theorem dX0_placeOf_26 : decode cX0_placeOf 26 = .ok (.iadd, 1) := by decide +kernel
theorem dX0_placeOf_27 : decode cX0_placeOf 27 = .ok (.iaload, 1) := by decide +kernel
theorem dX0_placeOf_28 : decode cX0_placeOf 28 = .ok (.imul, 1) := by decide +kernel
theorem dX0_placeOf_29 : decode cX0_placeOf 29 = .ok (.iadd, 1) := by decide +kernel
theorem dX0_placeOf_30 : decode cX0_placeOf 30 = .ok (.ireturn, 1) := by decide +kernel
theorem dX0_baseOf_0 : decode cX0_baseOf 0 = .ok (.aload_n 0, 1) := by decide +kernel
theorem dX0_baseOf_1 : decode cX0_baseOf 1 = .ok (.getfield 36, 3) := by decide +kernel
theorem dX0_baseOf_4 : decode cX0_baseOf 4 = .ok (.invokevirtual 44, 3) := by decide +kernel
theorem dX0_baseOf_7 : decode cX0_baseOf 7 = .ok (.aload_n 0, 1) := by decide +kernel
theorem dX0_baseOf_8 : decode cX0_baseOf 8 = .ok (.getfield 36, 3) := by decide +kernel
theorem dX0_baseOf_11 : decode cX0_baseOf 11 = .ok (.iload_n 2, 1) := by decide +kernel
theorem dX0_baseOf_12 : decode cX0_baseOf 12 = .ok (.iload_n 3, 1) := by decide +kernel
theorem dX0_baseOf_13 : decode cX0_baseOf 13 = .ok (.invokevirtual 57, 3) := by decide +kernel
theorem dX0_baseOf_16 : decode cX0_baseOf 16 = .ok (.imul, 1) := by decide +kernel
theorem dX0_baseOf_17 : decode cX0_baseOf 17 = .ok (.istore 4, 2) := by decide +kernel
theorem dX0_baseOf_19 : decode cX0_baseOf 19 = .ok (.iconst 0, 1) := by decide +kernel
theorem dX0_baseOf_20 : decode cX0_baseOf 20 = .ok (.istore 5, 2) := by decide +kernel
theorem dX0_baseOf_22 : decode cX0_baseOf 22 = .ok (.iload 5, 2) := by decide +kernel
theorem dX0_baseOf_24 : decode cX0_baseOf 24 = .ok (.iconst 4, 1) := by decide +kernel
theorem dX0_baseOf_25 : decode cX0_baseOf 25 = .ok (.if_icmp .ge 38, 3) := by decide +kernel
theorem dX0_baseOf_28 : decode cX0_baseOf 28 = .ok (.iload 4, 2) := by decide +kernel
theorem dX0_baseOf_30 : decode cX0_baseOf 30 = .ok (.aload_n 0, 1) := by decide +kernel
theorem dX0_baseOf_31 : decode cX0_baseOf 31 = .ok (.getfield 36, 3) := by decide +kernel
theorem dX0_baseOf_34 : decode cX0_baseOf 34 = .ok (.getfield 60, 3) := by decide +kernel
theorem dX0_baseOf_37 : decode cX0_baseOf 37 = .ok (.iload 5, 2) := by decide +kernel
theorem dX0_baseOf_39 : decode cX0_baseOf 39 = .ok (.iaload, 1) := by decide +kernel
theorem dX0_baseOf_40 : decode cX0_baseOf 40 = .ok (.aload_n 1, 1) := by decide +kernel
theorem dX0_baseOf_41 : decode cX0_baseOf 41 = .ok (.getfield 50, 3) := by decide +kernel
theorem dX0_baseOf_44 : decode cX0_baseOf 44 = .ok (.iload_n 2, 1) := by decide +kernel
theorem dX0_baseOf_45 : decode cX0_baseOf 45 = .ok (.iload 5, 2) := by decide +kernel
theorem dX0_baseOf_47 : decode cX0_baseOf 47 = .ok (.invokestatic 53, 3) := by decide +kernel
theorem dX0_baseOf_50 : decode cX0_baseOf 50 = .ok (.iload_n 3, 1) := by decide +kernel
theorem dX0_baseOf_51 : decode cX0_baseOf 51 = .ok (.iadd, 1) := by decide +kernel
theorem dX0_baseOf_52 : decode cX0_baseOf 52 = .ok (.iaload, 1) := by decide +kernel
theorem dX0_baseOf_53 : decode cX0_baseOf 53 = .ok (.imul, 1) := by decide +kernel
theorem dX0_baseOf_54 : decode cX0_baseOf 54 = .ok (.isub, 1) := by decide +kernel
theorem dX0_baseOf_55 : decode cX0_baseOf 55 = .ok (.istore 4, 2) := by decide +kernel
theorem dX0_baseOf_57 : decode cX0_baseOf 57 = .ok (.iinc 5 1, 3) := by decide +kernel
theorem dX0_baseOf_60 : decode cX0_baseOf 60 = .ok (.goto (-38), 3) := by decide +kernel
theorem dX0_baseOf_63 : decode cX0_baseOf 63 = .ok (.iload 4, 2) := by decide +kernel
theorem dX0_baseOf_65 : decode cX0_baseOf 65 = .ok (.ireturn, 1) := by decide +kernel
theorem dX0_isNear_0 : decode cX0_isNear 0 = .ok (.iload_n 1, 1) := by decide +kernel
theorem dX0_isNear_1 : decode cX0_isNear 1 = .ok (.invokestatic 63, 3) := by decide +kernel
theorem dX0_isNear_4 : decode cX0_isNear 4 = .ok (.aload_n 0, 1) := by decide +kernel
theorem dX0_isNear_5 : decode cX0_isNear 5 = .ok (.getfield 36, 3) := by decide +kernel
theorem dX0_isNear_8 : decode cX0_isNear 8 = .ok (.invokevirtual 44, 3) := by decide +kernel
theorem dX0_isNear_11 : decode cX0_isNear 11 = .ok (.aload_n 0, 1) := by decide +kernel
theorem dX0_isNear_12 : decode cX0_isNear 12 = .ok (.getfield 36, 3) := by decide +kernel
theorem dX0_isNear_15 : decode cX0_isNear 15 = .ok (.getfield 60, 3) := by decide +kernel
theorem dX0_isNear_18 : decode cX0_isNear 18 = .ok (.bipush 12, 2) := by decide +kernel
theorem dX0_isNear_20 : decode cX0_isNear 20 = .ok (.iaload, 1) := by decide +kernel
theorem dX0_isNear_21 : decode cX0_isNear 21 = .ok (.imul, 1) := by decide +kernel
theorem dX0_isNear_22 : decode cX0_isNear 22 = .ok (.if_icmp .gt 7, 3) := by decide +kernel
theorem dX0_isNear_25 : decode cX0_isNear 25 = .ok (.iconst 1, 1) := by decide +kernel
theorem dX0_isNear_26 : decode cX0_isNear 26 = .ok (.goto 4, 3) := by decide +kernel
theorem dX0_isNear_29 : decode cX0_isNear 29 = .ok (.iconst 0, 1) := by decide +kernel
theorem dX0_isNear_30 : decode cX0_isNear 30 = .ok (.ireturn, 1) := by decide +kernel
theorem dX0_measure_0 : decode cX0_measure 0 = .ok (.iconst 0, 1) := by decide +kernel
theorem dX0_measure_1 : decode cX0_measure 1 = .ok (.istore_n 2, 1) := by decide +kernel
theorem dX0_measure_2 : decode cX0_measure 2 = .ok (.iload_n 2, 1) := by decide +kernel
theorem dX0_measure_3 : decode cX0_measure 3 = .ok (.aload_n 1, 1) := by decide +kernel
theorem dX0_measure_4 : decode cX0_measure 4 = .ok (.getfield 69, 3) := by decide +kernel
theorem dX0_measure_7 : decode cX0_measure 7 = .ok (.if_icmp .ge 15, 3) := by decide +kernel
theorem dX0_measure_10 : decode cX0_measure 10 = .ok (.aload_n 0, 1) := by decide +kernel
theorem dX0_measure_11 : decode cX0_measure 11 = .ok (.aload_n 1, 1) := by decide +kernel
theorem dX0_measure_12 : decode cX0_measure 12 = .ok (.iload_n 2, 1) := by decide +kernel
theorem dX0_measure_13 : decode cX0_measure 13 = .ok (.invokevirtual 73, 3) := by decide +kernel
theorem dX0_measure_16 : decode cX0_measure 16 = .ok (.iinc 2 1, 3) := by decide +kernel
theorem dX0_measure_19 : decode cX0_measure 19 = .ok (.goto (-17), 3) := by decide +kernel
theorem dX0_measure_22 : decode cX0_measure 22 = .ok (.return_, 1) := by decide +kernel
theorem dX0_measureTenth_0 : decode cX0_measureTenth 0 = .ok (.aload_n 0, 1) := by decide +kernel
theorem dX0_measureTenth_1 : decode cX0_measureTenth 1 = .ok (.aload_n 1, 1) := by decide +kernel
theorem dX0_measureTenth_2 : decode cX0_measureTenth 2 = .ok (.iload_n 2, 1) := by decide +kernel
theorem dX0_measureTenth_3 : decode cX0_measureTenth 3 = .ok (.invokevirtual 77, 3) := by decide +kernel
theorem dX0_measureTenth_6 : decode cX0_measureTenth 6 = .ok (.aload_n 0, 1) := by decide +kernel
theorem dX0_measureTenth_7 : decode cX0_measureTenth 7 = .ok (.getfield 26, 3) := by decide +kernel
theorem dX0_measureTenth_10 : decode cX0_measureTenth 10 = .ok (.iload_n 2, 1) := by decide +kernel
theorem dX0_measureTenth_11 : decode cX0_measureTenth 11 = .ok (.aload_n 0, 1) := by decide +kernel
theorem dX0_measureTenth_12 : decode cX0_measureTenth 12 = .ok (.aload_n 1, 1) := by decide +kernel
theorem dX0_measureTenth_13 : decode cX0_measureTenth 13 = .ok (.iload_n 2, 1) := by decide +kernel
theorem dX0_measureTenth_14 : decode cX0_measureTenth 14 = .ok (.invokevirtual 80, 3) := by decide +kernel
theorem dX0_measureTenth_17 : decode cX0_measureTenth 17 = .ok (.bastore, 1) := by decide +kernel
theorem dX0_measureTenth_18 : decode cX0_measureTenth 18 = .ok (.aload_n 0, 1) := by decide +kernel
theorem dX0_measureTenth_19 : decode cX0_measureTenth 19 = .ok (.getfield 30, 3) := by decide +kernel
theorem dX0_measureTenth_22 : decode cX0_measureTenth 22 = .ok (.iload_n 2, 1) := by decide +kernel
theorem dX0_measureTenth_23 : decode cX0_measureTenth 23 = .ok (.aload_n 0, 1) := by decide +kernel
theorem dX0_measureTenth_24 : decode cX0_measureTenth 24 = .ok (.aload_n 1, 1) := by decide +kernel
theorem dX0_measureTenth_25 : decode cX0_measureTenth 25 = .ok (.iload_n 2, 1) := by decide +kernel
theorem dX0_measureTenth_26 : decode cX0_measureTenth 26 = .ok (.invokevirtual 84, 3) := by decide +kernel
theorem dX0_measureTenth_29 : decode cX0_measureTenth 29 = .ok (.bastore, 1) := by decide +kernel
theorem dX0_measureTenth_30 : decode cX0_measureTenth 30 = .ok (.iload_n 2, 1) := by decide +kernel
theorem dX0_measureTenth_31 : decode cX0_measureTenth 31 = .ok (.ifCond .le 19, 3) := by decide +kernel
theorem dX0_measureTenth_34 : decode cX0_measureTenth 34 = .ok (.aload_n 0, 1) := by decide +kernel
theorem dX0_measureTenth_35 : decode cX0_measureTenth 35 = .ok (.getfield 30, 3) := by decide +kernel
theorem dX0_measureTenth_38 : decode cX0_measureTenth 38 = .ok (.iload_n 2, 1) := by decide +kernel
theorem dX0_measureTenth_39 : decode cX0_measureTenth 39 = .ok (.iconst 1, 1) := by decide +kernel
theorem dX0_measureTenth_40 : decode cX0_measureTenth 40 = .ok (.isub, 1) := by decide +kernel
theorem dX0_measureTenth_41 : decode cX0_measureTenth 41 = .ok (.aload_n 0, 1) := by decide +kernel
theorem dX0_measureTenth_42 : decode cX0_measureTenth 42 = .ok (.aload_n 1, 1) := by decide +kernel
theorem dX0_measureTenth_43 : decode cX0_measureTenth 43 = .ok (.iload_n 2, 1) := by decide +kernel
theorem dX0_measureTenth_44 : decode cX0_measureTenth 44 = .ok (.iconst 1, 1) := by decide +kernel
theorem dX0_measureTenth_45 : decode cX0_measureTenth 45 = .ok (.isub, 1) := by decide +kernel
theorem dX0_measureTenth_46 : decode cX0_measureTenth 46 = .ok (.invokevirtual 84, 3) := by decide +kernel
theorem dX0_measureTenth_49 : decode cX0_measureTenth 49 = .ok (.bastore, 1) := by decide +kernel
theorem dX0_measureTenth_50 : decode cX0_measureTenth 50 = .ok (.return_, 1) := by decide +kernel
theorem dX0_measurePlaces_0 : decode cX0_measurePlaces 0 = .ok (.aload_n 0, 1) := by decide +kernel
theorem dX0_measurePlaces_1 : decode cX0_measurePlaces 1 = .ok (.getfield 36, 3) := by decide +kernel
theorem dX0_measurePlaces_4 : decode cX0_measurePlaces 4 = .ok (.invokevirtual 44, 3) := by decide +kernel
theorem dX0_measurePlaces_7 : decode cX0_measurePlaces 7 = .ok (.istore_n 3, 1) := by decide +kernel
theorem dX0_measurePlaces_8 : decode cX0_measurePlaces 8 = .ok (.aload_n 0, 1) := by decide +kernel
theorem dX0_measurePlaces_9 : decode cX0_measurePlaces 9 = .ok (.aload_n 1, 1) := by decide +kernel
theorem dX0_measurePlaces_10 : decode cX0_measurePlaces 10 = .ok (.iload_n 2, 1) := by decide +kernel
theorem dX0_measurePlaces_11 : decode cX0_measurePlaces 11 = .ok (.iconst 0, 1) := by decide +kernel
theorem dX0_measurePlaces_12 : decode cX0_measurePlaces 12 = .ok (.invokevirtual 40, 3) := by decide +kernel
theorem dX0_measurePlaces_15 : decode cX0_measurePlaces 15 = .ok (.istore 4, 2) := by decide +kernel
theorem dX0_measurePlaces_17 : decode cX0_measurePlaces 17 = .ok (.aload_n 0, 1) := by decide +kernel
theorem dX0_measurePlaces_18 : decode cX0_measurePlaces 18 = .ok (.aload_n 1, 1) := by decide +kernel
theorem dX0_measurePlaces_19 : decode cX0_measurePlaces 19 = .ok (.iload_n 2, 1) := by decide +kernel
theorem dX0_measurePlaces_20 : decode cX0_measurePlaces 20 = .ok (.iconst 1, 1) := by decide +kernel
theorem dX0_measurePlaces_21 : decode cX0_measurePlaces 21 = .ok (.invokevirtual 40, 3) := by decide +kernel
theorem dX0_measurePlaces_24 : decode cX0_measurePlaces 24 = .ok (.istore 5, 2) := by decide +kernel
theorem dX0_measurePlaces_26 : decode cX0_measurePlaces 26 = .ok (.aload_n 0, 1) := by decide +kernel
theorem dX0_measurePlaces_27 : decode cX0_measurePlaces 27 = .ok (.getfield 11, 3) := by decide +kernel
theorem dX0_measurePlaces_30 : decode cX0_measurePlaces 30 = .ok (.iload_n 2, 1) := by decide +kernel
theorem dX0_measurePlaces_31 : decode cX0_measurePlaces 31 = .ok (.ldc 87, 2) := by decide +kernel
theorem dX0_measurePlaces_33 : decode cX0_measurePlaces 33 = .ok (.iastore, 1) := by decide +kernel
theorem dX0_measurePlaces_34 : decode cX0_measurePlaces 34 = .ok (.aload_n 0, 1) := by decide +kernel
theorem dX0_measurePlaces_35 : decode cX0_measurePlaces 35 = .ok (.getfield 17, 3) := by decide +kernel
theorem dX0_measurePlaces_38 : decode cX0_measurePlaces 38 = .ok (.iload_n 2, 1) := by decide +kernel
theorem dX0_measurePlaces_39 : decode cX0_measurePlaces 39 = .ok (.ldc 88, 2) := by decide +kernel
theorem dX0_measurePlaces_41 : decode cX0_measurePlaces 41 = .ok (.iastore, 1) := by decide +kernel
theorem dX0_measurePlaces_42 : decode cX0_measurePlaces 42 = .ok (.aload_n 0, 1) := by decide +kernel
theorem dX0_measurePlaces_43 : decode cX0_measurePlaces 43 = .ok (.getfield 20, 3) := by decide +kernel
theorem dX0_measurePlaces_46 : decode cX0_measurePlaces 46 = .ok (.iload_n 2, 1) := by decide +kernel
theorem dX0_measurePlaces_47 : decode cX0_measurePlaces 47 = .ok (.ldc 87, 2) := by decide +kernel
theorem dX0_measurePlaces_49 : decode cX0_measurePlaces 49 = .ok (.iastore, 1) := by decide +kernel
theorem dX0_measurePlaces_50 : decode cX0_measurePlaces 50 = .ok (.iconst 0, 1) := by decide +kernel
theorem dX0_measurePlaces_51 : decode cX0_measurePlaces 51 = .ok (.istore 6, 2) := by decide +kernel
theorem dX0_measurePlaces_53 : decode cX0_measurePlaces 53 = .ok (.iload 6, 2) := by decide +kernel
theorem dX0_measurePlaces_55 : decode cX0_measurePlaces 55 = .ok (.iconst 4, 1) := by decide +kernel
theorem dX0_measurePlaces_56 : decode cX0_measurePlaces 56 = .ok (.if_icmp .ge 117, 3) := by decide +kernel
theorem dX0_measurePlaces_59 : decode cX0_measurePlaces 59 = .ok (.iload 4, 2) := by decide +kernel
theorem dX0_measurePlaces_61 : decode cX0_measurePlaces 61 = .ok (.iload_n 3, 1) := by decide +kernel
theorem dX0_measurePlaces_62 : decode cX0_measurePlaces 62 = .ok (.aload_n 1, 1) := by decide +kernel
theorem dX0_measurePlaces_63 : decode cX0_measurePlaces 63 = .ok (.getfield 50, 3) := by decide +kernel
theorem dX0_measurePlaces_66 : decode cX0_measurePlaces 66 = .ok (.iload_n 2, 1) := by decide +kernel
theorem dX0_measurePlaces_67 : decode cX0_measurePlaces 67 = .ok (.iload 6, 2) := by decide +kernel
theorem dX0_measurePlaces_69 : decode cX0_measurePlaces 69 = .ok (.invokestatic 53, 3) := by decide +kernel
theorem dX0_measurePlaces_72 : decode cX0_measurePlaces 72 = .ok (.iaload, 1) := by decide +kernel
theorem dX0_measurePlaces_73 : decode cX0_measurePlaces 73 = .ok (.imul, 1) := by decide +kernel
theorem dX0_measurePlaces_74 : decode cX0_measurePlaces 74 = .ok (.iadd, 1) := by decide +kernel
theorem dX0_measurePlaces_75 : decode cX0_measurePlaces 75 = .ok (.istore 7, 2) := by decide +kernel
theorem dX0_measurePlaces_77 : decode cX0_measurePlaces 77 = .ok (.iload 5, 2) := by decide +kernel
theorem dX0_measurePlaces_79 : decode cX0_measurePlaces 79 = .ok (.iload_n 3, 1) := by decide +kernel
theorem dX0_measurePlaces_80 : decode cX0_measurePlaces 80 = .ok (.aload_n 1, 1) := by decide +kernel
theorem dX0_measurePlaces_81 : decode cX0_measurePlaces 81 = .ok (.getfield 50, 3) := by decide +kernel
theorem dX0_measurePlaces_84 : decode cX0_measurePlaces 84 = .ok (.iload_n 2, 1) := by decide +kernel
theorem dX0_measurePlaces_85 : decode cX0_measurePlaces 85 = .ok (.iload 6, 2) := by decide +kernel
theorem dX0_measurePlaces_87 : decode cX0_measurePlaces 87 = .ok (.invokestatic 53, 3) := by decide +kernel
theorem dX0_measurePlaces_90 : decode cX0_measurePlaces 90 = .ok (.iconst 1, 1) := by decide +kernel
theorem dX0_measurePlaces_91 : decode cX0_measurePlaces 91 = .ok (.iadd, 1) := by decide +kernel
theorem dX0_measurePlaces_92 : decode cX0_measurePlaces 92 = .ok (.iaload, 1) := by decide +kernel
theorem dX0_measurePlaces_93 : decode cX0_measurePlaces 93 = .ok (.imul, 1) := by decide +kernel
theorem dX0_measurePlaces_94 : decode cX0_measurePlaces 94 = .ok (.iadd, 1) := by decide +kernel
theorem dX0_measurePlaces_95 : decode cX0_measurePlaces 95 = .ok (.istore 8, 2) := by decide +kernel
theorem dX0_measurePlaces_97 : decode cX0_measurePlaces 97 = .ok (.aload_n 0, 1) := by decide +kernel
theorem dX0_measurePlaces_98 : decode cX0_measurePlaces 98 = .ok (.getfield 11, 3) := by decide +kernel
theorem dX0_measurePlaces_101 : decode cX0_measurePlaces 101 = .ok (.iload_n 2, 1) := by decide +kernel
theorem dX0_measurePlaces_102 : decode cX0_measurePlaces 102 = .ok (.aload_n 0, 1) := by decide +kernel
theorem dX0_measurePlaces_103 : decode cX0_measurePlaces 103 = .ok (.getfield 11, 3) := by decide +kernel
theorem dX0_measurePlaces_106 : decode cX0_measurePlaces 106 = .ok (.iload_n 2, 1) := by decide +kernel
theorem dX0_measurePlaces_107 : decode cX0_measurePlaces 107 = .ok (.iaload, 1) := by decide +kernel
theorem dX0_measurePlaces_108 : decode cX0_measurePlaces 108 = .ok (.iload 7, 2) := by decide +kernel
theorem dX0_measurePlaces_110 : decode cX0_measurePlaces 110 = .ok (.invokestatic 89, 3) := by decide +kernel
theorem dX0_measurePlaces_113 : decode cX0_measurePlaces 113 = .ok (.iastore, 1) := by decide +kernel
theorem dX0_measurePlaces_114 : decode cX0_measurePlaces 114 = .ok (.aload_n 0, 1) := by decide +kernel
theorem dX0_measurePlaces_115 : decode cX0_measurePlaces 115 = .ok (.getfield 17, 3) := by decide +kernel
theorem dX0_measurePlaces_118 : decode cX0_measurePlaces 118 = .ok (.iload_n 2, 1) := by decide +kernel
theorem dX0_measurePlaces_119 : decode cX0_measurePlaces 119 = .ok (.aload_n 0, 1) := by decide +kernel
theorem dX0_measurePlaces_120 : decode cX0_measurePlaces 120 = .ok (.getfield 17, 3) := by decide +kernel
theorem dX0_measurePlaces_123 : decode cX0_measurePlaces 123 = .ok (.iload_n 2, 1) := by decide +kernel
theorem dX0_measurePlaces_124 : decode cX0_measurePlaces 124 = .ok (.iaload, 1) := by decide +kernel
theorem dX0_measurePlaces_125 : decode cX0_measurePlaces 125 = .ok (.iload 7, 2) := by decide +kernel
theorem dX0_measurePlaces_127 : decode cX0_measurePlaces 127 = .ok (.invokestatic 92, 3) := by decide +kernel
theorem dX0_measurePlaces_130 : decode cX0_measurePlaces 130 = .ok (.iastore, 1) := by decide +kernel
theorem dX0_measurePlaces_131 : decode cX0_measurePlaces 131 = .ok (.iload 8, 2) := by decide +kernel
theorem dX0_measurePlaces_133 : decode cX0_measurePlaces 133 = .ok (.aload_n 0, 1) := by decide +kernel
theorem dX0_measurePlaces_134 : decode cX0_measurePlaces 134 = .ok (.getfield 20, 3) := by decide +kernel
theorem dX0_measurePlaces_137 : decode cX0_measurePlaces 137 = .ok (.iload_n 2, 1) := by decide +kernel
theorem dX0_measurePlaces_138 : decode cX0_measurePlaces 138 = .ok (.iaload, 1) := by decide +kernel
theorem dX0_measurePlaces_139 : decode cX0_measurePlaces 139 = .ok (.if_icmp .ge 28, 3) := by decide +kernel
theorem dX0_measurePlaces_142 : decode cX0_measurePlaces 142 = .ok (.aload_n 0, 1) := by decide +kernel
theorem dX0_measurePlaces_143 : decode cX0_measurePlaces 143 = .ok (.iload 7, 2) := by decide +kernel
theorem dX0_measurePlaces_145 : decode cX0_measurePlaces 145 = .ok (.invokevirtual 95, 3) := by decide +kernel
theorem dX0_measurePlaces_148 : decode cX0_measurePlaces 148 = .ok (.ifCond .eq 19, 3) := by decide +kernel
theorem dX0_measurePlaces_151 : decode cX0_measurePlaces 151 = .ok (.aload_n 0, 1) := by decide +kernel
theorem dX0_measurePlaces_152 : decode cX0_measurePlaces 152 = .ok (.getfield 20, 3) := by decide +kernel
theorem dX0_measurePlaces_155 : decode cX0_measurePlaces 155 = .ok (.iload_n 2, 1) := by decide +kernel
theorem dX0_measurePlaces_156 : decode cX0_measurePlaces 156 = .ok (.iload 8, 2) := by decide +kernel
theorem dX0_measurePlaces_158 : decode cX0_measurePlaces 158 = .ok (.iastore, 1) := by decide +kernel
theorem dX0_measurePlaces_159 : decode cX0_measurePlaces 159 = .ok (.aload_n 0, 1) := by decide +kernel
theorem dX0_measurePlaces_160 : decode cX0_measurePlaces 160 = .ok (.getfield 23, 3) := by decide +kernel
theorem dX0_measurePlaces_163 : decode cX0_measurePlaces 163 = .ok (.iload_n 2, 1) := by decide +kernel
theorem dX0_measurePlaces_164 : decode cX0_measurePlaces 164 = .ok (.iload 6, 2) := by decide +kernel
theorem dX0_measurePlaces_166 : decode cX0_measurePlaces 166 = .ok (.iastore, 1) := by decide +kernel
theorem dX0_measurePlaces_167 : decode cX0_measurePlaces 167 = .ok (.iinc 6 1, 3) := by decide +kernel
theorem dX0_measurePlaces_170 : decode cX0_measurePlaces 170 = .ok (.goto (-117), 3) := by decide +kernel
theorem dX0_measurePlaces_173 : decode cX0_measurePlaces 173 = .ok (.return_, 1) := by decide +kernel
theorem dX0_isBent_0 : decode cX0_isBent 0 = .ok (.iconst 0, 1) := by decide +kernel
theorem dX0_isBent_1 : decode cX0_isBent 1 = .ok (.istore_n 3, 1) := by decide +kernel
theorem dX0_isBent_2 : decode cX0_isBent 2 = .ok (.iload_n 3, 1) := by decide +kernel
theorem dX0_isBent_3 : decode cX0_isBent 3 = .ok (.iconst 3, 1) := by decide +kernel
theorem dX0_isBent_4 : decode cX0_isBent 4 = .ok (.if_icmp .ge 79, 3) := by decide +kernel
theorem dX0_isBent_7 : decode cX0_isBent 7 = .ok (.iload_n 2, 1) := by decide +kernel
theorem dX0_isBent_8 : decode cX0_isBent 8 = .ok (.iload_n 3, 1) := by decide +kernel
theorem dX0_isBent_9 : decode cX0_isBent 9 = .ok (.invokestatic 53, 3) := by decide +kernel
theorem dX0_isBent_12 : decode cX0_isBent 12 = .ok (.istore 4, 2) := by decide +kernel
theorem dX0_isBent_14 : decode cX0_isBent 14 = .ok (.aload_n 1, 1) := by decide +kernel
theorem dX0_isBent_15 : decode cX0_isBent 15 = .ok (.getfield 50, 3) := by decide +kernel
theorem dX0_isBent_18 : decode cX0_isBent 18 = .ok (.iload 4, 2) := by decide +kernel
theorem dX0_isBent_20 : decode cX0_isBent 20 = .ok (.iaload, 1) := by decide +kernel
theorem dX0_isBent_21 : decode cX0_isBent 21 = .ok (.aload_n 1, 1) := by decide +kernel
theorem dX0_isBent_22 : decode cX0_isBent 22 = .ok (.getfield 50, 3) := by decide +kernel
theorem dX0_isBent_25 : decode cX0_isBent 25 = .ok (.iload 4, 2) := by decide +kernel
theorem dX0_isBent_27 : decode cX0_isBent 27 = .ok (.iconst 2, 1) := by decide +kernel
theorem dX0_isBent_28 : decode cX0_isBent 28 = .ok (.iadd, 1) := by decide +kernel
theorem dX0_isBent_29 : decode cX0_isBent 29 = .ok (.iaload, 1) := by decide +kernel
theorem dX0_isBent_30 : decode cX0_isBent 30 = .ok (.isub, 1) := by decide +kernel
theorem dX0_isBent_31 : decode cX0_isBent 31 = .ok (.invokestatic 63, 3) := by decide +kernel
theorem dX0_isBent_34 : decode cX0_isBent 34 = .ok (.aload_n 1, 1) := by decide +kernel
theorem dX0_isBent_35 : decode cX0_isBent 35 = .ok (.getfield 50, 3) := by decide +kernel
theorem dX0_isBent_38 : decode cX0_isBent 38 = .ok (.iload 4, 2) := by decide +kernel
theorem dX0_isBent_40 : decode cX0_isBent 40 = .ok (.iconst 1, 1) := by decide +kernel
theorem dX0_isBent_41 : decode cX0_isBent 41 = .ok (.iadd, 1) := by decide +kernel
theorem dX0_isBent_42 : decode cX0_isBent 42 = .ok (.iaload, 1) := by decide +kernel
theorem dX0_isBent_43 : decode cX0_isBent 43 = .ok (.aload_n 1, 1) := by decide +kernel
theorem dX0_isBent_44 : decode cX0_isBent 44 = .ok (.getfield 50, 3) := by decide +kernel
theorem dX0_isBent_47 : decode cX0_isBent 47 = .ok (.iload 4, 2) := by decide +kernel
theorem dX0_isBent_49 : decode cX0_isBent 49 = .ok (.iconst 3, 1) := by decide +kernel
theorem dX0_isBent_50 : decode cX0_isBent 50 = .ok (.iadd, 1) := by decide +kernel
theorem dX0_isBent_51 : decode cX0_isBent 51 = .ok (.iaload, 1) := by decide +kernel
theorem dX0_isBent_52 : decode cX0_isBent 52 = .ok (.isub, 1) := by decide +kernel
theorem dX0_isBent_53 : decode cX0_isBent 53 = .ok (.invokestatic 63, 3) := by decide +kernel
theorem dX0_isBent_56 : decode cX0_isBent 56 = .ok (.iadd, 1) := by decide +kernel
theorem dX0_isBent_57 : decode cX0_isBent 57 = .ok (.istore 5, 2) := by decide +kernel
theorem dX0_isBent_59 : decode cX0_isBent 59 = .ok (.iload 5, 2) := by decide +kernel
theorem dX0_isBent_61 : decode cX0_isBent 61 = .ok (.aload_n 0, 1) := by decide +kernel
theorem dX0_isBent_62 : decode cX0_isBent 62 = .ok (.getfield 36, 3) := by decide +kernel
theorem dX0_isBent_65 : decode cX0_isBent 65 = .ok (.getfield 60, 3) := by decide +kernel
theorem dX0_isBent_68 : decode cX0_isBent 68 = .ok (.iconst 4, 1) := by decide +kernel
theorem dX0_isBent_69 : decode cX0_isBent 69 = .ok (.iload_n 3, 1) := by decide +kernel
theorem dX0_isBent_70 : decode cX0_isBent 70 = .ok (.iadd, 1) := by decide +kernel
theorem dX0_isBent_71 : decode cX0_isBent 71 = .ok (.iaload, 1) := by decide +kernel
theorem dX0_isBent_72 : decode cX0_isBent 72 = .ok (.if_icmp .le 5, 3) := by decide +kernel
theorem dX0_isBent_75 : decode cX0_isBent 75 = .ok (.iconst 1, 1) := by decide +kernel
theorem dX0_isBent_76 : decode cX0_isBent 76 = .ok (.ireturn, 1) := by decide +kernel
theorem dX0_isBent_77 : decode cX0_isBent 77 = .ok (.iinc 3 1, 3) := by decide +kernel
theorem dX0_isBent_80 : decode cX0_isBent 80 = .ok (.goto (-78), 3) := by decide +kernel
theorem dX0_isBent_83 : decode cX0_isBent 83 = .ok (.iconst 0, 1) := by decide +kernel
theorem dX0_isBent_84 : decode cX0_isBent 84 = .ok (.ireturn, 1) := by decide +kernel
theorem dX0_isHasty_0 : decode cX0_isHasty 0 = .ok (.iload_n 2, 1) := by decide +kernel
theorem dX0_isHasty_1 : decode cX0_isHasty 1 = .ok (.iconst 1, 1) := by decide +kernel
theorem dX0_isHasty_2 : decode cX0_isHasty 2 = .ok (.iadd, 1) := by decide +kernel
theorem dX0_isHasty_3 : decode cX0_isHasty 3 = .ok (.aload_n 1, 1) := by decide +kernel
theorem dX0_isHasty_4 : decode cX0_isHasty 4 = .ok (.getfield 69, 3) := by decide +kernel
theorem dX0_isHasty_7 : decode cX0_isHasty 7 = .ok (.if_icmp .lt 5, 3) := by decide +kernel
theorem dX0_isHasty_10 : decode cX0_isHasty 10 = .ok (.iconst 0, 1) := by decide +kernel
theorem dX0_isHasty_11 : decode cX0_isHasty 11 = .ok (.ireturn, 1) := by decide +kernel
theorem dX0_isHasty_12 : decode cX0_isHasty 12 = .ok (.bipush 8, 2) := by decide +kernel
theorem dX0_isHasty_14 : decode cX0_isHasty 14 = .ok (.iload_n 2, 1) := by decide +kernel
theorem dX0_isHasty_15 : decode cX0_isHasty 15 = .ok (.iconst 1, 1) := by decide +kernel
theorem dX0_isHasty_16 : decode cX0_isHasty 16 = .ok (.iadd, 1) := by decide +kernel
theorem dX0_isHasty_17 : decode cX0_isHasty 17 = .ok (.imul, 1) := by decide +kernel
theorem dX0_isHasty_18 : decode cX0_isHasty 18 = .ok (.istore_n 3, 1) := by decide +kernel
theorem dX0_isHasty_19 : decode cX0_isHasty 19 = .ok (.iload_n 3, 1) := by decide +kernel
theorem dX0_isHasty_20 : decode cX0_isHasty 20 = .ok (.istore 4, 2) := by decide +kernel
theorem dX0_isHasty_22 : decode cX0_isHasty 22 = .ok (.iload 4, 2) := by decide +kernel
theorem dX0_isHasty_24 : decode cX0_isHasty 24 = .ok (.iload_n 3, 1) := by decide +kernel
theorem dX0_isHasty_25 : decode cX0_isHasty 25 = .ok (.bipush 8, 2) := by decide +kernel
theorem dX0_isHasty_27 : decode cX0_isHasty 27 = .ok (.iadd, 1) := by decide +kernel
theorem dX0_isHasty_28 : decode cX0_isHasty 28 = .ok (.if_icmp .ge 45, 3) := by decide +kernel
theorem dX0_isHasty_31 : decode cX0_isHasty 31 = .ok (.aload_n 1, 1) := by decide +kernel
theorem dX0_isHasty_32 : decode cX0_isHasty 32 = .ok (.getfield 50, 3) := by decide +kernel
theorem dX0_isHasty_35 : decode cX0_isHasty 35 = .ok (.iload 4, 2) := by decide +kernel
theorem dX0_isHasty_37 : decode cX0_isHasty 37 = .ok (.iaload, 1) := by decide +kernel
theorem dX0_isHasty_38 : decode cX0_isHasty 38 = .ok (.aload_n 1, 1) := by decide +kernel
theorem dX0_isHasty_39 : decode cX0_isHasty 39 = .ok (.getfield 50, 3) := by decide +kernel
theorem dX0_isHasty_42 : decode cX0_isHasty 42 = .ok (.iload 4, 2) := by decide +kernel
theorem dX0_isHasty_44 : decode cX0_isHasty 44 = .ok (.bipush 8, 2) := by decide +kernel
theorem dX0_isHasty_46 : decode cX0_isHasty 46 = .ok (.isub, 1) := by decide +kernel
theorem dX0_isHasty_47 : decode cX0_isHasty 47 = .ok (.iaload, 1) := by decide +kernel
theorem dX0_isHasty_48 : decode cX0_isHasty 48 = .ok (.isub, 1) := by decide +kernel
theorem dX0_isHasty_49 : decode cX0_isHasty 49 = .ok (.invokestatic 63, 3) := by decide +kernel
theorem dX0_isHasty_52 : decode cX0_isHasty 52 = .ok (.aload_n 0, 1) := by decide +kernel
theorem dX0_isHasty_53 : decode cX0_isHasty 53 = .ok (.getfield 36, 3) := by decide +kernel
theorem dX0_isHasty_56 : decode cX0_isHasty 56 = .ok (.getfield 60, 3) := by decide +kernel
theorem dX0_isHasty_59 : decode cX0_isHasty 59 = .ok (.bipush 13, 2) := by decide +kernel
theorem dX0_isHasty_61 : decode cX0_isHasty 61 = .ok (.iaload, 1) := by decide +kernel
theorem dX0_isHasty_62 : decode cX0_isHasty 62 = .ok (.if_icmp .le 5, 3) := by decide +kernel
theorem dX0_isHasty_65 : decode cX0_isHasty 65 = .ok (.iconst 1, 1) := by decide +kernel
theorem dX0_isHasty_66 : decode cX0_isHasty 66 = .ok (.ireturn, 1) := by decide +kernel
theorem dX0_isHasty_67 : decode cX0_isHasty 67 = .ok (.iinc 4 1, 3) := by decide +kernel
theorem dX0_isHasty_70 : decode cX0_isHasty 70 = .ok (.goto (-48), 3) := by decide +kernel
theorem dX0_isHasty_73 : decode cX0_isHasty 73 = .ok (.iconst 0, 1) := by decide +kernel
theorem dX0_isHasty_74 : decode cX0_isHasty 74 = .ok (.ireturn, 1) := by decide +kernel
theorem dX0_getsAcross_0 : decode cX0_getsAcross 0 = .ok (.aload_n 0, 1) := by decide +kernel
theorem dX0_getsAcross_1 : decode cX0_getsAcross 1 = .ok (.getfield 17, 3) := by decide +kernel
theorem dX0_getsAcross_4 : decode cX0_getsAcross 4 = .ok (.iconst 0, 1) := by decide +kernel
theorem dX0_getsAcross_5 : decode cX0_getsAcross 5 = .ok (.iaload, 1) := by decide +kernel
theorem dX0_getsAcross_6 : decode cX0_getsAcross 6 = .ok (.ifCond .ge 21, 3) := by decide +kernel
theorem dX0_getsAcross_9 : decode cX0_getsAcross 9 = .ok (.aload_n 0, 1) := by decide +kernel
theorem dX0_getsAcross_10 : decode cX0_getsAcross 10 = .ok (.getfield 11, 3) := by decide +kernel
theorem dX0_getsAcross_13 : decode cX0_getsAcross 13 = .ok (.aload_n 1, 1) := by decide +kernel
theorem dX0_getsAcross_14 : decode cX0_getsAcross 14 = .ok (.getfield 69, 3) := by decide +kernel
theorem dX0_getsAcross_17 : decode cX0_getsAcross 17 = .ok (.iconst 1, 1) := by decide +kernel
theorem dX0_getsAcross_18 : decode cX0_getsAcross 18 = .ok (.isub, 1) := by decide +kernel
theorem dX0_getsAcross_19 : decode cX0_getsAcross 19 = .ok (.iaload, 1) := by decide +kernel
theorem dX0_getsAcross_20 : decode cX0_getsAcross 20 = .ok (.ifCond .le 7, 3) := by decide +kernel
theorem dX0_getsAcross_23 : decode cX0_getsAcross 23 = .ok (.iconst 1, 1) := by decide +kernel
theorem dX0_getsAcross_24 : decode cX0_getsAcross 24 = .ok (.goto 4, 3) := by decide +kernel
theorem dX0_getsAcross_27 : decode cX0_getsAcross 27 = .ok (.iconst 0, 1) := by decide +kernel
theorem dX0_getsAcross_28 : decode cX0_getsAcross 28 = .ok (.ireturn, 1) := by decide +kernel
theorem dX0_lowestTenth_0 : decode cX0_lowestTenth 0 = .ok (.iconst (-1), 1) := by decide +kernel
theorem dX0_lowestTenth_1 : decode cX0_lowestTenth 1 = .ok (.istore_n 2, 1) := by decide +kernel
theorem dX0_lowestTenth_2 : decode cX0_lowestTenth 2 = .ok (.ldc 87, 2) := by decide +kernel
theorem dX0_lowestTenth_4 : decode cX0_lowestTenth 4 = .ok (.istore_n 3, 1) := by decide +kernel
theorem dX0_lowestTenth_5 : decode cX0_lowestTenth 5 = .ok (.iconst 0, 1) := by decide +kernel
theorem dX0_lowestTenth_6 : decode cX0_lowestTenth 6 = .ok (.istore 4, 2) := by decide +kernel
theorem dX0_lowestTenth_8 : decode cX0_lowestTenth 8 = .ok (.iload 4, 2) := by decide +kernel
theorem dX0_lowestTenth_10 : decode cX0_lowestTenth 10 = .ok (.aload_n 1, 1) := by decide +kernel
theorem dX0_lowestTenth_11 : decode cX0_lowestTenth 11 = .ok (.getfield 69, 3) := by decide +kernel
theorem dX0_lowestTenth_14 : decode cX0_lowestTenth 14 = .ok (.if_icmp .ge 31, 3) := by decide +kernel
theorem dX0_lowestTenth_17 : decode cX0_lowestTenth 17 = .ok (.aload_n 0, 1) := by decide +kernel
theorem dX0_lowestTenth_18 : decode cX0_lowestTenth 18 = .ok (.getfield 20, 3) := by decide +kernel
theorem dX0_lowestTenth_21 : decode cX0_lowestTenth 21 = .ok (.iload 4, 2) := by decide +kernel
theorem dX0_lowestTenth_23 : decode cX0_lowestTenth 23 = .ok (.iaload, 1) := by decide +kernel
theorem dX0_lowestTenth_24 : decode cX0_lowestTenth 24 = .ok (.iload_n 3, 1) := by decide +kernel
theorem dX0_lowestTenth_25 : decode cX0_lowestTenth 25 = .ok (.if_icmp .ge 14, 3) := by decide +kernel
theorem dX0_lowestTenth_28 : decode cX0_lowestTenth 28 = .ok (.aload_n 0, 1) := by decide +kernel
theorem dX0_lowestTenth_29 : decode cX0_lowestTenth 29 = .ok (.getfield 20, 3) := by decide +kernel
theorem dX0_lowestTenth_32 : decode cX0_lowestTenth 32 = .ok (.iload 4, 2) := by decide +kernel
theorem dX0_lowestTenth_34 : decode cX0_lowestTenth 34 = .ok (.iaload, 1) := by decide +kernel
theorem dX0_lowestTenth_35 : decode cX0_lowestTenth 35 = .ok (.istore_n 3, 1) := by decide +kernel
theorem dX0_lowestTenth_36 : decode cX0_lowestTenth 36 = .ok (.iload 4, 2) := by decide +kernel
theorem dX0_lowestTenth_38 : decode cX0_lowestTenth 38 = .ok (.istore_n 2, 1) := by decide +kernel
theorem dX0_lowestTenth_39 : decode cX0_lowestTenth 39 = .ok (.iinc 4 1, 3) := by decide +kernel
theorem dX0_lowestTenth_42 : decode cX0_lowestTenth 42 = .ok (.goto (-34), 3) := by decide +kernel
theorem dX0_lowestTenth_45 : decode cX0_lowestTenth 45 = .ok (.iload_n 2, 1) := by decide +kernel
theorem dX0_lowestTenth_46 : decode cX0_lowestTenth 46 = .ok (.ireturn, 1) := by decide +kernel
theorem dX0_clears_0 : decode cX0_clears 0 = .ok (.aload_n 0, 1) := by decide +kernel
theorem dX0_clears_1 : decode cX0_clears 1 = .ok (.aload_n 1, 1) := by decide +kernel
theorem dX0_clears_2 : decode cX0_clears 2 = .ok (.invokevirtual 99, 3) := by decide +kernel
theorem dX0_clears_5 : decode cX0_clears 5 = .ok (.ifCond .ne 6, 3) := by decide +kernel
theorem dX0_clears_8 : decode cX0_clears 8 = .ok (.bipush (-4), 2) := by decide +kernel
theorem dX0_clears_10 : decode cX0_clears 10 = .ok (.ireturn, 1) := by decide +kernel
theorem dX0_clears_11 : decode cX0_clears 11 = .ok (.aload_n 0, 1) := by decide +kernel
theorem dX0_clears_12 : decode cX0_clears 12 = .ok (.aload_n 1, 1) := by decide +kernel
theorem dX0_clears_13 : decode cX0_clears 13 = .ok (.invokevirtual 103, 3) := by decide +kernel
theorem dX0_clears_16 : decode cX0_clears 16 = .ok (.istore_n 2, 1) := by decide +kernel
theorem dX0_clears_17 : decode cX0_clears 17 = .ok (.iload_n 2, 1) := by decide +kernel
theorem dX0_clears_18 : decode cX0_clears 18 = .ok (.ifCond .ge 7, 3) := by decide +kernel
theorem dX0_clears_21 : decode cX0_clears 21 = .ok (.sipush 999, 3) := by decide +kernel
theorem dX0_clears_24 : decode cX0_clears 24 = .ok (.ireturn, 1) := by decide +kernel
theorem dX0_clears_25 : decode cX0_clears 25 = .ok (.aload_n 0, 1) := by decide +kernel
theorem dX0_clears_26 : decode cX0_clears 26 = .ok (.getfield 20, 3) := by decide +kernel
theorem dX0_clears_29 : decode cX0_clears 29 = .ok (.iload_n 2, 1) := by decide +kernel
theorem dX0_clears_30 : decode cX0_clears 30 = .ok (.iaload, 1) := by decide +kernel
theorem dX0_clears_31 : decode cX0_clears 31 = .ok (.ifCond .ge 6, 3) := by decide +kernel
theorem dX0_clears_34 : decode cX0_clears 34 = .ok (.bipush (-4), 2) := by decide +kernel
theorem dX0_clears_36 : decode cX0_clears 36 = .ok (.ireturn, 1) := by decide +kernel
theorem dX0_clears_37 : decode cX0_clears 37 = .ok (.sipush 999, 3) := by decide +kernel
theorem dX0_clears_40 : decode cX0_clears 40 = .ok (.aload_n 0, 1) := by decide +kernel
theorem dX0_clears_41 : decode cX0_clears 41 = .ok (.getfield 20, 3) := by decide +kernel
theorem dX0_clears_44 : decode cX0_clears 44 = .ok (.iload_n 2, 1) := by decide +kernel
theorem dX0_clears_45 : decode cX0_clears 45 = .ok (.iaload, 1) := by decide +kernel
theorem dX0_clears_46 : decode cX0_clears 46 = .ok (.aload_n 0, 1) := by decide +kernel
theorem dX0_clears_47 : decode cX0_clears 47 = .ok (.getfield 36, 3) := by decide +kernel
theorem dX0_clears_50 : decode cX0_clears 50 = .ok (.invokevirtual 44, 3) := by decide +kernel
theorem dX0_clears_53 : decode cX0_clears 53 = .ok (.invokestatic 107, 3) := by decide +kernel
theorem dX0_clears_56 : decode cX0_clears 56 = .ok (.invokestatic 89, 3) := by decide +kernel
theorem dX0_clears_59 : decode cX0_clears 59 = .ok (.ireturn, 1) := by decide +kernel
theorem dX0_greatestMiddle_0 : decode cX0_greatestMiddle 0 = .ok (.ldc 88, 2) := by decide +kernel
theorem dX0_greatestMiddle_2 : decode cX0_greatestMiddle 2 = .ok (.istore_n 2, 1) := by decide +kernel
theorem dX0_greatestMiddle_3 : decode cX0_greatestMiddle 3 = .ok (.iconst 0, 1) := by decide +kernel
theorem dX0_greatestMiddle_4 : decode cX0_greatestMiddle 4 = .ok (.istore_n 3, 1) := by decide +kernel
theorem dX0_greatestMiddle_5 : decode cX0_greatestMiddle 5 = .ok (.iload_n 3, 1) := by decide +kernel
theorem dX0_greatestMiddle_6 : decode cX0_greatestMiddle 6 = .ok (.aload_n 1, 1) := by decide +kernel
theorem dX0_greatestMiddle_7 : decode cX0_greatestMiddle 7 = .ok (.getfield 69, 3) := by decide +kernel
theorem dX0_greatestMiddle_10 : decode cX0_greatestMiddle 10 = .ok (.if_icmp .ge 42, 3) := by decide +kernel
theorem dX0_greatestMiddle_13 : decode cX0_greatestMiddle 13 = .ok (.aload_n 0, 1) := by decide +kernel
theorem dX0_greatestMiddle_14 : decode cX0_greatestMiddle 14 = .ok (.getfield 20, 3) := by decide +kernel
theorem dX0_greatestMiddle_17 : decode cX0_greatestMiddle 17 = .ok (.iload_n 3, 1) := by decide +kernel
theorem dX0_greatestMiddle_18 : decode cX0_greatestMiddle 18 = .ok (.iaload, 1) := by decide +kernel
theorem dX0_greatestMiddle_19 : decode cX0_greatestMiddle 19 = .ok (.ldc 87, 2) := by decide +kernel
theorem dX0_greatestMiddle_21 : decode cX0_greatestMiddle 21 = .ok (.if_icmp .ge 25, 3) := by decide +kernel
theorem dX0_greatestMiddle_24 : decode cX0_greatestMiddle 24 = .ok (.iload_n 2, 1) := by decide +kernel
theorem dX0_greatestMiddle_25 : decode cX0_greatestMiddle 25 = .ok (.aload_n 0, 1) := by decide +kernel
theorem dX0_greatestMiddle_26 : decode cX0_greatestMiddle 26 = .ok (.getfield 36, 3) := by decide +kernel
theorem dX0_greatestMiddle_29 : decode cX0_greatestMiddle 29 = .ok (.invokevirtual 44, 3) := by decide +kernel
theorem dX0_greatestMiddle_32 : decode cX0_greatestMiddle 32 = .ok (.aload_n 0, 1) := by decide +kernel
theorem dX0_greatestMiddle_33 : decode cX0_greatestMiddle 33 = .ok (.getfield 36, 3) := by decide +kernel
theorem dX0_greatestMiddle_36 : decode cX0_greatestMiddle 36 = .ok (.iload_n 3, 1) := by decide +kernel
theorem dX0_greatestMiddle_37 : decode cX0_greatestMiddle 37 = .ok (.iconst 1, 1) := by decide +kernel
theorem dX0_greatestMiddle_38 : decode cX0_greatestMiddle 38 = .ok (.invokevirtual 57, 3) := by decide +kernel
theorem dX0_greatestMiddle_41 : decode cX0_greatestMiddle 41 = .ok (.imul, 1) := by decide +kernel
theorem dX0_greatestMiddle_42 : decode cX0_greatestMiddle 42 = .ok (.invokestatic 92, 3) := by decide +kernel
theorem dX0_greatestMiddle_45 : decode cX0_greatestMiddle 45 = .ok (.istore_n 2, 1) := by decide +kernel
theorem dX0_greatestMiddle_46 : decode cX0_greatestMiddle 46 = .ok (.iinc 3 1, 3) := by decide +kernel
theorem dX0_greatestMiddle_49 : decode cX0_greatestMiddle 49 = .ok (.goto (-44), 3) := by decide +kernel
theorem dX0_greatestMiddle_52 : decode cX0_greatestMiddle 52 = .ok (.iload_n 2, 1) := by decide +kernel
theorem dX0_greatestMiddle_53 : decode cX0_greatestMiddle 53 = .ok (.ireturn, 1) := by decide +kernel
theorem dX0_orderOfParts_0 : decode cX0_orderOfParts 0 = .ok (.iconst 0, 1) := by decide +kernel
theorem dX0_orderOfParts_1 : decode cX0_orderOfParts 1 = .ok (.istore_n 2, 1) := by decide +kernel
theorem dX0_orderOfParts_2 : decode cX0_orderOfParts 2 = .ok (.iconst 0, 1) := by decide +kernel
theorem dX0_orderOfParts_3 : decode cX0_orderOfParts 3 = .ok (.istore_n 3, 1) := by decide +kernel
theorem dX0_orderOfParts_4 : decode cX0_orderOfParts 4 = .ok (.iload_n 3, 1) := by decide +kernel
theorem dX0_orderOfParts_5 : decode cX0_orderOfParts 5 = .ok (.aload_n 1, 1) := by decide +kernel
theorem dX0_orderOfParts_6 : decode cX0_orderOfParts 6 = .ok (.getfield 69, 3) := by decide +kernel
theorem dX0_orderOfParts_9 : decode cX0_orderOfParts 9 = .ok (.if_icmp .ge 42, 3) := by decide +kernel
theorem dX0_orderOfParts_12 : decode cX0_orderOfParts 12 = .ok (.iconst 0, 1) := by decide +kernel
theorem dX0_orderOfParts_13 : decode cX0_orderOfParts 13 = .ok (.istore 4, 2) := by decide +kernel
theorem dX0_orderOfParts_15 : decode cX0_orderOfParts 15 = .ok (.iload 4, 2) := by decide +kernel
theorem dX0_orderOfParts_17 : decode cX0_orderOfParts 17 = .ok (.iconst 4, 1) := by decide +kernel
theorem dX0_orderOfParts_18 : decode cX0_orderOfParts 18 = .ok (.if_icmp .ge 27, 3) := by decide +kernel
theorem dX0_orderOfParts_21 : decode cX0_orderOfParts 21 = .ok (.aload_n 0, 1) := by decide +kernel
theorem dX0_orderOfParts_22 : decode cX0_orderOfParts 22 = .ok (.aload_n 1, 1) := by decide +kernel
theorem dX0_orderOfParts_23 : decode cX0_orderOfParts 23 = .ok (.iload 4, 2) := by decide +kernel
theorem dX0_orderOfParts_25 : decode cX0_orderOfParts 25 = .ok (.invokevirtual 110, 3) := by decide +kernel
theorem dX0_orderOfParts_28 : decode cX0_orderOfParts 28 = .ok (.iload_n 3, 1) := by decide +kernel
theorem dX0_orderOfParts_29 : decode cX0_orderOfParts 29 = .ok (.if_icmp .ne 10, 3) := by decide +kernel
theorem dX0_orderOfParts_32 : decode cX0_orderOfParts 32 = .ok (.iload_n 2, 1) := by decide +kernel
theorem dX0_orderOfParts_33 : decode cX0_orderOfParts 33 = .ok (.iconst 4, 1) := by decide +kernel
theorem dX0_orderOfParts_34 : decode cX0_orderOfParts 34 = .ok (.imul, 1) := by decide +kernel
theorem dX0_orderOfParts_35 : decode cX0_orderOfParts 35 = .ok (.iload 4, 2) := by decide +kernel
theorem dX0_orderOfParts_37 : decode cX0_orderOfParts 37 = .ok (.iadd, 1) := by decide +kernel
theorem dX0_orderOfParts_38 : decode cX0_orderOfParts 38 = .ok (.istore_n 2, 1) := by decide +kernel
theorem dX0_orderOfParts_39 : decode cX0_orderOfParts 39 = .ok (.iinc 4 1, 3) := by decide +kernel
theorem dX0_orderOfParts_42 : decode cX0_orderOfParts 42 = .ok (.goto (-27), 3) := by decide +kernel
theorem dX0_orderOfParts_45 : decode cX0_orderOfParts 45 = .ok (.iinc 3 1, 3) := by decide +kernel
theorem dX0_orderOfParts_48 : decode cX0_orderOfParts 48 = .ok (.goto (-44), 3) := by decide +kernel
theorem dX0_orderOfParts_51 : decode cX0_orderOfParts 51 = .ok (.iload_n 2, 1) := by decide +kernel
theorem dX0_orderOfParts_52 : decode cX0_orderOfParts 52 = .ok (.ireturn, 1) := by decide +kernel
theorem dX0_firstAcross_0 : decode cX0_firstAcross 0 = .ok (.iconst 0, 1) := by decide +kernel
theorem dX0_firstAcross_1 : decode cX0_firstAcross 1 = .ok (.istore_n 3, 1) := by decide +kernel
theorem dX0_firstAcross_2 : decode cX0_firstAcross 2 = .ok (.iload_n 3, 1) := by decide +kernel
theorem dX0_firstAcross_3 : decode cX0_firstAcross 3 = .ok (.aload_n 1, 1) := by decide +kernel
theorem dX0_firstAcross_4 : decode cX0_firstAcross 4 = .ok (.getfield 69, 3) := by decide +kernel
theorem dX0_firstAcross_7 : decode cX0_firstAcross 7 = .ok (.if_icmp .ge 20, 3) := by decide +kernel
theorem dX0_firstAcross_10 : decode cX0_firstAcross 10 = .ok (.aload_n 0, 1) := by decide +kernel
theorem dX0_firstAcross_11 : decode cX0_firstAcross 11 = .ok (.aload_n 1, 1) := by decide +kernel
theorem dX0_firstAcross_12 : decode cX0_firstAcross 12 = .ok (.iload_n 3, 1) := by decide +kernel
theorem dX0_firstAcross_13 : decode cX0_firstAcross 13 = .ok (.iload_n 2, 1) := by decide +kernel
theorem dX0_firstAcross_14 : decode cX0_firstAcross 14 = .ok (.iconst 0, 1) := by decide +kernel
theorem dX0_firstAcross_15 : decode cX0_firstAcross 15 = .ok (.invokevirtual 114, 3) := by decide +kernel
theorem dX0_firstAcross_18 : decode cX0_firstAcross 18 = .ok (.ifCond .ge 9, 3) := by decide +kernel
theorem dX0_firstAcross_21 : decode cX0_firstAcross 21 = .ok (.iinc 3 1, 3) := by decide +kernel
theorem dX0_firstAcross_24 : decode cX0_firstAcross 24 = .ok (.goto (-22), 3) := by decide +kernel
theorem dX0_firstAcross_27 : decode cX0_firstAcross 27 = .ok (.iload_n 3, 1) := by decide +kernel
theorem dX0_firstAcross_28 : decode cX0_firstAcross 28 = .ok (.ireturn, 1) := by decide +kernel
theorem dX0_whyBarred_0 : decode cX0_whyBarred 0 = .ok (.iconst 0, 1) := by decide +kernel
theorem dX0_whyBarred_1 : decode cX0_whyBarred 1 = .ok (.istore_n 2, 1) := by decide +kernel
theorem dX0_whyBarred_2 : decode cX0_whyBarred 2 = .ok (.iload_n 2, 1) := by decide +kernel
theorem dX0_whyBarred_3 : decode cX0_whyBarred 3 = .ok (.aload_n 1, 1) := by decide +kernel
theorem dX0_whyBarred_4 : decode cX0_whyBarred 4 = .ok (.getfield 69, 3) := by decide +kernel
theorem dX0_whyBarred_7 : decode cX0_whyBarred 7 = .ok (.if_icmp .ge 20, 3) := by decide +kernel
theorem dX0_whyBarred_10 : decode cX0_whyBarred 10 = .ok (.aload_n 0, 1) := by decide +kernel
theorem dX0_whyBarred_11 : decode cX0_whyBarred 11 = .ok (.getfield 26, 3) := by decide +kernel
theorem dX0_whyBarred_14 : decode cX0_whyBarred 14 = .ok (.iload_n 2, 1) := by decide +kernel
theorem dX0_whyBarred_15 : decode cX0_whyBarred 15 = .ok (.baload, 1) := by decide +kernel
theorem dX0_whyBarred_16 : decode cX0_whyBarred 16 = .ok (.ifCond .eq 5, 3) := by decide +kernel
theorem dX0_whyBarred_19 : decode cX0_whyBarred 19 = .ok (.iconst 1, 1) := by decide +kernel
theorem dX0_whyBarred_20 : decode cX0_whyBarred 20 = .ok (.ireturn, 1) := by decide +kernel
theorem dX0_whyBarred_21 : decode cX0_whyBarred 21 = .ok (.iinc 2 1, 3) := by decide +kernel
theorem dX0_whyBarred_24 : decode cX0_whyBarred 24 = .ok (.goto (-22), 3) := by decide +kernel
theorem dX0_whyBarred_27 : decode cX0_whyBarred 27 = .ok (.iconst 0, 1) := by decide +kernel
theorem dX0_whyBarred_28 : decode cX0_whyBarred 28 = .ok (.istore_n 2, 1) := by decide +kernel
theorem dX0_whyBarred_29 : decode cX0_whyBarred 29 = .ok (.iload_n 2, 1) := by decide +kernel
theorem dX0_whyBarred_30 : decode cX0_whyBarred 30 = .ok (.aload_n 1, 1) := by decide +kernel
theorem dX0_whyBarred_31 : decode cX0_whyBarred 31 = .ok (.getfield 69, 3) := by decide +kernel
theorem dX0_whyBarred_34 : decode cX0_whyBarred 34 = .ok (.if_icmp .ge 20, 3) := by decide +kernel
theorem dX0_whyBarred_37 : decode cX0_whyBarred 37 = .ok (.aload_n 0, 1) := by decide +kernel
theorem dX0_whyBarred_38 : decode cX0_whyBarred 38 = .ok (.getfield 30, 3) := by decide +kernel
theorem dX0_whyBarred_41 : decode cX0_whyBarred 41 = .ok (.iload_n 2, 1) := by decide +kernel
theorem dX0_whyBarred_42 : decode cX0_whyBarred 42 = .ok (.baload, 1) := by decide +kernel
theorem dX0_whyBarred_43 : decode cX0_whyBarred 43 = .ok (.ifCond .eq 5, 3) := by decide +kernel
theorem dX0_whyBarred_46 : decode cX0_whyBarred 46 = .ok (.iconst 2, 1) := by decide +kernel
theorem dX0_whyBarred_47 : decode cX0_whyBarred 47 = .ok (.ireturn, 1) := by decide +kernel
theorem dX0_whyBarred_48 : decode cX0_whyBarred 48 = .ok (.iinc 2 1, 3) := by decide +kernel
theorem dX0_whyBarred_51 : decode cX0_whyBarred 51 = .ok (.goto (-22), 3) := by decide +kernel
theorem dX0_whyBarred_54 : decode cX0_whyBarred 54 = .ok (.aload_n 1, 1) := by decide +kernel
theorem dX0_whyBarred_55 : decode cX0_whyBarred 55 = .ok (.getfield 118, 3) := by decide +kernel
theorem dX0_whyBarred_58 : decode cX0_whyBarred 58 = .ok (.aload_n 0, 1) := by decide +kernel
theorem dX0_whyBarred_59 : decode cX0_whyBarred 59 = .ok (.getfield 36, 3) := by decide +kernel
theorem dX0_whyBarred_62 : decode cX0_whyBarred 62 = .ok (.getfield 60, 3) := by decide +kernel
theorem dX0_whyBarred_65 : decode cX0_whyBarred 65 = .ok (.bipush 14, 2) := by decide +kernel
theorem dX0_whyBarred_67 : decode cX0_whyBarred 67 = .ok (.iaload, 1) := by decide +kernel
theorem dX0_whyBarred_68 : decode cX0_whyBarred 68 = .ok (.if_icmp .le 5, 3) := by decide +kernel
theorem dX0_whyBarred_71 : decode cX0_whyBarred 71 = .ok (.iconst 3, 1) := by decide +kernel
theorem dX0_whyBarred_72 : decode cX0_whyBarred 72 = .ok (.ireturn, 1) := by decide +kernel
theorem dX0_whyBarred_73 : decode cX0_whyBarred 73 = .ok (.aload_n 0, 1) := by decide +kernel
theorem dX0_whyBarred_74 : decode cX0_whyBarred 74 = .ok (.getfield 36, 3) := by decide +kernel
theorem dX0_whyBarred_77 : decode cX0_whyBarred 77 = .ok (.getfield 60, 3) := by decide +kernel
theorem dX0_whyBarred_80 : decode cX0_whyBarred 80 = .ok (.bipush 15, 2) := by decide +kernel
theorem dX0_whyBarred_82 : decode cX0_whyBarred 82 = .ok (.iaload, 1) := by decide +kernel
theorem dX0_whyBarred_83 : decode cX0_whyBarred 83 = .ok (.aload_n 1, 1) := by decide +kernel
theorem dX0_whyBarred_84 : decode cX0_whyBarred 84 = .ok (.invokestatic 121, 3) := by decide +kernel
theorem dX0_whyBarred_87 : decode cX0_whyBarred 87 = .ok (.ifCond .eq 7, 3) := by decide +kernel
theorem dX0_whyBarred_90 : decode cX0_whyBarred 90 = .ok (.iconst 0, 1) := by decide +kernel
theorem dX0_whyBarred_91 : decode cX0_whyBarred 91 = .ok (.goto 4, 3) := by decide +kernel
theorem dX0_whyBarred_94 : decode cX0_whyBarred 94 = .ok (.iconst 4, 1) := by decide +kernel
theorem dX0_whyBarred_95 : decode cX0_whyBarred 95 = .ok (.ireturn, 1) := by decide +kernel
theorem dX0_pitBears_0 : decode cX0_pitBears 0 = .ok (.iconst 0, 1) := by decide +kernel
theorem dX0_pitBears_1 : decode cX0_pitBears 1 = .ok (.istore_n 2, 1) := by decide +kernel
theorem dX0_pitBears_2 : decode cX0_pitBears 2 = .ok (.aload_n 1, 1) := by decide +kernel
theorem dX0_pitBears_3 : decode cX0_pitBears 3 = .ok (.getfield 69, 3) := by decide +kernel
theorem dX0_pitBears_6 : decode cX0_pitBears 6 = .ok (.iconst 1, 1) := by decide +kernel
theorem dX0_pitBears_7 : decode cX0_pitBears 7 = .ok (.isub, 1) := by decide +kernel
theorem dX0_pitBears_8 : decode cX0_pitBears 8 = .ok (.istore_n 3, 1) := by decide +kernel
theorem dX0_pitBears_9 : decode cX0_pitBears 9 = .ok (.iconst 1, 1) := by decide +kernel
theorem dX0_pitBears_10 : decode cX0_pitBears 10 = .ok (.istore 4, 2) := by decide +kernel
theorem dX0_pitBears_12 : decode cX0_pitBears 12 = .ok (.iload 4, 2) := by decide +kernel
theorem dX0_pitBears_14 : decode cX0_pitBears 14 = .ok (.iconst 4, 1) := by decide +kernel
theorem dX0_pitBears_15 : decode cX0_pitBears 15 = .ok (.if_icmp .ge 40, 3) := by decide +kernel
theorem dX0_pitBears_18 : decode cX0_pitBears 18 = .ok (.aload_n 1, 1) := by decide +kernel
theorem dX0_pitBears_19 : decode cX0_pitBears 19 = .ok (.getfield 50, 3) := by decide +kernel
theorem dX0_pitBears_22 : decode cX0_pitBears 22 = .ok (.iload_n 3, 1) := by decide +kernel
theorem dX0_pitBears_23 : decode cX0_pitBears 23 = .ok (.iload 4, 2) := by decide +kernel
theorem dX0_pitBears_25 : decode cX0_pitBears 25 = .ok (.invokestatic 53, 3) := by decide +kernel
theorem dX0_pitBears_28 : decode cX0_pitBears 28 = .ok (.iconst 1, 1) := by decide +kernel
theorem dX0_pitBears_29 : decode cX0_pitBears 29 = .ok (.iadd, 1) := by decide +kernel
theorem dX0_pitBears_30 : decode cX0_pitBears 30 = .ok (.iaload, 1) := by decide +kernel
theorem dX0_pitBears_31 : decode cX0_pitBears 31 = .ok (.aload_n 1, 1) := by decide +kernel
theorem dX0_pitBears_32 : decode cX0_pitBears 32 = .ok (.getfield 50, 3) := by decide +kernel
theorem dX0_pitBears_35 : decode cX0_pitBears 35 = .ok (.iload_n 3, 1) := by decide +kernel
theorem dX0_pitBears_36 : decode cX0_pitBears 36 = .ok (.iload_n 2, 1) := by decide +kernel
theorem dX0_pitBears_37 : decode cX0_pitBears 37 = .ok (.invokestatic 53, 3) := by decide +kernel
theorem dX0_pitBears_40 : decode cX0_pitBears 40 = .ok (.iconst 1, 1) := by decide +kernel
theorem dX0_pitBears_41 : decode cX0_pitBears 41 = .ok (.iadd, 1) := by decide +kernel
theorem dX0_pitBears_42 : decode cX0_pitBears 42 = .ok (.iaload, 1) := by decide +kernel
theorem dX0_pitBears_43 : decode cX0_pitBears 43 = .ok (.if_icmp .gt 6, 3) := by decide +kernel
theorem dX0_pitBears_46 : decode cX0_pitBears 46 = .ok (.iload 4, 2) := by decide +kernel
theorem dX0_pitBears_48 : decode cX0_pitBears 48 = .ok (.istore_n 2, 1) := by decide +kernel
theorem dX0_pitBears_49 : decode cX0_pitBears 49 = .ok (.iinc 4 1, 3) := by decide +kernel
theorem dX0_pitBears_52 : decode cX0_pitBears 52 = .ok (.goto (-40), 3) := by decide +kernel
theorem dX0_pitBears_55 : decode cX0_pitBears 55 = .ok (.iload_n 0, 1) := by decide +kernel
theorem dX0_pitBears_56 : decode cX0_pitBears 56 = .ok (.iconst 2, 1) := by decide +kernel
theorem dX0_pitBears_57 : decode cX0_pitBears 57 = .ok (.if_icmp .eq 10, 3) := by decide +kernel
theorem dX0_pitBears_60 : decode cX0_pitBears 60 = .ok (.iload_n 2, 1) := by decide +kernel
theorem dX0_pitBears_61 : decode cX0_pitBears 61 = .ok (.iconst 3, 1) := by decide +kernel
theorem dX0_pitBears_62 : decode cX0_pitBears 62 = .ok (.iload_n 0, 1) := by decide +kernel
theorem dX0_pitBears_63 : decode cX0_pitBears 63 = .ok (.isub, 1) := by decide +kernel
theorem dX0_pitBears_64 : decode cX0_pitBears 64 = .ok (.if_icmp .lt 7, 3) := by decide +kernel
theorem dX0_pitBears_67 : decode cX0_pitBears 67 = .ok (.iconst 1, 1) := by decide +kernel
theorem dX0_pitBears_68 : decode cX0_pitBears 68 = .ok (.goto 4, 3) := by decide +kernel
theorem dX0_pitBears_71 : decode cX0_pitBears 71 = .ok (.iconst 0, 1) := by decide +kernel
theorem dX0_pitBears_72 : decode cX0_pitBears 72 = .ok (.ireturn, 1) := by decide +kernel
theorem dX0_value_0 : decode cX0_value 0 = .ok (.aload_n 0, 1) := by decide +kernel
theorem dX0_value_1 : decode cX0_value 1 = .ok (.aload_n 1, 1) := by decide +kernel
theorem dX0_value_2 : decode cX0_value 2 = .ok (.invokevirtual 125, 3) := by decide +kernel
theorem dX0_value_5 : decode cX0_value 5 = .ok (.ifCond .eq 5, 3) := by decide +kernel
theorem dX0_value_8 : decode cX0_value 8 = .ok (.iconst (-1), 1) := by decide +kernel
theorem dX0_value_9 : decode cX0_value 9 = .ok (.ireturn, 1) := by decide +kernel
theorem dX0_value_10 : decode cX0_value 10 = .ok (.aload_n 0, 1) := by decide +kernel
theorem dX0_value_11 : decode cX0_value 11 = .ok (.aload_n 1, 1) := by decide +kernel
theorem dX0_value_12 : decode cX0_value 12 = .ok (.invokevirtual 128, 3) := by decide +kernel
theorem dX0_value_15 : decode cX0_value 15 = .ok (.istore_n 2, 1) := by decide +kernel
theorem dX0_value_16 : decode cX0_value 16 = .ok (.iload_n 2, 1) := by decide +kernel
theorem dX0_value_17 : decode cX0_value 17 = .ok (.bipush (-4), 2) := by decide +kernel
theorem dX0_value_19 : decode cX0_value 19 = .ok (.if_icmp .ne 7, 3) := by decide +kernel
theorem dX0_value_22 : decode cX0_value 22 = .ok (.iconst (-1), 1) := by decide +kernel
theorem dX0_value_23 : decode cX0_value 23 = .ok (.goto 4, 3) := by decide +kernel
theorem dX0_value_26 : decode cX0_value 26 = .ok (.iload_n 2, 1) := by decide +kernel
theorem dX0_value_27 : decode cX0_value 27 = .ok (.ireturn, 1) := by decide +kernel
theorem dX0_valueWith_0 : decode cX0_valueWith 0 = .ok (.aload_n 1, 1) := by decide +kernel
theorem dX0_valueWith_1 : decode cX0_valueWith 1 = .ok (.iload_n 2, 1) := by decide +kernel
theorem dX0_valueWith_2 : decode cX0_valueWith 2 = .ok (.invokevirtual 131, 3) := by decide +kernel
theorem dX0_valueWith_5 : decode cX0_valueWith 5 = .ok (.aload_n 0, 1) := by decide +kernel
theorem dX0_valueWith_6 : decode cX0_valueWith 6 = .ok (.aload_n 1, 1) := by decide +kernel
theorem dX0_valueWith_7 : decode cX0_valueWith 7 = .ok (.iload_n 2, 1) := by decide +kernel
theorem dX0_valueWith_8 : decode cX0_valueWith 8 = .ok (.bipush 16, 2) := by decide +kernel
theorem dX0_valueWith_10 : decode cX0_valueWith 10 = .ok (.idiv, 1) := by decide +kernel
theorem dX0_valueWith_11 : decode cX0_valueWith 11 = .ok (.invokevirtual 73, 3) := by decide +kernel
theorem dX0_valueWith_14 : decode cX0_valueWith 14 = .ok (.aload_n 0, 1) := by decide +kernel
theorem dX0_valueWith_15 : decode cX0_valueWith 15 = .ok (.aload_n 1, 1) := by decide +kernel
theorem dX0_valueWith_16 : decode cX0_valueWith 16 = .ok (.invokevirtual 135, 3) := by decide +kernel
theorem dX0_valueWith_19 : decode cX0_valueWith 19 = .ok (.istore_n 3, 1) := by decide +kernel
theorem dX0_valueWith_20 : decode cX0_valueWith 20 = .ok (.aload_n 1, 1) := by decide +kernel
theorem dX0_valueWith_21 : decode cX0_valueWith 21 = .ok (.iload_n 2, 1) := by decide +kernel
theorem dX0_valueWith_22 : decode cX0_valueWith 22 = .ok (.invokevirtual 138, 3) := by decide +kernel
theorem dX0_valueWith_25 : decode cX0_valueWith 25 = .ok (.iload_n 3, 1) := by decide +kernel
theorem dX0_valueWith_26 : decode cX0_valueWith 26 = .ok (.ireturn, 1) := by decide +kernel
theorem dX0_survey_0 : decode cX0_survey 0 = .ok (.aload_n 0, 1) := by decide +kernel
theorem dX0_survey_1 : decode cX0_survey 1 = .ok (.aload_n 1, 1) := by decide +kernel
theorem dX0_survey_2 : decode cX0_survey 2 = .ok (.invokevirtual 141, 3) := by decide +kernel
theorem dX0_survey_5 : decode cX0_survey 5 = .ok (.aload_n 0, 1) := by decide +kernel
theorem dX0_survey_6 : decode cX0_survey 6 = .ok (.aload_n 0, 1) := by decide +kernel
theorem dX0_survey_7 : decode cX0_survey 7 = .ok (.aload_n 1, 1) := by decide +kernel
theorem dX0_survey_8 : decode cX0_survey 8 = .ok (.invokevirtual 135, 3) := by decide +kernel
theorem dX0_survey_11 : decode cX0_survey 11 = .ok (.putfield 145, 3) := by decide +kernel
theorem dX0_survey_14 : decode cX0_survey 14 = .ok (.iconst 0, 1) := by decide +kernel
theorem dX0_survey_15 : decode cX0_survey 15 = .ok (.istore_n 2, 1) := by decide +kernel
theorem dX0_survey_16 : decode cX0_survey 16 = .ok (.iload_n 2, 1) := by decide +kernel
theorem dX0_survey_17 : decode cX0_survey 17 = .ok (.sipush 128, 3) := by decide +kernel
theorem dX0_survey_20 : decode cX0_survey 20 = .ok (.if_icmp .ge 18, 3) := by decide +kernel
theorem dX0_survey_23 : decode cX0_survey 23 = .ok (.aload_n 0, 1) := by decide +kernel
theorem dX0_survey_24 : decode cX0_survey 24 = .ok (.getfield 33, 3) := by decide +kernel
theorem dX0_survey_27 : decode cX0_survey 27 = .ok (.iload_n 2, 1) := by decide +kernel
theorem dX0_survey_28 : decode cX0_survey 28 = .ok (.sipush (-1000), 3) := by decide +kernel
theorem dX0_survey_31 : decode cX0_survey 31 = .ok (.iastore, 1) := by decide +kernel
theorem dX0_survey_32 : decode cX0_survey 32 = .ok (.iinc 2 1, 3) := by decide +kernel
theorem dX0_survey_35 : decode cX0_survey 35 = .ok (.goto (-19), 3) := by decide +kernel
theorem dX0_survey_38 : decode cX0_survey 38 = .ok (.iconst 0, 1) := by decide +kernel
theorem dX0_survey_39 : decode cX0_survey 39 = .ok (.istore_n 2, 1) := by decide +kernel
theorem dX0_survey_40 : decode cX0_survey 40 = .ok (.iload_n 2, 1) := by decide +kernel
theorem dX0_survey_41 : decode cX0_survey 41 = .ok (.aload_n 1, 1) := by decide +kernel
theorem dX0_survey_42 : decode cX0_survey 42 = .ok (.getfield 69, 3) := by decide +kernel
theorem dX0_survey_45 : decode cX0_survey 45 = .ok (.if_icmp .ge 61, 3) := by decide +kernel
theorem dX0_survey_48 : decode cX0_survey 48 = .ok (.bipush 16, 2) := by decide +kernel
theorem dX0_survey_50 : decode cX0_survey 50 = .ok (.iload_n 2, 1) := by decide +kernel
theorem dX0_survey_51 : decode cX0_survey 51 = .ok (.imul, 1) := by decide +kernel
theorem dX0_survey_52 : decode cX0_survey 52 = .ok (.istore_n 3, 1) := by decide +kernel
theorem dX0_survey_53 : decode cX0_survey 53 = .ok (.iload_n 3, 1) := by decide +kernel
theorem dX0_survey_54 : decode cX0_survey 54 = .ok (.istore 4, 2) := by decide +kernel
theorem dX0_survey_56 : decode cX0_survey 56 = .ok (.iload 4, 2) := by decide +kernel
theorem dX0_survey_58 : decode cX0_survey 58 = .ok (.iload_n 3, 1) := by decide +kernel
theorem dX0_survey_59 : decode cX0_survey 59 = .ok (.bipush 16, 2) := by decide +kernel
theorem dX0_survey_61 : decode cX0_survey 61 = .ok (.iadd, 1) := by decide +kernel
theorem dX0_survey_62 : decode cX0_survey 62 = .ok (.if_icmp .ge 32, 3) := by decide +kernel
theorem dX0_survey_65 : decode cX0_survey 65 = .ok (.aload_n 1, 1) := by decide +kernel
theorem dX0_survey_66 : decode cX0_survey 66 = .ok (.iload 4, 2) := by decide +kernel
theorem dX0_survey_68 : decode cX0_survey 68 = .ok (.invokevirtual 148, 3) := by decide +kernel
theorem dX0_survey_71 : decode cX0_survey 71 = .ok (.ifCond .eq 17, 3) := by decide +kernel
theorem dX0_survey_74 : decode cX0_survey 74 = .ok (.aload_n 0, 1) := by decide +kernel
theorem dX0_survey_75 : decode cX0_survey 75 = .ok (.getfield 33, 3) := by decide +kernel
theorem dX0_survey_78 : decode cX0_survey 78 = .ok (.iload 4, 2) := by decide +kernel
theorem dX0_survey_80 : decode cX0_survey 80 = .ok (.aload_n 0, 1) := by decide +kernel
theorem dX0_survey_81 : decode cX0_survey 81 = .ok (.aload_n 1, 1) := by decide +kernel
theorem dX0_survey_82 : decode cX0_survey 82 = .ok (.iload 4, 2) := by decide +kernel
theorem dX0_survey_84 : decode cX0_survey 84 = .ok (.invokevirtual 151, 3) := by decide +kernel
theorem dX0_survey_87 : decode cX0_survey 87 = .ok (.iastore, 1) := by decide +kernel
theorem dX0_survey_88 : decode cX0_survey 88 = .ok (.iinc 4 1, 3) := by decide +kernel
theorem dX0_survey_91 : decode cX0_survey 91 = .ok (.goto (-35), 3) := by decide +kernel
theorem dX0_survey_94 : decode cX0_survey 94 = .ok (.aload_n 0, 1) := by decide +kernel
theorem dX0_survey_95 : decode cX0_survey 95 = .ok (.aload_n 1, 1) := by decide +kernel
theorem dX0_survey_96 : decode cX0_survey 96 = .ok (.iload_n 2, 1) := by decide +kernel
theorem dX0_survey_97 : decode cX0_survey 97 = .ok (.invokevirtual 73, 3) := by decide +kernel
theorem dX0_survey_100 : decode cX0_survey 100 = .ok (.iinc 2 1, 3) := by decide +kernel
theorem dX0_survey_103 : decode cX0_survey 103 = .ok (.goto (-63), 3) := by decide +kernel
theorem dX0_survey_106 : decode cX0_survey 106 = .ok (.return_, 1) := by decide +kernel
theorem dX0_bestChange_0 : decode cX0_bestChange 0 = .ok (.bipush (-4), 2) := by decide +kernel
theorem dX0_bestChange_2 : decode cX0_bestChange 2 = .ok (.istore_n 1, 1) := by decide +kernel
theorem dX0_bestChange_3 : decode cX0_bestChange 3 = .ok (.aload_n 0, 1) := by decide +kernel
theorem dX0_bestChange_4 : decode cX0_bestChange 4 = .ok (.getfield 145, 3) := by decide +kernel
theorem dX0_bestChange_7 : decode cX0_bestChange 7 = .ok (.istore_n 2, 1) := by decide +kernel
theorem dX0_bestChange_8 : decode cX0_bestChange 8 = .ok (.iconst 0, 1) := by decide +kernel
theorem dX0_bestChange_9 : decode cX0_bestChange 9 = .ok (.istore_n 3, 1) := by decide +kernel
theorem dX0_bestChange_10 : decode cX0_bestChange 10 = .ok (.iload_n 3, 1) := by decide +kernel
theorem dX0_bestChange_11 : decode cX0_bestChange 11 = .ok (.sipush 128, 3) := by decide +kernel
theorem dX0_bestChange_14 : decode cX0_bestChange 14 = .ok (.if_icmp .ge 28, 3) := by decide +kernel
theorem dX0_bestChange_17 : decode cX0_bestChange 17 = .ok (.aload_n 0, 1) := by decide +kernel
theorem dX0_bestChange_18 : decode cX0_bestChange 18 = .ok (.getfield 33, 3) := by decide +kernel
theorem dX0_bestChange_21 : decode cX0_bestChange 21 = .ok (.iload_n 3, 1) := by decide +kernel
theorem dX0_bestChange_22 : decode cX0_bestChange 22 = .ok (.iaload, 1) := by decide +kernel
theorem dX0_bestChange_23 : decode cX0_bestChange 23 = .ok (.iload_n 2, 1) := by decide +kernel
theorem dX0_bestChange_24 : decode cX0_bestChange 24 = .ok (.if_icmp .le 12, 3) := by decide +kernel
theorem dX0_bestChange_27 : decode cX0_bestChange 27 = .ok (.aload_n 0, 1) := by decide +kernel
theorem dX0_bestChange_28 : decode cX0_bestChange 28 = .ok (.getfield 33, 3) := by decide +kernel
theorem dX0_bestChange_31 : decode cX0_bestChange 31 = .ok (.iload_n 3, 1) := by decide +kernel
theorem dX0_bestChange_32 : decode cX0_bestChange 32 = .ok (.iaload, 1) := by decide +kernel
theorem dX0_bestChange_33 : decode cX0_bestChange 33 = .ok (.istore_n 2, 1) := by decide +kernel
theorem dX0_bestChange_34 : decode cX0_bestChange 34 = .ok (.iload_n 3, 1) := by decide +kernel
theorem dX0_bestChange_35 : decode cX0_bestChange 35 = .ok (.istore_n 1, 1) := by decide +kernel
theorem dX0_bestChange_36 : decode cX0_bestChange 36 = .ok (.iinc 3 1, 3) := by decide +kernel
theorem dX0_bestChange_39 : decode cX0_bestChange 39 = .ok (.goto (-29), 3) := by decide +kernel
theorem dX0_bestChange_42 : decode cX0_bestChange 42 = .ok (.iload_n 1, 1) := by decide +kernel
theorem dX0_bestChange_43 : decode cX0_bestChange 43 = .ok (.ireturn, 1) := by decide +kernel
theorem dX0_changesThatCompare_0 : decode cX0_changesThatCompare 0 = .ok (.iconst 0, 1) := by decide +kernel
theorem dX0_changesThatCompare_1 : decode cX0_changesThatCompare 1 = .ok (.istore_n 2, 1) := by decide +kernel
theorem dX0_changesThatCompare_2 : decode cX0_changesThatCompare 2 = .ok (.iconst 0, 1) := by decide +kernel
theorem dX0_changesThatCompare_3 : decode cX0_changesThatCompare 3 = .ok (.istore_n 3, 1) := by decide +kernel
theorem dX0_changesThatCompare_4 : decode cX0_changesThatCompare 4 = .ok (.iload_n 3, 1) := by decide +kernel
theorem dX0_changesThatCompare_5 : decode cX0_changesThatCompare 5 = .ok (.sipush 128, 3) := by decide +kernel
theorem dX0_changesThatCompare_8 : decode cX0_changesThatCompare 8 = .ok (.if_icmp .ge 41, 3) := by decide +kernel
theorem dX0_changesThatCompare_11 : decode cX0_changesThatCompare 11 = .ok (.aload_n 0, 1) := by decide +kernel
theorem dX0_changesThatCompare_12 : decode cX0_changesThatCompare 12 = .ok (.getfield 33, 3) := by decide +kernel
theorem dX0_changesThatCompare_15 : decode cX0_changesThatCompare 15 = .ok (.iload_n 3, 1) := by decide +kernel
theorem dX0_changesThatCompare_16 : decode cX0_changesThatCompare 16 = .ok (.iaload, 1) := by decide +kernel
theorem dX0_changesThatCompare_17 : decode cX0_changesThatCompare 17 = .ok (.sipush (-1000), 3) := by decide +kernel
theorem dX0_changesThatCompare_20 : decode cX0_changesThatCompare 20 = .ok (.if_icmp .eq 23, 3) := by decide +kernel
theorem dX0_changesThatCompare_23 : decode cX0_changesThatCompare 23 = .ok (.aload_n 0, 1) := by decide +kernel
theorem dX0_changesThatCompare_24 : decode cX0_changesThatCompare 24 = .ok (.getfield 33, 3) := by decide +kernel
theorem dX0_changesThatCompare_27 : decode cX0_changesThatCompare 27 = .ok (.iload_n 3, 1) := by decide +kernel
theorem dX0_changesThatCompare_28 : decode cX0_changesThatCompare 28 = .ok (.iaload, 1) := by decide +kernel
theorem dX0_changesThatCompare_29 : decode cX0_changesThatCompare 29 = .ok (.aload_n 0, 1) := by decide +kernel
theorem dX0_changesThatCompare_30 : decode cX0_changesThatCompare 30 = .ok (.getfield 145, 3) := by decide +kernel
theorem dX0_changesThatCompare_33 : decode cX0_changesThatCompare 33 = .ok (.invokestatic 154, 3) := by decide +kernel
theorem dX0_changesThatCompare_36 : decode cX0_changesThatCompare 36 = .ok (.iload_n 1, 1) := by decide +kernel
theorem dX0_changesThatCompare_37 : decode cX0_changesThatCompare 37 = .ok (.if_icmp .ne 6, 3) := by decide +kernel
theorem dX0_changesThatCompare_40 : decode cX0_changesThatCompare 40 = .ok (.iinc 2 1, 3) := by decide +kernel
theorem dX0_changesThatCompare_43 : decode cX0_changesThatCompare 43 = .ok (.iinc 3 1, 3) := by decide +kernel
theorem dX0_changesThatCompare_46 : decode cX0_changesThatCompare 46 = .ok (.goto (-42), 3) := by decide +kernel
theorem dX0_changesThatCompare_49 : decode cX0_changesThatCompare 49 = .ok (.iload_n 2, 1) := by decide +kernel
theorem dX0_changesThatCompare_50 : decode cX0_changesThatCompare 50 = .ok (.ireturn, 1) := by decide +kernel
theorem dX0_leastOnTheWay_0 : decode cX0_leastOnTheWay 0 = .ok (.aload_n 0, 1) := by decide +kernel
theorem dX0_leastOnTheWay_1 : decode cX0_leastOnTheWay 1 = .ok (.aload_n 1, 1) := by decide +kernel
theorem dX0_leastOnTheWay_2 : decode cX0_leastOnTheWay 2 = .ok (.invokevirtual 141, 3) := by decide +kernel
theorem dX0_leastOnTheWay_5 : decode cX0_leastOnTheWay 5 = .ok (.aload_n 0, 1) := by decide +kernel
theorem dX0_leastOnTheWay_6 : decode cX0_leastOnTheWay 6 = .ok (.aload_n 1, 1) := by decide +kernel
theorem dX0_leastOnTheWay_7 : decode cX0_leastOnTheWay 7 = .ok (.invokevirtual 135, 3) := by decide +kernel
theorem dX0_leastOnTheWay_10 : decode cX0_leastOnTheWay 10 = .ok (.istore_n 3, 1) := by decide +kernel
theorem dX0_leastOnTheWay_11 : decode cX0_leastOnTheWay 11 = .ok (.iconst 0, 1) := by decide +kernel
theorem dX0_leastOnTheWay_12 : decode cX0_leastOnTheWay 12 = .ok (.istore 4, 2) := by decide +kernel
theorem dX0_leastOnTheWay_14 : decode cX0_leastOnTheWay 14 = .ok (.iload 4, 2) := by decide +kernel
theorem dX0_leastOnTheWay_16 : decode cX0_leastOnTheWay 16 = .ok (.aload_n 1, 1) := by decide +kernel
theorem dX0_leastOnTheWay_17 : decode cX0_leastOnTheWay 17 = .ok (.invokevirtual 159, 3) := by decide +kernel
theorem dX0_leastOnTheWay_20 : decode cX0_leastOnTheWay 20 = .ok (.if_icmp .ge 60, 3) := by decide +kernel
theorem dX0_leastOnTheWay_23 : decode cX0_leastOnTheWay 23 = .ok (.aload_n 1, 1) := by decide +kernel
theorem dX0_leastOnTheWay_24 : decode cX0_leastOnTheWay 24 = .ok (.getfield 50, 3) := by decide +kernel
theorem dX0_leastOnTheWay_27 : decode cX0_leastOnTheWay 27 = .ok (.iload 4, 2) := by decide +kernel
theorem dX0_leastOnTheWay_29 : decode cX0_leastOnTheWay 29 = .ok (.iaload, 1) := by decide +kernel
theorem dX0_leastOnTheWay_30 : decode cX0_leastOnTheWay 30 = .ok (.aload_n 2, 1) := by decide +kernel
theorem dX0_leastOnTheWay_31 : decode cX0_leastOnTheWay 31 = .ok (.getfield 50, 3) := by decide +kernel
theorem dX0_leastOnTheWay_34 : decode cX0_leastOnTheWay 34 = .ok (.iload 4, 2) := by decide +kernel
theorem dX0_leastOnTheWay_36 : decode cX0_leastOnTheWay 36 = .ok (.iaload, 1) := by decide +kernel
theorem dX0_leastOnTheWay_37 : decode cX0_leastOnTheWay 37 = .ok (.if_icmp .eq 37, 3) := by decide +kernel
theorem dX0_leastOnTheWay_40 : decode cX0_leastOnTheWay 40 = .ok (.aload_n 1, 1) := by decide +kernel
theorem dX0_leastOnTheWay_41 : decode cX0_leastOnTheWay 41 = .ok (.getfield 50, 3) := by decide +kernel
theorem dX0_leastOnTheWay_44 : decode cX0_leastOnTheWay 44 = .ok (.iload 4, 2) := by decide +kernel
theorem dX0_leastOnTheWay_46 : decode cX0_leastOnTheWay 46 = .ok (.aload_n 2, 1) := by decide +kernel
theorem dX0_leastOnTheWay_47 : decode cX0_leastOnTheWay 47 = .ok (.getfield 50, 3) := by decide +kernel
theorem dX0_leastOnTheWay_50 : decode cX0_leastOnTheWay 50 = .ok (.iload 4, 2) := by decide +kernel
theorem dX0_leastOnTheWay_52 : decode cX0_leastOnTheWay 52 = .ok (.iaload, 1) := by decide +kernel
theorem dX0_leastOnTheWay_53 : decode cX0_leastOnTheWay 53 = .ok (.iastore, 1) := by decide +kernel
theorem dX0_leastOnTheWay_54 : decode cX0_leastOnTheWay 54 = .ok (.aload_n 0, 1) := by decide +kernel
theorem dX0_leastOnTheWay_55 : decode cX0_leastOnTheWay 55 = .ok (.aload_n 1, 1) := by decide +kernel
theorem dX0_leastOnTheWay_56 : decode cX0_leastOnTheWay 56 = .ok (.iload 4, 2) := by decide +kernel
theorem dX0_leastOnTheWay_58 : decode cX0_leastOnTheWay 58 = .ok (.bipush 8, 2) := by decide +kernel
theorem dX0_leastOnTheWay_60 : decode cX0_leastOnTheWay 60 = .ok (.idiv, 1) := by decide +kernel
theorem dX0_leastOnTheWay_61 : decode cX0_leastOnTheWay 61 = .ok (.invokevirtual 73, 3) := by decide +kernel
theorem dX0_leastOnTheWay_64 : decode cX0_leastOnTheWay 64 = .ok (.iload_n 3, 1) := by decide +kernel
theorem dX0_leastOnTheWay_65 : decode cX0_leastOnTheWay 65 = .ok (.aload_n 0, 1) := by decide +kernel
theorem dX0_leastOnTheWay_66 : decode cX0_leastOnTheWay 66 = .ok (.aload_n 1, 1) := by decide +kernel
theorem dX0_leastOnTheWay_67 : decode cX0_leastOnTheWay 67 = .ok (.invokevirtual 135, 3) := by decide +kernel
theorem dX0_leastOnTheWay_70 : decode cX0_leastOnTheWay 70 = .ok (.invokestatic 89, 3) := by decide +kernel
theorem dX0_leastOnTheWay_73 : decode cX0_leastOnTheWay 73 = .ok (.istore_n 3, 1) := by decide +kernel
theorem dX0_leastOnTheWay_74 : decode cX0_leastOnTheWay 74 = .ok (.iinc 4 1, 3) := by decide +kernel
theorem dX0_leastOnTheWay_77 : decode cX0_leastOnTheWay 77 = .ok (.goto (-63), 3) := by decide +kernel
theorem dX0_leastOnTheWay_80 : decode cX0_leastOnTheWay 80 = .ok (.iload_n 3, 1) := by decide +kernel
theorem dX0_leastOnTheWay_81 : decode cX0_leastOnTheWay 81 = .ok (.ireturn, 1) := by decide +kernel
theorem dX1_init_0 : decode cX1_init 0 = .ok (.aload_n 0, 1) := by decide +kernel
theorem dX1_init_1 : decode cX1_init 1 = .ok (.invokespecial 3, 3) := by decide +kernel
theorem dX1_init_4 : decode cX1_init 4 = .ok (.aload_n 0, 1) := by decide +kernel
theorem dX1_init_5 : decode cX1_init 5 = .ok (.bipush 18, 2) := by decide +kernel
theorem dX1_init_7 : decode cX1_init 7 = .ok (.newarray .int, 2) := by decide +kernel
theorem dX1_init_9 : decode cX1_init 9 = .ok (.putfield 11, 3) := by decide +kernel
theorem dX1_init_12 : decode cX1_init 12 = .ok (.return_, 1) := by decide +kernel
theorem dX1_readText_0 : decode cX1_readText 0 = .ok (.getstatic 17, 3) := by decide +kernel
theorem dX1_readText_3 : decode cX1_readText 3 = .ok (.iconst 0, 1) := by decide +kernel
theorem dX1_readText_4 : decode cX1_readText 4 = .ok (.aload_n 0, 1) := by decide +kernel
theorem dX1_readText_5 : decode cX1_readText 5 = .ok (.getfield 11, 3) := by decide +kernel
theorem dX1_readText_8 : decode cX1_readText 8 = .ok (.iconst 0, 1) := by decide +kernel
theorem dX1_readText_9 : decode cX1_readText 9 = .ok (.bipush 18, 2) := by decide +kernel
theorem dX1_readText_11 : decode cX1_readText 11 = .ok (.invokestatic 20, 3) := by decide +kernel
theorem dX1_readText_14 : decode cX1_readText 14 = .ok (.aload_n 0, 1) := by decide +kernel
theorem dX1_readText_15 : decode cX1_readText 15 = .ok (.iconst 0, 1) := by decide +kernel
theorem dX1_readText_16 : decode cX1_readText 16 = .ok (.putfield 26, 3) := by decide +kernel
theorem dX1_readText_19 : decode cX1_readText 19 = .ok (.aload_n 0, 1) := by decide +kernel
theorem dX1_readText_20 : decode cX1_readText 20 = .ok (.iconst 0, 1) := by decide +kernel
theorem dX1_readText_21 : decode cX1_readText 21 = .ok (.putfield 30, 3) := by decide +kernel
theorem dX1_readText_24 : decode cX1_readText 24 = .ok (.aload_n 0, 1) := by decide +kernel
theorem dX1_readText_25 : decode cX1_readText 25 = .ok (.iconst 0, 1) := by decide +kernel
theorem dX1_readText_26 : decode cX1_readText 26 = .ok (.putfield 33, 3) := by decide +kernel
theorem dX1_readText_29 : decode cX1_readText 29 = .ok (.iconst 0, 1) := by decide +kernel
theorem dX1_readText_30 : decode cX1_readText 30 = .ok (.istore_n 2, 1) := by decide +kernel
theorem dX1_readText_31 : decode cX1_readText 31 = .ok (.iload_n 2, 1) := by decide +kernel
theorem dX1_readText_32 : decode cX1_readText 32 = .ok (.sipush 200, 3) := by decide +kernel
theorem dX1_readText_35 : decode cX1_readText 35 = .ok (.if_icmp .gt 46, 3) := by decide +kernel
theorem dX1_readText_38 : decode cX1_readText 38 = .ok (.aload_n 0, 1) := by decide +kernel
theorem dX1_readText_39 : decode cX1_readText 39 = .ok (.aload_n 1, 1) := by decide +kernel
theorem dX1_readText_40 : decode cX1_readText 40 = .ok (.invokevirtual 38, 3) := by decide +kernel
theorem dX1_readText_43 : decode cX1_readText 43 = .ok (.aload_n 0, 1) := by decide +kernel
theorem dX1_readText_44 : decode cX1_readText 44 = .ok (.getfield 30, 3) := by decide +kernel
theorem dX1_readText_47 : decode cX1_readText 47 = .ok (.ifCond .ne 34, 3) := by decide +kernel
theorem dX1_readText_50 : decode cX1_readText 50 = .ok (.aload_n 0, 1) := by decide +kernel
theorem dX1_readText_51 : decode cX1_readText 51 = .ok (.getfield 42, 3) := by decide +kernel
theorem dX1_readText_54 : decode cX1_readText 54 = .ok (.ifCond .ne 6, 3) := by decide +kernel
theorem dX1_readText_57 : decode cX1_readText 57 = .ok (.goto 24, 3) := by decide +kernel
theorem dX1_readText_60 : decode cX1_readText 60 = .ok (.aload_n 0, 1) := by decide +kernel
theorem dX1_readText_61 : decode cX1_readText 61 = .ok (.aload_n 1, 1) := by decide +kernel
theorem dX1_readText_62 : decode cX1_readText 62 = .ok (.invokevirtual 45, 3) := by decide +kernel
theorem dX1_readText_65 : decode cX1_readText 65 = .ok (.aload_n 0, 1) := by decide +kernel
theorem dX1_readText_66 : decode cX1_readText 66 = .ok (.getfield 30, 3) := by decide +kernel
theorem dX1_readText_69 : decode cX1_readText 69 = .ok (.ifCond .eq 6, 3) := by decide +kernel
theorem dX1_readText_72 : decode cX1_readText 72 = .ok (.goto 9, 3) := by decide +kernel
theorem dX1_readText_75 : decode cX1_readText 75 = .ok (.iinc 2 1, 3) := by decide +kernel
theorem dX1_readText_78 : decode cX1_readText 78 = .ok (.goto (-47), 3) := by decide +kernel
theorem dX1_readText_81 : decode cX1_readText 81 = .ok (.iload_n 2, 1) := by decide +kernel
theorem dX1_readText_82 : decode cX1_readText 82 = .ok (.ireturn, 1) := by decide +kernel
theorem dX1_readLine_0 : decode cX1_readLine 0 = .ok (.aload_n 0, 1) := by decide +kernel
theorem dX1_readLine_1 : decode cX1_readLine 1 = .ok (.getfield 42, 3) := by decide +kernel
theorem dX1_readLine_4 : decode cX1_readLine 4 = .ok (.iconst 1, 1) := by decide +kernel
theorem dX1_readLine_5 : decode cX1_readLine 5 = .ok (.if_icmp .eq 9, 3) := by decide +kernel
theorem dX1_readLine_8 : decode cX1_readLine 8 = .ok (.aload_n 0, 1) := by decide +kernel
theorem dX1_readLine_9 : decode cX1_readLine 9 = .ok (.iconst 2, 1) := by decide +kernel
theorem dX1_readLine_10 : decode cX1_readLine 10 = .ok (.putfield 30, 3) := by decide +kernel
theorem dX1_readLine_13 : decode cX1_readLine 13 = .ok (.return_, 1) := by decide +kernel
theorem dX1_readLine_14 : decode cX1_readLine 14 = .ok (.aload_n 0, 1) := by decide +kernel
theorem dX1_readLine_15 : decode cX1_readLine 15 = .ok (.getfield 48, 3) := by decide +kernel
theorem dX1_readLine_18 : decode cX1_readLine 18 = .ok (.iconst 5, 1) := by decide +kernel
theorem dX1_readLine_19 : decode cX1_readLine 19 = .ok (.iadd, 1) := by decide +kernel
theorem dX1_readLine_20 : decode cX1_readLine 20 = .ok (.istore_n 2, 1) := by decide +kernel
theorem dX1_readLine_21 : decode cX1_readLine 21 = .ok (.aload_n 0, 1) := by decide +kernel
theorem dX1_readLine_22 : decode cX1_readLine 22 = .ok (.getfield 48, 3) := by decide +kernel
theorem dX1_readLine_25 : decode cX1_readLine 25 = .ok (.ifCond .ne 14, 3) := by decide +kernel
theorem dX1_readLine_28 : decode cX1_readLine 28 = .ok (.aload_n 0, 1) := by decide +kernel
theorem dX1_readLine_29 : decode cX1_readLine 29 = .ok (.aload_n 1, 1) := by decide +kernel
theorem dX1_readLine_30 : decode cX1_readLine 30 = .ok (.iconst 0, 1) := by decide +kernel
theorem dX1_readLine_31 : decode cX1_readLine 31 = .ok (.iconst 3, 1) := by decide +kernel
theorem dX1_readLine_32 : decode cX1_readLine 32 = .ok (.invokevirtual 51, 3) := by decide +kernel
theorem dX1_readLine_35 : decode cX1_readLine 35 = .ok (.istore_n 2, 1) := by decide +kernel
theorem dX1_readLine_36 : decode cX1_readLine 36 = .ok (.goto 21, 3) := by decide +kernel
theorem dX1_readLine_39 : decode cX1_readLine 39 = .ok (.aload_n 0, 1) := by decide +kernel
theorem dX1_readLine_40 : decode cX1_readLine 40 = .ok (.getfield 48, 3) := by decide +kernel
theorem dX1_readLine_43 : decode cX1_readLine 43 = .ok (.iconst 1, 1) := by decide +kernel
theorem dX1_readLine_44 : decode cX1_readLine 44 = .ok (.if_icmp .ne 13, 3) := by decide +kernel
theorem dX1_readLine_47 : decode cX1_readLine 47 = .ok (.iconst 4, 1) := by decide +kernel
theorem dX1_readLine_48 : decode cX1_readLine 48 = .ok (.aload_n 0, 1) := by decide +kernel
theorem dX1_readLine_49 : decode cX1_readLine 49 = .ok (.aload_n 1, 1) := by decide +kernel
theorem dX1_readLine_50 : decode cX1_readLine 50 = .ok (.iconst 0, 1) := by decide +kernel
theorem dX1_readLine_51 : decode cX1_readLine 51 = .ok (.iconst 2, 1) := by decide +kernel
theorem dX1_readLine_52 : decode cX1_readLine 52 = .ok (.invokevirtual 51, 3) := by decide +kernel
theorem dX1_readLine_55 : decode cX1_readLine 55 = .ok (.iadd, 1) := by decide +kernel
theorem dX1_readLine_56 : decode cX1_readLine 56 = .ok (.istore_n 2, 1) := by decide +kernel
theorem dX1_readLine_57 : decode cX1_readLine 57 = .ok (.aload_n 0, 1) := by decide +kernel
theorem dX1_readLine_58 : decode cX1_readLine 58 = .ok (.getfield 30, 3) := by decide +kernel
theorem dX1_readLine_61 : decode cX1_readLine 61 = .ok (.ifCond .ne 19, 3) := by decide +kernel
theorem dX1_readLine_64 : decode cX1_readLine 64 = .ok (.aload_n 0, 1) := by decide +kernel
theorem dX1_readLine_65 : decode cX1_readLine 65 = .ok (.getfield 26, 3) := by decide +kernel
theorem dX1_readLine_68 : decode cX1_readLine 68 = .ok (.iconst 1, 1) := by decide +kernel
theorem dX1_readLine_69 : decode cX1_readLine 69 = .ok (.iload_n 2, 1) := by decide +kernel
theorem dX1_readLine_70 : decode cX1_readLine 70 = .ok (.ishl, 1) := by decide +kernel
theorem dX1_readLine_71 : decode cX1_readLine 71 = .ok (.iand, 1) := by decide +kernel
theorem dX1_readLine_72 : decode cX1_readLine 72 = .ok (.ifCond .eq 8, 3) := by decide +kernel
theorem dX1_readLine_75 : decode cX1_readLine 75 = .ok (.aload_n 0, 1) := by decide +kernel
theorem dX1_readLine_76 : decode cX1_readLine 76 = .ok (.iconst 4, 1) := by decide +kernel
theorem dX1_readLine_77 : decode cX1_readLine 77 = .ok (.putfield 30, 3) := by decide +kernel
theorem dX1_readLine_80 : decode cX1_readLine 80 = .ok (.aload_n 0, 1) := by decide +kernel
theorem dX1_readLine_81 : decode cX1_readLine 81 = .ok (.getfield 30, 3) := by decide +kernel
theorem dX1_readLine_84 : decode cX1_readLine 84 = .ok (.ifCond .eq 4, 3) := by decide +kernel
theorem dX1_readLine_87 : decode cX1_readLine 87 = .ok (.return_, 1) := by decide +kernel
theorem dX1_readLine_88 : decode cX1_readLine 88 = .ok (.aload_n 0, 1) := by decide +kernel
theorem dX1_readLine_89 : decode cX1_readLine 89 = .ok (.aload_n 1, 1) := by decide +kernel
theorem dX1_readLine_90 : decode cX1_readLine 90 = .ok (.getstatic 55, 3) := by decide +kernel
theorem dX1_readLine_93 : decode cX1_readLine 93 = .ok (.iload_n 2, 1) := by decide +kernel
theorem dX1_readLine_94 : decode cX1_readLine 94 = .ok (.iaload, 1) := by decide +kernel
theorem dX1_readLine_95 : decode cX1_readLine 95 = .ok (.getstatic 58, 3) := by decide +kernel
theorem dX1_readLine_98 : decode cX1_readLine 98 = .ok (.iload_n 2, 1) := by decide +kernel
theorem dX1_readLine_99 : decode cX1_readLine 99 = .ok (.iaload, 1) := by decide +kernel
theorem dX1_readLine_100 : decode cX1_readLine 100 = .ok (.invokevirtual 51, 3) := by decide +kernel
theorem dX1_readLine_103 : decode cX1_readLine 103 = .ok (.istore_n 3, 1) := by decide +kernel
theorem dX1_readLine_104 : decode cX1_readLine 104 = .ok (.aload_n 0, 1) := by decide +kernel
theorem dX1_readLine_105 : decode cX1_readLine 105 = .ok (.getfield 30, 3) := by decide +kernel
theorem dX1_readLine_108 : decode cX1_readLine 108 = .ok (.ifCond .eq 4, 3) := by decide +kernel
theorem dX1_readLine_111 : decode cX1_readLine 111 = .ok (.return_, 1) := by decide +kernel
theorem dX1_readLine_112 : decode cX1_readLine 112 = .ok (.aload_n 0, 1) := by decide +kernel
theorem dX1_readLine_113 : decode cX1_readLine 113 = .ok (.getfield 11, 3) := by decide +kernel
theorem dX1_readLine_116 : decode cX1_readLine 116 = .ok (.iload_n 2, 1) := by decide +kernel
theorem dX1_readLine_117 : decode cX1_readLine 117 = .ok (.iload_n 3, 1) := by decide +kernel
theorem dX1_readLine_118 : decode cX1_readLine 118 = .ok (.iastore, 1) := by decide +kernel
theorem dX1_readLine_119 : decode cX1_readLine 119 = .ok (.aload_n 0, 1) := by decide +kernel
theorem dX1_readLine_120 : decode cX1_readLine 120 = .ok (.dup, 1) := by decide +kernel
theorem dX1_readLine_121 : decode cX1_readLine 121 = .ok (.getfield 26, 3) := by decide +kernel
theorem dX1_readLine_124 : decode cX1_readLine 124 = .ok (.iconst 1, 1) := by decide +kernel
theorem dX1_readLine_125 : decode cX1_readLine 125 = .ok (.iload_n 2, 1) := by decide +kernel
theorem dX1_readLine_126 : decode cX1_readLine 126 = .ok (.ishl, 1) := by decide +kernel
theorem dX1_readLine_127 : decode cX1_readLine 127 = .ok (.ior, 1) := by decide +kernel
theorem dX1_readLine_128 : decode cX1_readLine 128 = .ok (.putfield 26, 3) := by decide +kernel
theorem dX1_readLine_131 : decode cX1_readLine 131 = .ok (.aload_n 0, 1) := by decide +kernel
theorem dX1_readLine_132 : decode cX1_readLine 132 = .ok (.aload_n 1, 1) := by decide +kernel
theorem dX1_readLine_133 : decode cX1_readLine 133 = .ok (.invokevirtual 38, 3) := by decide +kernel
theorem dX1_readLine_136 : decode cX1_readLine 136 = .ok (.aload_n 0, 1) := by decide +kernel
theorem dX1_readLine_137 : decode cX1_readLine 137 = .ok (.getfield 30, 3) := by decide +kernel
theorem dX1_readLine_140 : decode cX1_readLine 140 = .ok (.ifCond .ne 16, 3) := by decide +kernel
theorem dX1_readLine_143 : decode cX1_readLine 143 = .ok (.aload_n 0, 1) := by decide +kernel
theorem dX1_readLine_144 : decode cX1_readLine 144 = .ok (.getfield 42, 3) := by decide +kernel
theorem dX1_readLine_147 : decode cX1_readLine 147 = .ok (.iconst 3, 1) := by decide +kernel
theorem dX1_readLine_148 : decode cX1_readLine 148 = .ok (.if_icmp .eq 8, 3) := by decide +kernel
theorem dX1_readLine_151 : decode cX1_readLine 151 = .ok (.aload_n 0, 1) := by decide +kernel
theorem dX1_readLine_152 : decode cX1_readLine 152 = .ok (.iconst 2, 1) := by decide +kernel
theorem dX1_readLine_153 : decode cX1_readLine 153 = .ok (.putfield 30, 3) := by decide +kernel
theorem dX1_readLine_156 : decode cX1_readLine 156 = .ok (.return_, 1) := by decide +kernel
theorem dX1_readNumber_0 : decode cX1_readNumber 0 = .ok (.aload_n 0, 1) := by decide +kernel
theorem dX1_readNumber_1 : decode cX1_readNumber 1 = .ok (.aload_n 1, 1) := by decide +kernel
theorem dX1_readNumber_2 : decode cX1_readNumber 2 = .ok (.invokevirtual 38, 3) := by decide +kernel
theorem dX1_readNumber_5 : decode cX1_readNumber 5 = .ok (.aload_n 0, 1) := by decide +kernel
theorem dX1_readNumber_6 : decode cX1_readNumber 6 = .ok (.getfield 30, 3) := by decide +kernel
theorem dX1_readNumber_9 : decode cX1_readNumber 9 = .ok (.ifCond .eq 5, 3) := by decide +kernel
theorem dX1_readNumber_12 : decode cX1_readNumber 12 = .ok (.iconst 0, 1) := by decide +kernel
theorem dX1_readNumber_13 : decode cX1_readNumber 13 = .ok (.ireturn, 1) := by decide +kernel
theorem dX1_readNumber_14 : decode cX1_readNumber 14 = .ok (.aload_n 0, 1) := by decide +kernel
theorem dX1_readNumber_15 : decode cX1_readNumber 15 = .ok (.getfield 42, 3) := by decide +kernel
theorem dX1_readNumber_18 : decode cX1_readNumber 18 = .ok (.iconst 2, 1) := by decide +kernel
theorem dX1_readNumber_19 : decode cX1_readNumber 19 = .ok (.if_icmp .eq 10, 3) := by decide +kernel
theorem dX1_readNumber_22 : decode cX1_readNumber 22 = .ok (.aload_n 0, 1) := by decide +kernel
theorem dX1_readNumber_23 : decode cX1_readNumber 23 = .ok (.iconst 2, 1) := by decide +kernel
theorem dX1_readNumber_24 : decode cX1_readNumber 24 = .ok (.putfield 30, 3) := by decide +kernel
theorem dX1_readNumber_27 : decode cX1_readNumber 27 = .ok (.iconst 0, 1) := by decide +kernel
theorem dX1_readNumber_28 : decode cX1_readNumber 28 = .ok (.ireturn, 1) := by decide +kernel
theorem dX1_readNumber_29 : decode cX1_readNumber 29 = .ok (.aload_n 0, 1) := by decide +kernel
theorem dX1_readNumber_30 : decode cX1_readNumber 30 = .ok (.getfield 48, 3) := by decide +kernel
theorem dX1_readNumber_33 : decode cX1_readNumber 33 = .ok (.iload_n 2, 1) := by decide +kernel
theorem dX1_readNumber_34 : decode cX1_readNumber 34 = .ok (.iload_n 3, 1) := by decide +kernel
theorem dX1_readNumber_35 : decode cX1_readNumber 35 = .ok (.invokestatic 61, 3) := by decide +kernel
theorem dX1_readNumber_38 : decode cX1_readNumber 38 = .ok (.ifCond .ne 10, 3) := by decide +kernel
theorem dX1_readNumber_41 : decode cX1_readNumber 41 = .ok (.aload_n 0, 1) := by decide +kernel
theorem dX1_readNumber_42 : decode cX1_readNumber 42 = .ok (.iconst 3, 1) := by decide +kernel
theorem dX1_readNumber_43 : decode cX1_readNumber 43 = .ok (.putfield 30, 3) := by decide +kernel
theorem dX1_readNumber_46 : decode cX1_readNumber 46 = .ok (.iconst 0, 1) := by decide +kernel
theorem dX1_readNumber_47 : decode cX1_readNumber 47 = .ok (.ireturn, 1) := by decide +kernel
theorem dX1_readNumber_48 : decode cX1_readNumber 48 = .ok (.aload_n 0, 1) := by decide +kernel
theorem dX1_readNumber_49 : decode cX1_readNumber 49 = .ok (.getfield 48, 3) := by decide +kernel
theorem dX1_readNumber_52 : decode cX1_readNumber 52 = .ok (.ireturn, 1) := by decide +kernel
theorem dX1_readToken_0 : decode cX1_readToken 0 = .ok (.aload_n 0, 1) := by decide +kernel
theorem dX1_readToken_1 : decode cX1_readToken 1 = .ok (.getfield 33, 3) := by decide +kernel
theorem dX1_readToken_4 : decode cX1_readToken 4 = .ok (.aload_n 1, 1) := by decide +kernel
theorem dX1_readToken_5 : decode cX1_readToken 5 = .ok (.getfield 65, 3) := by decide +kernel
theorem dX1_readToken_8 : decode cX1_readToken 8 = .ok (.if_icmp .ge 30, 3) := by decide +kernel
theorem dX1_readToken_11 : decode cX1_readToken 11 = .ok (.aload_n 1, 1) := by decide +kernel
theorem dX1_readToken_12 : decode cX1_readToken 12 = .ok (.getfield 68, 3) := by decide +kernel
theorem dX1_readToken_15 : decode cX1_readToken 15 = .ok (.aload_n 0, 1) := by decide +kernel
theorem dX1_readToken_16 : decode cX1_readToken 16 = .ok (.getfield 33, 3) := by decide +kernel
theorem dX1_readToken_19 : decode cX1_readToken 19 = .ok (.iaload, 1) := by decide +kernel
theorem dX1_readToken_20 : decode cX1_readToken 20 = .ok (.bipush 32, 2) := by decide +kernel
theorem dX1_readToken_22 : decode cX1_readToken 22 = .ok (.if_icmp .ne 16, 3) := by decide +kernel
theorem dX1_readToken_25 : decode cX1_readToken 25 = .ok (.aload_n 0, 1) := by decide +kernel
theorem dX1_readToken_26 : decode cX1_readToken 26 = .ok (.dup, 1) := by decide +kernel
theorem dX1_readToken_27 : decode cX1_readToken 27 = .ok (.getfield 33, 3) := by decide +kernel
theorem dX1_readToken_30 : decode cX1_readToken 30 = .ok (.iconst 1, 1) := by decide +kernel
theorem dX1_readToken_31 : decode cX1_readToken 31 = .ok (.iadd, 1) := by decide +kernel
theorem dX1_readToken_32 : decode cX1_readToken 32 = .ok (.putfield 33, 3) := by decide +kernel
theorem dX1_readToken_35 : decode cX1_readToken 35 = .ok (.goto (-35), 3) := by decide +kernel
theorem dX1_readToken_38 : decode cX1_readToken 38 = .ok (.aload_n 0, 1) := by decide +kernel
theorem dX1_readToken_39 : decode cX1_readToken 39 = .ok (.aload_n 0, 1) := by decide +kernel
theorem dX1_readToken_40 : decode cX1_readToken 40 = .ok (.getfield 33, 3) := by decide +kernel
theorem dX1_readToken_43 : decode cX1_readToken 43 = .ok (.putfield 71, 3) := by decide +kernel
theorem dX1_readToken_46 : decode cX1_readToken 46 = .ok (.aload_n 0, 1) := by decide +kernel
theorem dX1_readToken_47 : decode cX1_readToken 47 = .ok (.getfield 33, 3) := by decide +kernel
theorem dX1_readToken_50 : decode cX1_readToken 50 = .ok (.aload_n 1, 1) := by decide +kernel
theorem dX1_readToken_51 : decode cX1_readToken 51 = .ok (.getfield 65, 3) := by decide +kernel
theorem dX1_readToken_54 : decode cX1_readToken 54 = .ok (.if_icmp .lt 11, 3) := by decide +kernel
theorem dX1_readToken_57 : decode cX1_readToken 57 = .ok (.aload_n 0, 1) := by decide +kernel
theorem dX1_readToken_58 : decode cX1_readToken 58 = .ok (.iconst 0, 1) := by decide +kernel
theorem dX1_readToken_59 : decode cX1_readToken 59 = .ok (.putfield 42, 3) := by decide +kernel
theorem dX1_readToken_62 : decode cX1_readToken 62 = .ok (.goto 86, 3) := by decide +kernel
theorem dX1_readToken_65 : decode cX1_readToken 65 = .ok (.aload_n 1, 1) := by decide +kernel
theorem dX1_readToken_66 : decode cX1_readToken 66 = .ok (.getfield 68, 3) := by decide +kernel
theorem dX1_readToken_69 : decode cX1_readToken 69 = .ok (.aload_n 0, 1) := by decide +kernel
theorem dX1_readToken_70 : decode cX1_readToken 70 = .ok (.getfield 33, 3) := by decide +kernel
theorem dX1_readToken_73 : decode cX1_readToken 73 = .ok (.iaload, 1) := by decide +kernel
theorem dX1_readToken_74 : decode cX1_readToken 74 = .ok (.invokestatic 74, 3) := by decide +kernel
theorem dX1_readToken_77 : decode cX1_readToken 77 = .ok (.ifCond .eq 11, 3) := by decide +kernel
theorem dX1_readToken_80 : decode cX1_readToken 80 = .ok (.aload_n 0, 1) := by decide +kernel
theorem dX1_readToken_81 : decode cX1_readToken 81 = .ok (.aload_n 1, 1) := by decide +kernel
theorem dX1_readToken_82 : decode cX1_readToken 82 = .ok (.invokevirtual 78, 3) := by decide +kernel
theorem dX1_readToken_85 : decode cX1_readToken 85 = .ok (.goto 63, 3) := by decide +kernel
theorem dX1_readToken_88 : decode cX1_readToken 88 = .ok (.aload_n 1, 1) := by decide +kernel
theorem dX1_readToken_89 : decode cX1_readToken 89 = .ok (.getfield 68, 3) := by decide +kernel
theorem dX1_readToken_92 : decode cX1_readToken 92 = .ok (.aload_n 0, 1) := by decide +kernel
theorem dX1_readToken_93 : decode cX1_readToken 93 = .ok (.getfield 33, 3) := by decide +kernel
theorem dX1_readToken_96 : decode cX1_readToken 96 = .ok (.iaload, 1) := by decide +kernel
theorem dX1_readToken_97 : decode cX1_readToken 97 = .ok (.invokestatic 81, 3) := by decide +kernel
theorem dX1_readToken_100 : decode cX1_readToken 100 = .ok (.ifCond .eq 11, 3) := by decide +kernel
theorem dX1_readToken_103 : decode cX1_readToken 103 = .ok (.aload_n 0, 1) := by decide +kernel
theorem dX1_readToken_104 : decode cX1_readToken 104 = .ok (.aload_n 1, 1) := by decide +kernel
theorem dX1_readToken_105 : decode cX1_readToken 105 = .ok (.invokevirtual 84, 3) := by decide +kernel
theorem dX1_readToken_108 : decode cX1_readToken 108 = .ok (.goto 40, 3) := by decide +kernel
theorem dX1_readToken_111 : decode cX1_readToken 111 = .ok (.aload_n 1, 1) := by decide +kernel
theorem dX1_readToken_112 : decode cX1_readToken 112 = .ok (.getfield 68, 3) := by decide +kernel
theorem dX1_readToken_115 : decode cX1_readToken 115 = .ok (.aload_n 0, 1) := by decide +kernel
theorem dX1_readToken_116 : decode cX1_readToken 116 = .ok (.getfield 33, 3) := by decide +kernel
theorem dX1_readToken_119 : decode cX1_readToken 119 = .ok (.iaload, 1) := by decide +kernel
theorem dX1_readToken_120 : decode cX1_readToken 120 = .ok (.bipush 59, 2) := by decide +kernel
theorem dX1_readToken_122 : decode cX1_readToken 122 = .ok (.if_icmp .ne 21, 3) := by decide +kernel
theorem dX1_readToken_125 : decode cX1_readToken 125 = .ok (.aload_n 0, 1) := by decide +kernel
theorem dX1_readToken_126 : decode cX1_readToken 126 = .ok (.iconst 3, 1) := by decide +kernel
theorem dX1_readToken_127 : decode cX1_readToken 127 = .ok (.putfield 42, 3) := by decide +kernel
theorem dX1_readToken_130 : decode cX1_readToken 130 = .ok (.aload_n 0, 1) := by decide +kernel
theorem dX1_readToken_131 : decode cX1_readToken 131 = .ok (.dup, 1) := by decide +kernel
theorem dX1_readToken_132 : decode cX1_readToken 132 = .ok (.getfield 33, 3) := by decide +kernel
theorem dX1_readToken_135 : decode cX1_readToken 135 = .ok (.iconst 1, 1) := by decide +kernel
theorem dX1_readToken_136 : decode cX1_readToken 136 = .ok (.iadd, 1) := by decide +kernel
theorem dX1_readToken_137 : decode cX1_readToken 137 = .ok (.putfield 33, 3) := by decide +kernel
theorem dX1_readToken_140 : decode cX1_readToken 140 = .ok (.goto 8, 3) := by decide +kernel
theorem dX1_readToken_143 : decode cX1_readToken 143 = .ok (.aload_n 0, 1) := by decide +kernel
theorem dX1_readToken_144 : decode cX1_readToken 144 = .ok (.iconst 1, 1) := by decide +kernel
theorem dX1_readToken_145 : decode cX1_readToken 145 = .ok (.putfield 30, 3) := by decide +kernel
theorem dX1_readToken_148 : decode cX1_readToken 148 = .ok (.return_, 1) := by decide +kernel
theorem dX1_takeName_0 : decode cX1_takeName 0 = .ok (.aload_n 0, 1) := by decide +kernel
theorem dX1_takeName_1 : decode cX1_takeName 1 = .ok (.iconst 1, 1) := by decide +kernel
theorem dX1_takeName_2 : decode cX1_takeName 2 = .ok (.putfield 42, 3) := by decide +kernel
theorem dX1_takeName_5 : decode cX1_takeName 5 = .ok (.aload_n 0, 1) := by decide +kernel
theorem dX1_takeName_6 : decode cX1_takeName 6 = .ok (.getfield 33, 3) := by decide +kernel
theorem dX1_takeName_9 : decode cX1_takeName 9 = .ok (.aload_n 1, 1) := by decide +kernel
theorem dX1_takeName_10 : decode cX1_takeName 10 = .ok (.getfield 65, 3) := by decide +kernel
theorem dX1_takeName_13 : decode cX1_takeName 13 = .ok (.if_icmp .ge 31, 3) := by decide +kernel
theorem dX1_takeName_16 : decode cX1_takeName 16 = .ok (.aload_n 1, 1) := by decide +kernel
theorem dX1_takeName_17 : decode cX1_takeName 17 = .ok (.getfield 68, 3) := by decide +kernel
theorem dX1_takeName_20 : decode cX1_takeName 20 = .ok (.aload_n 0, 1) := by decide +kernel
theorem dX1_takeName_21 : decode cX1_takeName 21 = .ok (.getfield 33, 3) := by decide +kernel
theorem dX1_takeName_24 : decode cX1_takeName 24 = .ok (.iaload, 1) := by decide +kernel
theorem dX1_takeName_25 : decode cX1_takeName 25 = .ok (.invokestatic 74, 3) := by decide +kernel
theorem dX1_takeName_28 : decode cX1_takeName 28 = .ok (.ifCond .eq 16, 3) := by decide +kernel
theorem dX1_takeName_31 : decode cX1_takeName 31 = .ok (.aload_n 0, 1) := by decide +kernel
theorem dX1_takeName_32 : decode cX1_takeName 32 = .ok (.dup, 1) := by decide +kernel
theorem dX1_takeName_33 : decode cX1_takeName 33 = .ok (.getfield 33, 3) := by decide +kernel
theorem dX1_takeName_36 : decode cX1_takeName 36 = .ok (.iconst 1, 1) := by decide +kernel
theorem dX1_takeName_37 : decode cX1_takeName 37 = .ok (.iadd, 1) := by decide +kernel
theorem dX1_takeName_38 : decode cX1_takeName 38 = .ok (.putfield 33, 3) := by decide +kernel
theorem dX1_takeName_41 : decode cX1_takeName 41 = .ok (.goto (-36), 3) := by decide +kernel
theorem dX1_takeName_44 : decode cX1_takeName 44 = .ok (.aload_n 0, 1) := by decide +kernel
theorem dX1_takeName_45 : decode cX1_takeName 45 = .ok (.iconst 0, 1) := by decide +kernel
theorem dX1_takeName_46 : decode cX1_takeName 46 = .ok (.putfield 48, 3) := by decide +kernel
theorem dX1_takeName_49 : decode cX1_takeName 49 = .ok (.aload_n 0, 1) := by decide +kernel
theorem dX1_takeName_50 : decode cX1_takeName 50 = .ok (.getfield 48, 3) := by decide +kernel
theorem dX1_takeName_53 : decode cX1_takeName 53 = .ok (.bipush 13, 2) := by decide +kernel
theorem dX1_takeName_55 : decode cX1_takeName 55 = .ok (.if_icmp .ge 28, 3) := by decide +kernel
theorem dX1_takeName_58 : decode cX1_takeName 58 = .ok (.aload_n 0, 1) := by decide +kernel
theorem dX1_takeName_59 : decode cX1_takeName 59 = .ok (.aload_n 1, 1) := by decide +kernel
theorem dX1_takeName_60 : decode cX1_takeName 60 = .ok (.aload_n 0, 1) := by decide +kernel
theorem dX1_takeName_61 : decode cX1_takeName 61 = .ok (.getfield 48, 3) := by decide +kernel
theorem dX1_takeName_64 : decode cX1_takeName 64 = .ok (.invokevirtual 87, 3) := by decide +kernel
theorem dX1_takeName_67 : decode cX1_takeName 67 = .ok (.ifCond .ne 16, 3) := by decide +kernel
theorem dX1_takeName_70 : decode cX1_takeName 70 = .ok (.aload_n 0, 1) := by decide +kernel
theorem dX1_takeName_71 : decode cX1_takeName 71 = .ok (.dup, 1) := by decide +kernel
theorem dX1_takeName_72 : decode cX1_takeName 72 = .ok (.getfield 48, 3) := by decide +kernel
theorem dX1_takeName_75 : decode cX1_takeName 75 = .ok (.iconst 1, 1) := by decide +kernel
theorem dX1_takeName_76 : decode cX1_takeName 76 = .ok (.iadd, 1) := by decide +kernel
theorem dX1_takeName_77 : decode cX1_takeName 77 = .ok (.putfield 48, 3) := by decide +kernel
theorem dX1_takeName_80 : decode cX1_takeName 80 = .ok (.goto (-31), 3) := by decide +kernel
theorem dX1_takeName_83 : decode cX1_takeName 83 = .ok (.aload_n 0, 1) := by decide +kernel
theorem dX1_takeName_84 : decode cX1_takeName 84 = .ok (.getfield 48, 3) := by decide +kernel
theorem dX1_takeName_87 : decode cX1_takeName 87 = .ok (.bipush 13, 2) := by decide +kernel
theorem dX1_takeName_89 : decode cX1_takeName 89 = .ok (.if_icmp .ne 8, 3) := by decide +kernel
theorem dX1_takeName_92 : decode cX1_takeName 92 = .ok (.aload_n 0, 1) := by decide +kernel
theorem dX1_takeName_93 : decode cX1_takeName 93 = .ok (.iconst 1, 1) := by decide +kernel
theorem dX1_takeName_94 : decode cX1_takeName 94 = .ok (.putfield 30, 3) := by decide +kernel
theorem dX1_takeName_97 : decode cX1_takeName 97 = .ok (.return_, 1) := by decide +kernel
theorem dX1_isName_0 : decode cX1_isName 0 = .ok (.aload_n 0, 1) := by decide +kernel
theorem dX1_isName_1 : decode cX1_isName 1 = .ok (.getfield 33, 3) := by decide +kernel
theorem dX1_isName_4 : decode cX1_isName 4 = .ok (.aload_n 0, 1) := by decide +kernel
theorem dX1_isName_5 : decode cX1_isName 5 = .ok (.getfield 71, 3) := by decide +kernel
theorem dX1_isName_8 : decode cX1_isName 8 = .ok (.isub, 1) := by decide +kernel
theorem dX1_isName_9 : decode cX1_isName 9 = .ok (.bipush 6, 2) := by decide +kernel
theorem dX1_isName_11 : decode cX1_isName 11 = .ok (.if_icmp .le 5, 3) := by decide +kernel
theorem dX1_isName_14 : decode cX1_isName 14 = .ok (.iconst 0, 1) := by decide +kernel
theorem dX1_isName_15 : decode cX1_isName 15 = .ok (.ireturn, 1) := by decide +kernel
theorem dX1_isName_16 : decode cX1_isName 16 = .ok (.iconst 0, 1) := by decide +kernel
theorem dX1_isName_17 : decode cX1_isName 17 = .ok (.istore_n 3, 1) := by decide +kernel
theorem dX1_isName_18 : decode cX1_isName 18 = .ok (.iload_n 3, 1) := by decide +kernel
theorem dX1_isName_19 : decode cX1_isName 19 = .ok (.bipush 6, 2) := by decide +kernel
theorem dX1_isName_21 : decode cX1_isName 21 = .ok (.if_icmp .ge 58, 3) := by decide +kernel
theorem dX1_isName_24 : decode cX1_isName 24 = .ok (.aload_n 0, 1) := by decide +kernel
theorem dX1_isName_25 : decode cX1_isName 25 = .ok (.getfield 71, 3) := by decide +kernel
theorem dX1_isName_28 : decode cX1_isName 28 = .ok (.iload_n 3, 1) := by decide +kernel
theorem dX1_isName_29 : decode cX1_isName 29 = .ok (.iadd, 1) := by decide +kernel
theorem dX1_isName_30 : decode cX1_isName 30 = .ok (.aload_n 0, 1) := by decide +kernel
theorem dX1_isName_31 : decode cX1_isName 31 = .ok (.getfield 33, 3) := by decide +kernel
theorem dX1_isName_34 : decode cX1_isName 34 = .ok (.if_icmp .ge 17, 3) := by decide +kernel
theorem dX1_isName_37 : decode cX1_isName 37 = .ok (.aload_n 1, 1) := by decide +kernel
theorem dX1_isName_38 : decode cX1_isName 38 = .ok (.getfield 68, 3) := by decide +kernel
theorem dX1_isName_41 : decode cX1_isName 41 = .ok (.aload_n 0, 1) := by decide +kernel
theorem dX1_isName_42 : decode cX1_isName 42 = .ok (.getfield 71, 3) := by decide +kernel
theorem dX1_isName_45 : decode cX1_isName 45 = .ok (.iload_n 3, 1) := by decide +kernel
theorem dX1_isName_46 : decode cX1_isName 46 = .ok (.iadd, 1) := by decide +kernel
theorem dX1_isName_47 : decode cX1_isName 47 = .ok (.iaload, 1) := by decide +kernel
theorem dX1_isName_48 : decode cX1_isName 48 = .ok (.goto 5, 3) := by decide +kernel
theorem dX1_isName_51 : decode cX1_isName 51 = .ok (.bipush 32, 2) := by decide +kernel
theorem dX1_isName_53 : decode cX1_isName 53 = .ok (.istore 4, 2) := by decide +kernel
theorem dX1_isName_55 : decode cX1_isName 55 = .ok (.iload 4, 2) := by decide +kernel
theorem dX1_isName_57 : decode cX1_isName 57 = .ok (.ldc 91, 2) := by decide +kernel
theorem dX1_isName_59 : decode cX1_isName 59 = .ok (.bipush 6, 2) := by decide +kernel
theorem dX1_isName_61 : decode cX1_isName 61 = .ok (.iload_n 2, 1) := by decide +kernel
theorem dX1_isName_62 : decode cX1_isName 62 = .ok (.imul, 1) := by decide +kernel
theorem dX1_isName_63 : decode cX1_isName 63 = .ok (.iload_n 3, 1) := by decide +kernel
theorem dX1_isName_64 : decode cX1_isName 64 = .ok (.iadd, 1) := by decide +kernel
theorem dX1_isName_65 : decode cX1_isName 65 = .ok (.invokevirtual 93, 3) := by decide +kernel
theorem dX1_isName_68 : decode cX1_isName 68 = .ok (.if_icmp .eq 5, 3) := by decide +kernel
theorem dX1_isName_71 : decode cX1_isName 71 = .ok (.iconst 0, 1) := by decide +kernel
theorem dX1_isName_72 : decode cX1_isName 72 = .ok (.ireturn, 1) := by decide +kernel
theorem dX1_isName_73 : decode cX1_isName 73 = .ok (.iinc 3 1, 3) := by decide +kernel
theorem dX1_isName_76 : decode cX1_isName 76 = .ok (.goto (-58), 3) := by decide +kernel
theorem dX1_isName_79 : decode cX1_isName 79 = .ok (.iconst 1, 1) := by decide +kernel
theorem dX1_isName_80 : decode cX1_isName 80 = .ok (.ireturn, 1) := by decide +kernel
theorem dX1_takeNumber_0 : decode cX1_takeNumber 0 = .ok (.aload_n 0, 1) := by decide +kernel
theorem dX1_takeNumber_1 : decode cX1_takeNumber 1 = .ok (.iconst 2, 1) := by decide +kernel
theorem dX1_takeNumber_2 : decode cX1_takeNumber 2 = .ok (.putfield 42, 3) := by decide +kernel
theorem dX1_takeNumber_5 : decode cX1_takeNumber 5 = .ok (.aload_n 0, 1) := by decide +kernel
theorem dX1_takeNumber_6 : decode cX1_takeNumber 6 = .ok (.iconst 0, 1) := by decide +kernel
theorem dX1_takeNumber_7 : decode cX1_takeNumber 7 = .ok (.putfield 48, 3) := by decide +kernel
theorem dX1_takeNumber_10 : decode cX1_takeNumber 10 = .ok (.aload_n 0, 1) := by decide +kernel
theorem dX1_takeNumber_11 : decode cX1_takeNumber 11 = .ok (.getfield 33, 3) := by decide +kernel
theorem dX1_takeNumber_14 : decode cX1_takeNumber 14 = .ok (.aload_n 1, 1) := by decide +kernel
theorem dX1_takeNumber_15 : decode cX1_takeNumber 15 = .ok (.getfield 65, 3) := by decide +kernel
theorem dX1_takeNumber_18 : decode cX1_takeNumber 18 = .ok (.if_icmp .ge 55, 3) := by decide +kernel
theorem dX1_takeNumber_21 : decode cX1_takeNumber 21 = .ok (.aload_n 1, 1) := by decide +kernel
theorem dX1_takeNumber_22 : decode cX1_takeNumber 22 = .ok (.getfield 68, 3) := by decide +kernel
theorem dX1_takeNumber_25 : decode cX1_takeNumber 25 = .ok (.aload_n 0, 1) := by decide +kernel
theorem dX1_takeNumber_26 : decode cX1_takeNumber 26 = .ok (.getfield 33, 3) := by decide +kernel
theorem dX1_takeNumber_29 : decode cX1_takeNumber 29 = .ok (.iaload, 1) := by decide +kernel
theorem dX1_takeNumber_30 : decode cX1_takeNumber 30 = .ok (.invokestatic 81, 3) := by decide +kernel
theorem dX1_takeNumber_33 : decode cX1_takeNumber 33 = .ok (.ifCond .eq 40, 3) := by decide +kernel
theorem dX1_takeNumber_36 : decode cX1_takeNumber 36 = .ok (.aload_n 0, 1) := by decide +kernel
theorem dX1_takeNumber_37 : decode cX1_takeNumber 37 = .ok (.aload_n 0, 1) := by decide +kernel
theorem dX1_takeNumber_38 : decode cX1_takeNumber 38 = .ok (.getfield 48, 3) := by decide +kernel
theorem dX1_takeNumber_41 : decode cX1_takeNumber 41 = .ok (.bipush 10, 2) := by decide +kernel
theorem dX1_takeNumber_43 : decode cX1_takeNumber 43 = .ok (.imul, 1) := by decide +kernel
theorem dX1_takeNumber_44 : decode cX1_takeNumber 44 = .ok (.aload_n 1, 1) := by decide +kernel
theorem dX1_takeNumber_45 : decode cX1_takeNumber 45 = .ok (.getfield 68, 3) := by decide +kernel
theorem dX1_takeNumber_48 : decode cX1_takeNumber 48 = .ok (.aload_n 0, 1) := by decide +kernel
theorem dX1_takeNumber_49 : decode cX1_takeNumber 49 = .ok (.getfield 33, 3) := by decide +kernel
theorem dX1_takeNumber_52 : decode cX1_takeNumber 52 = .ok (.iaload, 1) := by decide +kernel
theorem dX1_takeNumber_53 : decode cX1_takeNumber 53 = .ok (.iadd, 1) := by decide +kernel
theorem dX1_takeNumber_54 : decode cX1_takeNumber 54 = .ok (.bipush 48, 2) := by decide +kernel
theorem dX1_takeNumber_56 : decode cX1_takeNumber 56 = .ok (.isub, 1) := by decide +kernel
theorem dX1_takeNumber_57 : decode cX1_takeNumber 57 = .ok (.putfield 48, 3) := by decide +kernel
theorem dX1_takeNumber_60 : decode cX1_takeNumber 60 = .ok (.aload_n 0, 1) := by decide +kernel
theorem dX1_takeNumber_61 : decode cX1_takeNumber 61 = .ok (.dup, 1) := by decide +kernel
theorem dX1_takeNumber_62 : decode cX1_takeNumber 62 = .ok (.getfield 33, 3) := by decide +kernel
theorem dX1_takeNumber_65 : decode cX1_takeNumber 65 = .ok (.iconst 1, 1) := by decide +kernel
theorem dX1_takeNumber_66 : decode cX1_takeNumber 66 = .ok (.iadd, 1) := by decide +kernel
theorem dX1_takeNumber_67 : decode cX1_takeNumber 67 = .ok (.putfield 33, 3) := by decide +kernel
theorem dX1_takeNumber_70 : decode cX1_takeNumber 70 = .ok (.goto (-60), 3) := by decide +kernel
theorem dX1_takeNumber_73 : decode cX1_takeNumber 73 = .ok (.aload_n 0, 1) := by decide +kernel
theorem dX1_takeNumber_74 : decode cX1_takeNumber 74 = .ok (.getfield 33, 3) := by decide +kernel
theorem dX1_takeNumber_77 : decode cX1_takeNumber 77 = .ok (.aload_n 0, 1) := by decide +kernel
theorem dX1_takeNumber_78 : decode cX1_takeNumber 78 = .ok (.getfield 71, 3) := by decide +kernel
theorem dX1_takeNumber_81 : decode cX1_takeNumber 81 = .ok (.isub, 1) := by decide +kernel
theorem dX1_takeNumber_82 : decode cX1_takeNumber 82 = .ok (.iconst 2, 1) := by decide +kernel
theorem dX1_takeNumber_83 : decode cX1_takeNumber 83 = .ok (.if_icmp .le 8, 3) := by decide +kernel
theorem dX1_takeNumber_86 : decode cX1_takeNumber 86 = .ok (.aload_n 0, 1) := by decide +kernel
theorem dX1_takeNumber_87 : decode cX1_takeNumber 87 = .ok (.iconst 1, 1) := by decide +kernel
theorem dX1_takeNumber_88 : decode cX1_takeNumber 88 = .ok (.putfield 30, 3) := by decide +kernel
theorem dX1_takeNumber_91 : decode cX1_takeNumber 91 = .ok (.return_, 1) := by decide +kernel
theorem dX1_isLetter_0 : decode cX1_isLetter 0 = .ok (.iload_n 0, 1) := by decide +kernel
theorem dX1_isLetter_1 : decode cX1_isLetter 1 = .ok (.bipush 97, 2) := by decide +kernel
theorem dX1_isLetter_3 : decode cX1_isLetter 3 = .ok (.bipush 122, 2) := by decide +kernel
theorem dX1_isLetter_5 : decode cX1_isLetter 5 = .ok (.invokestatic 61, 3) := by decide +kernel
theorem dX1_isLetter_8 : decode cX1_isLetter 8 = .ok (.ireturn, 1) := by decide +kernel
theorem dX1_isFigure_0 : decode cX1_isFigure 0 = .ok (.iload_n 0, 1) := by decide +kernel
theorem dX1_isFigure_1 : decode cX1_isFigure 1 = .ok (.bipush 48, 2) := by decide +kernel
theorem dX1_isFigure_3 : decode cX1_isFigure 3 = .ok (.bipush 57, 2) := by decide +kernel
theorem dX1_isFigure_5 : decode cX1_isFigure 5 = .ok (.invokestatic 61, 3) := by decide +kernel
theorem dX1_isFigure_8 : decode cX1_isFigure 8 = .ok (.ireturn, 1) := by decide +kernel
theorem dX2_init_0 : decode cX2_init 0 = .ok (.aload_n 0, 1) := by decide +kernel
theorem dX2_init_1 : decode cX2_init 1 = .ok (.invokespecial 3, 3) := by decide +kernel
theorem dX2_init_4 : decode cX2_init 4 = .ok (.aload_n 0, 1) := by decide +kernel
theorem dX2_init_5 : decode cX2_init 5 = .ok (.bipush 12, 2) := by decide +kernel
theorem dX2_init_7 : decode cX2_init 7 = .ok (.newarray .int, 2) := by decide +kernel
theorem dX2_init_9 : decode cX2_init 9 = .ok (.putfield 11, 3) := by decide +kernel
theorem dX2_init_12 : decode cX2_init 12 = .ok (.aload_n 0, 1) := by decide +kernel
theorem dX2_init_13 : decode cX2_init 13 = .ok (.bipush 12, 2) := by decide +kernel
theorem dX2_init_15 : decode cX2_init 15 = .ok (.newarray .int, 2) := by decide +kernel
theorem dX2_init_17 : decode cX2_init 17 = .ok (.putfield 15, 3) := by decide +kernel
theorem dX2_init_20 : decode cX2_init 20 = .ok (.aload_n 0, 1) := by decide +kernel
theorem dX2_init_21 : decode cX2_init 21 = .ok (.bipush 12, 2) := by decide +kernel
theorem dX2_init_23 : decode cX2_init 23 = .ok (.newarray .int, 2) := by decide +kernel
theorem dX2_init_25 : decode cX2_init 25 = .ok (.putfield 18, 3) := by decide +kernel
theorem dX2_init_28 : decode cX2_init 28 = .ok (.return_, 1) := by decide +kernel
theorem dX2_join_0 : decode cX2_join 0 = .ok (.aload_n 0, 1) := by decide +kernel
theorem dX2_join_1 : decode cX2_join 1 = .ok (.getfield 21, 3) := by decide +kernel
theorem dX2_join_4 : decode cX2_join 4 = .ok (.bipush 12, 2) := by decide +kernel
theorem dX2_join_6 : decode cX2_join 6 = .ok (.if_icmp .lt 5, 3) := by decide +kernel
theorem dX2_join_9 : decode cX2_join 9 = .ok (.iconst 0, 1) := by decide +kernel
theorem dX2_join_10 : decode cX2_join 10 = .ok (.ireturn, 1) := by decide +kernel
theorem dX2_join_11 : decode cX2_join 11 = .ok (.aload_n 0, 1) := by decide +kernel
theorem dX2_join_12 : decode cX2_join 12 = .ok (.getfield 11, 3) := by decide +kernel
theorem dX2_join_15 : decode cX2_join 15 = .ok (.aload_n 0, 1) := by decide +kernel
theorem dX2_join_16 : decode cX2_join 16 = .ok (.getfield 21, 3) := by decide +kernel
theorem dX2_join_19 : decode cX2_join 19 = .ok (.iload_n 1, 1) := by decide +kernel
theorem dX2_join_20 : decode cX2_join 20 = .ok (.iastore, 1) := by decide +kernel
theorem dX2_join_21 : decode cX2_join 21 = .ok (.aload_n 0, 1) := by decide +kernel
theorem dX2_join_22 : decode cX2_join 22 = .ok (.dup, 1) := by decide +kernel
theorem dX2_join_23 : decode cX2_join 23 = .ok (.getfield 21, 3) := by decide +kernel
theorem dX2_join_26 : decode cX2_join 26 = .ok (.iconst 1, 1) := by decide +kernel
theorem dX2_join_27 : decode cX2_join 27 = .ok (.iadd, 1) := by decide +kernel
theorem dX2_join_28 : decode cX2_join 28 = .ok (.putfield 21, 3) := by decide +kernel
theorem dX2_join_31 : decode cX2_join 31 = .ok (.iconst 1, 1) := by decide +kernel
theorem dX2_join_32 : decode cX2_join 32 = .ok (.ireturn, 1) := by decide +kernel
theorem dX2_has_0 : decode cX2_has 0 = .ok (.iload_n 1, 1) := by decide +kernel
theorem dX2_has_1 : decode cX2_has 1 = .ok (.iconst 0, 1) := by decide +kernel
theorem dX2_has_2 : decode cX2_has 2 = .ok (.aload_n 0, 1) := by decide +kernel
theorem dX2_has_3 : decode cX2_has 3 = .ok (.getfield 21, 3) := by decide +kernel
theorem dX2_has_6 : decode cX2_has 6 = .ok (.iconst 1, 1) := by decide +kernel
theorem dX2_has_7 : decode cX2_has 7 = .ok (.isub, 1) := by decide +kernel
theorem dX2_has_8 : decode cX2_has 8 = .ok (.invokestatic 25, 3) := by decide +kernel
theorem dX2_has_11 : decode cX2_has 11 = .ok (.ireturn, 1) := by decide +kernel
theorem dX2_begin_0 : decode cX2_begin 0 = .ok (.aload_n 0, 1) := by decide +kernel
theorem dX2_begin_1 : decode cX2_begin 1 = .ok (.getfield 11, 3) := by decide +kernel
theorem dX2_begin_4 : decode cX2_begin 4 = .ok (.iconst 0, 1) := by decide +kernel
theorem dX2_begin_5 : decode cX2_begin 5 = .ok (.aload_n 0, 1) := by decide +kernel
theorem dX2_begin_6 : decode cX2_begin 6 = .ok (.getfield 15, 3) := by decide +kernel
theorem dX2_begin_9 : decode cX2_begin 9 = .ok (.iconst 0, 1) := by decide +kernel
theorem dX2_begin_10 : decode cX2_begin 10 = .ok (.aload_n 0, 1) := by decide +kernel
theorem dX2_begin_11 : decode cX2_begin 11 = .ok (.getfield 21, 3) := by decide +kernel
theorem dX2_begin_14 : decode cX2_begin 14 = .ok (.invokestatic 29, 3) := by decide +kernel
theorem dX2_begin_17 : decode cX2_begin 17 = .ok (.return_, 1) := by decide +kernel
theorem dX2_keep_0 : decode cX2_keep 0 = .ok (.aload_n 0, 1) := by decide +kernel
theorem dX2_keep_1 : decode cX2_keep 1 = .ok (.getfield 15, 3) := by decide +kernel
theorem dX2_keep_4 : decode cX2_keep 4 = .ok (.iconst 0, 1) := by decide +kernel
theorem dX2_keep_5 : decode cX2_keep 5 = .ok (.aload_n 0, 1) := by decide +kernel
theorem dX2_keep_6 : decode cX2_keep 6 = .ok (.getfield 11, 3) := by decide +kernel
theorem dX2_keep_9 : decode cX2_keep 9 = .ok (.iconst 0, 1) := by decide +kernel
theorem dX2_keep_10 : decode cX2_keep 10 = .ok (.aload_n 0, 1) := by decide +kernel
theorem dX2_keep_11 : decode cX2_keep 11 = .ok (.getfield 21, 3) := by decide +kernel
theorem dX2_keep_14 : decode cX2_keep 14 = .ok (.invokestatic 29, 3) := by decide +kernel
theorem dX2_keep_17 : decode cX2_keep 17 = .ok (.return_, 1) := by decide +kernel
theorem dX2_goYear_0 : decode cX2_goYear 0 = .ok (.iconst 0, 1) := by decide +kernel
theorem dX2_goYear_1 : decode cX2_goYear 1 = .ok (.istore_n 3, 1) := by decide +kernel
theorem dX2_goYear_2 : decode cX2_goYear 2 = .ok (.iload_n 3, 1) := by decide +kernel
theorem dX2_goYear_3 : decode cX2_goYear 3 = .ok (.aload_n 0, 1) := by decide +kernel
theorem dX2_goYear_4 : decode cX2_goYear 4 = .ok (.getfield 21, 3) := by decide +kernel
theorem dX2_goYear_7 : decode cX2_goYear 7 = .ok (.if_icmp .ge 44, 3) := by decide +kernel
theorem dX2_goYear_10 : decode cX2_goYear 10 = .ok (.aload_n 0, 1) := by decide +kernel
theorem dX2_goYear_11 : decode cX2_goYear 11 = .ok (.getfield 18, 3) := by decide +kernel
theorem dX2_goYear_14 : decode cX2_goYear 14 = .ok (.iload_n 3, 1) := by decide +kernel
theorem dX2_goYear_15 : decode cX2_goYear 15 = .ok (.aload_n 0, 1) := by decide +kernel
theorem dX2_goYear_16 : decode cX2_goYear 16 = .ok (.getfield 15, 3) := by decide +kernel
theorem dX2_goYear_19 : decode cX2_goYear 19 = .ok (.iload_n 3, 1) := by decide +kernel
theorem dX2_goYear_20 : decode cX2_goYear 20 = .ok (.iaload, 1) := by decide +kernel
theorem dX2_goYear_21 : decode cX2_goYear 21 = .ok (.aload_n 0, 1) := by decide +kernel
theorem dX2_goYear_22 : decode cX2_goYear 22 = .ok (.iload_n 3, 1) := by decide +kernel
theorem dX2_goYear_23 : decode cX2_goYear 23 = .ok (.aload_n 2, 1) := by decide +kernel
theorem dX2_goYear_24 : decode cX2_goYear 24 = .ok (.getfield 35, 3) := by decide +kernel
theorem dX2_goYear_27 : decode cX2_goYear 27 = .ok (.bipush 17, 2) := by decide +kernel
theorem dX2_goYear_29 : decode cX2_goYear 29 = .ok (.iaload, 1) := by decide +kernel
theorem dX2_goYear_30 : decode cX2_goYear 30 = .ok (.invokevirtual 40, 3) := by decide +kernel
theorem dX2_goYear_33 : decode cX2_goYear 33 = .ok (.aload_n 1, 1) := by decide +kernel
theorem dX2_goYear_34 : decode cX2_goYear 34 = .ok (.aload_n 2, 1) := by decide +kernel
theorem dX2_goYear_35 : decode cX2_goYear 35 = .ok (.getfield 35, 3) := by decide +kernel
theorem dX2_goYear_38 : decode cX2_goYear 38 = .ok (.bipush 16, 2) := by decide +kernel
theorem dX2_goYear_40 : decode cX2_goYear 40 = .ok (.iaload, 1) := by decide +kernel
theorem dX2_goYear_41 : decode cX2_goYear 41 = .ok (.invokestatic 44, 3) := by decide +kernel
theorem dX2_goYear_44 : decode cX2_goYear 44 = .ok (.iastore, 1) := by decide +kernel
theorem dX2_goYear_45 : decode cX2_goYear 45 = .ok (.iinc 3 1, 3) := by decide +kernel
theorem dX2_goYear_48 : decode cX2_goYear 48 = .ok (.goto (-46), 3) := by decide +kernel
theorem dX2_goYear_51 : decode cX2_goYear 51 = .ok (.aload_n 0, 1) := by decide +kernel
theorem dX2_goYear_52 : decode cX2_goYear 52 = .ok (.getfield 18, 3) := by decide +kernel
theorem dX2_goYear_55 : decode cX2_goYear 55 = .ok (.iconst 0, 1) := by decide +kernel
theorem dX2_goYear_56 : decode cX2_goYear 56 = .ok (.aload_n 0, 1) := by decide +kernel
theorem dX2_goYear_57 : decode cX2_goYear 57 = .ok (.getfield 15, 3) := by decide +kernel
theorem dX2_goYear_60 : decode cX2_goYear 60 = .ok (.iconst 0, 1) := by decide +kernel
theorem dX2_goYear_61 : decode cX2_goYear 61 = .ok (.aload_n 0, 1) := by decide +kernel
theorem dX2_goYear_62 : decode cX2_goYear 62 = .ok (.getfield 21, 3) := by decide +kernel
theorem dX2_goYear_65 : decode cX2_goYear 65 = .ok (.invokestatic 29, 3) := by decide +kernel
theorem dX2_goYear_68 : decode cX2_goYear 68 = .ok (.return_, 1) := by decide +kernel
theorem dX2_seenBits_0 : decode cX2_seenBits 0 = .ok (.iconst 0, 1) := by decide +kernel
theorem dX2_seenBits_1 : decode cX2_seenBits 1 = .ok (.istore_n 3, 1) := by decide +kernel
theorem dX2_seenBits_2 : decode cX2_seenBits 2 = .ok (.aload_n 0, 1) := by decide +kernel
theorem dX2_seenBits_3 : decode cX2_seenBits 3 = .ok (.getfield 21, 3) := by decide +kernel
theorem dX2_seenBits_6 : decode cX2_seenBits 6 = .ok (.ifCond .le 40, 3) := by decide +kernel
theorem dX2_seenBits_9 : decode cX2_seenBits 9 = .ok (.iload_n 2, 1) := by decide +kernel
theorem dX2_seenBits_10 : decode cX2_seenBits 10 = .ok (.ineg, 1) := by decide +kernel
theorem dX2_seenBits_11 : decode cX2_seenBits 11 = .ok (.istore 4, 2) := by decide +kernel
theorem dX2_seenBits_13 : decode cX2_seenBits 13 = .ok (.iload 4, 2) := by decide +kernel
theorem dX2_seenBits_15 : decode cX2_seenBits 15 = .ok (.iload_n 2, 1) := by decide +kernel
theorem dX2_seenBits_16 : decode cX2_seenBits 16 = .ok (.if_icmp .gt 30, 3) := by decide +kernel
theorem dX2_seenBits_19 : decode cX2_seenBits 19 = .ok (.iload_n 3, 1) := by decide +kernel
theorem dX2_seenBits_20 : decode cX2_seenBits 20 = .ok (.iconst 1, 1) := by decide +kernel
theorem dX2_seenBits_21 : decode cX2_seenBits 21 = .ok (.aload_n 0, 1) := by decide +kernel
theorem dX2_seenBits_22 : decode cX2_seenBits 22 = .ok (.getfield 15, 3) := by decide +kernel
theorem dX2_seenBits_25 : decode cX2_seenBits 25 = .ok (.iload_n 1, 1) := by decide +kernel
theorem dX2_seenBits_26 : decode cX2_seenBits 26 = .ok (.iload 4, 2) := by decide +kernel
theorem dX2_seenBits_28 : decode cX2_seenBits 28 = .ok (.iadd, 1) := by decide +kernel
theorem dX2_seenBits_29 : decode cX2_seenBits 29 = .ok (.aload_n 0, 1) := by decide +kernel
theorem dX2_seenBits_30 : decode cX2_seenBits 30 = .ok (.getfield 21, 3) := by decide +kernel
theorem dX2_seenBits_33 : decode cX2_seenBits 33 = .ok (.invokestatic 48, 3) := by decide +kernel
theorem dX2_seenBits_36 : decode cX2_seenBits 36 = .ok (.iaload, 1) := by decide +kernel
theorem dX2_seenBits_37 : decode cX2_seenBits 37 = .ok (.ishl, 1) := by decide +kernel
theorem dX2_seenBits_38 : decode cX2_seenBits 38 = .ok (.ior, 1) := by decide +kernel
theorem dX2_seenBits_39 : decode cX2_seenBits 39 = .ok (.istore_n 3, 1) := by decide +kernel
theorem dX2_seenBits_40 : decode cX2_seenBits 40 = .ok (.iinc 4 1, 3) := by decide +kernel
theorem dX2_seenBits_43 : decode cX2_seenBits 43 = .ok (.goto (-30), 3) := by decide +kernel
theorem dX2_seenBits_46 : decode cX2_seenBits 46 = .ok (.iload_n 3, 1) := by decide +kernel
theorem dX2_seenBits_47 : decode cX2_seenBits 47 = .ok (.ireturn, 1) := by decide +kernel
theorem dX2_choice_0 : decode cX2_choice 0 = .ok (.iload_n 0, 1) := by decide +kernel
theorem dX2_choice_1 : decode cX2_choice 1 = .ok (.istore 4, 2) := by decide +kernel
theorem dX2_choice_3 : decode cX2_choice 3 = .ok (.aload_n 2, 1) := by decide +kernel
theorem dX2_choice_4 : decode cX2_choice 4 = .ok (.iload_n 0, 1) := by decide +kernel
theorem dX2_choice_5 : decode cX2_choice 5 = .ok (.iaload, 1) := by decide +kernel
theorem dX2_choice_6 : decode cX2_choice 6 = .ok (.iload_n 3, 1) := by decide +kernel
theorem dX2_choice_7 : decode cX2_choice 7 = .ok (.iadd, 1) := by decide +kernel
theorem dX2_choice_8 : decode cX2_choice 8 = .ok (.istore 5, 2) := by decide +kernel
theorem dX2_choice_10 : decode cX2_choice 10 = .ok (.iconst 0, 1) := by decide +kernel
theorem dX2_choice_11 : decode cX2_choice 11 = .ok (.istore 6, 2) := by decide +kernel
theorem dX2_choice_13 : decode cX2_choice 13 = .ok (.iload 6, 2) := by decide +kernel
theorem dX2_choice_15 : decode cX2_choice 15 = .ok (.bipush 6, 2) := by decide +kernel
theorem dX2_choice_17 : decode cX2_choice 17 = .ok (.if_icmp .ge 37, 3) := by decide +kernel
theorem dX2_choice_20 : decode cX2_choice 20 = .ok (.iload_n 1, 1) := by decide +kernel
theorem dX2_choice_21 : decode cX2_choice 21 = .ok (.iconst 1, 1) := by decide +kernel
theorem dX2_choice_22 : decode cX2_choice 22 = .ok (.iload 6, 2) := by decide +kernel
theorem dX2_choice_24 : decode cX2_choice 24 = .ok (.ishl, 1) := by decide +kernel
theorem dX2_choice_25 : decode cX2_choice 25 = .ok (.iand, 1) := by decide +kernel
theorem dX2_choice_26 : decode cX2_choice 26 = .ok (.ifCond .eq 22, 3) := by decide +kernel
theorem dX2_choice_29 : decode cX2_choice 29 = .ok (.aload_n 2, 1) := by decide +kernel
theorem dX2_choice_30 : decode cX2_choice 30 = .ok (.iload 6, 2) := by decide +kernel
theorem dX2_choice_32 : decode cX2_choice 32 = .ok (.iaload, 1) := by decide +kernel
theorem dX2_choice_33 : decode cX2_choice 33 = .ok (.iload 5, 2) := by decide +kernel
theorem dX2_choice_35 : decode cX2_choice 35 = .ok (.if_icmp .le 13, 3) := by decide +kernel
theorem dX2_choice_38 : decode cX2_choice 38 = .ok (.aload_n 2, 1) := by decide +kernel
theorem dX2_choice_39 : decode cX2_choice 39 = .ok (.iload 6, 2) := by decide +kernel
theorem dX2_choice_41 : decode cX2_choice 41 = .ok (.iaload, 1) := by decide +kernel
theorem dX2_choice_42 : decode cX2_choice 42 = .ok (.istore 5, 2) := by decide +kernel
theorem dX2_choice_44 : decode cX2_choice 44 = .ok (.iload 6, 2) := by decide +kernel
theorem dX2_choice_46 : decode cX2_choice 46 = .ok (.istore 4, 2) := by decide +kernel
theorem dX2_choice_48 : decode cX2_choice 48 = .ok (.iinc 6 1, 3) := by decide +kernel
theorem dX2_choice_51 : decode cX2_choice 51 = .ok (.goto (-38), 3) := by decide +kernel
theorem dX2_choice_54 : decode cX2_choice 54 = .ok (.iload 4, 2) := by decide +kernel
theorem dX2_choice_56 : decode cX2_choice 56 = .ok (.ireturn, 1) := by decide +kernel
theorem dX2_unlikeHeld_0 : decode cX2_unlikeHeld 0 = .ok (.iconst 0, 1) := by decide +kernel
theorem dX2_unlikeHeld_1 : decode cX2_unlikeHeld 1 = .ok (.istore_n 1, 1) := by decide +kernel
theorem dX2_unlikeHeld_2 : decode cX2_unlikeHeld 2 = .ok (.iconst 0, 1) := by decide +kernel
theorem dX2_unlikeHeld_3 : decode cX2_unlikeHeld 3 = .ok (.istore_n 2, 1) := by decide +kernel
theorem dX2_unlikeHeld_4 : decode cX2_unlikeHeld 4 = .ok (.iload_n 2, 1) := by decide +kernel
theorem dX2_unlikeHeld_5 : decode cX2_unlikeHeld 5 = .ok (.aload_n 0, 1) := by decide +kernel
theorem dX2_unlikeHeld_6 : decode cX2_unlikeHeld 6 = .ok (.getfield 21, 3) := by decide +kernel
theorem dX2_unlikeHeld_9 : decode cX2_unlikeHeld 9 = .ok (.if_icmp .ge 30, 3) := by decide +kernel
theorem dX2_unlikeHeld_12 : decode cX2_unlikeHeld 12 = .ok (.aload_n 0, 1) := by decide +kernel
theorem dX2_unlikeHeld_13 : decode cX2_unlikeHeld 13 = .ok (.getfield 15, 3) := by decide +kernel
theorem dX2_unlikeHeld_16 : decode cX2_unlikeHeld 16 = .ok (.iload_n 2, 1) := by decide +kernel
theorem dX2_unlikeHeld_17 : decode cX2_unlikeHeld 17 = .ok (.iaload, 1) := by decide +kernel
theorem dX2_unlikeHeld_18 : decode cX2_unlikeHeld 18 = .ok (.aload_n 0, 1) := by decide +kernel
theorem dX2_unlikeHeld_19 : decode cX2_unlikeHeld 19 = .ok (.getfield 11, 3) := by decide +kernel
theorem dX2_unlikeHeld_22 : decode cX2_unlikeHeld 22 = .ok (.iload_n 2, 1) := by decide +kernel
theorem dX2_unlikeHeld_23 : decode cX2_unlikeHeld 23 = .ok (.iaload, 1) := by decide +kernel
theorem dX2_unlikeHeld_24 : decode cX2_unlikeHeld 24 = .ok (.if_icmp .eq 9, 3) := by decide +kernel
theorem dX2_unlikeHeld_27 : decode cX2_unlikeHeld 27 = .ok (.iload_n 1, 1) := by decide +kernel
theorem dX2_unlikeHeld_28 : decode cX2_unlikeHeld 28 = .ok (.iconst 1, 1) := by decide +kernel
theorem dX2_unlikeHeld_29 : decode cX2_unlikeHeld 29 = .ok (.iload_n 2, 1) := by decide +kernel
theorem dX2_unlikeHeld_30 : decode cX2_unlikeHeld 30 = .ok (.ishl, 1) := by decide +kernel
theorem dX2_unlikeHeld_31 : decode cX2_unlikeHeld 31 = .ok (.ior, 1) := by decide +kernel
theorem dX2_unlikeHeld_32 : decode cX2_unlikeHeld 32 = .ok (.istore_n 1, 1) := by decide +kernel
theorem dX2_unlikeHeld_33 : decode cX2_unlikeHeld 33 = .ok (.iinc 2 1, 3) := by decide +kernel
theorem dX2_unlikeHeld_36 : decode cX2_unlikeHeld 36 = .ok (.goto (-32), 3) := by decide +kernel
theorem dX2_unlikeHeld_39 : decode cX2_unlikeHeld 39 = .ok (.iload_n 1, 1) := by decide +kernel
theorem dX2_unlikeHeld_40 : decode cX2_unlikeHeld 40 = .ok (.ireturn, 1) := by decide +kernel
theorem dX2_countIn_0 : decode cX2_countIn 0 = .ok (.iconst 0, 1) := by decide +kernel
theorem dX2_countIn_1 : decode cX2_countIn 1 = .ok (.istore_n 3, 1) := by decide +kernel
theorem dX2_countIn_2 : decode cX2_countIn 2 = .ok (.iconst 0, 1) := by decide +kernel
theorem dX2_countIn_3 : decode cX2_countIn 3 = .ok (.istore 4, 2) := by decide +kernel
theorem dX2_countIn_5 : decode cX2_countIn 5 = .ok (.iload 4, 2) := by decide +kernel
theorem dX2_countIn_7 : decode cX2_countIn 7 = .ok (.aload_n 0, 1) := by decide +kernel
theorem dX2_countIn_8 : decode cX2_countIn 8 = .ok (.getfield 21, 3) := by decide +kernel
theorem dX2_countIn_11 : decode cX2_countIn 11 = .ok (.if_icmp .ge 20, 3) := by decide +kernel
theorem dX2_countIn_14 : decode cX2_countIn 14 = .ok (.aload_n 1, 1) := by decide +kernel
theorem dX2_countIn_15 : decode cX2_countIn 15 = .ok (.iload 4, 2) := by decide +kernel
theorem dX2_countIn_17 : decode cX2_countIn 17 = .ok (.iaload, 1) := by decide +kernel
theorem dX2_countIn_18 : decode cX2_countIn 18 = .ok (.iload_n 2, 1) := by decide +kernel
theorem dX2_countIn_19 : decode cX2_countIn 19 = .ok (.if_icmp .ne 6, 3) := by decide +kernel
theorem dX2_countIn_22 : decode cX2_countIn 22 = .ok (.iinc 3 1, 3) := by decide +kernel
theorem dX2_countIn_25 : decode cX2_countIn 25 = .ok (.iinc 4 1, 3) := by decide +kernel
theorem dX2_countIn_28 : decode cX2_countIn 28 = .ok (.goto (-23), 3) := by decide +kernel
theorem dX2_countIn_31 : decode cX2_countIn 31 = .ok (.iload_n 3, 1) := by decide +kernel
theorem dX2_countIn_32 : decode cX2_countIn 32 = .ok (.ireturn, 1) := by decide +kernel
theorem dX2_isOfOneWay_0 : decode cX2_isOfOneWay 0 = .ok (.aload_n 0, 1) := by decide +kernel
theorem dX2_isOfOneWay_1 : decode cX2_isOfOneWay 1 = .ok (.aload_n 0, 1) := by decide +kernel
theorem dX2_isOfOneWay_2 : decode cX2_isOfOneWay 2 = .ok (.getfield 15, 3) := by decide +kernel
theorem dX2_isOfOneWay_5 : decode cX2_isOfOneWay 5 = .ok (.aload_n 0, 1) := by decide +kernel
theorem dX2_isOfOneWay_6 : decode cX2_isOfOneWay 6 = .ok (.getfield 15, 3) := by decide +kernel
theorem dX2_isOfOneWay_9 : decode cX2_isOfOneWay 9 = .ok (.iconst 0, 1) := by decide +kernel
theorem dX2_isOfOneWay_10 : decode cX2_isOfOneWay 10 = .ok (.iaload, 1) := by decide +kernel
theorem dX2_isOfOneWay_11 : decode cX2_isOfOneWay 11 = .ok (.invokevirtual 53, 3) := by decide +kernel
theorem dX2_isOfOneWay_14 : decode cX2_isOfOneWay 14 = .ok (.aload_n 0, 1) := by decide +kernel
theorem dX2_isOfOneWay_15 : decode cX2_isOfOneWay 15 = .ok (.getfield 21, 3) := by decide +kernel
theorem dX2_isOfOneWay_18 : decode cX2_isOfOneWay 18 = .ok (.if_icmp .ne 7, 3) := by decide +kernel
theorem dX2_isOfOneWay_21 : decode cX2_isOfOneWay 21 = .ok (.iconst 1, 1) := by decide +kernel
theorem dX2_isOfOneWay_22 : decode cX2_isOfOneWay 22 = .ok (.goto 4, 3) := by decide +kernel
theorem dX2_isOfOneWay_25 : decode cX2_isOfOneWay 25 = .ok (.iconst 0, 1) := by decide +kernel
theorem dX2_isOfOneWay_26 : decode cX2_isOfOneWay 26 = .ok (.ireturn, 1) := by decide +kernel
theorem dX2_heldBits_0 : decode cX2_heldBits 0 = .ok (.iconst 0, 1) := by decide +kernel
theorem dX2_heldBits_1 : decode cX2_heldBits 1 = .ok (.istore_n 1, 1) := by decide +kernel
theorem dX2_heldBits_2 : decode cX2_heldBits 2 = .ok (.iconst 0, 1) := by decide +kernel
theorem dX2_heldBits_3 : decode cX2_heldBits 3 = .ok (.istore_n 2, 1) := by decide +kernel
theorem dX2_heldBits_4 : decode cX2_heldBits 4 = .ok (.iload_n 2, 1) := by decide +kernel
theorem dX2_heldBits_5 : decode cX2_heldBits 5 = .ok (.aload_n 0, 1) := by decide +kernel
theorem dX2_heldBits_6 : decode cX2_heldBits 6 = .ok (.getfield 21, 3) := by decide +kernel
theorem dX2_heldBits_9 : decode cX2_heldBits 9 = .ok (.if_icmp .ge 20, 3) := by decide +kernel
theorem dX2_heldBits_12 : decode cX2_heldBits 12 = .ok (.iload_n 1, 1) := by decide +kernel
theorem dX2_heldBits_13 : decode cX2_heldBits 13 = .ok (.iconst 1, 1) := by decide +kernel
theorem dX2_heldBits_14 : decode cX2_heldBits 14 = .ok (.aload_n 0, 1) := by decide +kernel
theorem dX2_heldBits_15 : decode cX2_heldBits 15 = .ok (.getfield 11, 3) := by decide +kernel
theorem dX2_heldBits_18 : decode cX2_heldBits 18 = .ok (.iload_n 2, 1) := by decide +kernel
theorem dX2_heldBits_19 : decode cX2_heldBits 19 = .ok (.iaload, 1) := by decide +kernel
theorem dX2_heldBits_20 : decode cX2_heldBits 20 = .ok (.ishl, 1) := by decide +kernel
theorem dX2_heldBits_21 : decode cX2_heldBits 21 = .ok (.ior, 1) := by decide +kernel
theorem dX2_heldBits_22 : decode cX2_heldBits 22 = .ok (.istore_n 1, 1) := by decide +kernel
theorem dX2_heldBits_23 : decode cX2_heldBits 23 = .ok (.iinc 2 1, 3) := by decide +kernel
theorem dX2_heldBits_26 : decode cX2_heldBits 26 = .ok (.goto (-22), 3) := by decide +kernel
theorem dX2_heldBits_29 : decode cX2_heldBits 29 = .ok (.iload_n 1, 1) := by decide +kernel
theorem dX2_heldBits_30 : decode cX2_heldBits 30 = .ok (.ireturn, 1) := by decide +kernel
theorem dX3_init_0 : decode cX3_init 0 = .ok (.aload_n 0, 1) := by decide +kernel
theorem dX3_init_1 : decode cX3_init 1 = .ok (.invokespecial 3, 3) := by decide +kernel
theorem dX3_init_4 : decode cX3_init 4 = .ok (.aload_n 0, 1) := by decide +kernel
theorem dX3_init_5 : decode cX3_init 5 = .ok (.bipush 18, 2) := by decide +kernel
theorem dX3_init_7 : decode cX3_init 7 = .ok (.newarray .int, 2) := by decide +kernel
theorem dX3_init_9 : decode cX3_init 9 = .ok (.putfield 11, 3) := by decide +kernel
theorem dX3_init_12 : decode cX3_init 12 = .ok (.getstatic 15, 3) := by decide +kernel
theorem dX3_init_15 : decode cX3_init 15 = .ok (.iconst 0, 1) := by decide +kernel
theorem dX3_init_16 : decode cX3_init 16 = .ok (.aload_n 0, 1) := by decide +kernel
theorem dX3_init_17 : decode cX3_init 17 = .ok (.getfield 11, 3) := by decide +kernel
theorem dX3_init_20 : decode cX3_init 20 = .ok (.iconst 0, 1) := by decide +kernel
theorem dX3_init_21 : decode cX3_init 21 = .ok (.bipush 18, 2) := by decide +kernel
theorem dX3_init_23 : decode cX3_init 23 = .ok (.invokestatic 18, 3) := by decide +kernel
theorem dX3_init_26 : decode cX3_init 26 = .ok (.return_, 1) := by decide +kernel
theorem dX3_setAll_0 : decode cX3_setAll 0 = .ok (.aload_n 1, 1) := by decide +kernel
theorem dX3_setAll_1 : decode cX3_setAll 1 = .ok (.iconst 0, 1) := by decide +kernel
theorem dX3_setAll_2 : decode cX3_setAll 2 = .ok (.aload_n 0, 1) := by decide +kernel
theorem dX3_setAll_3 : decode cX3_setAll 3 = .ok (.getfield 11, 3) := by decide +kernel
theorem dX3_setAll_6 : decode cX3_setAll 6 = .ok (.iconst 0, 1) := by decide +kernel
theorem dX3_setAll_7 : decode cX3_setAll 7 = .ok (.bipush 18, 2) := by decide +kernel
theorem dX3_setAll_9 : decode cX3_setAll 9 = .ok (.invokestatic 18, 3) := by decide +kernel
theorem dX3_setAll_12 : decode cX3_setAll 12 = .ok (.return_, 1) := by decide +kernel
theorem dX3_total_0 : decode cX3_total 0 = .ok (.iconst 0, 1) := by decide +kernel
theorem dX3_total_1 : decode cX3_total 1 = .ok (.istore_n 1, 1) := by decide +kernel
theorem dX3_total_2 : decode cX3_total 2 = .ok (.iconst 0, 1) := by decide +kernel
theorem dX3_total_3 : decode cX3_total 3 = .ok (.istore_n 2, 1) := by decide +kernel
theorem dX3_total_4 : decode cX3_total 4 = .ok (.iload_n 2, 1) := by decide +kernel
theorem dX3_total_5 : decode cX3_total 5 = .ok (.iconst 4, 1) := by decide +kernel
theorem dX3_total_6 : decode cX3_total 6 = .ok (.if_icmp .ge 18, 3) := by decide +kernel
theorem dX3_total_9 : decode cX3_total 9 = .ok (.iload_n 1, 1) := by decide +kernel
theorem dX3_total_10 : decode cX3_total 10 = .ok (.aload_n 0, 1) := by decide +kernel
theorem dX3_total_11 : decode cX3_total 11 = .ok (.getfield 11, 3) := by decide +kernel
theorem dX3_total_14 : decode cX3_total 14 = .ok (.iload_n 2, 1) := by decide +kernel
theorem dX3_total_15 : decode cX3_total 15 = .ok (.iaload, 1) := by decide +kernel
theorem dX3_total_16 : decode cX3_total 16 = .ok (.iadd, 1) := by decide +kernel
theorem dX3_total_17 : decode cX3_total 17 = .ok (.istore_n 1, 1) := by decide +kernel
theorem dX3_total_18 : decode cX3_total 18 = .ok (.iinc 2 1, 3) := by decide +kernel
theorem dX3_total_21 : decode cX3_total 21 = .ok (.goto (-17), 3) := by decide +kernel
theorem dX3_total_24 : decode cX3_total 24 = .ok (.iload_n 1, 1) := by decide +kernel
theorem dX3_total_25 : decode cX3_total 25 = .ok (.ireturn, 1) := by decide +kernel
theorem dX3_middleAt_0 : decode cX3_middleAt 0 = .ok (.iload_n 2, 1) := by decide +kernel
theorem dX3_middleAt_1 : decode cX3_middleAt 1 = .ok (.ifCond .ne 21, 3) := by decide +kernel
theorem dX3_middleAt_4 : decode cX3_middleAt 4 = .ok (.aload_n 0, 1) := by decide +kernel
theorem dX3_middleAt_5 : decode cX3_middleAt 5 = .ok (.getfield 11, 3) := by decide +kernel
theorem dX3_middleAt_8 : decode cX3_middleAt 8 = .ok (.bipush 8, 2) := by decide +kernel
theorem dX3_middleAt_10 : decode cX3_middleAt 10 = .ok (.iaload, 1) := by decide +kernel
theorem dX3_middleAt_11 : decode cX3_middleAt 11 = .ok (.iload_n 1, 1) := by decide +kernel
theorem dX3_middleAt_12 : decode cX3_middleAt 12 = .ok (.imul, 1) := by decide +kernel
theorem dX3_middleAt_13 : decode cX3_middleAt 13 = .ok (.aload_n 0, 1) := by decide +kernel
theorem dX3_middleAt_14 : decode cX3_middleAt 14 = .ok (.getfield 11, 3) := by decide +kernel
theorem dX3_middleAt_17 : decode cX3_middleAt 17 = .ok (.bipush 10, 2) := by decide +kernel
theorem dX3_middleAt_19 : decode cX3_middleAt 19 = .ok (.iaload, 1) := by decide +kernel
theorem dX3_middleAt_20 : decode cX3_middleAt 20 = .ok (.isub, 1) := by decide +kernel
theorem dX3_middleAt_21 : decode cX3_middleAt 21 = .ok (.ireturn, 1) := by decide +kernel
theorem dX3_middleAt_22 : decode cX3_middleAt 22 = .ok (.aload_n 0, 1) := by decide +kernel
theorem dX3_middleAt_23 : decode cX3_middleAt 23 = .ok (.getfield 11, 3) := by decide +kernel
theorem dX3_middleAt_26 : decode cX3_middleAt 26 = .ok (.bipush 11, 2) := by decide +kernel
theorem dX3_middleAt_28 : decode cX3_middleAt 28 = .ok (.iaload, 1) := by decide +kernel
theorem dX3_middleAt_29 : decode cX3_middleAt 29 = .ok (.aload_n 0, 1) := by decide +kernel
theorem dX3_middleAt_30 : decode cX3_middleAt 30 = .ok (.getfield 11, 3) := by decide +kernel
theorem dX3_middleAt_33 : decode cX3_middleAt 33 = .ok (.bipush 7, 2) := by decide +kernel
theorem dX3_middleAt_35 : decode cX3_middleAt 35 = .ok (.iaload, 1) := by decide +kernel
theorem dX3_middleAt_36 : decode cX3_middleAt 36 = .ok (.iload_n 1, 1) := by decide +kernel
theorem dX3_middleAt_37 : decode cX3_middleAt 37 = .ok (.imul, 1) := by decide +kernel
theorem dX3_middleAt_38 : decode cX3_middleAt 38 = .ok (.iadd, 1) := by decide +kernel
theorem dX3_middleAt_39 : decode cX3_middleAt 39 = .ok (.aload_n 0, 1) := by decide +kernel
theorem dX3_middleAt_40 : decode cX3_middleAt 40 = .ok (.getfield 11, 3) := by decide +kernel
theorem dX3_middleAt_43 : decode cX3_middleAt 43 = .ok (.bipush 9, 2) := by decide +kernel
theorem dX3_middleAt_45 : decode cX3_middleAt 45 = .ok (.iaload, 1) := by decide +kernel
theorem dX3_middleAt_46 : decode cX3_middleAt 46 = .ok (.iload_n 1, 1) := by decide +kernel
theorem dX3_middleAt_47 : decode cX3_middleAt 47 = .ok (.imul, 1) := by decide +kernel
theorem dX3_middleAt_48 : decode cX3_middleAt 48 = .ok (.iload_n 1, 1) := by decide +kernel
theorem dX3_middleAt_49 : decode cX3_middleAt 49 = .ok (.imul, 1) := by decide +kernel
theorem dX3_middleAt_50 : decode cX3_middleAt 50 = .ok (.isub, 1) := by decide +kernel
theorem dX3_middleAt_51 : decode cX3_middleAt 51 = .ok (.ireturn, 1) := by decide +kernel
theorem dX4_init_0 : decode cX4_init 0 = .ok (.aload_n 0, 1) := by decide +kernel
theorem dX4_init_1 : decode cX4_init 1 = .ok (.invokespecial 1, 3) := by decide +kernel
theorem dX4_init_4 : decode cX4_init 4 = .ok (.aload_n 0, 1) := by decide +kernel
theorem dX4_init_5 : decode cX4_init 5 = .ok (.iconst (-1), 1) := by decide +kernel
theorem dX4_init_6 : decode cX4_init 6 = .ok (.putfield 9, 3) := by decide +kernel
theorem dX4_init_9 : decode cX4_init 9 = .ok (.aload_n 0, 1) := by decide +kernel
theorem dX4_init_10 : decode cX4_init 10 = .ok (.bipush 64, 2) := by decide +kernel
theorem dX4_init_12 : decode cX4_init 12 = .ok (.newarray .int, 2) := by decide +kernel
theorem dX4_init_14 : decode cX4_init 14 = .ok (.putfield 13, 3) := by decide +kernel
theorem dX4_init_17 : decode cX4_init 17 = .ok (.return_, 1) := by decide +kernel
theorem dX4_isLane_0 : decode cX4_isLane 0 = .ok (.iload_n 0, 1) := by decide +kernel
theorem dX4_isLane_1 : decode cX4_isLane 1 = .ok (.iconst 0, 1) := by decide +kernel
theorem dX4_isLane_2 : decode cX4_isLane 2 = .ok (.iconst 2, 1) := by decide +kernel
theorem dX4_isLane_3 : decode cX4_isLane 3 = .ok (.invokestatic 17, 3) := by decide +kernel
theorem dX4_isLane_6 : decode cX4_isLane 6 = .ok (.ireturn, 1) := by decide +kernel
theorem dX4_isNothing_0 : decode cX4_isNothing 0 = .ok (.aload_n 0, 1) := by decide +kernel
theorem dX4_isNothing_1 : decode cX4_isNothing 1 = .ok (.getfield 9, 3) := by decide +kernel
theorem dX4_isNothing_4 : decode cX4_isNothing 4 = .ok (.iconst (-1), 1) := by decide +kernel
theorem dX4_isNothing_5 : decode cX4_isNothing 5 = .ok (.if_icmp .ne 7, 3) := by decide +kernel
theorem dX4_isNothing_8 : decode cX4_isNothing 8 = .ok (.iconst 1, 1) := by decide +kernel
theorem dX4_isNothing_9 : decode cX4_isNothing 9 = .ok (.goto 4, 3) := by decide +kernel
theorem dX4_isNothing_12 : decode cX4_isNothing 12 = .ok (.iconst 0, 1) := by decide +kernel
theorem dX4_isNothing_13 : decode cX4_isNothing 13 = .ok (.ireturn, 1) := by decide +kernel
theorem dX4_hasCell_0 : decode cX4_hasCell 0 = .ok (.iload_n 1, 1) := by decide +kernel
theorem dX4_hasCell_1 : decode cX4_hasCell 1 = .ok (.iconst 0, 1) := by decide +kernel
theorem dX4_hasCell_2 : decode cX4_hasCell 2 = .ok (.aload_n 0, 1) := by decide +kernel
theorem dX4_hasCell_3 : decode cX4_hasCell 3 = .ok (.getfield 23, 3) := by decide +kernel
theorem dX4_hasCell_6 : decode cX4_hasCell 6 = .ok (.iconst 1, 1) := by decide +kernel
theorem dX4_hasCell_7 : decode cX4_hasCell 7 = .ok (.isub, 1) := by decide +kernel
theorem dX4_hasCell_8 : decode cX4_hasCell 8 = .ok (.invokestatic 17, 3) := by decide +kernel
theorem dX4_hasCell_11 : decode cX4_hasCell 11 = .ok (.ireturn, 1) := by decide +kernel
theorem dX4_begin_0 : decode cX4_begin 0 = .ok (.aload_n 0, 1) := by decide +kernel
theorem dX4_begin_1 : decode cX4_begin 1 = .ok (.iload_n 1, 1) := by decide +kernel
theorem dX4_begin_2 : decode cX4_begin 2 = .ok (.putfield 9, 3) := by decide +kernel
theorem dX4_begin_5 : decode cX4_begin 5 = .ok (.aload_n 0, 1) := by decide +kernel
theorem dX4_begin_6 : decode cX4_begin 6 = .ok (.iload_n 2, 1) := by decide +kernel
theorem dX4_begin_7 : decode cX4_begin 7 = .ok (.putfield 23, 3) := by decide +kernel
theorem dX4_begin_10 : decode cX4_begin 10 = .ok (.iconst 0, 1) := by decide +kernel
theorem dX4_begin_11 : decode cX4_begin 11 = .ok (.istore_n 3, 1) := by decide +kernel
theorem dX4_begin_12 : decode cX4_begin 12 = .ok (.iload_n 3, 1) := by decide +kernel
theorem dX4_begin_13 : decode cX4_begin 13 = .ok (.iload_n 2, 1) := by decide +kernel
theorem dX4_begin_14 : decode cX4_begin 14 = .ok (.if_icmp .ge 16, 3) := by decide +kernel
theorem dX4_begin_17 : decode cX4_begin 17 = .ok (.aload_n 0, 1) := by decide +kernel
theorem dX4_begin_18 : decode cX4_begin 18 = .ok (.getfield 13, 3) := by decide +kernel
theorem dX4_begin_21 : decode cX4_begin 21 = .ok (.iload_n 3, 1) := by decide +kernel
theorem dX4_begin_22 : decode cX4_begin 22 = .ok (.iconst 0, 1) := by decide +kernel
theorem dX4_begin_23 : decode cX4_begin 23 = .ok (.iastore, 1) := by decide +kernel
theorem dX4_begin_24 : decode cX4_begin 24 = .ok (.iinc 3 1, 3) := by decide +kernel
theorem dX4_begin_27 : decode cX4_begin 27 = .ok (.goto (-15), 3) := by decide +kernel
theorem dX4_begin_30 : decode cX4_begin 30 = .ok (.return_, 1) := by decide +kernel
theorem dX4_write_0 : decode cX4_write 0 = .ok (.aload_n 0, 1) := by decide +kernel
theorem dX4_write_1 : decode cX4_write 1 = .ok (.getfield 9, 3) := by decide +kernel
theorem dX4_write_4 : decode cX4_write 4 = .ok (.ifCond .ne 14, 3) := by decide +kernel
theorem dX4_write_7 : decode cX4_write 7 = .ok (.aload_n 0, 1) := by decide +kernel
theorem dX4_write_8 : decode cX4_write 8 = .ok (.getfield 13, 3) := by decide +kernel
theorem dX4_write_11 : decode cX4_write 11 = .ok (.iload_n 1, 1) := by decide +kernel
theorem dX4_write_12 : decode cX4_write 12 = .ok (.iload_n 2, 1) := by decide +kernel
theorem dX4_write_13 : decode cX4_write 13 = .ok (.i2b, 1) := by decide +kernel
theorem dX4_write_14 : decode cX4_write 14 = .ok (.iastore, 1) := by decide +kernel
theorem dX4_write_15 : decode cX4_write 15 = .ok (.goto 29, 3) := by decide +kernel
theorem dX4_write_18 : decode cX4_write 18 = .ok (.aload_n 0, 1) := by decide +kernel
theorem dX4_write_19 : decode cX4_write 19 = .ok (.getfield 9, 3) := by decide +kernel
theorem dX4_write_22 : decode cX4_write 22 = .ok (.iconst 1, 1) := by decide +kernel
theorem dX4_write_23 : decode cX4_write 23 = .ok (.if_icmp .ne 14, 3) := by decide +kernel
theorem dX4_write_26 : decode cX4_write 26 = .ok (.aload_n 0, 1) := by decide +kernel
theorem dX4_write_27 : decode cX4_write 27 = .ok (.getfield 13, 3) := by decide +kernel
theorem dX4_write_30 : decode cX4_write 30 = .ok (.iload_n 1, 1) := by decide +kernel
theorem dX4_write_31 : decode cX4_write 31 = .ok (.iload_n 2, 1) := by decide +kernel
theorem dX4_write_32 : decode cX4_write 32 = .ok (.i2s, 1) := by decide +kernel
theorem dX4_write_33 : decode cX4_write 33 = .ok (.iastore, 1) := by decide +kernel
theorem dX4_write_34 : decode cX4_write 34 = .ok (.goto 10, 3) := by decide +kernel
theorem dX4_write_37 : decode cX4_write 37 = .ok (.aload_n 0, 1) := by decide +kernel
theorem dX4_write_38 : decode cX4_write 38 = .ok (.getfield 13, 3) := by decide +kernel
theorem dX4_write_41 : decode cX4_write 41 = .ok (.iload_n 1, 1) := by decide +kernel
theorem dX4_write_42 : decode cX4_write 42 = .ok (.iload_n 2, 1) := by decide +kernel
theorem dX4_write_43 : decode cX4_write 43 = .ok (.iastore, 1) := by decide +kernel
theorem dX4_write_44 : decode cX4_write 44 = .ok (.return_, 1) := by decide +kernel
theorem dX4_faultAs_0 : decode cX4_faultAs 0 = .ok (.aload_n 0, 1) := by decide +kernel
theorem dX4_faultAs_1 : decode cX4_faultAs 1 = .ok (.invokevirtual 26, 3) := by decide +kernel
theorem dX4_faultAs_4 : decode cX4_faultAs 4 = .ok (.ifCond .eq 5, 3) := by decide +kernel
theorem dX4_faultAs_7 : decode cX4_faultAs 7 = .ok (.iconst 1, 1) := by decide +kernel
theorem dX4_faultAs_8 : decode cX4_faultAs 8 = .ok (.ireturn, 1) := by decide +kernel
theorem dX4_faultAs_9 : decode cX4_faultAs 9 = .ok (.aload_n 0, 1) := by decide +kernel
theorem dX4_faultAs_10 : decode cX4_faultAs 10 = .ok (.getfield 9, 3) := by decide +kernel
theorem dX4_faultAs_13 : decode cX4_faultAs 13 = .ok (.iload_n 1, 1) := by decide +kernel
theorem dX4_faultAs_14 : decode cX4_faultAs 14 = .ok (.if_icmp .ne 7, 3) := by decide +kernel
theorem dX4_faultAs_17 : decode cX4_faultAs 17 = .ok (.iconst 0, 1) := by decide +kernel
theorem dX4_faultAs_18 : decode cX4_faultAs 18 = .ok (.goto 4, 3) := by decide +kernel
theorem dX4_faultAs_21 : decode cX4_faultAs 21 = .ok (.iconst 3, 1) := by decide +kernel
theorem dX4_faultAs_22 : decode cX4_faultAs 22 = .ok (.ireturn, 1) := by decide +kernel
theorem dX4_readTenth_0 : decode cX4_readTenth 0 = .ok (.aload_n 0, 1) := by decide +kernel
theorem dX4_readTenth_1 : decode cX4_readTenth 1 = .ok (.iload_n 1, 1) := by decide +kernel
theorem dX4_readTenth_2 : decode cX4_readTenth 2 = .ok (.invokevirtual 30, 3) := by decide +kernel
theorem dX4_readTenth_5 : decode cX4_readTenth 5 = .ok (.ifCond .eq 20, 3) := by decide +kernel
theorem dX4_readTenth_8 : decode cX4_readTenth 8 = .ok (.aload_n 0, 1) := by decide +kernel
theorem dX4_readTenth_9 : decode cX4_readTenth 9 = .ok (.iload_n 1, 1) := by decide +kernel
theorem dX4_readTenth_10 : decode cX4_readTenth 10 = .ok (.bipush 8, 2) := by decide +kernel
theorem dX4_readTenth_12 : decode cX4_readTenth 12 = .ok (.iload_n 2, 1) := by decide +kernel
theorem dX4_readTenth_13 : decode cX4_readTenth 13 = .ok (.iconst 1, 1) := by decide +kernel
theorem dX4_readTenth_14 : decode cX4_readTenth 14 = .ok (.iadd, 1) := by decide +kernel
theorem dX4_readTenth_15 : decode cX4_readTenth 15 = .ok (.imul, 1) := by decide +kernel
theorem dX4_readTenth_16 : decode cX4_readTenth 16 = .ok (.iadd, 1) := by decide +kernel
theorem dX4_readTenth_17 : decode cX4_readTenth 17 = .ok (.iconst 1, 1) := by decide +kernel
theorem dX4_readTenth_18 : decode cX4_readTenth 18 = .ok (.isub, 1) := by decide +kernel
theorem dX4_readTenth_19 : decode cX4_readTenth 19 = .ok (.invokevirtual 30, 3) := by decide +kernel
theorem dX4_readTenth_22 : decode cX4_readTenth 22 = .ok (.ifCond .ne 5, 3) := by decide +kernel
theorem dX4_readTenth_25 : decode cX4_readTenth 25 = .ok (.iconst 2, 1) := by decide +kernel
theorem dX4_readTenth_26 : decode cX4_readTenth 26 = .ok (.ireturn, 1) := by decide +kernel
theorem dX4_readTenth_27 : decode cX4_readTenth 27 = .ok (.bipush 8, 2) := by decide +kernel
theorem dX4_readTenth_29 : decode cX4_readTenth 29 = .ok (.iload_n 2, 1) := by decide +kernel
theorem dX4_readTenth_30 : decode cX4_readTenth 30 = .ok (.imul, 1) := by decide +kernel
theorem dX4_readTenth_31 : decode cX4_readTenth 31 = .ok (.istore 4, 2) := by decide +kernel
theorem dX4_readTenth_33 : decode cX4_readTenth 33 = .ok (.iload 4, 2) := by decide +kernel
theorem dX4_readTenth_35 : decode cX4_readTenth 35 = .ok (.bipush 8, 2) := by decide +kernel
theorem dX4_readTenth_37 : decode cX4_readTenth 37 = .ok (.iload_n 2, 1) := by decide +kernel
theorem dX4_readTenth_38 : decode cX4_readTenth 38 = .ok (.iconst 1, 1) := by decide +kernel
theorem dX4_readTenth_39 : decode cX4_readTenth 39 = .ok (.iadd, 1) := by decide +kernel
theorem dX4_readTenth_40 : decode cX4_readTenth 40 = .ok (.imul, 1) := by decide +kernel
theorem dX4_readTenth_41 : decode cX4_readTenth 41 = .ok (.if_icmp .ge 22, 3) := by decide +kernel
theorem dX4_readTenth_44 : decode cX4_readTenth 44 = .ok (.aload_n 3, 1) := by decide +kernel
theorem dX4_readTenth_45 : decode cX4_readTenth 45 = .ok (.iload 4, 2) := by decide +kernel
theorem dX4_readTenth_47 : decode cX4_readTenth 47 = .ok (.aload_n 0, 1) := by decide +kernel
theorem dX4_readTenth_48 : decode cX4_readTenth 48 = .ok (.getfield 13, 3) := by decide +kernel
theorem dX4_readTenth_51 : decode cX4_readTenth 51 = .ok (.iload_n 1, 1) := by decide +kernel
theorem dX4_readTenth_52 : decode cX4_readTenth 52 = .ok (.iload 4, 2) := by decide +kernel
theorem dX4_readTenth_54 : decode cX4_readTenth 54 = .ok (.iadd, 1) := by decide +kernel
theorem dX4_readTenth_55 : decode cX4_readTenth 55 = .ok (.iaload, 1) := by decide +kernel
theorem dX4_readTenth_56 : decode cX4_readTenth 56 = .ok (.iastore, 1) := by decide +kernel
theorem dX4_readTenth_57 : decode cX4_readTenth 57 = .ok (.iinc 4 1, 3) := by decide +kernel
theorem dX4_readTenth_60 : decode cX4_readTenth 60 = .ok (.goto (-27), 3) := by decide +kernel
theorem dX4_readTenth_63 : decode cX4_readTenth 63 = .ok (.iconst 0, 1) := by decide +kernel
theorem dX4_readTenth_64 : decode cX4_readTenth 64 = .ok (.ireturn, 1) := by decide +kernel
theorem dX5_init_0 : decode cX5_init 0 = .ok (.aload_n 0, 1) := by decide +kernel
theorem dX5_init_1 : decode cX5_init 1 = .ok (.invokespecial 1, 3) := by decide +kernel
theorem dX5_init_4 : decode cX5_init 4 = .ok (.aload_n 0, 1) := by decide +kernel
theorem dX5_init_5 : decode cX5_init 5 = .ok (.sipush 200, 3) := by decide +kernel
theorem dX5_init_8 : decode cX5_init 8 = .ok (.newarray .int, 2) := by decide +kernel
theorem dX5_init_10 : decode cX5_init 10 = .ok (.putfield 9, 3) := by decide +kernel
theorem dX5_init_13 : decode cX5_init 13 = .ok (.return_, 1) := by decide +kernel
theorem dX5_addEight_0 : decode cX5_addEight 0 = .ok (.aload_n 0, 1) := by decide +kernel
theorem dX5_addEight_1 : decode cX5_addEight 1 = .ok (.getfield 13, 3) := by decide +kernel
theorem dX5_addEight_4 : decode cX5_addEight 4 = .ok (.bipush 8, 2) := by decide +kernel
theorem dX5_addEight_6 : decode cX5_addEight 6 = .ok (.iadd, 1) := by decide +kernel
theorem dX5_addEight_7 : decode cX5_addEight 7 = .ok (.sipush 200, 3) := by decide +kernel
theorem dX5_addEight_10 : decode cX5_addEight 10 = .ok (.if_icmp .le 5, 3) := by decide +kernel
theorem dX5_addEight_13 : decode cX5_addEight 13 = .ok (.iconst 0, 1) := by decide +kernel
theorem dX5_addEight_14 : decode cX5_addEight 14 = .ok (.ireturn, 1) := by decide +kernel
theorem dX5_addEight_15 : decode cX5_addEight 15 = .ok (.iconst 0, 1) := by decide +kernel
theorem dX5_addEight_16 : decode cX5_addEight 16 = .ok (.istore_n 3, 1) := by decide +kernel
theorem dX5_addEight_17 : decode cX5_addEight 17 = .ok (.iload_n 3, 1) := by decide +kernel
theorem dX5_addEight_18 : decode cX5_addEight 18 = .ok (.bipush 8, 2) := by decide +kernel
theorem dX5_addEight_20 : decode cX5_addEight 20 = .ok (.if_icmp .ge 34, 3) := by decide +kernel
theorem dX5_addEight_23 : decode cX5_addEight 23 = .ok (.aload_n 0, 1) := by decide +kernel
theorem dX5_addEight_24 : decode cX5_addEight 24 = .ok (.getfield 9, 3) := by decide +kernel
theorem dX5_addEight_27 : decode cX5_addEight 27 = .ok (.aload_n 0, 1) := by decide +kernel
theorem dX5_addEight_28 : decode cX5_addEight 28 = .ok (.getfield 13, 3) := by decide +kernel
theorem dX5_addEight_31 : decode cX5_addEight 31 = .ok (.iload_n 3, 1) := by decide +kernel
theorem dX5_addEight_32 : decode cX5_addEight 32 = .ok (.iadd, 1) := by decide +kernel
theorem dX5_addEight_33 : decode cX5_addEight 33 = .ok (.lload_n 1, 1) := by decide +kernel
theorem dX5_addEight_34 : decode cX5_addEight 34 = .ok (.bipush 56, 2) := by decide +kernel
theorem dX5_addEight_36 : decode cX5_addEight 36 = .ok (.bipush 8, 2) := by decide +kernel
theorem dX5_addEight_38 : decode cX5_addEight 38 = .ok (.iload_n 3, 1) := by decide +kernel
theorem dX5_addEight_39 : decode cX5_addEight 39 = .ok (.imul, 1) := by decide +kernel
theorem dX5_addEight_40 : decode cX5_addEight 40 = .ok (.isub, 1) := by decide +kernel
theorem dX5_addEight_41 : decode cX5_addEight 41 = .ok (.lushr, 1) := by decide +kernel
theorem dX5_addEight_42 : decode cX5_addEight 42 = .ok (.l2i, 1) := by decide +kernel
theorem dX5_addEight_43 : decode cX5_addEight 43 = .ok (.sipush 255, 3) := by decide +kernel
theorem dX5_addEight_46 : decode cX5_addEight 46 = .ok (.iand, 1) := by decide +kernel
theorem dX5_addEight_47 : decode cX5_addEight 47 = .ok (.iastore, 1) := by decide +kernel
theorem dX5_addEight_48 : decode cX5_addEight 48 = .ok (.iinc 3 1, 3) := by decide +kernel
theorem dX5_addEight_51 : decode cX5_addEight 51 = .ok (.goto (-34), 3) := by decide +kernel
theorem dX5_addEight_54 : decode cX5_addEight 54 = .ok (.aload_n 0, 1) := by decide +kernel
theorem dX5_addEight_55 : decode cX5_addEight 55 = .ok (.dup, 1) := by decide +kernel
theorem dX5_addEight_56 : decode cX5_addEight 56 = .ok (.getfield 13, 3) := by decide +kernel
theorem dX5_addEight_59 : decode cX5_addEight 59 = .ok (.bipush 8, 2) := by decide +kernel
theorem dX5_addEight_61 : decode cX5_addEight 61 = .ok (.iadd, 1) := by decide +kernel
theorem dX5_addEight_62 : decode cX5_addEight 62 = .ok (.putfield 13, 3) := by decide +kernel
theorem dX5_addEight_65 : decode cX5_addEight 65 = .ok (.iconst 1, 1) := by decide +kernel
theorem dX5_addEight_66 : decode cX5_addEight 66 = .ok (.ireturn, 1) := by decide +kernel
theorem dX6_init_0 : decode cX6_init 0 = .ok (.aload_n 0, 1) := by decide +kernel
theorem dX6_init_1 : decode cX6_init 1 = .ok (.invokespecial 5, 3) := by decide +kernel
theorem dX6_init_4 : decode cX6_init 4 = .ok (.aload_n 0, 1) := by decide +kernel
theorem dX6_init_5 : decode cX6_init 5 = .ok (.bipush 64, 2) := by decide +kernel
theorem dX6_init_7 : decode cX6_init 7 = .ok (.newarray .int, 2) := by decide +kernel
theorem dX6_init_9 : decode cX6_init 9 = .ok (.putfield 11, 3) := by decide +kernel
theorem dX6_init_12 : decode cX6_init 12 = .ok (.return_, 1) := by decide +kernel
theorem dX6_canHave_0 : decode cX6_canHave 0 = .ok (.iload_n 0, 1) := by decide +kernel
theorem dX6_canHave_1 : decode cX6_canHave 1 = .ok (.iconst 2, 1) := by decide +kernel
theorem dX6_canHave_2 : decode cX6_canHave 2 = .ok (.bipush 8, 2) := by decide +kernel
theorem dX6_canHave_4 : decode cX6_canHave 4 = .ok (.invokestatic 15, 3) := by decide +kernel
theorem dX6_canHave_7 : decode cX6_canHave 7 = .ok (.ifCond .eq 16, 3) := by decide +kernel
theorem dX6_canHave_10 : decode cX6_canHave 10 = .ok (.iload_n 1, 1) := by decide +kernel
theorem dX6_canHave_11 : decode cX6_canHave 11 = .ok (.iconst 1, 1) := by decide +kernel
theorem dX6_canHave_12 : decode cX6_canHave 12 = .ok (.iconst 2, 1) := by decide +kernel
theorem dX6_canHave_13 : decode cX6_canHave 13 = .ok (.invokestatic 15, 3) := by decide +kernel
theorem dX6_canHave_16 : decode cX6_canHave 16 = .ok (.ifCond .eq 7, 3) := by decide +kernel
theorem dX6_canHave_19 : decode cX6_canHave 19 = .ok (.iconst 1, 1) := by decide +kernel
theorem dX6_canHave_20 : decode cX6_canHave 20 = .ok (.goto 4, 3) := by decide +kernel
theorem dX6_canHave_23 : decode cX6_canHave 23 = .ok (.iconst 0, 1) := by decide +kernel
theorem dX6_canHave_24 : decode cX6_canHave 24 = .ok (.ireturn, 1) := by decide +kernel
theorem dX6_isNumber_0 : decode cX6_isNumber 0 = .ok (.iload_n 0, 1) := by decide +kernel
theorem dX6_isNumber_1 : decode cX6_isNumber 1 = .ok (.bipush (-9), 2) := by decide +kernel
theorem dX6_isNumber_3 : decode cX6_isNumber 3 = .ok (.bipush 9, 2) := by decide +kernel
theorem dX6_isNumber_5 : decode cX6_isNumber 5 = .ok (.invokestatic 15, 3) := by decide +kernel
theorem dX6_isNumber_8 : decode cX6_isNumber 8 = .ok (.ireturn, 1) := by decide +kernel
theorem dX6_spot_0 : decode cX6_spot 0 = .ok (.bipush 8, 2) := by decide +kernel
theorem dX6_spot_2 : decode cX6_spot 2 = .ok (.iload_n 0, 1) := by decide +kernel
theorem dX6_spot_3 : decode cX6_spot 3 = .ok (.imul, 1) := by decide +kernel
theorem dX6_spot_4 : decode cX6_spot 4 = .ok (.iconst 2, 1) := by decide +kernel
theorem dX6_spot_5 : decode cX6_spot 5 = .ok (.iload_n 1, 1) := by decide +kernel
theorem dX6_spot_6 : decode cX6_spot 6 = .ok (.imul, 1) := by decide +kernel
theorem dX6_spot_7 : decode cX6_spot 7 = .ok (.iadd, 1) := by decide +kernel
theorem dX6_spot_8 : decode cX6_spot 8 = .ok (.ireturn, 1) := by decide +kernel
theorem dX6_begin_0 : decode cX6_begin 0 = .ok (.aload_n 0, 1) := by decide +kernel
theorem dX6_begin_1 : decode cX6_begin 1 = .ok (.iload_n 1, 1) := by decide +kernel
theorem dX6_begin_2 : decode cX6_begin 2 = .ok (.putfield 19, 3) := by decide +kernel
theorem dX6_begin_5 : decode cX6_begin 5 = .ok (.aload_n 0, 1) := by decide +kernel
theorem dX6_begin_6 : decode cX6_begin 6 = .ok (.iload_n 2, 1) := by decide +kernel
theorem dX6_begin_7 : decode cX6_begin 7 = .ok (.putfield 23, 3) := by decide +kernel
theorem dX6_begin_10 : decode cX6_begin 10 = .ok (.iconst 0, 1) := by decide +kernel
theorem dX6_begin_11 : decode cX6_begin 11 = .ok (.istore_n 3, 1) := by decide +kernel
theorem dX6_begin_12 : decode cX6_begin 12 = .ok (.iload_n 3, 1) := by decide +kernel
theorem dX6_begin_13 : decode cX6_begin 13 = .ok (.aload_n 0, 1) := by decide +kernel
theorem dX6_begin_14 : decode cX6_begin 14 = .ok (.getfield 11, 3) := by decide +kernel
theorem dX6_begin_17 : decode cX6_begin 17 = .ok (.arraylength, 1) := by decide +kernel
theorem dX6_begin_18 : decode cX6_begin 18 = .ok (.if_icmp .ge 16, 3) := by decide +kernel
theorem dX6_begin_21 : decode cX6_begin 21 = .ok (.aload_n 0, 1) := by decide +kernel
theorem dX6_begin_22 : decode cX6_begin 22 = .ok (.getfield 11, 3) := by decide +kernel
theorem dX6_begin_25 : decode cX6_begin 25 = .ok (.iload_n 3, 1) := by decide +kernel
theorem dX6_begin_26 : decode cX6_begin 26 = .ok (.iconst 0, 1) := by decide +kernel
theorem dX6_begin_27 : decode cX6_begin 27 = .ok (.iastore, 1) := by decide +kernel
theorem dX6_begin_28 : decode cX6_begin 28 = .ok (.iinc 3 1, 3) := by decide +kernel
theorem dX6_begin_31 : decode cX6_begin 31 = .ok (.goto (-19), 3) := by decide +kernel
theorem dX6_begin_34 : decode cX6_begin 34 = .ok (.return_, 1) := by decide +kernel
theorem dX6_become_0 : decode cX6_become 0 = .ok (.aload_n 0, 1) := by decide +kernel
theorem dX6_become_1 : decode cX6_become 1 = .ok (.aload_n 1, 1) := by decide +kernel
theorem dX6_become_2 : decode cX6_become 2 = .ok (.getfield 19, 3) := by decide +kernel
theorem dX6_become_5 : decode cX6_become 5 = .ok (.putfield 19, 3) := by decide +kernel
theorem dX6_become_8 : decode cX6_become 8 = .ok (.aload_n 0, 1) := by decide +kernel
theorem dX6_become_9 : decode cX6_become 9 = .ok (.aload_n 1, 1) := by decide +kernel
theorem dX6_become_10 : decode cX6_become 10 = .ok (.getfield 23, 3) := by decide +kernel
theorem dX6_become_13 : decode cX6_become 13 = .ok (.putfield 23, 3) := by decide +kernel
theorem dX6_become_16 : decode cX6_become 16 = .ok (.aload_n 1, 1) := by decide +kernel
theorem dX6_become_17 : decode cX6_become 17 = .ok (.getfield 11, 3) := by decide +kernel
theorem dX6_become_20 : decode cX6_become 20 = .ok (.iconst 0, 1) := by decide +kernel
theorem dX6_become_21 : decode cX6_become 21 = .ok (.aload_n 0, 1) := by decide +kernel
theorem dX6_become_22 : decode cX6_become 22 = .ok (.getfield 11, 3) := by decide +kernel
theorem dX6_become_25 : decode cX6_become 25 = .ok (.iconst 0, 1) := by decide +kernel
theorem dX6_become_26 : decode cX6_become 26 = .ok (.aload_n 0, 1) := by decide +kernel
theorem dX6_become_27 : decode cX6_become 27 = .ok (.getfield 11, 3) := by decide +kernel
theorem dX6_become_30 : decode cX6_become 30 = .ok (.arraylength, 1) := by decide +kernel
theorem dX6_become_31 : decode cX6_become 31 = .ok (.invokestatic 26, 3) := by decide +kernel
theorem dX6_become_34 : decode cX6_become 34 = .ok (.return_, 1) := by decide +kernel
theorem dX6_countNumbers_0 : decode cX6_countNumbers 0 = .ok (.bipush 8, 2) := by decide +kernel
theorem dX6_countNumbers_2 : decode cX6_countNumbers 2 = .ok (.aload_n 0, 1) := by decide +kernel
theorem dX6_countNumbers_3 : decode cX6_countNumbers 3 = .ok (.getfield 19, 3) := by decide +kernel
theorem dX6_countNumbers_6 : decode cX6_countNumbers 6 = .ok (.imul, 1) := by decide +kernel
theorem dX6_countNumbers_7 : decode cX6_countNumbers 7 = .ok (.ireturn, 1) := by decide +kernel
theorem dX6_isTenthInBounds_0 : decode cX6_isTenthInBounds 0 = .ok (.bipush 8, 2) := by decide +kernel
theorem dX6_isTenthInBounds_2 : decode cX6_isTenthInBounds 2 = .ok (.iload_n 1, 1) := by decide +kernel
theorem dX6_isTenthInBounds_3 : decode cX6_isTenthInBounds 3 = .ok (.imul, 1) := by decide +kernel
theorem dX6_isTenthInBounds_4 : decode cX6_isTenthInBounds 4 = .ok (.istore_n 2, 1) := by decide +kernel
theorem dX6_isTenthInBounds_5 : decode cX6_isTenthInBounds 5 = .ok (.iload_n 2, 1) := by decide +kernel
theorem dX6_isTenthInBounds_6 : decode cX6_isTenthInBounds 6 = .ok (.bipush 8, 2) := by decide +kernel
theorem dX6_isTenthInBounds_8 : decode cX6_isTenthInBounds 8 = .ok (.iload_n 1, 1) := by decide +kernel
theorem dX6_isTenthInBounds_9 : decode cX6_isTenthInBounds 9 = .ok (.iconst 1, 1) := by decide +kernel
theorem dX6_isTenthInBounds_10 : decode cX6_isTenthInBounds 10 = .ok (.iadd, 1) := by decide +kernel
theorem dX6_isTenthInBounds_11 : decode cX6_isTenthInBounds 11 = .ok (.imul, 1) := by decide +kernel
theorem dX6_isTenthInBounds_12 : decode cX6_isTenthInBounds 12 = .ok (.if_icmp .ge 23, 3) := by decide +kernel
theorem dX6_isTenthInBounds_15 : decode cX6_isTenthInBounds 15 = .ok (.aload_n 0, 1) := by decide +kernel
theorem dX6_isTenthInBounds_16 : decode cX6_isTenthInBounds 16 = .ok (.getfield 11, 3) := by decide +kernel
theorem dX6_isTenthInBounds_19 : decode cX6_isTenthInBounds 19 = .ok (.iload_n 2, 1) := by decide +kernel
theorem dX6_isTenthInBounds_20 : decode cX6_isTenthInBounds 20 = .ok (.iaload, 1) := by decide +kernel
theorem dX6_isTenthInBounds_21 : decode cX6_isTenthInBounds 21 = .ok (.invokestatic 32, 3) := by decide +kernel
theorem dX6_isTenthInBounds_24 : decode cX6_isTenthInBounds 24 = .ok (.ifCond .ne 5, 3) := by decide +kernel
theorem dX6_isTenthInBounds_27 : decode cX6_isTenthInBounds 27 = .ok (.iconst 0, 1) := by decide +kernel
theorem dX6_isTenthInBounds_28 : decode cX6_isTenthInBounds 28 = .ok (.ireturn, 1) := by decide +kernel
theorem dX6_isTenthInBounds_29 : decode cX6_isTenthInBounds 29 = .ok (.iinc 2 1, 3) := by decide +kernel
theorem dX6_isTenthInBounds_32 : decode cX6_isTenthInBounds 32 = .ok (.goto (-27), 3) := by decide +kernel
theorem dX6_isTenthInBounds_35 : decode cX6_isTenthInBounds 35 = .ok (.iconst 1, 1) := by decide +kernel
theorem dX6_isTenthInBounds_36 : decode cX6_isTenthInBounds 36 = .ok (.ireturn, 1) := by decide +kernel
theorem dX6_unlikeNumbers_0 : decode cX6_unlikeNumbers 0 = .ok (.iconst 0, 1) := by decide +kernel
theorem dX6_unlikeNumbers_1 : decode cX6_unlikeNumbers 1 = .ok (.istore_n 2, 1) := by decide +kernel
theorem dX6_unlikeNumbers_2 : decode cX6_unlikeNumbers 2 = .ok (.iconst 0, 1) := by decide +kernel
theorem dX6_unlikeNumbers_3 : decode cX6_unlikeNumbers 3 = .ok (.istore_n 3, 1) := by decide +kernel
theorem dX6_unlikeNumbers_4 : decode cX6_unlikeNumbers 4 = .ok (.iload_n 3, 1) := by decide +kernel
theorem dX6_unlikeNumbers_5 : decode cX6_unlikeNumbers 5 = .ok (.aload_n 0, 1) := by decide +kernel
theorem dX6_unlikeNumbers_6 : decode cX6_unlikeNumbers 6 = .ok (.invokevirtual 36, 3) := by decide +kernel
theorem dX6_unlikeNumbers_9 : decode cX6_unlikeNumbers 9 = .ok (.if_icmp .ge 27, 3) := by decide +kernel
theorem dX6_unlikeNumbers_12 : decode cX6_unlikeNumbers 12 = .ok (.aload_n 0, 1) := by decide +kernel
theorem dX6_unlikeNumbers_13 : decode cX6_unlikeNumbers 13 = .ok (.getfield 11, 3) := by decide +kernel
theorem dX6_unlikeNumbers_16 : decode cX6_unlikeNumbers 16 = .ok (.iload_n 3, 1) := by decide +kernel
theorem dX6_unlikeNumbers_17 : decode cX6_unlikeNumbers 17 = .ok (.iaload, 1) := by decide +kernel
theorem dX6_unlikeNumbers_18 : decode cX6_unlikeNumbers 18 = .ok (.aload_n 1, 1) := by decide +kernel
theorem dX6_unlikeNumbers_19 : decode cX6_unlikeNumbers 19 = .ok (.getfield 11, 3) := by decide +kernel
theorem dX6_unlikeNumbers_22 : decode cX6_unlikeNumbers 22 = .ok (.iload_n 3, 1) := by decide +kernel
theorem dX6_unlikeNumbers_23 : decode cX6_unlikeNumbers 23 = .ok (.iaload, 1) := by decide +kernel
theorem dX6_unlikeNumbers_24 : decode cX6_unlikeNumbers 24 = .ok (.if_icmp .eq 6, 3) := by decide +kernel
theorem dX6_unlikeNumbers_27 : decode cX6_unlikeNumbers 27 = .ok (.iinc 2 1, 3) := by decide +kernel
theorem dX6_unlikeNumbers_30 : decode cX6_unlikeNumbers 30 = .ok (.iinc 3 1, 3) := by decide +kernel
theorem dX6_unlikeNumbers_33 : decode cX6_unlikeNumbers 33 = .ok (.goto (-29), 3) := by decide +kernel
theorem dX6_unlikeNumbers_36 : decode cX6_unlikeNumbers 36 = .ok (.iload_n 2, 1) := by decide +kernel
theorem dX6_unlikeNumbers_37 : decode cX6_unlikeNumbers 37 = .ok (.ireturn, 1) := by decide +kernel
theorem dX6_hasChange_0 : decode cX6_hasChange 0 = .ok (.iload_n 1, 1) := by decide +kernel
theorem dX6_hasChange_1 : decode cX6_hasChange 1 = .ok (.iconst 0, 1) := by decide +kernel
theorem dX6_hasChange_2 : decode cX6_hasChange 2 = .ok (.bipush 16, 2) := by decide +kernel
theorem dX6_hasChange_4 : decode cX6_hasChange 4 = .ok (.aload_n 0, 1) := by decide +kernel
theorem dX6_hasChange_5 : decode cX6_hasChange 5 = .ok (.getfield 19, 3) := by decide +kernel
theorem dX6_hasChange_8 : decode cX6_hasChange 8 = .ok (.imul, 1) := by decide +kernel
theorem dX6_hasChange_9 : decode cX6_hasChange 9 = .ok (.iconst 1, 1) := by decide +kernel
theorem dX6_hasChange_10 : decode cX6_hasChange 10 = .ok (.isub, 1) := by decide +kernel
theorem dX6_hasChange_11 : decode cX6_hasChange 11 = .ok (.invokestatic 15, 3) := by decide +kernel
theorem dX6_hasChange_14 : decode cX6_hasChange 14 = .ok (.ifCond .eq 26, 3) := by decide +kernel
theorem dX6_hasChange_17 : decode cX6_hasChange 17 = .ok (.aload_n 0, 1) := by decide +kernel
theorem dX6_hasChange_18 : decode cX6_hasChange 18 = .ok (.getfield 11, 3) := by decide +kernel
theorem dX6_hasChange_21 : decode cX6_hasChange 21 = .ok (.iload_n 1, 1) := by decide +kernel
theorem dX6_hasChange_22 : decode cX6_hasChange 22 = .ok (.iconst 1, 1) := by decide +kernel
theorem dX6_hasChange_23 : decode cX6_hasChange 23 = .ok (.ishr, 1) := by decide +kernel
theorem dX6_hasChange_24 : decode cX6_hasChange 24 = .ok (.iaload, 1) := by decide +kernel
theorem dX6_hasChange_25 : decode cX6_hasChange 25 = .ok (.iload_n 1, 1) := by decide +kernel
theorem dX6_hasChange_26 : decode cX6_hasChange 26 = .ok (.invokestatic 40, 3) := by decide +kernel
theorem dX6_hasChange_29 : decode cX6_hasChange 29 = .ok (.iadd, 1) := by decide +kernel
theorem dX6_hasChange_30 : decode cX6_hasChange 30 = .ok (.invokestatic 32, 3) := by decide +kernel
theorem dX6_hasChange_33 : decode cX6_hasChange 33 = .ok (.ifCond .eq 7, 3) := by decide +kernel
theorem dX6_hasChange_36 : decode cX6_hasChange 36 = .ok (.iconst 1, 1) := by decide +kernel
theorem dX6_hasChange_37 : decode cX6_hasChange 37 = .ok (.goto 4, 3) := by decide +kernel
theorem dX6_hasChange_40 : decode cX6_hasChange 40 = .ok (.iconst 0, 1) := by decide +kernel
theorem dX6_hasChange_41 : decode cX6_hasChange 41 = .ok (.ireturn, 1) := by decide +kernel
theorem dX6_change_0 : decode cX6_change 0 = .ok (.aload_n 0, 1) := by decide +kernel
theorem dX6_change_1 : decode cX6_change 1 = .ok (.getfield 11, 3) := by decide +kernel
theorem dX6_change_4 : decode cX6_change 4 = .ok (.iload_n 1, 1) := by decide +kernel
theorem dX6_change_5 : decode cX6_change 5 = .ok (.iconst 1, 1) := by decide +kernel
theorem dX6_change_6 : decode cX6_change 6 = .ok (.ishr, 1) := by decide +kernel
theorem dX6_change_7 : decode cX6_change 7 = .ok (.dup2, 1) := by decide +kernel
theorem dX6_change_8 : decode cX6_change 8 = .ok (.iaload, 1) := by decide +kernel
theorem dX6_change_9 : decode cX6_change 9 = .ok (.iload_n 1, 1) := by decide +kernel
theorem dX6_change_10 : decode cX6_change 10 = .ok (.invokestatic 40, 3) := by decide +kernel
theorem dX6_change_13 : decode cX6_change 13 = .ok (.iadd, 1) := by decide +kernel
theorem dX6_change_14 : decode cX6_change 14 = .ok (.iastore, 1) := by decide +kernel
theorem dX6_change_15 : decode cX6_change 15 = .ok (.return_, 1) := by decide +kernel
theorem dX6_changeBack_0 : decode cX6_changeBack 0 = .ok (.aload_n 0, 1) := by decide +kernel
theorem dX6_changeBack_1 : decode cX6_changeBack 1 = .ok (.getfield 11, 3) := by decide +kernel
theorem dX6_changeBack_4 : decode cX6_changeBack 4 = .ok (.iload_n 1, 1) := by decide +kernel
theorem dX6_changeBack_5 : decode cX6_changeBack 5 = .ok (.iconst 1, 1) := by decide +kernel
theorem dX6_changeBack_6 : decode cX6_changeBack 6 = .ok (.ishr, 1) := by decide +kernel
theorem dX6_changeBack_7 : decode cX6_changeBack 7 = .ok (.dup2, 1) := by decide +kernel
theorem dX6_changeBack_8 : decode cX6_changeBack 8 = .ok (.iaload, 1) := by decide +kernel
theorem dX6_changeBack_9 : decode cX6_changeBack 9 = .ok (.iload_n 1, 1) := by decide +kernel
theorem dX6_changeBack_10 : decode cX6_changeBack 10 = .ok (.invokestatic 40, 3) := by decide +kernel
theorem dX6_changeBack_13 : decode cX6_changeBack 13 = .ok (.isub, 1) := by decide +kernel
theorem dX6_changeBack_14 : decode cX6_changeBack 14 = .ok (.iastore, 1) := by decide +kernel
theorem dX6_changeBack_15 : decode cX6_changeBack 15 = .ok (.return_, 1) := by decide +kernel
theorem dX6_step_0 : decode cX6_step 0 = .ok (.iload_n 0, 1) := by decide +kernel
theorem dX6_step_1 : decode cX6_step 1 = .ok (.iconst 1, 1) := by decide +kernel
theorem dX6_step_2 : decode cX6_step 2 = .ok (.iand, 1) := by decide +kernel
theorem dX6_step_3 : decode cX6_step 3 = .ok (.ifCond .ne 7, 3) := by decide +kernel
theorem dX6_step_6 : decode cX6_step 6 = .ok (.iconst 1, 1) := by decide +kernel
theorem dX6_step_7 : decode cX6_step 7 = .ok (.goto 4, 3) := by decide +kernel
theorem dX6_step_10 : decode cX6_step 10 = .ok (.iconst (-1), 1) := by decide +kernel
theorem dX6_step_11 : decode cX6_step 11 = .ok (.ireturn, 1) := by decide +kernel
theorem dX7_init_0 : decode cX7_init 0 = .ok (.aload_n 0, 1) := by decide +kernel
theorem dX7_init_1 : decode cX7_init 1 = .ok (.invokespecial 1, 3) := by decide +kernel
theorem dX7_init_4 : decode cX7_init 4 = .ok (.aload_n 0, 1) := by decide +kernel
theorem dX7_init_5 : decode cX7_init 5 = .ok (.new 7, 3) := by decide +kernel
theorem dX7_init_8 : decode cX7_init 8 = .ok (.dup, 1) := by decide +kernel
theorem dX7_init_9 : decode cX7_init 9 = .ok (.invokespecial 9, 3) := by decide +kernel
theorem dX7_init_12 : decode cX7_init 12 = .ok (.putfield 10, 3) := by decide +kernel
theorem dX7_init_15 : decode cX7_init 15 = .ok (.aload_n 0, 1) := by decide +kernel
theorem dX7_init_16 : decode cX7_init 16 = .ok (.new 16, 3) := by decide +kernel
theorem dX7_init_19 : decode cX7_init 19 = .ok (.dup, 1) := by decide +kernel
theorem dX7_init_20 : decode cX7_init 20 = .ok (.invokespecial 18, 3) := by decide +kernel
theorem dX7_init_23 : decode cX7_init 23 = .ok (.putfield 19, 3) := by decide +kernel
theorem dX7_init_26 : decode cX7_init 26 = .ok (.aload_n 0, 1) := by decide +kernel
theorem dX7_init_27 : decode cX7_init 27 = .ok (.new 23, 3) := by decide +kernel
theorem dX7_init_30 : decode cX7_init 30 = .ok (.dup, 1) := by decide +kernel
theorem dX7_init_31 : decode cX7_init 31 = .ok (.invokespecial 25, 3) := by decide +kernel
theorem dX7_init_34 : decode cX7_init 34 = .ok (.putfield 26, 3) := by decide +kernel
theorem dX7_init_37 : decode cX7_init 37 = .ok (.aload_n 0, 1) := by decide +kernel
theorem dX7_init_38 : decode cX7_init 38 = .ok (.bipush 6, 2) := by decide +kernel
theorem dX7_init_40 : decode cX7_init 40 = .ok (.anewarray 30, 3) := by decide +kernel
theorem dX7_init_43 : decode cX7_init 43 = .ok (.putfield 32, 3) := by decide +kernel
theorem dX7_init_46 : decode cX7_init 46 = .ok (.iconst 0, 1) := by decide +kernel
theorem dX7_init_47 : decode cX7_init 47 = .ok (.istore_n 1, 1) := by decide +kernel
theorem dX7_init_48 : decode cX7_init 48 = .ok (.iload_n 1, 1) := by decide +kernel
theorem dX7_init_49 : decode cX7_init 49 = .ok (.bipush 6, 2) := by decide +kernel
theorem dX7_init_51 : decode cX7_init 51 = .ok (.if_icmp .ge 22, 3) := by decide +kernel
theorem dX7_init_54 : decode cX7_init 54 = .ok (.aload_n 0, 1) := by decide +kernel
theorem dX7_init_55 : decode cX7_init 55 = .ok (.getfield 32, 3) := by decide +kernel
theorem dX7_init_58 : decode cX7_init 58 = .ok (.iload_n 1, 1) := by decide +kernel
theorem dX7_init_59 : decode cX7_init 59 = .ok (.new 30, 3) := by decide +kernel
theorem dX7_init_62 : decode cX7_init 62 = .ok (.dup, 1) := by decide +kernel
theorem dX7_init_63 : decode cX7_init 63 = .ok (.invokespecial 36, 3) := by decide +kernel
theorem dX7_init_66 : decode cX7_init 66 = .ok (.aastore, 1) := by decide +kernel
theorem dX7_init_67 : decode cX7_init 67 = .ok (.iinc 1 1, 3) := by decide +kernel
theorem dX7_init_70 : decode cX7_init 70 = .ok (.goto (-22), 3) := by decide +kernel
theorem dX7_init_73 : decode cX7_init 73 = .ok (.aload_n 0, 1) := by decide +kernel
theorem dX7_init_74 : decode cX7_init 74 = .ok (.new 30, 3) := by decide +kernel
theorem dX7_init_77 : decode cX7_init 77 = .ok (.dup, 1) := by decide +kernel
theorem dX7_init_78 : decode cX7_init 78 = .ok (.invokespecial 36, 3) := by decide +kernel
theorem dX7_init_81 : decode cX7_init 81 = .ok (.putfield 37, 3) := by decide +kernel
theorem dX7_init_84 : decode cX7_init 84 = .ok (.aload_n 0, 1) := by decide +kernel
theorem dX7_init_85 : decode cX7_init 85 = .ok (.new 41, 3) := by decide +kernel
theorem dX7_init_88 : decode cX7_init 88 = .ok (.dup, 1) := by decide +kernel
theorem dX7_init_89 : decode cX7_init 89 = .ok (.aload_n 0, 1) := by decide +kernel
theorem dX7_init_90 : decode cX7_init 90 = .ok (.getfield 26, 3) := by decide +kernel
theorem dX7_init_93 : decode cX7_init 93 = .ok (.invokespecial 43, 3) := by decide +kernel
theorem dX7_init_96 : decode cX7_init 96 = .ok (.putfield 46, 3) := by decide +kernel
theorem dX7_init_99 : decode cX7_init 99 = .ok (.aload_n 0, 1) := by decide +kernel
theorem dX7_init_100 : decode cX7_init 100 = .ok (.bipush 6, 2) := by decide +kernel
theorem dX7_init_102 : decode cX7_init 102 = .ok (.newarray .int, 2) := by decide +kernel
theorem dX7_init_104 : decode cX7_init 104 = .ok (.putfield 50, 3) := by decide +kernel
theorem dX7_init_107 : decode cX7_init 107 = .ok (.aload_n 0, 1) := by decide +kernel
theorem dX7_init_108 : decode cX7_init 108 = .ok (.new 54, 3) := by decide +kernel
theorem dX7_init_111 : decode cX7_init 111 = .ok (.dup, 1) := by decide +kernel
theorem dX7_init_112 : decode cX7_init 112 = .ok (.invokespecial 56, 3) := by decide +kernel
theorem dX7_init_115 : decode cX7_init 115 = .ok (.putfield 57, 3) := by decide +kernel
theorem dX7_init_118 : decode cX7_init 118 = .ok (.aload_n 0, 1) := by decide +kernel
theorem dX7_init_119 : decode cX7_init 119 = .ok (.iconst 4, 1) := by decide +kernel
theorem dX7_init_120 : decode cX7_init 120 = .ok (.anewarray 61, 3) := by decide +kernel
theorem dX7_init_123 : decode cX7_init 123 = .ok (.putfield 63, 3) := by decide +kernel
theorem dX7_init_126 : decode cX7_init 126 = .ok (.iconst 0, 1) := by decide +kernel
theorem dX7_init_127 : decode cX7_init 127 = .ok (.istore_n 1, 1) := by decide +kernel
theorem dX7_init_128 : decode cX7_init 128 = .ok (.iload_n 1, 1) := by decide +kernel
theorem dX7_init_129 : decode cX7_init 129 = .ok (.iconst 4, 1) := by decide +kernel
theorem dX7_init_130 : decode cX7_init 130 = .ok (.if_icmp .ge 22, 3) := by decide +kernel
theorem dX7_init_133 : decode cX7_init 133 = .ok (.aload_n 0, 1) := by decide +kernel
theorem dX7_init_134 : decode cX7_init 134 = .ok (.getfield 63, 3) := by decide +kernel
theorem dX7_init_137 : decode cX7_init 137 = .ok (.iload_n 1, 1) := by decide +kernel
theorem dX7_init_138 : decode cX7_init 138 = .ok (.new 61, 3) := by decide +kernel
theorem dX7_init_141 : decode cX7_init 141 = .ok (.dup, 1) := by decide +kernel
theorem dX7_init_142 : decode cX7_init 142 = .ok (.invokespecial 67, 3) := by decide +kernel
theorem dX7_init_145 : decode cX7_init 145 = .ok (.aastore, 1) := by decide +kernel
theorem dX7_init_146 : decode cX7_init 146 = .ok (.iinc 1 1, 3) := by decide +kernel
theorem dX7_init_149 : decode cX7_init 149 = .ok (.goto (-21), 3) := by decide +kernel
theorem dX7_init_152 : decode cX7_init 152 = .ok (.return_, 1) := by decide +kernel
theorem dX7_feed_0 : decode cX7_feed 0 = .ok (.aload_n 0, 1) := by decide +kernel
theorem dX7_feed_1 : decode cX7_feed 1 = .ok (.getfield 10, 3) := by decide +kernel
theorem dX7_feed_4 : decode cX7_feed 4 = .ok (.lload_n 1, 1) := by decide +kernel
theorem dX7_feed_5 : decode cX7_feed 5 = .ok (.invokevirtual 68, 3) := by decide +kernel
theorem dX7_feed_8 : decode cX7_feed 8 = .ok (.ifCond .eq 13, 3) := by decide +kernel
theorem dX7_feed_11 : decode cX7_feed 11 = .ok (.aload_n 0, 1) := by decide +kernel
theorem dX7_feed_12 : decode cX7_feed 12 = .ok (.getfield 10, 3) := by decide +kernel
theorem dX7_feed_15 : decode cX7_feed 15 = .ok (.getfield 72, 3) := by decide +kernel
theorem dX7_feed_18 : decode cX7_feed 18 = .ok (.goto 5, 3) := by decide +kernel
theorem dX7_feed_21 : decode cX7_feed 21 = .ok (.bipush (-3), 2) := by decide +kernel
theorem dX7_feed_23 : decode cX7_feed 23 = .ok (.ireturn, 1) := by decide +kernel
theorem dX7_end_0 : decode cX7_end 0 = .ok (.iload_n 1, 1) := by decide +kernel
theorem dX7_end_1 : decode cX7_end 1 = .ok (.iconst 0, 1) := by decide +kernel
theorem dX7_end_2 : decode cX7_end 2 = .ok (.aload_n 0, 1) := by decide +kernel
theorem dX7_end_3 : decode cX7_end 3 = .ok (.getfield 10, 3) := by decide +kernel
theorem dX7_end_6 : decode cX7_end 6 = .ok (.getfield 72, 3) := by decide +kernel
theorem dX7_end_9 : decode cX7_end 9 = .ok (.invokestatic 76, 3) := by decide +kernel
theorem dX7_end_12 : decode cX7_end 12 = .ok (.ifCond .ne 5, 3) := by decide +kernel
theorem dX7_end_15 : decode cX7_end 15 = .ok (.iconst (-1), 1) := by decide +kernel
theorem dX7_end_16 : decode cX7_end 16 = .ok (.ireturn, 1) := by decide +kernel
theorem dX7_end_17 : decode cX7_end 17 = .ok (.aload_n 0, 1) := by decide +kernel
theorem dX7_end_18 : decode cX7_end 18 = .ok (.getfield 10, 3) := by decide +kernel
theorem dX7_end_21 : decode cX7_end 21 = .ok (.getfield 72, 3) := by decide +kernel
theorem dX7_end_24 : decode cX7_end 24 = .ok (.istore_n 2, 1) := by decide +kernel
theorem dX7_end_25 : decode cX7_end 25 = .ok (.aload_n 0, 1) := by decide +kernel
theorem dX7_end_26 : decode cX7_end 26 = .ok (.getfield 10, 3) := by decide +kernel
theorem dX7_end_29 : decode cX7_end 29 = .ok (.iload_n 1, 1) := by decide +kernel
theorem dX7_end_30 : decode cX7_end 30 = .ok (.putfield 72, 3) := by decide +kernel
theorem dX7_end_33 : decode cX7_end 33 = .ok (.iload_n 2, 1) := by decide +kernel
theorem dX7_end_34 : decode cX7_end 34 = .ok (.ireturn, 1) := by decide +kernel
theorem dX7_text_0 : decode cX7_text 0 = .ok (.aload_n 0, 1) := by decide +kernel
theorem dX7_text_1 : decode cX7_text 1 = .ok (.getfield 19, 3) := by decide +kernel
theorem dX7_text_4 : decode cX7_text 4 = .ok (.aload_n 0, 1) := by decide +kernel
theorem dX7_text_5 : decode cX7_text 5 = .ok (.getfield 10, 3) := by decide +kernel
theorem dX7_text_8 : decode cX7_text 8 = .ok (.invokevirtual 80, 3) := by decide +kernel
theorem dX7_text_11 : decode cX7_text 11 = .ok (.istore_n 1, 1) := by decide +kernel
theorem dX7_text_12 : decode cX7_text 12 = .ok (.aload_n 0, 1) := by decide +kernel
theorem dX7_text_13 : decode cX7_text 13 = .ok (.getfield 10, 3) := by decide +kernel
theorem dX7_text_16 : decode cX7_text 16 = .ok (.iconst 0, 1) := by decide +kernel
theorem dX7_text_17 : decode cX7_text 17 = .ok (.putfield 72, 3) := by decide +kernel
theorem dX7_text_20 : decode cX7_text 20 = .ok (.aload_n 0, 1) := by decide +kernel
theorem dX7_text_21 : decode cX7_text 21 = .ok (.getfield 19, 3) := by decide +kernel
theorem dX7_text_24 : decode cX7_text 24 = .ok (.getfield 84, 3) := by decide +kernel
theorem dX7_text_27 : decode cX7_text 27 = .ok (.ifCond .eq 14, 3) := by decide +kernel
theorem dX7_text_30 : decode cX7_text 30 = .ok (.bipush (-10), 2) := by decide +kernel
theorem dX7_text_32 : decode cX7_text 32 = .ok (.aload_n 0, 1) := by decide +kernel
theorem dX7_text_33 : decode cX7_text 33 = .ok (.getfield 19, 3) := by decide +kernel
theorem dX7_text_36 : decode cX7_text 36 = .ok (.getfield 87, 3) := by decide +kernel
theorem dX7_text_39 : decode cX7_text 39 = .ok (.isub, 1) := by decide +kernel
theorem dX7_text_40 : decode cX7_text 40 = .ok (.ireturn, 1) := by decide +kernel
theorem dX7_text_41 : decode cX7_text 41 = .ok (.aload_n 0, 1) := by decide +kernel
theorem dX7_text_42 : decode cX7_text 42 = .ok (.getfield 26, 3) := by decide +kernel
theorem dX7_text_45 : decode cX7_text 45 = .ok (.aload_n 0, 1) := by decide +kernel
theorem dX7_text_46 : decode cX7_text 46 = .ok (.getfield 19, 3) := by decide +kernel
theorem dX7_text_49 : decode cX7_text 49 = .ok (.getfield 90, 3) := by decide +kernel
theorem dX7_text_52 : decode cX7_text 52 = .ok (.invokevirtual 93, 3) := by decide +kernel
theorem dX7_text_55 : decode cX7_text 55 = .ok (.iload_n 1, 1) := by decide +kernel
theorem dX7_text_56 : decode cX7_text 56 = .ok (.ireturn, 1) := by decide +kernel
theorem dX7_fault_0 : decode cX7_fault 0 = .ok (.aload_n 0, 1) := by decide +kernel
theorem dX7_fault_1 : decode cX7_fault 1 = .ok (.getfield 19, 3) := by decide +kernel
theorem dX7_fault_4 : decode cX7_fault 4 = .ok (.getfield 84, 3) := by decide +kernel
theorem dX7_fault_7 : decode cX7_fault 7 = .ok (.ireturn, 1) := by decide +kernel
theorem dX7_rule_0 : decode cX7_rule 0 = .ok (.iload_n 1, 1) := by decide +kernel
theorem dX7_rule_1 : decode cX7_rule 1 = .ok (.iconst 0, 1) := by decide +kernel
theorem dX7_rule_2 : decode cX7_rule 2 = .ok (.bipush 17, 2) := by decide +kernel
theorem dX7_rule_4 : decode cX7_rule 4 = .ok (.invokestatic 76, 3) := by decide +kernel
theorem dX7_rule_7 : decode cX7_rule 7 = .ok (.ifCond .eq 15, 3) := by decide +kernel
theorem dX7_rule_10 : decode cX7_rule 10 = .ok (.aload_n 0, 1) := by decide +kernel
theorem dX7_rule_11 : decode cX7_rule 11 = .ok (.getfield 26, 3) := by decide +kernel
theorem dX7_rule_14 : decode cX7_rule 14 = .ok (.getfield 97, 3) := by decide +kernel
theorem dX7_rule_17 : decode cX7_rule 17 = .ok (.iload_n 1, 1) := by decide +kernel
theorem dX7_rule_18 : decode cX7_rule 18 = .ok (.iaload, 1) := by decide +kernel
theorem dX7_rule_19 : decode cX7_rule 19 = .ok (.goto 4, 3) := by decide +kernel
theorem dX7_rule_22 : decode cX7_rule 22 = .ok (.iconst (-1), 1) := by decide +kernel
theorem dX7_rule_23 : decode cX7_rule 23 = .ok (.ireturn, 1) := by decide +kernel
theorem dX7_way_0 : decode cX7_way 0 = .ok (.iload_n 1, 1) := by decide +kernel
theorem dX7_way_1 : decode cX7_way 1 = .ok (.invokestatic 100, 3) := by decide +kernel
theorem dX7_way_4 : decode cX7_way 4 = .ok (.ifCond .eq 11, 3) := by decide +kernel
theorem dX7_way_7 : decode cX7_way 7 = .ok (.iload_n 2, 1) := by decide +kernel
theorem dX7_way_8 : decode cX7_way 8 = .ok (.iload_n 3, 1) := by decide +kernel
theorem dX7_way_9 : decode cX7_way 9 = .ok (.invokestatic 104, 3) := by decide +kernel
theorem dX7_way_12 : decode cX7_way 12 = .ok (.ifCond .ne 5, 3) := by decide +kernel
theorem dX7_way_15 : decode cX7_way 15 = .ok (.iconst (-1), 1) := by decide +kernel
theorem dX7_way_16 : decode cX7_way 16 = .ok (.ireturn, 1) := by decide +kernel
theorem dX7_way_17 : decode cX7_way 17 = .ok (.aload_n 0, 1) := by decide +kernel
theorem dX7_way_18 : decode cX7_way 18 = .ok (.getfield 32, 3) := by decide +kernel
theorem dX7_way_21 : decode cX7_way 21 = .ok (.iload_n 1, 1) := by decide +kernel
theorem dX7_way_22 : decode cX7_way 22 = .ok (.aaload, 1) := by decide +kernel
theorem dX7_way_23 : decode cX7_way 23 = .ok (.getfield 108, 3) := by decide +kernel
theorem dX7_way_26 : decode cX7_way 26 = .ok (.istore 4, 2) := by decide +kernel
theorem dX7_way_28 : decode cX7_way 28 = .ok (.aload_n 0, 1) := by decide +kernel
theorem dX7_way_29 : decode cX7_way 29 = .ok (.getfield 32, 3) := by decide +kernel
theorem dX7_way_32 : decode cX7_way 32 = .ok (.iload_n 1, 1) := by decide +kernel
theorem dX7_way_33 : decode cX7_way 33 = .ok (.aaload, 1) := by decide +kernel
theorem dX7_way_34 : decode cX7_way 34 = .ok (.iload_n 2, 1) := by decide +kernel
theorem dX7_way_35 : decode cX7_way 35 = .ok (.iload_n 3, 1) := by decide +kernel
theorem dX7_way_36 : decode cX7_way 36 = .ok (.invokevirtual 111, 3) := by decide +kernel
theorem dX7_way_39 : decode cX7_way 39 = .ok (.iload 4, 2) := by decide +kernel
theorem dX7_way_41 : decode cX7_way 41 = .ok (.ireturn, 1) := by decide +kernel
theorem dX7_put_0 : decode cX7_put 0 = .ok (.aload_n 0, 1) := by decide +kernel
theorem dX7_put_1 : decode cX7_put 1 = .ok (.iload_n 1, 1) := by decide +kernel
theorem dX7_put_2 : decode cX7_put 2 = .ok (.iload_n 2, 1) := by decide +kernel
theorem dX7_put_3 : decode cX7_put 3 = .ok (.iload_n 3, 1) := by decide +kernel
theorem dX7_put_4 : decode cX7_put 4 = .ok (.invokevirtual 115, 3) := by decide +kernel
theorem dX7_put_7 : decode cX7_put 7 = .ok (.ifCond .eq 19, 3) := by decide +kernel
theorem dX7_put_10 : decode cX7_put 10 = .ok (.iload 4, 2) := by decide +kernel
theorem dX7_put_12 : decode cX7_put 12 = .ok (.invokestatic 118, 3) := by decide +kernel
theorem dX7_put_15 : decode cX7_put 15 = .ok (.ifCond .eq 11, 3) := by decide +kernel
theorem dX7_put_18 : decode cX7_put 18 = .ok (.iload 5, 2) := by decide +kernel
theorem dX7_put_20 : decode cX7_put 20 = .ok (.invokestatic 118, 3) := by decide +kernel
theorem dX7_put_23 : decode cX7_put 23 = .ok (.ifCond .ne 5, 3) := by decide +kernel
theorem dX7_put_26 : decode cX7_put 26 = .ok (.iconst (-1), 1) := by decide +kernel
theorem dX7_put_27 : decode cX7_put 27 = .ok (.ireturn, 1) := by decide +kernel
theorem dX7_put_28 : decode cX7_put 28 = .ok (.iload_n 2, 1) := by decide +kernel
theorem dX7_put_29 : decode cX7_put 29 = .ok (.iload_n 3, 1) := by decide +kernel
theorem dX7_put_30 : decode cX7_put 30 = .ok (.invokestatic 121, 3) := by decide +kernel
theorem dX7_put_33 : decode cX7_put 33 = .ok (.istore 6, 2) := by decide +kernel
theorem dX7_put_35 : decode cX7_put 35 = .ok (.aload_n 0, 1) := by decide +kernel
theorem dX7_put_36 : decode cX7_put 36 = .ok (.getfield 32, 3) := by decide +kernel
theorem dX7_put_39 : decode cX7_put 39 = .ok (.iload_n 1, 1) := by decide +kernel
theorem dX7_put_40 : decode cX7_put 40 = .ok (.aaload, 1) := by decide +kernel
theorem dX7_put_41 : decode cX7_put 41 = .ok (.getfield 125, 3) := by decide +kernel
theorem dX7_put_44 : decode cX7_put 44 = .ok (.iload 6, 2) := by decide +kernel
theorem dX7_put_46 : decode cX7_put 46 = .ok (.iload 4, 2) := by decide +kernel
theorem dX7_put_48 : decode cX7_put 48 = .ok (.iastore, 1) := by decide +kernel
theorem dX7_put_49 : decode cX7_put 49 = .ok (.aload_n 0, 1) := by decide +kernel
theorem dX7_put_50 : decode cX7_put 50 = .ok (.getfield 32, 3) := by decide +kernel
theorem dX7_put_53 : decode cX7_put 53 = .ok (.iload_n 1, 1) := by decide +kernel
theorem dX7_put_54 : decode cX7_put 54 = .ok (.aaload, 1) := by decide +kernel
theorem dX7_put_55 : decode cX7_put 55 = .ok (.getfield 125, 3) := by decide +kernel
theorem dX7_put_58 : decode cX7_put 58 = .ok (.iload 6, 2) := by decide +kernel
theorem dX7_put_60 : decode cX7_put 60 = .ok (.iconst 1, 1) := by decide +kernel
theorem dX7_put_61 : decode cX7_put 61 = .ok (.iadd, 1) := by decide +kernel
theorem dX7_put_62 : decode cX7_put 62 = .ok (.iload 5, 2) := by decide +kernel
theorem dX7_put_64 : decode cX7_put 64 = .ok (.iastore, 1) := by decide +kernel
theorem dX7_put_65 : decode cX7_put 65 = .ok (.iconst 1, 1) := by decide +kernel
theorem dX7_put_66 : decode cX7_put 66 = .ok (.ireturn, 1) := by decide +kernel
theorem dX7_at_0 : decode cX7_at 0 = .ok (.aload_n 0, 1) := by decide +kernel
theorem dX7_at_1 : decode cX7_at 1 = .ok (.iload_n 1, 1) := by decide +kernel
theorem dX7_at_2 : decode cX7_at 2 = .ok (.iload_n 2, 1) := by decide +kernel
theorem dX7_at_3 : decode cX7_at 3 = .ok (.iload_n 3, 1) := by decide +kernel
theorem dX7_at_4 : decode cX7_at 4 = .ok (.invokevirtual 115, 3) := by decide +kernel
theorem dX7_at_7 : decode cX7_at 7 = .ok (.ifCond .eq 13, 3) := by decide +kernel
theorem dX7_at_10 : decode cX7_at 10 = .ok (.iload 4, 2) := by decide +kernel
theorem dX7_at_12 : decode cX7_at 12 = .ok (.iconst 0, 1) := by decide +kernel
theorem dX7_at_13 : decode cX7_at 13 = .ok (.iconst 1, 1) := by decide +kernel
theorem dX7_at_14 : decode cX7_at 14 = .ok (.invokestatic 76, 3) := by decide +kernel
theorem dX7_at_17 : decode cX7_at 17 = .ok (.ifCond .ne 7, 3) := by decide +kernel
theorem dX7_at_20 : decode cX7_at 20 = .ok (.sipush (-1000), 3) := by decide +kernel
theorem dX7_at_23 : decode cX7_at 23 = .ok (.ireturn, 1) := by decide +kernel
theorem dX7_at_24 : decode cX7_at 24 = .ok (.aload_n 0, 1) := by decide +kernel
theorem dX7_at_25 : decode cX7_at 25 = .ok (.getfield 32, 3) := by decide +kernel
theorem dX7_at_28 : decode cX7_at 28 = .ok (.iload_n 1, 1) := by decide +kernel
theorem dX7_at_29 : decode cX7_at 29 = .ok (.aaload, 1) := by decide +kernel
theorem dX7_at_30 : decode cX7_at 30 = .ok (.getfield 125, 3) := by decide +kernel
theorem dX7_at_33 : decode cX7_at 33 = .ok (.iload_n 2, 1) := by decide +kernel
theorem dX7_at_34 : decode cX7_at 34 = .ok (.iload_n 3, 1) := by decide +kernel
theorem dX7_at_35 : decode cX7_at 35 = .ok (.invokestatic 121, 3) := by decide +kernel
theorem dX7_at_38 : decode cX7_at 38 = .ok (.iload 4, 2) := by decide +kernel
theorem dX7_at_40 : decode cX7_at 40 = .ok (.iadd, 1) := by decide +kernel
theorem dX7_at_41 : decode cX7_at 41 = .ok (.iaload, 1) := by decide +kernel
theorem dX7_at_42 : decode cX7_at 42 = .ok (.ireturn, 1) := by decide +kernel
theorem dX7_of_0 : decode cX7_of 0 = .ok (.aload_n 0, 1) := by decide +kernel
theorem dX7_of_1 : decode cX7_of 1 = .ok (.iload_n 1, 1) := by decide +kernel
theorem dX7_of_2 : decode cX7_of 2 = .ok (.invokevirtual 128, 3) := by decide +kernel
theorem dX7_of_5 : decode cX7_of 5 = .ok (.ifCond .eq 12, 3) := by decide +kernel
theorem dX7_of_8 : decode cX7_of 8 = .ok (.iload_n 2, 1) := by decide +kernel
theorem dX7_of_9 : decode cX7_of 9 = .ok (.iconst 0, 1) := by decide +kernel
theorem dX7_of_10 : decode cX7_of 10 = .ok (.iconst 1, 1) := by decide +kernel
theorem dX7_of_11 : decode cX7_of 11 = .ok (.invokestatic 76, 3) := by decide +kernel
theorem dX7_of_14 : decode cX7_of 14 = .ok (.ifCond .ne 5, 3) := by decide +kernel
theorem dX7_of_17 : decode cX7_of 17 = .ok (.iconst (-1), 1) := by decide +kernel
theorem dX7_of_18 : decode cX7_of 18 = .ok (.ireturn, 1) := by decide +kernel
theorem dX7_of_19 : decode cX7_of 19 = .ok (.iload_n 2, 1) := by decide +kernel
theorem dX7_of_20 : decode cX7_of 20 = .ok (.ifCond .ne 15, 3) := by decide +kernel
theorem dX7_of_23 : decode cX7_of 23 = .ok (.aload_n 0, 1) := by decide +kernel
theorem dX7_of_24 : decode cX7_of 24 = .ok (.getfield 32, 3) := by decide +kernel
theorem dX7_of_27 : decode cX7_of 27 = .ok (.iload_n 1, 1) := by decide +kernel
theorem dX7_of_28 : decode cX7_of 28 = .ok (.aaload, 1) := by decide +kernel
theorem dX7_of_29 : decode cX7_of 29 = .ok (.getfield 108, 3) := by decide +kernel
theorem dX7_of_32 : decode cX7_of 32 = .ok (.goto 12, 3) := by decide +kernel
theorem dX7_of_35 : decode cX7_of 35 = .ok (.aload_n 0, 1) := by decide +kernel
theorem dX7_of_36 : decode cX7_of 36 = .ok (.getfield 32, 3) := by decide +kernel
theorem dX7_of_39 : decode cX7_of 39 = .ok (.iload_n 1, 1) := by decide +kernel
theorem dX7_of_40 : decode cX7_of 40 = .ok (.aaload, 1) := by decide +kernel
theorem dX7_of_41 : decode cX7_of 41 = .ok (.getfield 131, 3) := by decide +kernel
theorem dX7_of_44 : decode cX7_of 44 = .ok (.ireturn, 1) := by decide +kernel
theorem dX7_copy_0 : decode cX7_copy 0 = .ok (.aload_n 0, 1) := by decide +kernel
theorem dX7_copy_1 : decode cX7_copy 1 = .ok (.iload_n 1, 1) := by decide +kernel
theorem dX7_copy_2 : decode cX7_copy 2 = .ok (.invokevirtual 128, 3) := by decide +kernel
theorem dX7_copy_5 : decode cX7_copy 5 = .ok (.ifCond .eq 10, 3) := by decide +kernel
theorem dX7_copy_8 : decode cX7_copy 8 = .ok (.iload_n 2, 1) := by decide +kernel
theorem dX7_copy_9 : decode cX7_copy 9 = .ok (.invokestatic 100, 3) := by decide +kernel
theorem dX7_copy_12 : decode cX7_copy 12 = .ok (.ifCond .ne 5, 3) := by decide +kernel
theorem dX7_copy_15 : decode cX7_copy 15 = .ok (.iconst (-1), 1) := by decide +kernel
theorem dX7_copy_16 : decode cX7_copy 16 = .ok (.ireturn, 1) := by decide +kernel
theorem dX7_copy_17 : decode cX7_copy 17 = .ok (.aload_n 0, 1) := by decide +kernel
theorem dX7_copy_18 : decode cX7_copy 18 = .ok (.getfield 32, 3) := by decide +kernel
theorem dX7_copy_21 : decode cX7_copy 21 = .ok (.iload_n 2, 1) := by decide +kernel
theorem dX7_copy_22 : decode cX7_copy 22 = .ok (.aaload, 1) := by decide +kernel
theorem dX7_copy_23 : decode cX7_copy 23 = .ok (.aload_n 0, 1) := by decide +kernel
theorem dX7_copy_24 : decode cX7_copy 24 = .ok (.getfield 32, 3) := by decide +kernel
theorem dX7_copy_27 : decode cX7_copy 27 = .ok (.iload_n 1, 1) := by decide +kernel
theorem dX7_copy_28 : decode cX7_copy 28 = .ok (.aaload, 1) := by decide +kernel
theorem dX7_copy_29 : decode cX7_copy 29 = .ok (.invokevirtual 134, 3) := by decide +kernel
theorem dX7_copy_32 : decode cX7_copy 32 = .ok (.iconst 1, 1) := by decide +kernel
theorem dX7_copy_33 : decode cX7_copy 33 = .ok (.ireturn, 1) := by decide +kernel
theorem dX7_place_0 : decode cX7_place 0 = .ok (.aload_n 0, 1) := by decide +kernel
theorem dX7_place_1 : decode cX7_place 1 = .ok (.iload_n 1, 1) := by decide +kernel
theorem dX7_place_2 : decode cX7_place 2 = .ok (.iload_n 2, 1) := by decide +kernel
theorem dX7_place_3 : decode cX7_place 3 = .ok (.iload_n 3, 1) := by decide +kernel
theorem dX7_place_4 : decode cX7_place 4 = .ok (.invokevirtual 115, 3) := by decide +kernel
theorem dX7_place_7 : decode cX7_place 7 = .ok (.ifCond .eq 13, 3) := by decide +kernel
theorem dX7_place_10 : decode cX7_place 10 = .ok (.iload 4, 2) := by decide +kernel
theorem dX7_place_12 : decode cX7_place 12 = .ok (.iconst 0, 1) := by decide +kernel
theorem dX7_place_13 : decode cX7_place 13 = .ok (.iconst 1, 1) := by decide +kernel
theorem dX7_place_14 : decode cX7_place 14 = .ok (.invokestatic 76, 3) := by decide +kernel
theorem dX7_place_17 : decode cX7_place 17 = .ok (.ifCond .ne 6, 3) := by decide +kernel
theorem dX7_place_20 : decode cX7_place 20 = .ok (.ldc 138, 2) := by decide +kernel
theorem dX7_place_22 : decode cX7_place 22 = .ok (.ireturn, 1) := by decide +kernel
theorem dX7_place_23 : decode cX7_place 23 = .ok (.aload_n 0, 1) := by decide +kernel
theorem dX7_place_24 : decode cX7_place 24 = .ok (.getfield 46, 3) := by decide +kernel
theorem dX7_place_27 : decode cX7_place 27 = .ok (.aload_n 0, 1) := by decide +kernel
theorem dX7_place_28 : decode cX7_place 28 = .ok (.getfield 32, 3) := by decide +kernel
theorem dX7_place_31 : decode cX7_place 31 = .ok (.iload_n 1, 1) := by decide +kernel
theorem dX7_place_32 : decode cX7_place 32 = .ok (.aaload, 1) := by decide +kernel
theorem dX7_place_33 : decode cX7_place 33 = .ok (.iload_n 2, 1) := by decide +kernel
theorem dX7_place_34 : decode cX7_place 34 = .ok (.iload_n 3, 1) := by decide +kernel
theorem dX7_place_35 : decode cX7_place 35 = .ok (.iload 4, 2) := by decide +kernel
theorem dX7_place_37 : decode cX7_place 37 = .ok (.invokevirtual 139, 3) := by decide +kernel
theorem dX7_place_40 : decode cX7_place 40 = .ok (.ireturn, 1) := by decide +kernel
theorem dX7_near_0 : decode cX7_near 0 = .ok (.aload_n 0, 1) := by decide +kernel
theorem dX7_near_1 : decode cX7_near 1 = .ok (.iload_n 1, 1) := by decide +kernel
theorem dX7_near_2 : decode cX7_near 2 = .ok (.iload_n 2, 1) := by decide +kernel
theorem dX7_near_3 : decode cX7_near 3 = .ok (.iload_n 3, 1) := by decide +kernel
theorem dX7_near_4 : decode cX7_near 4 = .ok (.invokevirtual 115, 3) := by decide +kernel
theorem dX7_near_7 : decode cX7_near 7 = .ok (.ifCond .ne 5, 3) := by decide +kernel
theorem dX7_near_10 : decode cX7_near 10 = .ok (.iconst (-1), 1) := by decide +kernel
theorem dX7_near_11 : decode cX7_near 11 = .ok (.ireturn, 1) := by decide +kernel
theorem dX7_near_12 : decode cX7_near 12 = .ok (.aload_n 0, 1) := by decide +kernel
theorem dX7_near_13 : decode cX7_near 13 = .ok (.getfield 46, 3) := by decide +kernel
theorem dX7_near_16 : decode cX7_near 16 = .ok (.aload_n 0, 1) := by decide +kernel
theorem dX7_near_17 : decode cX7_near 17 = .ok (.getfield 46, 3) := by decide +kernel
theorem dX7_near_20 : decode cX7_near 20 = .ok (.aload_n 0, 1) := by decide +kernel
theorem dX7_near_21 : decode cX7_near 21 = .ok (.getfield 32, 3) := by decide +kernel
theorem dX7_near_24 : decode cX7_near 24 = .ok (.iload_n 1, 1) := by decide +kernel
theorem dX7_near_25 : decode cX7_near 25 = .ok (.aaload, 1) := by decide +kernel
theorem dX7_near_26 : decode cX7_near 26 = .ok (.iload_n 2, 1) := by decide +kernel
theorem dX7_near_27 : decode cX7_near 27 = .ok (.iload_n 3, 1) := by decide +kernel
theorem dX7_near_28 : decode cX7_near 28 = .ok (.iconst 0, 1) := by decide +kernel
theorem dX7_near_29 : decode cX7_near 29 = .ok (.invokevirtual 139, 3) := by decide +kernel
theorem dX7_near_32 : decode cX7_near 32 = .ok (.invokevirtual 143, 3) := by decide +kernel
theorem dX7_near_35 : decode cX7_near 35 = .ok (.ifCond .eq 7, 3) := by decide +kernel
theorem dX7_near_38 : decode cX7_near 38 = .ok (.iconst 1, 1) := by decide +kernel
theorem dX7_near_39 : decode cX7_near 39 = .ok (.goto 4, 3) := by decide +kernel
theorem dX7_near_42 : decode cX7_near 42 = .ok (.iconst 0, 1) := by decide +kernel
theorem dX7_near_43 : decode cX7_near 43 = .ok (.ireturn, 1) := by decide +kernel
theorem dX7_high_0 : decode cX7_high 0 = .ok (.aload_n 0, 1) := by decide +kernel
theorem dX7_high_1 : decode cX7_high 1 = .ok (.iload_n 1, 1) := by decide +kernel
theorem dX7_high_2 : decode cX7_high 2 = .ok (.invokevirtual 128, 3) := by decide +kernel
theorem dX7_high_5 : decode cX7_high 5 = .ok (.ifCond .ne 5, 3) := by decide +kernel
theorem dX7_high_8 : decode cX7_high 8 = .ok (.iconst (-1), 1) := by decide +kernel
theorem dX7_high_9 : decode cX7_high 9 = .ok (.ireturn, 1) := by decide +kernel
theorem dX7_high_10 : decode cX7_high 10 = .ok (.aload_n 0, 1) := by decide +kernel
theorem dX7_high_11 : decode cX7_high 11 = .ok (.getfield 46, 3) := by decide +kernel
theorem dX7_high_14 : decode cX7_high 14 = .ok (.aload_n 0, 1) := by decide +kernel
theorem dX7_high_15 : decode cX7_high 15 = .ok (.getfield 32, 3) := by decide +kernel
theorem dX7_high_18 : decode cX7_high 18 = .ok (.iload_n 1, 1) := by decide +kernel
theorem dX7_high_19 : decode cX7_high 19 = .ok (.aaload, 1) := by decide +kernel
theorem dX7_high_20 : decode cX7_high 20 = .ok (.invokevirtual 146, 3) := by decide +kernel
theorem dX7_high_23 : decode cX7_high 23 = .ok (.aload_n 0, 1) := by decide +kernel
theorem dX7_high_24 : decode cX7_high 24 = .ok (.getfield 46, 3) := by decide +kernel
theorem dX7_high_27 : decode cX7_high 27 = .ok (.aload_n 0, 1) := by decide +kernel
theorem dX7_high_28 : decode cX7_high 28 = .ok (.getfield 32, 3) := by decide +kernel
theorem dX7_high_31 : decode cX7_high 31 = .ok (.iload_n 1, 1) := by decide +kernel
theorem dX7_high_32 : decode cX7_high 32 = .ok (.aaload, 1) := by decide +kernel
theorem dX7_high_33 : decode cX7_high 33 = .ok (.invokevirtual 149, 3) := by decide +kernel
theorem dX7_high_36 : decode cX7_high 36 = .ok (.ireturn, 1) := by decide +kernel
theorem dX7_lowest_0 : decode cX7_lowest 0 = .ok (.aload_n 0, 1) := by decide +kernel
theorem dX7_lowest_1 : decode cX7_lowest 1 = .ok (.iload_n 1, 1) := by decide +kernel
theorem dX7_lowest_2 : decode cX7_lowest 2 = .ok (.invokevirtual 128, 3) := by decide +kernel
theorem dX7_lowest_5 : decode cX7_lowest 5 = .ok (.ifCond .ne 5, 3) := by decide +kernel
theorem dX7_lowest_8 : decode cX7_lowest 8 = .ok (.iconst (-1), 1) := by decide +kernel
theorem dX7_lowest_9 : decode cX7_lowest 9 = .ok (.ireturn, 1) := by decide +kernel
theorem dX7_lowest_10 : decode cX7_lowest 10 = .ok (.aload_n 0, 1) := by decide +kernel
theorem dX7_lowest_11 : decode cX7_lowest 11 = .ok (.getfield 46, 3) := by decide +kernel
theorem dX7_lowest_14 : decode cX7_lowest 14 = .ok (.aload_n 0, 1) := by decide +kernel
theorem dX7_lowest_15 : decode cX7_lowest 15 = .ok (.getfield 32, 3) := by decide +kernel
theorem dX7_lowest_18 : decode cX7_lowest 18 = .ok (.iload_n 1, 1) := by decide +kernel
theorem dX7_lowest_19 : decode cX7_lowest 19 = .ok (.aaload, 1) := by decide +kernel
theorem dX7_lowest_20 : decode cX7_lowest 20 = .ok (.invokevirtual 146, 3) := by decide +kernel
theorem dX7_lowest_23 : decode cX7_lowest 23 = .ok (.aload_n 0, 1) := by decide +kernel
theorem dX7_lowest_24 : decode cX7_lowest 24 = .ok (.getfield 46, 3) := by decide +kernel
theorem dX7_lowest_27 : decode cX7_lowest 27 = .ok (.aload_n 0, 1) := by decide +kernel
theorem dX7_lowest_28 : decode cX7_lowest 28 = .ok (.getfield 32, 3) := by decide +kernel
theorem dX7_lowest_31 : decode cX7_lowest 31 = .ok (.iload_n 1, 1) := by decide +kernel
theorem dX7_lowest_32 : decode cX7_lowest 32 = .ok (.aaload, 1) := by decide +kernel
theorem dX7_lowest_33 : decode cX7_lowest 33 = .ok (.invokevirtual 153, 3) := by decide +kernel
theorem dX7_lowest_36 : decode cX7_lowest 36 = .ok (.istore_n 2, 1) := by decide +kernel
theorem dX7_lowest_37 : decode cX7_lowest 37 = .ok (.iload_n 2, 1) := by decide +kernel
theorem dX7_lowest_38 : decode cX7_lowest 38 = .ok (.ifCond .lt 21, 3) := by decide +kernel
theorem dX7_lowest_41 : decode cX7_lowest 41 = .ok (.aload_n 0, 1) := by decide +kernel
theorem dX7_lowest_42 : decode cX7_lowest 42 = .ok (.getfield 46, 3) := by decide +kernel
theorem dX7_lowest_45 : decode cX7_lowest 45 = .ok (.aload_n 0, 1) := by decide +kernel
theorem dX7_lowest_46 : decode cX7_lowest 46 = .ok (.getfield 32, 3) := by decide +kernel
theorem dX7_lowest_49 : decode cX7_lowest 49 = .ok (.iload_n 1, 1) := by decide +kernel
theorem dX7_lowest_50 : decode cX7_lowest 50 = .ok (.aaload, 1) := by decide +kernel
theorem dX7_lowest_51 : decode cX7_lowest 51 = .ok (.invokevirtual 149, 3) := by decide +kernel
theorem dX7_lowest_54 : decode cX7_lowest 54 = .ok (.bipush (-4), 2) := by decide +kernel
theorem dX7_lowest_56 : decode cX7_lowest 56 = .ok (.if_icmp .ne 6, 3) := by decide +kernel
theorem dX7_lowest_59 : decode cX7_lowest 59 = .ok (.bipush (-4), 2) := by decide +kernel
theorem dX7_lowest_61 : decode cX7_lowest 61 = .ok (.ireturn, 1) := by decide +kernel
theorem dX7_lowest_62 : decode cX7_lowest 62 = .ok (.iconst 4, 1) := by decide +kernel
theorem dX7_lowest_63 : decode cX7_lowest 63 = .ok (.iload_n 2, 1) := by decide +kernel
theorem dX7_lowest_64 : decode cX7_lowest 64 = .ok (.imul, 1) := by decide +kernel
theorem dX7_lowest_65 : decode cX7_lowest 65 = .ok (.aload_n 0, 1) := by decide +kernel
theorem dX7_lowest_66 : decode cX7_lowest 66 = .ok (.getfield 46, 3) := by decide +kernel
theorem dX7_lowest_69 : decode cX7_lowest 69 = .ok (.getfield 156, 3) := by decide +kernel
theorem dX7_lowest_72 : decode cX7_lowest 72 = .ok (.iload_n 2, 1) := by decide +kernel
theorem dX7_lowest_73 : decode cX7_lowest 73 = .ok (.iaload, 1) := by decide +kernel
theorem dX7_lowest_74 : decode cX7_lowest 74 = .ok (.iadd, 1) := by decide +kernel
theorem dX7_lowest_75 : decode cX7_lowest 75 = .ok (.ireturn, 1) := by decide +kernel
theorem dX7_under_0 : decode cX7_under 0 = .ok (.aload_n 0, 1) := by decide +kernel
theorem dX7_under_1 : decode cX7_under 1 = .ok (.iload_n 1, 1) := by decide +kernel
theorem dX7_under_2 : decode cX7_under 2 = .ok (.invokevirtual 128, 3) := by decide +kernel
theorem dX7_under_5 : decode cX7_under 5 = .ok (.ifCond .ne 6, 3) := by decide +kernel
theorem dX7_under_8 : decode cX7_under 8 = .ok (.ldc 138, 2) := by decide +kernel
theorem dX7_under_10 : decode cX7_under 10 = .ok (.ireturn, 1) := by decide +kernel
theorem dX7_under_11 : decode cX7_under 11 = .ok (.aload_n 0, 1) := by decide +kernel
theorem dX7_under_12 : decode cX7_under 12 = .ok (.getfield 46, 3) := by decide +kernel
theorem dX7_under_15 : decode cX7_under 15 = .ok (.aload_n 0, 1) := by decide +kernel
theorem dX7_under_16 : decode cX7_under 16 = .ok (.getfield 32, 3) := by decide +kernel
theorem dX7_under_19 : decode cX7_under 19 = .ok (.iload_n 1, 1) := by decide +kernel
theorem dX7_under_20 : decode cX7_under 20 = .ok (.aaload, 1) := by decide +kernel
theorem dX7_under_21 : decode cX7_under 21 = .ok (.invokevirtual 146, 3) := by decide +kernel
theorem dX7_under_24 : decode cX7_under 24 = .ok (.aload_n 0, 1) := by decide +kernel
theorem dX7_under_25 : decode cX7_under 25 = .ok (.getfield 46, 3) := by decide +kernel
theorem dX7_under_28 : decode cX7_under 28 = .ok (.aload_n 0, 1) := by decide +kernel
theorem dX7_under_29 : decode cX7_under 29 = .ok (.getfield 32, 3) := by decide +kernel
theorem dX7_under_32 : decode cX7_under 32 = .ok (.iload_n 1, 1) := by decide +kernel
theorem dX7_under_33 : decode cX7_under 33 = .ok (.aaload, 1) := by decide +kernel
theorem dX7_under_34 : decode cX7_under 34 = .ok (.invokevirtual 149, 3) := by decide +kernel
theorem dX7_under_37 : decode cX7_under 37 = .ok (.istore_n 2, 1) := by decide +kernel
theorem dX7_under_38 : decode cX7_under 38 = .ok (.iload_n 2, 1) := by decide +kernel
theorem dX7_under_39 : decode cX7_under 39 = .ok (.bipush (-4), 2) := by decide +kernel
theorem dX7_under_41 : decode cX7_under 41 = .ok (.if_icmp .eq 19, 3) := by decide +kernel
theorem dX7_under_44 : decode cX7_under 44 = .ok (.aload_n 0, 1) := by decide +kernel
theorem dX7_under_45 : decode cX7_under 45 = .ok (.getfield 46, 3) := by decide +kernel
theorem dX7_under_48 : decode cX7_under 48 = .ok (.aload_n 0, 1) := by decide +kernel
theorem dX7_under_49 : decode cX7_under 49 = .ok (.getfield 32, 3) := by decide +kernel
theorem dX7_under_52 : decode cX7_under 52 = .ok (.iload_n 1, 1) := by decide +kernel
theorem dX7_under_53 : decode cX7_under 53 = .ok (.aaload, 1) := by decide +kernel
theorem dX7_under_54 : decode cX7_under 54 = .ok (.invokevirtual 153, 3) := by decide +kernel
theorem dX7_under_57 : decode cX7_under 57 = .ok (.ifCond .ge 6, 3) := by decide +kernel
theorem dX7_under_60 : decode cX7_under 60 = .ok (.ldc 159, 2) := by decide +kernel
theorem dX7_under_62 : decode cX7_under 62 = .ok (.ireturn, 1) := by decide +kernel
theorem dX7_under_63 : decode cX7_under 63 = .ok (.aload_n 0, 1) := by decide +kernel
theorem dX7_under_64 : decode cX7_under 64 = .ok (.getfield 46, 3) := by decide +kernel
theorem dX7_under_67 : decode cX7_under 67 = .ok (.aload_n 0, 1) := by decide +kernel
theorem dX7_under_68 : decode cX7_under 68 = .ok (.getfield 32, 3) := by decide +kernel
theorem dX7_under_71 : decode cX7_under 71 = .ok (.iload_n 1, 1) := by decide +kernel
theorem dX7_under_72 : decode cX7_under 72 = .ok (.aaload, 1) := by decide +kernel
theorem dX7_under_73 : decode cX7_under 73 = .ok (.invokevirtual 160, 3) := by decide +kernel
theorem dX7_under_76 : decode cX7_under 76 = .ok (.aload_n 0, 1) := by decide +kernel
theorem dX7_under_77 : decode cX7_under 77 = .ok (.getfield 26, 3) := by decide +kernel
theorem dX7_under_80 : decode cX7_under 80 = .ok (.invokevirtual 163, 3) := by decide +kernel
theorem dX7_under_83 : decode cX7_under 83 = .ok (.iload_n 2, 1) := by decide +kernel
theorem dX7_under_84 : decode cX7_under 84 = .ok (.imul, 1) := by decide +kernel
theorem dX7_under_85 : decode cX7_under 85 = .ok (.isub, 1) := by decide +kernel
theorem dX7_under_86 : decode cX7_under 86 = .ok (.ireturn, 1) := by decide +kernel
theorem dX7_order_0 : decode cX7_order 0 = .ok (.aload_n 0, 1) := by decide +kernel
theorem dX7_order_1 : decode cX7_order 1 = .ok (.iload_n 1, 1) := by decide +kernel
theorem dX7_order_2 : decode cX7_order 2 = .ok (.invokevirtual 128, 3) := by decide +kernel
theorem dX7_order_5 : decode cX7_order 5 = .ok (.ifCond .ne 5, 3) := by decide +kernel
theorem dX7_order_8 : decode cX7_order 8 = .ok (.iconst (-1), 1) := by decide +kernel
theorem dX7_order_9 : decode cX7_order 9 = .ok (.ireturn, 1) := by decide +kernel
theorem dX7_order_10 : decode cX7_order 10 = .ok (.aload_n 0, 1) := by decide +kernel
theorem dX7_order_11 : decode cX7_order 11 = .ok (.getfield 46, 3) := by decide +kernel
theorem dX7_order_14 : decode cX7_order 14 = .ok (.aload_n 0, 1) := by decide +kernel
theorem dX7_order_15 : decode cX7_order 15 = .ok (.getfield 32, 3) := by decide +kernel
theorem dX7_order_18 : decode cX7_order 18 = .ok (.iload_n 1, 1) := by decide +kernel
theorem dX7_order_19 : decode cX7_order 19 = .ok (.aaload, 1) := by decide +kernel
theorem dX7_order_20 : decode cX7_order 20 = .ok (.invokevirtual 146, 3) := by decide +kernel
theorem dX7_order_23 : decode cX7_order 23 = .ok (.aload_n 0, 1) := by decide +kernel
theorem dX7_order_24 : decode cX7_order 24 = .ok (.getfield 46, 3) := by decide +kernel
theorem dX7_order_27 : decode cX7_order 27 = .ok (.aload_n 0, 1) := by decide +kernel
theorem dX7_order_28 : decode cX7_order 28 = .ok (.getfield 32, 3) := by decide +kernel
theorem dX7_order_31 : decode cX7_order 31 = .ok (.iload_n 1, 1) := by decide +kernel
theorem dX7_order_32 : decode cX7_order 32 = .ok (.aaload, 1) := by decide +kernel
theorem dX7_order_33 : decode cX7_order 33 = .ok (.invokevirtual 167, 3) := by decide +kernel
theorem dX7_order_36 : decode cX7_order 36 = .ok (.ifCond .eq 19, 3) := by decide +kernel
theorem dX7_order_39 : decode cX7_order 39 = .ok (.aload_n 0, 1) := by decide +kernel
theorem dX7_order_40 : decode cX7_order 40 = .ok (.getfield 46, 3) := by decide +kernel
theorem dX7_order_43 : decode cX7_order 43 = .ok (.aload_n 0, 1) := by decide +kernel
theorem dX7_order_44 : decode cX7_order 44 = .ok (.getfield 32, 3) := by decide +kernel
theorem dX7_order_47 : decode cX7_order 47 = .ok (.iload_n 1, 1) := by decide +kernel
theorem dX7_order_48 : decode cX7_order 48 = .ok (.aaload, 1) := by decide +kernel
theorem dX7_order_49 : decode cX7_order 49 = .ok (.invokevirtual 171, 3) := by decide +kernel
theorem dX7_order_52 : decode cX7_order 52 = .ok (.goto 5, 3) := by decide +kernel
theorem dX7_order_55 : decode cX7_order 55 = .ok (.bipush (-4), 2) := by decide +kernel
theorem dX7_order_57 : decode cX7_order 57 = .ok (.ireturn, 1) := by decide +kernel
theorem dX7_barred_0 : decode cX7_barred 0 = .ok (.aload_n 0, 1) := by decide +kernel
theorem dX7_barred_1 : decode cX7_barred 1 = .ok (.iload_n 1, 1) := by decide +kernel
theorem dX7_barred_2 : decode cX7_barred 2 = .ok (.invokevirtual 128, 3) := by decide +kernel
theorem dX7_barred_5 : decode cX7_barred 5 = .ok (.ifCond .ne 5, 3) := by decide +kernel
theorem dX7_barred_8 : decode cX7_barred 8 = .ok (.iconst (-1), 1) := by decide +kernel
theorem dX7_barred_9 : decode cX7_barred 9 = .ok (.ireturn, 1) := by decide +kernel
theorem dX7_barred_10 : decode cX7_barred 10 = .ok (.aload_n 0, 1) := by decide +kernel
theorem dX7_barred_11 : decode cX7_barred 11 = .ok (.getfield 46, 3) := by decide +kernel
theorem dX7_barred_14 : decode cX7_barred 14 = .ok (.aload_n 0, 1) := by decide +kernel
theorem dX7_barred_15 : decode cX7_barred 15 = .ok (.getfield 32, 3) := by decide +kernel
theorem dX7_barred_18 : decode cX7_barred 18 = .ok (.iload_n 1, 1) := by decide +kernel
theorem dX7_barred_19 : decode cX7_barred 19 = .ok (.aaload, 1) := by decide +kernel
theorem dX7_barred_20 : decode cX7_barred 20 = .ok (.invokevirtual 146, 3) := by decide +kernel
theorem dX7_barred_23 : decode cX7_barred 23 = .ok (.aload_n 0, 1) := by decide +kernel
theorem dX7_barred_24 : decode cX7_barred 24 = .ok (.getfield 46, 3) := by decide +kernel
theorem dX7_barred_27 : decode cX7_barred 27 = .ok (.aload_n 0, 1) := by decide +kernel
theorem dX7_barred_28 : decode cX7_barred 28 = .ok (.getfield 32, 3) := by decide +kernel
theorem dX7_barred_31 : decode cX7_barred 31 = .ok (.iload_n 1, 1) := by decide +kernel
theorem dX7_barred_32 : decode cX7_barred 32 = .ok (.aaload, 1) := by decide +kernel
theorem dX7_barred_33 : decode cX7_barred 33 = .ok (.invokevirtual 174, 3) := by decide +kernel
theorem dX7_barred_36 : decode cX7_barred 36 = .ok (.ireturn, 1) := by decide +kernel
theorem dX7_pits_0 : decode cX7_pits 0 = .ok (.aload_n 0, 1) := by decide +kernel
theorem dX7_pits_1 : decode cX7_pits 1 = .ok (.iload_n 1, 1) := by decide +kernel
theorem dX7_pits_2 : decode cX7_pits 2 = .ok (.invokevirtual 128, 3) := by decide +kernel
theorem dX7_pits_5 : decode cX7_pits 5 = .ok (.ifCond .ne 5, 3) := by decide +kernel
theorem dX7_pits_8 : decode cX7_pits 8 = .ok (.iconst (-1), 1) := by decide +kernel
theorem dX7_pits_9 : decode cX7_pits 9 = .ok (.ireturn, 1) := by decide +kernel
theorem dX7_pits_10 : decode cX7_pits 10 = .ok (.iconst 0, 1) := by decide +kernel
theorem dX7_pits_11 : decode cX7_pits 11 = .ok (.istore_n 2, 1) := by decide +kernel
theorem dX7_pits_12 : decode cX7_pits 12 = .ok (.iconst 0, 1) := by decide +kernel
theorem dX7_pits_13 : decode cX7_pits 13 = .ok (.istore_n 3, 1) := by decide +kernel
theorem dX7_pits_14 : decode cX7_pits 14 = .ok (.iload_n 3, 1) := by decide +kernel
theorem dX7_pits_15 : decode cX7_pits 15 = .ok (.iconst 2, 1) := by decide +kernel
theorem dX7_pits_16 : decode cX7_pits 16 = .ok (.if_icmp .gt 28, 3) := by decide +kernel
theorem dX7_pits_19 : decode cX7_pits 19 = .ok (.iload_n 3, 1) := by decide +kernel
theorem dX7_pits_20 : decode cX7_pits 20 = .ok (.aload_n 0, 1) := by decide +kernel
theorem dX7_pits_21 : decode cX7_pits 21 = .ok (.getfield 32, 3) := by decide +kernel
theorem dX7_pits_24 : decode cX7_pits 24 = .ok (.iload_n 1, 1) := by decide +kernel
theorem dX7_pits_25 : decode cX7_pits 25 = .ok (.aaload, 1) := by decide +kernel
theorem dX7_pits_26 : decode cX7_pits 26 = .ok (.invokestatic 177, 3) := by decide +kernel
theorem dX7_pits_29 : decode cX7_pits 29 = .ok (.ifCond .eq 9, 3) := by decide +kernel
theorem dX7_pits_32 : decode cX7_pits 32 = .ok (.iload_n 2, 1) := by decide +kernel
theorem dX7_pits_33 : decode cX7_pits 33 = .ok (.iconst 1, 1) := by decide +kernel
theorem dX7_pits_34 : decode cX7_pits 34 = .ok (.iload_n 3, 1) := by decide +kernel
theorem dX7_pits_35 : decode cX7_pits 35 = .ok (.ishl, 1) := by decide +kernel
theorem dX7_pits_36 : decode cX7_pits 36 = .ok (.ior, 1) := by decide +kernel
theorem dX7_pits_37 : decode cX7_pits 37 = .ok (.istore_n 2, 1) := by decide +kernel
theorem dX7_pits_38 : decode cX7_pits 38 = .ok (.iinc 3 1, 3) := by decide +kernel
theorem dX7_pits_41 : decode cX7_pits 41 = .ok (.goto (-27), 3) := by decide +kernel
theorem dX7_pits_44 : decode cX7_pits 44 = .ok (.iload_n 2, 1) := by decide +kernel
theorem dX7_pits_45 : decode cX7_pits 45 = .ok (.ireturn, 1) := by decide +kernel
theorem dX7_worth_0 : decode cX7_worth 0 = .ok (.aload_n 0, 1) := by decide +kernel
theorem dX7_worth_1 : decode cX7_worth 1 = .ok (.iload_n 1, 1) := by decide +kernel
theorem dX7_worth_2 : decode cX7_worth 2 = .ok (.invokevirtual 128, 3) := by decide +kernel
theorem dX7_worth_5 : decode cX7_worth 5 = .ok (.ifCond .eq 21, 3) := by decide +kernel
theorem dX7_worth_8 : decode cX7_worth 8 = .ok (.iload_n 2, 1) := by decide +kernel
theorem dX7_worth_9 : decode cX7_worth 9 = .ok (.iconst (-1), 1) := by decide +kernel
theorem dX7_worth_10 : decode cX7_worth 10 = .ok (.if_icmp .eq 20, 3) := by decide +kernel
theorem dX7_worth_13 : decode cX7_worth 13 = .ok (.aload_n 0, 1) := by decide +kernel
theorem dX7_worth_14 : decode cX7_worth 14 = .ok (.getfield 32, 3) := by decide +kernel
theorem dX7_worth_17 : decode cX7_worth 17 = .ok (.iload_n 1, 1) := by decide +kernel
theorem dX7_worth_18 : decode cX7_worth 18 = .ok (.aaload, 1) := by decide +kernel
theorem dX7_worth_19 : decode cX7_worth 19 = .ok (.iload_n 2, 1) := by decide +kernel
theorem dX7_worth_20 : decode cX7_worth 20 = .ok (.invokevirtual 181, 3) := by decide +kernel
theorem dX7_worth_23 : decode cX7_worth 23 = .ok (.ifCond .ne 7, 3) := by decide +kernel
theorem dX7_worth_26 : decode cX7_worth 26 = .ok (.sipush (-1000), 3) := by decide +kernel
theorem dX7_worth_29 : decode cX7_worth 29 = .ok (.ireturn, 1) := by decide +kernel
theorem dX7_worth_30 : decode cX7_worth 30 = .ok (.aload_n 0, 1) := by decide +kernel
theorem dX7_worth_31 : decode cX7_worth 31 = .ok (.getfield 46, 3) := by decide +kernel
theorem dX7_worth_34 : decode cX7_worth 34 = .ok (.aload_n 0, 1) := by decide +kernel
theorem dX7_worth_35 : decode cX7_worth 35 = .ok (.getfield 32, 3) := by decide +kernel
theorem dX7_worth_38 : decode cX7_worth 38 = .ok (.iload_n 1, 1) := by decide +kernel
theorem dX7_worth_39 : decode cX7_worth 39 = .ok (.aaload, 1) := by decide +kernel
theorem dX7_worth_40 : decode cX7_worth 40 = .ok (.invokevirtual 146, 3) := by decide +kernel
theorem dX7_worth_43 : decode cX7_worth 43 = .ok (.iload_n 2, 1) := by decide +kernel
theorem dX7_worth_44 : decode cX7_worth 44 = .ok (.iconst (-1), 1) := by decide +kernel
theorem dX7_worth_45 : decode cX7_worth 45 = .ok (.if_icmp .ne 19, 3) := by decide +kernel
theorem dX7_worth_48 : decode cX7_worth 48 = .ok (.aload_n 0, 1) := by decide +kernel
theorem dX7_worth_49 : decode cX7_worth 49 = .ok (.getfield 46, 3) := by decide +kernel
theorem dX7_worth_52 : decode cX7_worth 52 = .ok (.aload_n 0, 1) := by decide +kernel
theorem dX7_worth_53 : decode cX7_worth 53 = .ok (.getfield 32, 3) := by decide +kernel
theorem dX7_worth_56 : decode cX7_worth 56 = .ok (.iload_n 1, 1) := by decide +kernel
theorem dX7_worth_57 : decode cX7_worth 57 = .ok (.aaload, 1) := by decide +kernel
theorem dX7_worth_58 : decode cX7_worth 58 = .ok (.invokevirtual 184, 3) := by decide +kernel
theorem dX7_worth_61 : decode cX7_worth 61 = .ok (.goto 17, 3) := by decide +kernel
theorem dX7_worth_64 : decode cX7_worth 64 = .ok (.aload_n 0, 1) := by decide +kernel
theorem dX7_worth_65 : decode cX7_worth 65 = .ok (.getfield 46, 3) := by decide +kernel
theorem dX7_worth_68 : decode cX7_worth 68 = .ok (.aload_n 0, 1) := by decide +kernel
theorem dX7_worth_69 : decode cX7_worth 69 = .ok (.getfield 32, 3) := by decide +kernel
theorem dX7_worth_72 : decode cX7_worth 72 = .ok (.iload_n 1, 1) := by decide +kernel
theorem dX7_worth_73 : decode cX7_worth 73 = .ok (.aaload, 1) := by decide +kernel
theorem dX7_worth_74 : decode cX7_worth 74 = .ok (.iload_n 2, 1) := by decide +kernel
theorem dX7_worth_75 : decode cX7_worth 75 = .ok (.invokevirtual 187, 3) := by decide +kernel
theorem dX7_worth_78 : decode cX7_worth 78 = .ok (.ireturn, 1) := by decide +kernel
theorem dX7_better_0 : decode cX7_better 0 = .ok (.aload_n 0, 1) := by decide +kernel
theorem dX7_better_1 : decode cX7_better 1 = .ok (.iload_n 1, 1) := by decide +kernel
theorem dX7_better_2 : decode cX7_better 2 = .ok (.invokevirtual 128, 3) := by decide +kernel
theorem dX7_better_5 : decode cX7_better 5 = .ok (.ifCond .ne 5, 3) := by decide +kernel
theorem dX7_better_8 : decode cX7_better 8 = .ok (.iconst (-1), 1) := by decide +kernel
theorem dX7_better_9 : decode cX7_better 9 = .ok (.ireturn, 1) := by decide +kernel
theorem dX7_better_10 : decode cX7_better 10 = .ok (.aload_n 0, 1) := by decide +kernel
theorem dX7_better_11 : decode cX7_better 11 = .ok (.getfield 46, 3) := by decide +kernel
theorem dX7_better_14 : decode cX7_better 14 = .ok (.aload_n 0, 1) := by decide +kernel
theorem dX7_better_15 : decode cX7_better 15 = .ok (.getfield 32, 3) := by decide +kernel
theorem dX7_better_18 : decode cX7_better 18 = .ok (.iload_n 1, 1) := by decide +kernel
theorem dX7_better_19 : decode cX7_better 19 = .ok (.aaload, 1) := by decide +kernel
theorem dX7_better_20 : decode cX7_better 20 = .ok (.invokevirtual 191, 3) := by decide +kernel
theorem dX7_better_23 : decode cX7_better 23 = .ok (.aload_n 0, 1) := by decide +kernel
theorem dX7_better_24 : decode cX7_better 24 = .ok (.getfield 46, 3) := by decide +kernel
theorem dX7_better_27 : decode cX7_better 27 = .ok (.invokevirtual 194, 3) := by decide +kernel
theorem dX7_better_30 : decode cX7_better 30 = .ok (.ireturn, 1) := by decide +kernel
theorem dX7_climb_0 : decode cX7_climb 0 = .ok (.aload_n 0, 1) := by decide +kernel
theorem dX7_climb_1 : decode cX7_climb 1 = .ok (.iload_n 1, 1) := by decide +kernel
theorem dX7_climb_2 : decode cX7_climb 2 = .ok (.invokevirtual 128, 3) := by decide +kernel
theorem dX7_climb_5 : decode cX7_climb 5 = .ok (.ifCond .eq 13, 3) := by decide +kernel
theorem dX7_climb_8 : decode cX7_climb 8 = .ok (.iload_n 2, 1) := by decide +kernel
theorem dX7_climb_9 : decode cX7_climb 9 = .ok (.iconst 1, 1) := by decide +kernel
theorem dX7_climb_10 : decode cX7_climb 10 = .ok (.bipush 40, 2) := by decide +kernel
theorem dX7_climb_12 : decode cX7_climb 12 = .ok (.invokestatic 76, 3) := by decide +kernel
theorem dX7_climb_15 : decode cX7_climb 15 = .ok (.ifCond .ne 5, 3) := by decide +kernel
theorem dX7_climb_18 : decode cX7_climb 18 = .ok (.iconst (-1), 1) := by decide +kernel
theorem dX7_climb_19 : decode cX7_climb 19 = .ok (.ireturn, 1) := by decide +kernel
theorem dX7_climb_20 : decode cX7_climb 20 = .ok (.iconst 0, 1) := by decide +kernel
theorem dX7_climb_21 : decode cX7_climb 21 = .ok (.istore_n 3, 1) := by decide +kernel
theorem dX7_climb_22 : decode cX7_climb 22 = .ok (.iload_n 3, 1) := by decide +kernel
theorem dX7_climb_23 : decode cX7_climb 23 = .ok (.iload_n 2, 1) := by decide +kernel
theorem dX7_climb_24 : decode cX7_climb 24 = .ok (.if_icmp .ge 49, 3) := by decide +kernel
theorem dX7_climb_27 : decode cX7_climb 27 = .ok (.aload_n 0, 1) := by decide +kernel
theorem dX7_climb_28 : decode cX7_climb 28 = .ok (.getfield 46, 3) := by decide +kernel
theorem dX7_climb_31 : decode cX7_climb 31 = .ok (.aload_n 0, 1) := by decide +kernel
theorem dX7_climb_32 : decode cX7_climb 32 = .ok (.getfield 32, 3) := by decide +kernel
theorem dX7_climb_35 : decode cX7_climb 35 = .ok (.iload_n 1, 1) := by decide +kernel
theorem dX7_climb_36 : decode cX7_climb 36 = .ok (.aaload, 1) := by decide +kernel
theorem dX7_climb_37 : decode cX7_climb 37 = .ok (.invokevirtual 191, 3) := by decide +kernel
theorem dX7_climb_40 : decode cX7_climb 40 = .ok (.aload_n 0, 1) := by decide +kernel
theorem dX7_climb_41 : decode cX7_climb 41 = .ok (.getfield 46, 3) := by decide +kernel
theorem dX7_climb_44 : decode cX7_climb 44 = .ok (.invokevirtual 194, 3) := by decide +kernel
theorem dX7_climb_47 : decode cX7_climb 47 = .ok (.istore 4, 2) := by decide +kernel
theorem dX7_climb_49 : decode cX7_climb 49 = .ok (.iload 4, 2) := by decide +kernel
theorem dX7_climb_51 : decode cX7_climb 51 = .ok (.ifCond .ge 5, 3) := by decide +kernel
theorem dX7_climb_54 : decode cX7_climb 54 = .ok (.iload_n 3, 1) := by decide +kernel
theorem dX7_climb_55 : decode cX7_climb 55 = .ok (.ireturn, 1) := by decide +kernel
theorem dX7_climb_56 : decode cX7_climb 56 = .ok (.aload_n 0, 1) := by decide +kernel
theorem dX7_climb_57 : decode cX7_climb 57 = .ok (.getfield 32, 3) := by decide +kernel
theorem dX7_climb_60 : decode cX7_climb 60 = .ok (.iload_n 1, 1) := by decide +kernel
theorem dX7_climb_61 : decode cX7_climb 61 = .ok (.aaload, 1) := by decide +kernel
theorem dX7_climb_62 : decode cX7_climb 62 = .ok (.iload 4, 2) := by decide +kernel
theorem dX7_climb_64 : decode cX7_climb 64 = .ok (.invokevirtual 197, 3) := by decide +kernel
theorem dX7_climb_67 : decode cX7_climb 67 = .ok (.iinc 3 1, 3) := by decide +kernel
theorem dX7_climb_70 : decode cX7_climb 70 = .ok (.goto (-48), 3) := by decide +kernel
theorem dX7_climb_73 : decode cX7_climb 73 = .ok (.iload_n 2, 1) := by decide +kernel
theorem dX7_climb_74 : decode cX7_climb 74 = .ok (.ireturn, 1) := by decide +kernel
theorem dX7_around_0 : decode cX7_around 0 = .ok (.aload_n 0, 1) := by decide +kernel
theorem dX7_around_1 : decode cX7_around 1 = .ok (.iload_n 1, 1) := by decide +kernel
theorem dX7_around_2 : decode cX7_around 2 = .ok (.invokevirtual 128, 3) := by decide +kernel
theorem dX7_around_5 : decode cX7_around 5 = .ok (.ifCond .eq 12, 3) := by decide +kernel
theorem dX7_around_8 : decode cX7_around 8 = .ok (.iload_n 2, 1) := by decide +kernel
theorem dX7_around_9 : decode cX7_around 9 = .ok (.iconst 0, 1) := by decide +kernel
theorem dX7_around_10 : decode cX7_around 10 = .ok (.iconst 2, 1) := by decide +kernel
theorem dX7_around_11 : decode cX7_around 11 = .ok (.invokestatic 76, 3) := by decide +kernel
theorem dX7_around_14 : decode cX7_around 14 = .ok (.ifCond .ne 5, 3) := by decide +kernel
theorem dX7_around_17 : decode cX7_around 17 = .ok (.iconst (-1), 1) := by decide +kernel
theorem dX7_around_18 : decode cX7_around 18 = .ok (.ireturn, 1) := by decide +kernel
theorem dX7_around_19 : decode cX7_around 19 = .ok (.aload_n 0, 1) := by decide +kernel
theorem dX7_around_20 : decode cX7_around 20 = .ok (.getfield 46, 3) := by decide +kernel
theorem dX7_around_23 : decode cX7_around 23 = .ok (.aload_n 0, 1) := by decide +kernel
theorem dX7_around_24 : decode cX7_around 24 = .ok (.getfield 32, 3) := by decide +kernel
theorem dX7_around_27 : decode cX7_around 27 = .ok (.iload_n 1, 1) := by decide +kernel
theorem dX7_around_28 : decode cX7_around 28 = .ok (.aaload, 1) := by decide +kernel
theorem dX7_around_29 : decode cX7_around 29 = .ok (.invokevirtual 191, 3) := by decide +kernel
theorem dX7_around_32 : decode cX7_around 32 = .ok (.iload_n 2, 1) := by decide +kernel
theorem dX7_around_33 : decode cX7_around 33 = .ok (.iconst 2, 1) := by decide +kernel
theorem dX7_around_34 : decode cX7_around 34 = .ok (.if_icmp .ne 7, 3) := by decide +kernel
theorem dX7_around_37 : decode cX7_around 37 = .ok (.iconst 1, 1) := by decide +kernel
theorem dX7_around_38 : decode cX7_around 38 = .ok (.goto 5, 3) := by decide +kernel
theorem dX7_around_41 : decode cX7_around 41 = .ok (.iload_n 2, 1) := by decide +kernel
theorem dX7_around_42 : decode cX7_around 42 = .ok (.ineg, 1) := by decide +kernel
theorem dX7_around_43 : decode cX7_around 43 = .ok (.istore_n 3, 1) := by decide +kernel
theorem dX7_around_44 : decode cX7_around 44 = .ok (.aload_n 0, 1) := by decide +kernel
theorem dX7_around_45 : decode cX7_around 45 = .ok (.getfield 46, 3) := by decide +kernel
theorem dX7_around_48 : decode cX7_around 48 = .ok (.iload_n 3, 1) := by decide +kernel
theorem dX7_around_49 : decode cX7_around 49 = .ok (.invokevirtual 201, 3) := by decide +kernel
theorem dX7_around_52 : decode cX7_around 52 = .ok (.ireturn, 1) := by decide +kernel
theorem dX7_valley_0 : decode cX7_valley 0 = .ok (.aload_n 0, 1) := by decide +kernel
theorem dX7_valley_1 : decode cX7_valley 1 = .ok (.iload_n 1, 1) := by decide +kernel
theorem dX7_valley_2 : decode cX7_valley 2 = .ok (.invokevirtual 128, 3) := by decide +kernel
theorem dX7_valley_5 : decode cX7_valley 5 = .ok (.ifCond .eq 20, 3) := by decide +kernel
theorem dX7_valley_8 : decode cX7_valley 8 = .ok (.aload_n 0, 1) := by decide +kernel
theorem dX7_valley_9 : decode cX7_valley 9 = .ok (.iload_n 2, 1) := by decide +kernel
theorem dX7_valley_10 : decode cX7_valley 10 = .ok (.invokevirtual 128, 3) := by decide +kernel
theorem dX7_valley_13 : decode cX7_valley 13 = .ok (.ifCond .eq 12, 3) := by decide +kernel
theorem dX7_valley_16 : decode cX7_valley 16 = .ok (.iload_n 3, 1) := by decide +kernel
theorem dX7_valley_17 : decode cX7_valley 17 = .ok (.iconst 0, 1) := by decide +kernel
theorem dX7_valley_18 : decode cX7_valley 18 = .ok (.iconst 1, 1) := by decide +kernel
theorem dX7_valley_19 : decode cX7_valley 19 = .ok (.invokestatic 76, 3) := by decide +kernel
theorem dX7_valley_22 : decode cX7_valley 22 = .ok (.ifCond .ne 5, 3) := by decide +kernel
theorem dX7_valley_25 : decode cX7_valley 25 = .ok (.iconst (-1), 1) := by decide +kernel
theorem dX7_valley_26 : decode cX7_valley 26 = .ok (.ireturn, 1) := by decide +kernel
theorem dX7_valley_27 : decode cX7_valley 27 = .ok (.aload_n 0, 1) := by decide +kernel
theorem dX7_valley_28 : decode cX7_valley 28 = .ok (.getfield 32, 3) := by decide +kernel
theorem dX7_valley_31 : decode cX7_valley 31 = .ok (.iload_n 1, 1) := by decide +kernel
theorem dX7_valley_32 : decode cX7_valley 32 = .ok (.aaload, 1) := by decide +kernel
theorem dX7_valley_33 : decode cX7_valley 33 = .ok (.getfield 108, 3) := by decide +kernel
theorem dX7_valley_36 : decode cX7_valley 36 = .ok (.aload_n 0, 1) := by decide +kernel
theorem dX7_valley_37 : decode cX7_valley 37 = .ok (.getfield 32, 3) := by decide +kernel
theorem dX7_valley_40 : decode cX7_valley 40 = .ok (.iload_n 2, 1) := by decide +kernel
theorem dX7_valley_41 : decode cX7_valley 41 = .ok (.aaload, 1) := by decide +kernel
theorem dX7_valley_42 : decode cX7_valley 42 = .ok (.getfield 108, 3) := by decide +kernel
theorem dX7_valley_45 : decode cX7_valley 45 = .ok (.if_icmp .eq 6, 3) := by decide +kernel
theorem dX7_valley_48 : decode cX7_valley 48 = .ok (.bipush (-2), 2) := by decide +kernel
theorem dX7_valley_50 : decode cX7_valley 50 = .ok (.ireturn, 1) := by decide +kernel
theorem dX7_valley_51 : decode cX7_valley 51 = .ok (.iload_n 3, 1) := by decide +kernel
theorem dX7_valley_52 : decode cX7_valley 52 = .ok (.iconst 1, 1) := by decide +kernel
theorem dX7_valley_53 : decode cX7_valley 53 = .ok (.if_icmp .ne 19, 3) := by decide +kernel
theorem dX7_valley_56 : decode cX7_valley 56 = .ok (.aload_n 0, 1) := by decide +kernel
theorem dX7_valley_57 : decode cX7_valley 57 = .ok (.getfield 32, 3) := by decide +kernel
theorem dX7_valley_60 : decode cX7_valley 60 = .ok (.iload_n 1, 1) := by decide +kernel
theorem dX7_valley_61 : decode cX7_valley 61 = .ok (.aaload, 1) := by decide +kernel
theorem dX7_valley_62 : decode cX7_valley 62 = .ok (.aload_n 0, 1) := by decide +kernel
theorem dX7_valley_63 : decode cX7_valley 63 = .ok (.getfield 32, 3) := by decide +kernel
theorem dX7_valley_66 : decode cX7_valley 66 = .ok (.iload_n 2, 1) := by decide +kernel
theorem dX7_valley_67 : decode cX7_valley 67 = .ok (.aaload, 1) := by decide +kernel
theorem dX7_valley_68 : decode cX7_valley 68 = .ok (.invokevirtual 205, 3) := by decide +kernel
theorem dX7_valley_71 : decode cX7_valley 71 = .ok (.ireturn, 1) := by decide +kernel
theorem dX7_valley_72 : decode cX7_valley 72 = .ok (.aload_n 0, 1) := by decide +kernel
theorem dX7_valley_73 : decode cX7_valley 73 = .ok (.getfield 37, 3) := by decide +kernel
theorem dX7_valley_76 : decode cX7_valley 76 = .ok (.aload_n 0, 1) := by decide +kernel
theorem dX7_valley_77 : decode cX7_valley 77 = .ok (.getfield 32, 3) := by decide +kernel
theorem dX7_valley_80 : decode cX7_valley 80 = .ok (.iload_n 1, 1) := by decide +kernel
theorem dX7_valley_81 : decode cX7_valley 81 = .ok (.aaload, 1) := by decide +kernel
theorem dX7_valley_82 : decode cX7_valley 82 = .ok (.invokevirtual 134, 3) := by decide +kernel
theorem dX7_valley_85 : decode cX7_valley 85 = .ok (.aload_n 0, 1) := by decide +kernel
theorem dX7_valley_86 : decode cX7_valley 86 = .ok (.getfield 46, 3) := by decide +kernel
theorem dX7_valley_89 : decode cX7_valley 89 = .ok (.aload_n 0, 1) := by decide +kernel
theorem dX7_valley_90 : decode cX7_valley 90 = .ok (.getfield 37, 3) := by decide +kernel
theorem dX7_valley_93 : decode cX7_valley 93 = .ok (.aload_n 0, 1) := by decide +kernel
theorem dX7_valley_94 : decode cX7_valley 94 = .ok (.getfield 32, 3) := by decide +kernel
theorem dX7_valley_97 : decode cX7_valley 97 = .ok (.iload_n 2, 1) := by decide +kernel
theorem dX7_valley_98 : decode cX7_valley 98 = .ok (.aaload, 1) := by decide +kernel
theorem dX7_valley_99 : decode cX7_valley 99 = .ok (.invokevirtual 208, 3) := by decide +kernel
theorem dX7_valley_102 : decode cX7_valley 102 = .ok (.ireturn, 1) := by decide +kernel
theorem dX7_best_0 : decode cX7_best 0 = .ok (.iload_n 1, 1) := by decide +kernel
theorem dX7_best_1 : decode cX7_best 1 = .ok (.iconst 0, 1) := by decide +kernel
theorem dX7_best_2 : decode cX7_best 2 = .ok (.iconst 1, 1) := by decide +kernel
theorem dX7_best_3 : decode cX7_best 3 = .ok (.invokestatic 76, 3) := by decide +kernel
theorem dX7_best_6 : decode cX7_best 6 = .ok (.ifCond .ne 5, 3) := by decide +kernel
theorem dX7_best_9 : decode cX7_best 9 = .ok (.iconst (-1), 1) := by decide +kernel
theorem dX7_best_10 : decode cX7_best 10 = .ok (.ireturn, 1) := by decide +kernel
theorem dX7_best_11 : decode cX7_best 11 = .ok (.aload_n 0, 1) := by decide +kernel
theorem dX7_best_12 : decode cX7_best 12 = .ok (.invokevirtual 212, 3) := by decide +kernel
theorem dX7_best_15 : decode cX7_best 15 = .ok (.istore_n 2, 1) := by decide +kernel
theorem dX7_best_16 : decode cX7_best 16 = .ok (.iload_n 1, 1) := by decide +kernel
theorem dX7_best_17 : decode cX7_best 17 = .ok (.ifCond .ne 5, 3) := by decide +kernel
theorem dX7_best_20 : decode cX7_best 20 = .ok (.iload_n 2, 1) := by decide +kernel
theorem dX7_best_21 : decode cX7_best 21 = .ok (.ireturn, 1) := by decide +kernel
theorem dX7_best_22 : decode cX7_best 22 = .ok (.iload_n 2, 1) := by decide +kernel
theorem dX7_best_23 : decode cX7_best 23 = .ok (.bipush (-4), 2) := by decide +kernel
theorem dX7_best_25 : decode cX7_best 25 = .ok (.if_icmp .ne 7, 3) := by decide +kernel
theorem dX7_best_28 : decode cX7_best 28 = .ok (.iconst (-1), 1) := by decide +kernel
theorem dX7_best_29 : decode cX7_best 29 = .ok (.goto 9, 3) := by decide +kernel
theorem dX7_best_32 : decode cX7_best 32 = .ok (.aload_n 0, 1) := by decide +kernel
theorem dX7_best_33 : decode cX7_best 33 = .ok (.getfield 50, 3) := by decide +kernel
theorem dX7_best_36 : decode cX7_best 36 = .ok (.iload_n 2, 1) := by decide +kernel
theorem dX7_best_37 : decode cX7_best 37 = .ok (.iaload, 1) := by decide +kernel
theorem dX7_best_38 : decode cX7_best 38 = .ok (.ireturn, 1) := by decide +kernel
theorem dX7_suits_0 : decode cX7_suits 0 = .ok (.iload_n 1, 1) := by decide +kernel
theorem dX7_suits_1 : decode cX7_suits 1 = .ok (.invokestatic 215, 3) := by decide +kernel
theorem dX7_suits_4 : decode cX7_suits 4 = .ok (.ifCond .eq 20, 3) := by decide +kernel
theorem dX7_suits_7 : decode cX7_suits 7 = .ok (.iload_n 2, 1) := by decide +kernel
theorem dX7_suits_8 : decode cX7_suits 8 = .ok (.getstatic 218, 3) := by decide +kernel
theorem dX7_suits_11 : decode cX7_suits 11 = .ok (.iload_n 1, 1) := by decide +kernel
theorem dX7_suits_12 : decode cX7_suits 12 = .ok (.iaload, 1) := by decide +kernel
theorem dX7_suits_13 : decode cX7_suits 13 = .ok (.getstatic 221, 3) := by decide +kernel
theorem dX7_suits_16 : decode cX7_suits 16 = .ok (.iload_n 1, 1) := by decide +kernel
theorem dX7_suits_17 : decode cX7_suits 17 = .ok (.iaload, 1) := by decide +kernel
theorem dX7_suits_18 : decode cX7_suits 18 = .ok (.invokestatic 76, 3) := by decide +kernel
theorem dX7_suits_21 : decode cX7_suits 21 = .ok (.ifCond .ne 5, 3) := by decide +kernel
theorem dX7_suits_24 : decode cX7_suits 24 = .ok (.iconst (-1), 1) := by decide +kernel
theorem dX7_suits_25 : decode cX7_suits 25 = .ok (.ireturn, 1) := by decide +kernel
theorem dX7_suits_26 : decode cX7_suits 26 = .ok (.aload_n 0, 1) := by decide +kernel
theorem dX7_suits_27 : decode cX7_suits 27 = .ok (.getfield 26, 3) := by decide +kernel
theorem dX7_suits_30 : decode cX7_suits 30 = .ok (.getfield 97, 3) := by decide +kernel
theorem dX7_suits_33 : decode cX7_suits 33 = .ok (.iload_n 1, 1) := by decide +kernel
theorem dX7_suits_34 : decode cX7_suits 34 = .ok (.iaload, 1) := by decide +kernel
theorem dX7_suits_35 : decode cX7_suits 35 = .ok (.istore_n 3, 1) := by decide +kernel
theorem dX7_suits_36 : decode cX7_suits 36 = .ok (.aload_n 0, 1) := by decide +kernel
theorem dX7_suits_37 : decode cX7_suits 37 = .ok (.getfield 26, 3) := by decide +kernel
theorem dX7_suits_40 : decode cX7_suits 40 = .ok (.getfield 97, 3) := by decide +kernel
theorem dX7_suits_43 : decode cX7_suits 43 = .ok (.iload_n 1, 1) := by decide +kernel
theorem dX7_suits_44 : decode cX7_suits 44 = .ok (.iload_n 2, 1) := by decide +kernel
theorem dX7_suits_45 : decode cX7_suits 45 = .ok (.iastore, 1) := by decide +kernel
theorem dX7_suits_46 : decode cX7_suits 46 = .ok (.aload_n 0, 1) := by decide +kernel
theorem dX7_suits_47 : decode cX7_suits 47 = .ok (.invokevirtual 212, 3) := by decide +kernel
theorem dX7_suits_50 : decode cX7_suits 50 = .ok (.istore 4, 2) := by decide +kernel
theorem dX7_suits_52 : decode cX7_suits 52 = .ok (.aload_n 0, 1) := by decide +kernel
theorem dX7_suits_53 : decode cX7_suits 53 = .ok (.getfield 26, 3) := by decide +kernel
theorem dX7_suits_56 : decode cX7_suits 56 = .ok (.getfield 97, 3) := by decide +kernel
theorem dX7_suits_59 : decode cX7_suits 59 = .ok (.iload_n 1, 1) := by decide +kernel
theorem dX7_suits_60 : decode cX7_suits 60 = .ok (.iload_n 3, 1) := by decide +kernel
theorem dX7_suits_61 : decode cX7_suits 61 = .ok (.iastore, 1) := by decide +kernel
theorem dX7_suits_62 : decode cX7_suits 62 = .ok (.iload 4, 2) := by decide +kernel
theorem dX7_suits_64 : decode cX7_suits 64 = .ok (.ireturn, 1) := by decide +kernel
theorem dX7_pays_0 : decode cX7_pays 0 = .ok (.iload_n 1, 1) := by decide +kernel
theorem dX7_pays_1 : decode cX7_pays 1 = .ok (.iconst 0, 1) := by decide +kernel
theorem dX7_pays_2 : decode cX7_pays 2 = .ok (.sipush 999, 3) := by decide +kernel
theorem dX7_pays_5 : decode cX7_pays 5 = .ok (.invokestatic 76, 3) := by decide +kernel
theorem dX7_pays_8 : decode cX7_pays 8 = .ok (.ifCond .eq 36, 3) := by decide +kernel
theorem dX7_pays_11 : decode cX7_pays 11 = .ok (.iload_n 2, 1) := by decide +kernel
theorem dX7_pays_12 : decode cX7_pays 12 = .ok (.iconst 0, 1) := by decide +kernel
theorem dX7_pays_13 : decode cX7_pays 13 = .ok (.sipush 999, 3) := by decide +kernel
theorem dX7_pays_16 : decode cX7_pays 16 = .ok (.invokestatic 76, 3) := by decide +kernel
theorem dX7_pays_19 : decode cX7_pays 19 = .ok (.ifCond .eq 25, 3) := by decide +kernel
theorem dX7_pays_22 : decode cX7_pays 22 = .ok (.iload_n 3, 1) := by decide +kernel
theorem dX7_pays_23 : decode cX7_pays 23 = .ok (.iconst 0, 1) := by decide +kernel
theorem dX7_pays_24 : decode cX7_pays 24 = .ok (.bipush 99, 2) := by decide +kernel
theorem dX7_pays_26 : decode cX7_pays 26 = .ok (.invokestatic 76, 3) := by decide +kernel
theorem dX7_pays_29 : decode cX7_pays 29 = .ok (.ifCond .eq 15, 3) := by decide +kernel
theorem dX7_pays_32 : decode cX7_pays 32 = .ok (.iload 4, 2) := by decide +kernel
theorem dX7_pays_34 : decode cX7_pays 34 = .ok (.iconst 0, 1) := by decide +kernel
theorem dX7_pays_35 : decode cX7_pays 35 = .ok (.sipush 999, 3) := by decide +kernel
theorem dX7_pays_38 : decode cX7_pays 38 = .ok (.invokestatic 76, 3) := by decide +kernel
theorem dX7_pays_41 : decode cX7_pays 41 = .ok (.ifCond .ne 5, 3) := by decide +kernel
theorem dX7_pays_44 : decode cX7_pays 44 = .ok (.iconst (-1), 1) := by decide +kernel
theorem dX7_pays_45 : decode cX7_pays 45 = .ok (.ireturn, 1) := by decide +kernel
theorem dX7_pays_46 : decode cX7_pays 46 = .ok (.iconst 0, 1) := by decide +kernel
theorem dX7_pays_47 : decode cX7_pays 47 = .ok (.istore 5, 2) := by decide +kernel
theorem dX7_pays_49 : decode cX7_pays 49 = .ok (.iconst 1, 1) := by decide +kernel
theorem dX7_pays_50 : decode cX7_pays 50 = .ok (.istore 6, 2) := by decide +kernel
theorem dX7_pays_52 : decode cX7_pays 52 = .ok (.iload 6, 2) := by decide +kernel
theorem dX7_pays_54 : decode cX7_pays 54 = .ok (.bipush 50, 2) := by decide +kernel
theorem dX7_pays_56 : decode cX7_pays 56 = .ok (.if_icmp .gt 37, 3) := by decide +kernel
theorem dX7_pays_59 : decode cX7_pays 59 = .ok (.iload 5, 2) := by decide +kernel
theorem dX7_pays_61 : decode cX7_pays 61 = .ok (.iload_n 2, 1) := by decide +kernel
theorem dX7_pays_62 : decode cX7_pays 62 = .ok (.iload_n 3, 1) := by decide +kernel
theorem dX7_pays_63 : decode cX7_pays 63 = .ok (.iload 6, 2) := by decide +kernel
theorem dX7_pays_65 : decode cX7_pays 65 = .ok (.iconst 1, 1) := by decide +kernel
theorem dX7_pays_66 : decode cX7_pays 66 = .ok (.isub, 1) := by decide +kernel
theorem dX7_pays_67 : decode cX7_pays 67 = .ok (.imul, 1) := by decide +kernel
theorem dX7_pays_68 : decode cX7_pays 68 = .ok (.iadd, 1) := by decide +kernel
theorem dX7_pays_69 : decode cX7_pays 69 = .ok (.iload 4, 2) := by decide +kernel
theorem dX7_pays_71 : decode cX7_pays 71 = .ok (.invokestatic 224, 3) := by decide +kernel
theorem dX7_pays_74 : decode cX7_pays 74 = .ok (.iload_n 1, 1) := by decide +kernel
theorem dX7_pays_75 : decode cX7_pays 75 = .ok (.isub, 1) := by decide +kernel
theorem dX7_pays_76 : decode cX7_pays 76 = .ok (.iadd, 1) := by decide +kernel
theorem dX7_pays_77 : decode cX7_pays 77 = .ok (.istore 5, 2) := by decide +kernel
theorem dX7_pays_79 : decode cX7_pays 79 = .ok (.iload 5, 2) := by decide +kernel
theorem dX7_pays_81 : decode cX7_pays 81 = .ok (.ifCond .le 6, 3) := by decide +kernel
theorem dX7_pays_84 : decode cX7_pays 84 = .ok (.iload 6, 2) := by decide +kernel
theorem dX7_pays_86 : decode cX7_pays 86 = .ok (.ireturn, 1) := by decide +kernel
theorem dX7_pays_87 : decode cX7_pays 87 = .ok (.iinc 6 1, 3) := by decide +kernel
theorem dX7_pays_90 : decode cX7_pays 90 = .ok (.goto (-38), 3) := by decide +kernel
theorem dX7_pays_93 : decode cX7_pays 93 = .ok (.bipush (-4), 2) := by decide +kernel
theorem dX7_pays_95 : decode cX7_pays 95 = .ok (.ireturn, 1) := by decide +kernel
theorem dX7_jumper_0 : decode cX7_jumper 0 = .ok (.iload_n 1, 1) := by decide +kernel
theorem dX7_jumper_1 : decode cX7_jumper 1 = .ok (.invokestatic 100, 3) := by decide +kernel
theorem dX7_jumper_4 : decode cX7_jumper 4 = .ok (.ifCond .ne 5, 3) := by decide +kernel
theorem dX7_jumper_7 : decode cX7_jumper 7 = .ok (.iconst (-1), 1) := by decide +kernel
theorem dX7_jumper_8 : decode cX7_jumper 8 = .ok (.ireturn, 1) := by decide +kernel
theorem dX7_jumper_9 : decode cX7_jumper 9 = .ok (.aload_n 0, 1) := by decide +kernel
theorem dX7_jumper_10 : decode cX7_jumper 10 = .ok (.getfield 57, 3) := by decide +kernel
theorem dX7_jumper_13 : decode cX7_jumper 13 = .ok (.iload_n 1, 1) := by decide +kernel
theorem dX7_jumper_14 : decode cX7_jumper 14 = .ok (.invokevirtual 229, 3) := by decide +kernel
theorem dX7_jumper_17 : decode cX7_jumper 17 = .ok (.ifCond .eq 13, 3) := by decide +kernel
theorem dX7_jumper_20 : decode cX7_jumper 20 = .ok (.aload_n 0, 1) := by decide +kernel
theorem dX7_jumper_21 : decode cX7_jumper 21 = .ok (.getfield 57, 3) := by decide +kernel
theorem dX7_jumper_24 : decode cX7_jumper 24 = .ok (.getfield 232, 3) := by decide +kernel
theorem dX7_jumper_27 : decode cX7_jumper 27 = .ok (.goto 5, 3) := by decide +kernel
theorem dX7_jumper_30 : decode cX7_jumper 30 = .ok (.bipush (-3), 2) := by decide +kernel
theorem dX7_jumper_32 : decode cX7_jumper 32 = .ok (.ireturn, 1) := by decide +kernel
theorem dX7_takes_0 : decode cX7_takes 0 = .ok (.aload_n 0, 1) := by decide +kernel
theorem dX7_takes_1 : decode cX7_takes 1 = .ok (.getfield 57, 3) := by decide +kernel
theorem dX7_takes_4 : decode cX7_takes 4 = .ok (.iload_n 1, 1) := by decide +kernel
theorem dX7_takes_5 : decode cX7_takes 5 = .ok (.invokevirtual 235, 3) := by decide +kernel
theorem dX7_takes_8 : decode cX7_takes 8 = .ok (.ifCond .eq 10, 3) := by decide +kernel
theorem dX7_takes_11 : decode cX7_takes 11 = .ok (.iload_n 2, 1) := by decide +kernel
theorem dX7_takes_12 : decode cX7_takes 12 = .ok (.invokestatic 100, 3) := by decide +kernel
theorem dX7_takes_15 : decode cX7_takes 15 = .ok (.ifCond .ne 5, 3) := by decide +kernel
theorem dX7_takes_18 : decode cX7_takes 18 = .ok (.iconst (-1), 1) := by decide +kernel
theorem dX7_takes_19 : decode cX7_takes 19 = .ok (.ireturn, 1) := by decide +kernel
theorem dX7_takes_20 : decode cX7_takes 20 = .ok (.aload_n 0, 1) := by decide +kernel
theorem dX7_takes_21 : decode cX7_takes 21 = .ok (.getfield 57, 3) := by decide +kernel
theorem dX7_takes_24 : decode cX7_takes 24 = .ok (.getfield 238, 3) := by decide +kernel
theorem dX7_takes_27 : decode cX7_takes 27 = .ok (.iload_n 1, 1) := by decide +kernel
theorem dX7_takes_28 : decode cX7_takes 28 = .ok (.iaload, 1) := by decide +kernel
theorem dX7_takes_29 : decode cX7_takes 29 = .ok (.istore_n 3, 1) := by decide +kernel
theorem dX7_takes_30 : decode cX7_takes 30 = .ok (.aload_n 0, 1) := by decide +kernel
theorem dX7_takes_31 : decode cX7_takes 31 = .ok (.getfield 57, 3) := by decide +kernel
theorem dX7_takes_34 : decode cX7_takes 34 = .ok (.getfield 238, 3) := by decide +kernel
theorem dX7_takes_37 : decode cX7_takes 37 = .ok (.iload_n 1, 1) := by decide +kernel
theorem dX7_takes_38 : decode cX7_takes 38 = .ok (.iload_n 2, 1) := by decide +kernel
theorem dX7_takes_39 : decode cX7_takes 39 = .ok (.iastore, 1) := by decide +kernel
theorem dX7_takes_40 : decode cX7_takes 40 = .ok (.iload_n 3, 1) := by decide +kernel
theorem dX7_takes_41 : decode cX7_takes 41 = .ok (.ireturn, 1) := by decide +kernel
theorem dX7_years_0 : decode cX7_years 0 = .ok (.iload_n 1, 1) := by decide +kernel
theorem dX7_years_1 : decode cX7_years 1 = .ok (.iconst 1, 1) := by decide +kernel
theorem dX7_years_2 : decode cX7_years 2 = .ok (.bipush 20, 2) := by decide +kernel
theorem dX7_years_4 : decode cX7_years 4 = .ok (.invokestatic 76, 3) := by decide +kernel
theorem dX7_years_7 : decode cX7_years 7 = .ok (.ifCond .ne 5, 3) := by decide +kernel
theorem dX7_years_10 : decode cX7_years 10 = .ok (.iconst (-1), 1) := by decide +kernel
theorem dX7_years_11 : decode cX7_years 11 = .ok (.ireturn, 1) := by decide +kernel
theorem dX7_years_12 : decode cX7_years 12 = .ok (.aload_n 0, 1) := by decide +kernel
theorem dX7_years_13 : decode cX7_years 13 = .ok (.getfield 57, 3) := by decide +kernel
theorem dX7_years_16 : decode cX7_years 16 = .ok (.invokevirtual 241, 3) := by decide +kernel
theorem dX7_years_19 : decode cX7_years 19 = .ok (.aload_n 0, 1) := by decide +kernel
theorem dX7_years_20 : decode cX7_years 20 = .ok (.iload_n 1, 1) := by decide +kernel
theorem dX7_years_21 : decode cX7_years 21 = .ok (.invokevirtual 243, 3) := by decide +kernel
theorem dX7_years_24 : decode cX7_years 24 = .ok (.aload_n 0, 1) := by decide +kernel
theorem dX7_years_25 : decode cX7_years 25 = .ok (.getfield 57, 3) := by decide +kernel
theorem dX7_years_28 : decode cX7_years 28 = .ok (.invokevirtual 246, 3) := by decide +kernel
theorem dX7_years_31 : decode cX7_years 31 = .ok (.istore_n 2, 1) := by decide +kernel
theorem dX7_years_32 : decode cX7_years 32 = .ok (.aload_n 0, 1) := by decide +kernel
theorem dX7_years_33 : decode cX7_years 33 = .ok (.getfield 57, 3) := by decide +kernel
theorem dX7_years_36 : decode cX7_years 36 = .ok (.invokevirtual 249, 3) := by decide +kernel
theorem dX7_years_39 : decode cX7_years 39 = .ok (.iload_n 2, 1) := by decide +kernel
theorem dX7_years_40 : decode cX7_years 40 = .ok (.ireturn, 1) := by decide +kernel
theorem dX7_who_0 : decode cX7_who 0 = .ok (.iload_n 1, 1) := by decide +kernel
theorem dX7_who_1 : decode cX7_who 1 = .ok (.invokestatic 100, 3) := by decide +kernel
theorem dX7_who_4 : decode cX7_who 4 = .ok (.ifCond .eq 21, 3) := by decide +kernel
theorem dX7_who_7 : decode cX7_who 7 = .ok (.aload_n 0, 1) := by decide +kernel
theorem dX7_who_8 : decode cX7_who 8 = .ok (.getfield 57, 3) := by decide +kernel
theorem dX7_who_11 : decode cX7_who 11 = .ok (.aload_n 0, 1) := by decide +kernel
theorem dX7_who_12 : decode cX7_who 12 = .ok (.getfield 57, 3) := by decide +kernel
theorem dX7_who_15 : decode cX7_who 15 = .ok (.getfield 238, 3) := by decide +kernel
theorem dX7_who_18 : decode cX7_who 18 = .ok (.iload_n 1, 1) := by decide +kernel
theorem dX7_who_19 : decode cX7_who 19 = .ok (.invokevirtual 252, 3) := by decide +kernel
theorem dX7_who_22 : decode cX7_who 22 = .ok (.goto 4, 3) := by decide +kernel
theorem dX7_who_25 : decode cX7_who 25 = .ok (.iconst (-1), 1) := by decide +kernel
theorem dX7_who_26 : decode cX7_who 26 = .ok (.ireturn, 1) := by decide +kernel
theorem dX7_all_0 : decode cX7_all 0 = .ok (.aload_n 0, 1) := by decide +kernel
theorem dX7_all_1 : decode cX7_all 1 = .ok (.getfield 57, 3) := by decide +kernel
theorem dX7_all_4 : decode cX7_all 4 = .ok (.getfield 232, 3) := by decide +kernel
theorem dX7_all_7 : decode cX7_all 7 = .ok (.ifCond .ne 6, 3) := by decide +kernel
theorem dX7_all_10 : decode cX7_all 10 = .ok (.bipush (-2), 2) := by decide +kernel
theorem dX7_all_12 : decode cX7_all 12 = .ok (.ireturn, 1) := by decide +kernel
theorem dX7_all_13 : decode cX7_all 13 = .ok (.aload_n 0, 1) := by decide +kernel
theorem dX7_all_14 : decode cX7_all 14 = .ok (.invokevirtual 256, 3) := by decide +kernel
theorem dX7_all_17 : decode cX7_all 17 = .ok (.aload_n 0, 1) := by decide +kernel
theorem dX7_all_18 : decode cX7_all 18 = .ok (.getfield 57, 3) := by decide +kernel
theorem dX7_all_21 : decode cX7_all 21 = .ok (.invokevirtual 241, 3) := by decide +kernel
theorem dX7_all_24 : decode cX7_all 24 = .ok (.iconst 0, 1) := by decide +kernel
theorem dX7_all_25 : decode cX7_all 25 = .ok (.istore_n 1, 1) := by decide +kernel
theorem dX7_all_26 : decode cX7_all 26 = .ok (.iload_n 1, 1) := by decide +kernel
theorem dX7_all_27 : decode cX7_all 27 = .ok (.bipush 40, 2) := by decide +kernel
theorem dX7_all_29 : decode cX7_all 29 = .ok (.if_icmp .gt 36, 3) := by decide +kernel
theorem dX7_all_32 : decode cX7_all 32 = .ok (.aload_n 0, 1) := by decide +kernel
theorem dX7_all_33 : decode cX7_all 33 = .ok (.getfield 57, 3) := by decide +kernel
theorem dX7_all_36 : decode cX7_all 36 = .ok (.invokevirtual 259, 3) := by decide +kernel
theorem dX7_all_39 : decode cX7_all 39 = .ok (.ifCond .eq 5, 3) := by decide +kernel
theorem dX7_all_42 : decode cX7_all 42 = .ok (.iload_n 1, 1) := by decide +kernel
theorem dX7_all_43 : decode cX7_all 43 = .ok (.ireturn, 1) := by decide +kernel
theorem dX7_all_44 : decode cX7_all 44 = .ok (.aload_n 0, 1) := by decide +kernel
theorem dX7_all_45 : decode cX7_all 45 = .ok (.getfield 57, 3) := by decide +kernel
theorem dX7_all_48 : decode cX7_all 48 = .ok (.aload_n 0, 1) := by decide +kernel
theorem dX7_all_49 : decode cX7_all 49 = .ok (.getfield 50, 3) := by decide +kernel
theorem dX7_all_52 : decode cX7_all 52 = .ok (.aload_n 0, 1) := by decide +kernel
theorem dX7_all_53 : decode cX7_all 53 = .ok (.getfield 26, 3) := by decide +kernel
theorem dX7_all_56 : decode cX7_all 56 = .ok (.invokevirtual 263, 3) := by decide +kernel
theorem dX7_all_59 : decode cX7_all 59 = .ok (.iinc 1 1, 3) := by decide +kernel
theorem dX7_all_62 : decode cX7_all 62 = .ok (.goto (-36), 3) := by decide +kernel
theorem dX7_all_65 : decode cX7_all 65 = .ok (.bipush (-4), 2) := by decide +kernel
theorem dX7_all_67 : decode cX7_all 67 = .ok (.ireturn, 1) := by decide +kernel
theorem dX7_odd_0 : decode cX7_odd 0 = .ok (.aload_n 0, 1) := by decide +kernel
theorem dX7_odd_1 : decode cX7_odd 1 = .ok (.getfield 57, 3) := by decide +kernel
theorem dX7_odd_4 : decode cX7_odd 4 = .ok (.iload_n 1, 1) := by decide +kernel
theorem dX7_odd_5 : decode cX7_odd 5 = .ok (.invokevirtual 235, 3) := by decide +kernel
theorem dX7_odd_8 : decode cX7_odd 8 = .ok (.ifCond .eq 20, 3) := by decide +kernel
theorem dX7_odd_11 : decode cX7_odd 11 = .ok (.iload_n 2, 1) := by decide +kernel
theorem dX7_odd_12 : decode cX7_odd 12 = .ok (.invokestatic 100, 3) := by decide +kernel
theorem dX7_odd_15 : decode cX7_odd 15 = .ok (.ifCond .eq 13, 3) := by decide +kernel
theorem dX7_odd_18 : decode cX7_odd 18 = .ok (.iload_n 3, 1) := by decide +kernel
theorem dX7_odd_19 : decode cX7_odd 19 = .ok (.iconst 0, 1) := by decide +kernel
theorem dX7_odd_20 : decode cX7_odd 20 = .ok (.bipush 20, 2) := by decide +kernel
theorem dX7_odd_22 : decode cX7_odd 22 = .ok (.invokestatic 76, 3) := by decide +kernel
theorem dX7_odd_25 : decode cX7_odd 25 = .ok (.ifCond .ne 5, 3) := by decide +kernel
theorem dX7_odd_28 : decode cX7_odd 28 = .ok (.iconst (-1), 1) := by decide +kernel
theorem dX7_odd_29 : decode cX7_odd 29 = .ok (.ireturn, 1) := by decide +kernel
theorem dX7_odd_30 : decode cX7_odd 30 = .ok (.aload_n 0, 1) := by decide +kernel
theorem dX7_odd_31 : decode cX7_odd 31 = .ok (.getfield 57, 3) := by decide +kernel
theorem dX7_odd_34 : decode cX7_odd 34 = .ok (.invokevirtual 241, 3) := by decide +kernel
theorem dX7_odd_37 : decode cX7_odd 37 = .ok (.aload_n 0, 1) := by decide +kernel
theorem dX7_odd_38 : decode cX7_odd 38 = .ok (.getfield 57, 3) := by decide +kernel
theorem dX7_odd_41 : decode cX7_odd 41 = .ok (.getfield 267, 3) := by decide +kernel
theorem dX7_odd_44 : decode cX7_odd 44 = .ok (.iload_n 1, 1) := by decide +kernel
theorem dX7_odd_45 : decode cX7_odd 45 = .ok (.iload_n 2, 1) := by decide +kernel
theorem dX7_odd_46 : decode cX7_odd 46 = .ok (.iastore, 1) := by decide +kernel
theorem dX7_odd_47 : decode cX7_odd 47 = .ok (.aload_n 0, 1) := by decide +kernel
theorem dX7_odd_48 : decode cX7_odd 48 = .ok (.iload_n 3, 1) := by decide +kernel
theorem dX7_odd_49 : decode cX7_odd 49 = .ok (.invokevirtual 243, 3) := by decide +kernel
theorem dX7_odd_52 : decode cX7_odd 52 = .ok (.aload_n 0, 1) := by decide +kernel
theorem dX7_odd_53 : decode cX7_odd 53 = .ok (.getfield 57, 3) := by decide +kernel
theorem dX7_odd_56 : decode cX7_odd 56 = .ok (.aload_n 0, 1) := by decide +kernel
theorem dX7_odd_57 : decode cX7_odd 57 = .ok (.getfield 57, 3) := by decide +kernel
theorem dX7_odd_60 : decode cX7_odd 60 = .ok (.getfield 267, 3) := by decide +kernel
theorem dX7_odd_63 : decode cX7_odd 63 = .ok (.iload_n 2, 1) := by decide +kernel
theorem dX7_odd_64 : decode cX7_odd 64 = .ok (.invokevirtual 252, 3) := by decide +kernel
theorem dX7_odd_67 : decode cX7_odd 67 = .ok (.ireturn, 1) := by decide +kernel
theorem dX7_odds_0 : decode cX7_odds 0 = .ok (.aload_n 0, 1) := by decide +kernel
theorem dX7_odds_1 : decode cX7_odds 1 = .ok (.iload_n 1, 1) := by decide +kernel
theorem dX7_odds_2 : decode cX7_odds 2 = .ok (.invokevirtual 128, 3) := by decide +kernel
theorem dX7_odds_5 : decode cX7_odds 5 = .ok (.ifCond .eq 46, 3) := by decide +kernel
theorem dX7_odds_8 : decode cX7_odds 8 = .ok (.iload_n 2, 1) := by decide +kernel
theorem dX7_odds_9 : decode cX7_odds 9 = .ok (.iconst 0, 1) := by decide +kernel
theorem dX7_odds_10 : decode cX7_odds 10 = .ok (.sipush 999, 3) := by decide +kernel
theorem dX7_odds_13 : decode cX7_odds 13 = .ok (.invokestatic 76, 3) := by decide +kernel
theorem dX7_odds_16 : decode cX7_odds 16 = .ok (.ifCond .eq 35, 3) := by decide +kernel
theorem dX7_odds_19 : decode cX7_odds 19 = .ok (.iload_n 3, 1) := by decide +kernel
theorem dX7_odds_20 : decode cX7_odds 20 = .ok (.iconst 0, 1) := by decide +kernel
theorem dX7_odds_21 : decode cX7_odds 21 = .ok (.bipush 20, 2) := by decide +kernel
theorem dX7_odds_23 : decode cX7_odds 23 = .ok (.invokestatic 76, 3) := by decide +kernel
theorem dX7_odds_26 : decode cX7_odds 26 = .ok (.ifCond .eq 25, 3) := by decide +kernel
theorem dX7_odds_29 : decode cX7_odds 29 = .ok (.iload 4, 2) := by decide +kernel
theorem dX7_odds_31 : decode cX7_odds 31 = .ok (.iconst 1, 1) := by decide +kernel
theorem dX7_odds_32 : decode cX7_odds 32 = .ok (.if_icmp .eq 9, 3) := by decide +kernel
theorem dX7_odds_35 : decode cX7_odds 35 = .ok (.iload 4, 2) := by decide +kernel
theorem dX7_odds_37 : decode cX7_odds 37 = .ok (.iconst 3, 1) := by decide +kernel
theorem dX7_odds_38 : decode cX7_odds 38 = .ok (.if_icmp .ne 13, 3) := by decide +kernel
theorem dX7_odds_41 : decode cX7_odds 41 = .ok (.iload 5, 2) := by decide +kernel
theorem dX7_odds_43 : decode cX7_odds 43 = .ok (.iconst 0, 1) := by decide +kernel
theorem dX7_odds_44 : decode cX7_odds 44 = .ok (.iconst 1, 1) := by decide +kernel
theorem dX7_odds_45 : decode cX7_odds 45 = .ok (.invokestatic 76, 3) := by decide +kernel
theorem dX7_odds_48 : decode cX7_odds 48 = .ok (.ifCond .ne 5, 3) := by decide +kernel
theorem dX7_odds_51 : decode cX7_odds 51 = .ok (.iconst (-1), 1) := by decide +kernel
theorem dX7_odds_52 : decode cX7_odds 52 = .ok (.ireturn, 1) := by decide +kernel
theorem dX7_odds_53 : decode cX7_odds 53 = .ok (.aload_n 0, 1) := by decide +kernel
theorem dX7_odds_54 : decode cX7_odds 54 = .ok (.getfield 46, 3) := by decide +kernel
theorem dX7_odds_57 : decode cX7_odds 57 = .ok (.aload_n 0, 1) := by decide +kernel
theorem dX7_odds_58 : decode cX7_odds 58 = .ok (.getfield 32, 3) := by decide +kernel
theorem dX7_odds_61 : decode cX7_odds 61 = .ok (.iload_n 1, 1) := by decide +kernel
theorem dX7_odds_62 : decode cX7_odds 62 = .ok (.aaload, 1) := by decide +kernel
theorem dX7_odds_63 : decode cX7_odds 63 = .ok (.invokevirtual 146, 3) := by decide +kernel
theorem dX7_odds_66 : decode cX7_odds 66 = .ok (.aload_n 0, 1) := by decide +kernel
theorem dX7_odds_67 : decode cX7_odds 67 = .ok (.getfield 46, 3) := by decide +kernel
theorem dX7_odds_70 : decode cX7_odds 70 = .ok (.aload_n 0, 1) := by decide +kernel
theorem dX7_odds_71 : decode cX7_odds 71 = .ok (.getfield 32, 3) := by decide +kernel
theorem dX7_odds_74 : decode cX7_odds 74 = .ok (.iload_n 1, 1) := by decide +kernel
theorem dX7_odds_75 : decode cX7_odds 75 = .ok (.aaload, 1) := by decide +kernel
theorem dX7_odds_76 : decode cX7_odds 76 = .ok (.invokevirtual 149, 3) := by decide +kernel
theorem dX7_odds_79 : decode cX7_odds 79 = .ok (.istore 6, 2) := by decide +kernel
theorem dX7_odds_81 : decode cX7_odds 81 = .ok (.iload 6, 2) := by decide +kernel
theorem dX7_odds_83 : decode cX7_odds 83 = .ok (.bipush (-4), 2) := by decide +kernel
theorem dX7_odds_85 : decode cX7_odds 85 = .ok (.if_icmp .ne 6, 3) := by decide +kernel
theorem dX7_odds_88 : decode cX7_odds 88 = .ok (.bipush (-2), 2) := by decide +kernel
theorem dX7_odds_90 : decode cX7_odds 90 = .ok (.ireturn, 1) := by decide +kernel
theorem dX7_odds_91 : decode cX7_odds 91 = .ok (.iload 4, 2) := by decide +kernel
theorem dX7_odds_93 : decode cX7_odds 93 = .ok (.iconst 1, 1) := by decide +kernel
theorem dX7_odds_94 : decode cX7_odds 94 = .ok (.if_icmp .ne 9, 3) := by decide +kernel
theorem dX7_odds_97 : decode cX7_odds 97 = .ok (.iload_n 3, 1) := by decide +kernel
theorem dX7_odds_98 : decode cX7_odds 98 = .ok (.iconst 1, 1) := by decide +kernel
theorem dX7_odds_99 : decode cX7_odds 99 = .ok (.iadd, 1) := by decide +kernel
theorem dX7_odds_100 : decode cX7_odds 100 = .ok (.goto 9, 3) := by decide +kernel
theorem dX7_odds_103 : decode cX7_odds 103 = .ok (.iload_n 3, 1) := by decide +kernel
theorem dX7_odds_104 : decode cX7_odds 104 = .ok (.iconst 1, 1) := by decide +kernel
theorem dX7_odds_105 : decode cX7_odds 105 = .ok (.iadd, 1) := by decide +kernel
theorem dX7_odds_106 : decode cX7_odds 106 = .ok (.invokestatic 270, 3) := by decide +kernel
theorem dX7_odds_109 : decode cX7_odds 109 = .ok (.istore 7, 2) := by decide +kernel
theorem dX7_odds_111 : decode cX7_odds 111 = .ok (.iload 4, 2) := by decide +kernel
theorem dX7_odds_113 : decode cX7_odds 113 = .ok (.iconst 1, 1) := by decide +kernel
theorem dX7_odds_114 : decode cX7_odds 114 = .ok (.if_icmp .ne 13, 3) := by decide +kernel
theorem dX7_odds_117 : decode cX7_odds 117 = .ok (.iload 6, 2) := by decide +kernel
theorem dX7_odds_119 : decode cX7_odds 119 = .ok (.iload_n 2, 1) := by decide +kernel
theorem dX7_odds_120 : decode cX7_odds 120 = .ok (.iload_n 3, 1) := by decide +kernel
theorem dX7_odds_121 : decode cX7_odds 121 = .ok (.invokestatic 273, 3) := by decide +kernel
theorem dX7_odds_124 : decode cX7_odds 124 = .ok (.goto 10, 3) := by decide +kernel
theorem dX7_odds_127 : decode cX7_odds 127 = .ok (.iload 6, 2) := by decide +kernel
theorem dX7_odds_129 : decode cX7_odds 129 = .ok (.iload_n 2, 1) := by decide +kernel
theorem dX7_odds_130 : decode cX7_odds 130 = .ok (.iload_n 3, 1) := by decide +kernel
theorem dX7_odds_131 : decode cX7_odds 131 = .ok (.invokestatic 277, 3) := by decide +kernel
theorem dX7_odds_134 : decode cX7_odds 134 = .ok (.istore 8, 2) := by decide +kernel
theorem dX7_odds_136 : decode cX7_odds 136 = .ok (.iload 5, 2) := by decide +kernel
theorem dX7_odds_138 : decode cX7_odds 138 = .ok (.ifCond .ne 8, 3) := by decide +kernel
theorem dX7_odds_141 : decode cX7_odds 141 = .ok (.iload 8, 2) := by decide +kernel
theorem dX7_odds_143 : decode cX7_odds 143 = .ok (.goto 5, 3) := by decide +kernel
theorem dX7_odds_146 : decode cX7_odds 146 = .ok (.iload 7, 2) := by decide +kernel
theorem dX7_odds_148 : decode cX7_odds 148 = .ok (.iload 7, 2) := by decide +kernel
theorem dX7_odds_150 : decode cX7_odds 150 = .ok (.iload 8, 2) := by decide +kernel
theorem dX7_odds_152 : decode cX7_odds 152 = .ok (.invokestatic 280, 3) := by decide +kernel
theorem dX7_odds_155 : decode cX7_odds 155 = .ok (.invokestatic 283, 3) := by decide +kernel
theorem dX7_odds_158 : decode cX7_odds 158 = .ok (.ireturn, 1) := by decide +kernel
theorem dX7_asks_0 : decode cX7_asks 0 = .ok (.aload_n 0, 1) := by decide +kernel
theorem dX7_asks_1 : decode cX7_asks 1 = .ok (.iload_n 1, 1) := by decide +kernel
theorem dX7_asks_2 : decode cX7_asks 2 = .ok (.invokevirtual 128, 3) := by decide +kernel
theorem dX7_asks_5 : decode cX7_asks 5 = .ok (.ifCond .eq 40, 3) := by decide +kernel
theorem dX7_asks_8 : decode cX7_asks 8 = .ok (.iload_n 2, 1) := by decide +kernel
theorem dX7_asks_9 : decode cX7_asks 9 = .ok (.iconst 0, 1) := by decide +kernel
theorem dX7_asks_10 : decode cX7_asks 10 = .ok (.bipush 20, 2) := by decide +kernel
theorem dX7_asks_12 : decode cX7_asks 12 = .ok (.invokestatic 76, 3) := by decide +kernel
theorem dX7_asks_15 : decode cX7_asks 15 = .ok (.ifCond .eq 30, 3) := by decide +kernel
theorem dX7_asks_18 : decode cX7_asks 18 = .ok (.iload_n 3, 1) := by decide +kernel
theorem dX7_asks_19 : decode cX7_asks 19 = .ok (.iconst 1, 1) := by decide +kernel
theorem dX7_asks_20 : decode cX7_asks 20 = .ok (.bipush 99, 2) := by decide +kernel
theorem dX7_asks_22 : decode cX7_asks 22 = .ok (.invokestatic 76, 3) := by decide +kernel
theorem dX7_asks_25 : decode cX7_asks 25 = .ok (.ifCond .eq 20, 3) := by decide +kernel
theorem dX7_asks_28 : decode cX7_asks 28 = .ok (.iload 4, 2) := by decide +kernel
theorem dX7_asks_30 : decode cX7_asks 30 = .ok (.iconst 1, 1) := by decide +kernel
theorem dX7_asks_31 : decode cX7_asks 31 = .ok (.bipush 99, 2) := by decide +kernel
theorem dX7_asks_33 : decode cX7_asks 33 = .ok (.invokestatic 76, 3) := by decide +kernel
theorem dX7_asks_36 : decode cX7_asks 36 = .ok (.ifCond .eq 9, 3) := by decide +kernel
theorem dX7_asks_39 : decode cX7_asks 39 = .ok (.iload_n 3, 1) := by decide +kernel
theorem dX7_asks_40 : decode cX7_asks 40 = .ok (.iload 4, 2) := by decide +kernel
theorem dX7_asks_42 : decode cX7_asks 42 = .ok (.if_icmp .lt 5, 3) := by decide +kernel
theorem dX7_asks_45 : decode cX7_asks 45 = .ok (.iconst (-1), 1) := by decide +kernel
theorem dX7_asks_46 : decode cX7_asks 46 = .ok (.ireturn, 1) := by decide +kernel
theorem dX7_asks_47 : decode cX7_asks 47 = .ok (.aload_n 0, 1) := by decide +kernel
theorem dX7_asks_48 : decode cX7_asks 48 = .ok (.getfield 46, 3) := by decide +kernel
theorem dX7_asks_51 : decode cX7_asks 51 = .ok (.aload_n 0, 1) := by decide +kernel
theorem dX7_asks_52 : decode cX7_asks 52 = .ok (.getfield 32, 3) := by decide +kernel
theorem dX7_asks_55 : decode cX7_asks 55 = .ok (.iload_n 1, 1) := by decide +kernel
theorem dX7_asks_56 : decode cX7_asks 56 = .ok (.aaload, 1) := by decide +kernel
theorem dX7_asks_57 : decode cX7_asks 57 = .ok (.invokevirtual 146, 3) := by decide +kernel
theorem dX7_asks_60 : decode cX7_asks 60 = .ok (.aload_n 0, 1) := by decide +kernel
theorem dX7_asks_61 : decode cX7_asks 61 = .ok (.getfield 46, 3) := by decide +kernel
theorem dX7_asks_64 : decode cX7_asks 64 = .ok (.aload_n 0, 1) := by decide +kernel
theorem dX7_asks_65 : decode cX7_asks 65 = .ok (.getfield 32, 3) := by decide +kernel
theorem dX7_asks_68 : decode cX7_asks 68 = .ok (.iload_n 1, 1) := by decide +kernel
theorem dX7_asks_69 : decode cX7_asks 69 = .ok (.aaload, 1) := by decide +kernel
theorem dX7_asks_70 : decode cX7_asks 70 = .ok (.invokevirtual 149, 3) := by decide +kernel
theorem dX7_asks_73 : decode cX7_asks 73 = .ok (.istore 5, 2) := by decide +kernel
theorem dX7_asks_75 : decode cX7_asks 75 = .ok (.iload 5, 2) := by decide +kernel
theorem dX7_asks_77 : decode cX7_asks 77 = .ok (.bipush (-4), 2) := by decide +kernel
theorem dX7_asks_79 : decode cX7_asks 79 = .ok (.if_icmp .ne 6, 3) := by decide +kernel
theorem dX7_asks_82 : decode cX7_asks 82 = .ok (.bipush (-2), 2) := by decide +kernel
theorem dX7_asks_84 : decode cX7_asks 84 = .ok (.ireturn, 1) := by decide +kernel
theorem dX7_asks_85 : decode cX7_asks 85 = .ok (.sipush 999, 3) := by decide +kernel
theorem dX7_asks_88 : decode cX7_asks 88 = .ok (.istore 6, 2) := by decide +kernel
theorem dX7_asks_90 : decode cX7_asks 90 = .ok (.iload 6, 2) := by decide +kernel
theorem dX7_asks_92 : decode cX7_asks 92 = .ok (.ifCond .lt 34, 3) := by decide +kernel
theorem dX7_asks_95 : decode cX7_asks 95 = .ok (.iload 4, 2) := by decide +kernel
theorem dX7_asks_97 : decode cX7_asks 97 = .ok (.iload 5, 2) := by decide +kernel
theorem dX7_asks_99 : decode cX7_asks 99 = .ok (.iload 6, 2) := by decide +kernel
theorem dX7_asks_101 : decode cX7_asks 101 = .ok (.iload_n 2, 1) := by decide +kernel
theorem dX7_asks_102 : decode cX7_asks 102 = .ok (.invokestatic 277, 3) := by decide +kernel
theorem dX7_asks_105 : decode cX7_asks 105 = .ok (.imul, 1) := by decide +kernel
theorem dX7_asks_106 : decode cX7_asks 106 = .ok (.iload_n 3, 1) := by decide +kernel
theorem dX7_asks_107 : decode cX7_asks 107 = .ok (.iload_n 2, 1) := by decide +kernel
theorem dX7_asks_108 : decode cX7_asks 108 = .ok (.iconst 1, 1) := by decide +kernel
theorem dX7_asks_109 : decode cX7_asks 109 = .ok (.iadd, 1) := by decide +kernel
theorem dX7_asks_110 : decode cX7_asks 110 = .ok (.invokestatic 270, 3) := by decide +kernel
theorem dX7_asks_113 : decode cX7_asks 113 = .ok (.imul, 1) := by decide +kernel
theorem dX7_asks_114 : decode cX7_asks 114 = .ok (.if_icmp .lt 6, 3) := by decide +kernel
theorem dX7_asks_117 : decode cX7_asks 117 = .ok (.iload 6, 2) := by decide +kernel
theorem dX7_asks_119 : decode cX7_asks 119 = .ok (.ireturn, 1) := by decide +kernel
theorem dX7_asks_120 : decode cX7_asks 120 = .ok (.iinc 6 (-1), 3) := by decide +kernel
theorem dX7_asks_123 : decode cX7_asks 123 = .ok (.goto (-33), 3) := by decide +kernel
theorem dX7_asks_126 : decode cX7_asks 126 = .ok (.bipush (-4), 2) := by decide +kernel
theorem dX7_asks_128 : decode cX7_asks 128 = .ok (.ireturn, 1) := by decide +kernel
theorem dX7_sheet_0 : decode cX7_sheet 0 = .ok (.iload_n 1, 1) := by decide +kernel
theorem dX7_sheet_1 : decode cX7_sheet 1 = .ok (.invokestatic 286, 3) := by decide +kernel
theorem dX7_sheet_4 : decode cX7_sheet 4 = .ok (.ifCond .eq 16, 3) := by decide +kernel
theorem dX7_sheet_7 : decode cX7_sheet 7 = .ok (.iload_n 2, 1) := by decide +kernel
theorem dX7_sheet_8 : decode cX7_sheet 8 = .ok (.invokestatic 289, 3) := by decide +kernel
theorem dX7_sheet_11 : decode cX7_sheet 11 = .ok (.ifCond .eq 9, 3) := by decide +kernel
theorem dX7_sheet_14 : decode cX7_sheet 14 = .ok (.iload_n 3, 1) := by decide +kernel
theorem dX7_sheet_15 : decode cX7_sheet 15 = .ok (.bipush 64, 2) := by decide +kernel
theorem dX7_sheet_17 : decode cX7_sheet 17 = .ok (.if_icmp .le 5, 3) := by decide +kernel
theorem dX7_sheet_20 : decode cX7_sheet 20 = .ok (.iconst (-1), 1) := by decide +kernel
theorem dX7_sheet_21 : decode cX7_sheet 21 = .ok (.ireturn, 1) := by decide +kernel
theorem dX7_sheet_22 : decode cX7_sheet 22 = .ok (.iload_n 3, 1) := by decide +kernel
theorem dX7_sheet_23 : decode cX7_sheet 23 = .ok (.ifCond .ge 6, 3) := by decide +kernel
theorem dX7_sheet_26 : decode cX7_sheet 26 = .ok (.bipush (-14), 2) := by decide +kernel
theorem dX7_sheet_28 : decode cX7_sheet 28 = .ok (.ireturn, 1) := by decide +kernel
theorem dX7_sheet_29 : decode cX7_sheet 29 = .ok (.aload_n 0, 1) := by decide +kernel
theorem dX7_sheet_30 : decode cX7_sheet 30 = .ok (.getfield 63, 3) := by decide +kernel
theorem dX7_sheet_33 : decode cX7_sheet 33 = .ok (.iload_n 1, 1) := by decide +kernel
theorem dX7_sheet_34 : decode cX7_sheet 34 = .ok (.aaload, 1) := by decide +kernel
theorem dX7_sheet_35 : decode cX7_sheet 35 = .ok (.iload_n 2, 1) := by decide +kernel
theorem dX7_sheet_36 : decode cX7_sheet 36 = .ok (.iload_n 3, 1) := by decide +kernel
theorem dX7_sheet_37 : decode cX7_sheet 37 = .ok (.invokevirtual 292, 3) := by decide +kernel
theorem dX7_sheet_40 : decode cX7_sheet 40 = .ok (.iconst 1, 1) := by decide +kernel
theorem dX7_sheet_41 : decode cX7_sheet 41 = .ok (.ireturn, 1) := by decide +kernel
theorem dX7_lay_0 : decode cX7_lay 0 = .ok (.iload_n 1, 1) := by decide +kernel
theorem dX7_lay_1 : decode cX7_lay 1 = .ok (.invokestatic 286, 3) := by decide +kernel
theorem dX7_lay_4 : decode cX7_lay 4 = .ok (.ifCond .ne 5, 3) := by decide +kernel
theorem dX7_lay_7 : decode cX7_lay 7 = .ok (.iconst (-1), 1) := by decide +kernel
theorem dX7_lay_8 : decode cX7_lay 8 = .ok (.ireturn, 1) := by decide +kernel
theorem dX7_lay_9 : decode cX7_lay 9 = .ok (.aload_n 0, 1) := by decide +kernel
theorem dX7_lay_10 : decode cX7_lay 10 = .ok (.getfield 63, 3) := by decide +kernel
theorem dX7_lay_13 : decode cX7_lay 13 = .ok (.iload_n 1, 1) := by decide +kernel
theorem dX7_lay_14 : decode cX7_lay 14 = .ok (.aaload, 1) := by decide +kernel
theorem dX7_lay_15 : decode cX7_lay 15 = .ok (.invokevirtual 293, 3) := by decide +kernel
theorem dX7_lay_18 : decode cX7_lay 18 = .ok (.ifCond .eq 6, 3) := by decide +kernel
theorem dX7_lay_21 : decode cX7_lay 21 = .ok (.bipush (-11), 2) := by decide +kernel
theorem dX7_lay_23 : decode cX7_lay 23 = .ok (.ireturn, 1) := by decide +kernel
theorem dX7_lay_24 : decode cX7_lay 24 = .ok (.aload_n 0, 1) := by decide +kernel
theorem dX7_lay_25 : decode cX7_lay 25 = .ok (.getfield 63, 3) := by decide +kernel
theorem dX7_lay_28 : decode cX7_lay 28 = .ok (.iload_n 1, 1) := by decide +kernel
theorem dX7_lay_29 : decode cX7_lay 29 = .ok (.aaload, 1) := by decide +kernel
theorem dX7_lay_30 : decode cX7_lay 30 = .ok (.iload_n 2, 1) := by decide +kernel
theorem dX7_lay_31 : decode cX7_lay 31 = .ok (.invokevirtual 296, 3) := by decide +kernel
theorem dX7_lay_34 : decode cX7_lay 34 = .ok (.ifCond .ne 6, 3) := by decide +kernel
theorem dX7_lay_37 : decode cX7_lay 37 = .ok (.bipush (-12), 2) := by decide +kernel
theorem dX7_lay_39 : decode cX7_lay 39 = .ok (.ireturn, 1) := by decide +kernel
theorem dX7_lay_40 : decode cX7_lay 40 = .ok (.aload_n 0, 1) := by decide +kernel
theorem dX7_lay_41 : decode cX7_lay 41 = .ok (.getfield 63, 3) := by decide +kernel
theorem dX7_lay_44 : decode cX7_lay 44 = .ok (.iload_n 1, 1) := by decide +kernel
theorem dX7_lay_45 : decode cX7_lay 45 = .ok (.aaload, 1) := by decide +kernel
theorem dX7_lay_46 : decode cX7_lay 46 = .ok (.iload_n 2, 1) := by decide +kernel
theorem dX7_lay_47 : decode cX7_lay 47 = .ok (.iload_n 3, 1) := by decide +kernel
theorem dX7_lay_48 : decode cX7_lay 48 = .ok (.invokevirtual 299, 3) := by decide +kernel
theorem dX7_lay_51 : decode cX7_lay 51 = .ok (.iconst 1, 1) := by decide +kernel
theorem dX7_lay_52 : decode cX7_lay 52 = .ok (.ireturn, 1) := by decide +kernel
theorem dX7_film_0 : decode cX7_film 0 = .ok (.iload_n 1, 1) := by decide +kernel
theorem dX7_film_1 : decode cX7_film 1 = .ok (.invokestatic 100, 3) := by decide +kernel
theorem dX7_film_4 : decode cX7_film 4 = .ok (.ifCond .eq 27, 3) := by decide +kernel
theorem dX7_film_7 : decode cX7_film 7 = .ok (.iload_n 2, 1) := by decide +kernel
theorem dX7_film_8 : decode cX7_film 8 = .ok (.invokestatic 286, 3) := by decide +kernel
theorem dX7_film_11 : decode cX7_film 11 = .ok (.ifCond .eq 20, 3) := by decide +kernel
theorem dX7_film_14 : decode cX7_film 14 = .ok (.iload_n 3, 1) := by decide +kernel
theorem dX7_film_15 : decode cX7_film 15 = .ok (.invokestatic 289, 3) := by decide +kernel
theorem dX7_film_18 : decode cX7_film 18 = .ok (.ifCond .eq 13, 3) := by decide +kernel
theorem dX7_film_21 : decode cX7_film 21 = .ok (.iload 5, 2) := by decide +kernel
theorem dX7_film_23 : decode cX7_film 23 = .ok (.iload 6, 2) := by decide +kernel
theorem dX7_film_25 : decode cX7_film 25 = .ok (.invokestatic 104, 3) := by decide +kernel
theorem dX7_film_28 : decode cX7_film 28 = .ok (.ifCond .ne 5, 3) := by decide +kernel
theorem dX7_film_31 : decode cX7_film 31 = .ok (.iconst (-1), 1) := by decide +kernel
theorem dX7_film_32 : decode cX7_film 32 = .ok (.ireturn, 1) := by decide +kernel
theorem dX7_film_33 : decode cX7_film 33 = .ok (.aload_n 0, 1) := by decide +kernel
theorem dX7_film_34 : decode cX7_film 34 = .ok (.getfield 63, 3) := by decide +kernel
theorem dX7_film_37 : decode cX7_film 37 = .ok (.iload_n 2, 1) := by decide +kernel
theorem dX7_film_38 : decode cX7_film 38 = .ok (.aaload, 1) := by decide +kernel
theorem dX7_film_39 : decode cX7_film 39 = .ok (.iload_n 3, 1) := by decide +kernel
theorem dX7_film_40 : decode cX7_film 40 = .ok (.invokevirtual 302, 3) := by decide +kernel
theorem dX7_film_43 : decode cX7_film 43 = .ok (.istore 7, 2) := by decide +kernel
theorem dX7_film_45 : decode cX7_film 45 = .ok (.iconst 0, 1) := by decide +kernel
theorem dX7_film_46 : decode cX7_film 46 = .ok (.istore 8, 2) := by decide +kernel
theorem dX7_film_48 : decode cX7_film 48 = .ok (.aload_n 0, 1) := by decide +kernel
theorem dX7_film_49 : decode cX7_film 49 = .ok (.getfield 37, 3) := by decide +kernel
theorem dX7_film_52 : decode cX7_film 52 = .ok (.iload 5, 2) := by decide +kernel
theorem dX7_film_54 : decode cX7_film 54 = .ok (.iload 6, 2) := by decide +kernel
theorem dX7_film_56 : decode cX7_film 56 = .ok (.invokevirtual 111, 3) := by decide +kernel
theorem dX7_film_59 : decode cX7_film 59 = .ok (.iload 8, 2) := by decide +kernel
theorem dX7_film_61 : decode cX7_film 61 = .ok (.iload 5, 2) := by decide +kernel
theorem dX7_film_63 : decode cX7_film 63 = .ok (.if_icmp .ge 59, 3) := by decide +kernel
theorem dX7_film_66 : decode cX7_film 66 = .ok (.iload 7, 2) := by decide +kernel
theorem dX7_film_68 : decode cX7_film 68 = .ok (.ifCond .ne 54, 3) := by decide +kernel
theorem dX7_film_71 : decode cX7_film 71 = .ok (.aload_n 0, 1) := by decide +kernel
theorem dX7_film_72 : decode cX7_film 72 = .ok (.getfield 63, 3) := by decide +kernel
theorem dX7_film_75 : decode cX7_film 75 = .ok (.iload_n 2, 1) := by decide +kernel
theorem dX7_film_76 : decode cX7_film 76 = .ok (.aaload, 1) := by decide +kernel
theorem dX7_film_77 : decode cX7_film 77 = .ok (.iload 4, 2) := by decide +kernel
theorem dX7_film_79 : decode cX7_film 79 = .ok (.iload 8, 2) := by decide +kernel
theorem dX7_film_81 : decode cX7_film 81 = .ok (.aload_n 0, 1) := by decide +kernel
theorem dX7_film_82 : decode cX7_film 82 = .ok (.getfield 37, 3) := by decide +kernel
theorem dX7_film_85 : decode cX7_film 85 = .ok (.getfield 125, 3) := by decide +kernel
theorem dX7_film_88 : decode cX7_film 88 = .ok (.invokevirtual 305, 3) := by decide +kernel
theorem dX7_film_91 : decode cX7_film 91 = .ok (.istore 7, 2) := by decide +kernel
theorem dX7_film_93 : decode cX7_film 93 = .ok (.iload 7, 2) := by decide +kernel
theorem dX7_film_95 : decode cX7_film 95 = .ok (.ifCond .ne (-36), 3) := by decide +kernel
theorem dX7_film_98 : decode cX7_film 98 = .ok (.aload_n 0, 1) := by decide +kernel
theorem dX7_film_99 : decode cX7_film 99 = .ok (.getfield 37, 3) := by decide +kernel
theorem dX7_film_102 : decode cX7_film 102 = .ok (.iload 8, 2) := by decide +kernel
theorem dX7_film_104 : decode cX7_film 104 = .ok (.invokevirtual 309, 3) := by decide +kernel
theorem dX7_film_107 : decode cX7_film 107 = .ok (.ifCond .ne 9, 3) := by decide +kernel
theorem dX7_film_110 : decode cX7_film 110 = .ok (.bipush (-20), 2) := by decide +kernel
theorem dX7_film_112 : decode cX7_film 112 = .ok (.iload 8, 2) := by decide +kernel
theorem dX7_film_114 : decode cX7_film 114 = .ok (.isub, 1) := by decide +kernel
theorem dX7_film_115 : decode cX7_film 115 = .ok (.ireturn, 1) := by decide +kernel
theorem dX7_film_116 : decode cX7_film 116 = .ok (.iinc 8 1, 3) := by decide +kernel
theorem dX7_film_119 : decode cX7_film 119 = .ok (.goto (-60), 3) := by decide +kernel
theorem dX7_film_122 : decode cX7_film 122 = .ok (.aload_n 0, 1) := by decide +kernel
theorem dX7_film_123 : decode cX7_film 123 = .ok (.iload 7, 2) := by decide +kernel
theorem dX7_film_125 : decode cX7_film 125 = .ok (.putfield 312, 3) := by decide +kernel
theorem dX7_film_128 : decode cX7_film 128 = .ok (.iload 8, 2) := by decide +kernel
theorem dX7_film_130 : decode cX7_film 130 = .ok (.iconst 2, 1) := by decide +kernel
theorem dX7_film_131 : decode cX7_film 131 = .ok (.if_icmp .ge 5, 3) := by decide +kernel
theorem dX7_film_134 : decode cX7_film 134 = .ok (.iconst 0, 1) := by decide +kernel
theorem dX7_film_135 : decode cX7_film 135 = .ok (.ireturn, 1) := by decide +kernel
theorem dX7_film_136 : decode cX7_film 136 = .ok (.aload_n 0, 1) := by decide +kernel
theorem dX7_film_137 : decode cX7_film 137 = .ok (.getfield 37, 3) := by decide +kernel
theorem dX7_film_140 : decode cX7_film 140 = .ok (.iload 8, 2) := by decide +kernel
theorem dX7_film_142 : decode cX7_film 142 = .ok (.putfield 108, 3) := by decide +kernel
theorem dX7_film_145 : decode cX7_film 145 = .ok (.aload_n 0, 1) := by decide +kernel
theorem dX7_film_146 : decode cX7_film 146 = .ok (.getfield 32, 3) := by decide +kernel
theorem dX7_film_149 : decode cX7_film 149 = .ok (.iload_n 1, 1) := by decide +kernel
theorem dX7_film_150 : decode cX7_film 150 = .ok (.aaload, 1) := by decide +kernel
theorem dX7_film_151 : decode cX7_film 151 = .ok (.aload_n 0, 1) := by decide +kernel
theorem dX7_film_152 : decode cX7_film 152 = .ok (.getfield 37, 3) := by decide +kernel
theorem dX7_film_155 : decode cX7_film 155 = .ok (.invokevirtual 134, 3) := by decide +kernel
theorem dX7_film_158 : decode cX7_film 158 = .ok (.iload 8, 2) := by decide +kernel
theorem dX7_film_160 : decode cX7_film 160 = .ok (.ireturn, 1) := by decide +kernel
theorem dX7_torn_0 : decode cX7_torn 0 = .ok (.aload_n 0, 1) := by decide +kernel
theorem dX7_torn_1 : decode cX7_torn 1 = .ok (.getfield 312, 3) := by decide +kernel
theorem dX7_torn_4 : decode cX7_torn 4 = .ok (.ireturn, 1) := by decide +kernel
theorem dX7_count_0 : decode cX7_count 0 = .ok (.iload_n 1, 1) := by decide +kernel
theorem dX7_count_1 : decode cX7_count 1 = .ok (.tableswitch 103 0 5 #[39, 44, 49, 57, 68, 76], 39) := by decide +kernel
theorem dX7_count_40 : decode cX7_count 40 = .ok (.aload_n 0, 1) := by decide +kernel
theorem dX7_count_41 : decode cX7_count 41 = .ok (.invokevirtual 315, 3) := by decide +kernel
theorem dX7_count_44 : decode cX7_count 44 = .ok (.ireturn, 1) := by decide +kernel
theorem dX7_count_45 : decode cX7_count 45 = .ok (.aload_n 0, 1) := by decide +kernel
theorem dX7_count_46 : decode cX7_count 46 = .ok (.invokevirtual 318, 3) := by decide +kernel
theorem dX7_count_49 : decode cX7_count 49 = .ok (.ireturn, 1) := by decide +kernel
theorem dX7_count_50 : decode cX7_count 50 = .ok (.aload_n 0, 1) := by decide +kernel
theorem dX7_count_51 : decode cX7_count 51 = .ok (.getfield 57, 3) := by decide +kernel
theorem dX7_count_54 : decode cX7_count 54 = .ok (.getfield 232, 3) := by decide +kernel
theorem dX7_count_57 : decode cX7_count 57 = .ok (.ireturn, 1) := by decide +kernel
theorem dX7_count_58 : decode cX7_count 58 = .ok (.aload_n 0, 1) := by decide +kernel
theorem dX7_count_59 : decode cX7_count 59 = .ok (.getfield 57, 3) := by decide +kernel
theorem dX7_count_62 : decode cX7_count 62 = .ok (.invokevirtual 321, 3) := by decide +kernel
theorem dX7_count_65 : decode cX7_count 65 = .ok (.invokestatic 324, 3) := by decide +kernel
theorem dX7_count_68 : decode cX7_count 68 = .ok (.ireturn, 1) := by decide +kernel
theorem dX7_count_69 : decode cX7_count 69 = .ok (.aload_n 0, 1) := by decide +kernel
theorem dX7_count_70 : decode cX7_count 70 = .ok (.getfield 10, 3) := by decide +kernel
theorem dX7_count_73 : decode cX7_count 73 = .ok (.getfield 72, 3) := by decide +kernel
theorem dX7_count_76 : decode cX7_count 76 = .ok (.ireturn, 1) := by decide +kernel
theorem dX7_count_77 : decode cX7_count 77 = .ok (.aload_n 0, 1) := by decide +kernel
theorem dX7_count_78 : decode cX7_count 78 = .ok (.getfield 63, 3) := by decide +kernel
theorem dX7_count_81 : decode cX7_count 81 = .ok (.iconst 0, 1) := by decide +kernel
theorem dX7_count_82 : decode cX7_count 82 = .ok (.aaload, 1) := by decide +kernel
theorem dX7_count_83 : decode cX7_count 83 = .ok (.invokevirtual 293, 3) := by decide +kernel
theorem dX7_count_86 : decode cX7_count 86 = .ok (.ifCond .eq 8, 3) := by decide +kernel
theorem dX7_count_89 : decode cX7_count 89 = .ok (.bipush (-4), 2) := by decide +kernel
theorem dX7_count_91 : decode cX7_count 91 = .ok (.goto 12, 3) := by decide +kernel
theorem dX7_count_94 : decode cX7_count 94 = .ok (.aload_n 0, 1) := by decide +kernel
theorem dX7_count_95 : decode cX7_count 95 = .ok (.getfield 63, 3) := by decide +kernel
theorem dX7_count_98 : decode cX7_count 98 = .ok (.iconst 0, 1) := by decide +kernel
theorem dX7_count_99 : decode cX7_count 99 = .ok (.aaload, 1) := by decide +kernel
theorem dX7_count_100 : decode cX7_count 100 = .ok (.getfield 329, 3) := by decide +kernel
theorem dX7_count_103 : decode cX7_count 103 = .ok (.ireturn, 1) := by decide +kernel
theorem dX7_count_104 : decode cX7_count 104 = .ok (.iconst (-1), 1) := by decide +kernel
theorem dX7_count_105 : decode cX7_count 105 = .ok (.ireturn, 1) := by decide +kernel
theorem dX7_within_0 : decode cX7_within 0 = .ok (.iload_n 0, 1) := by decide +kernel
theorem dX7_within_1 : decode cX7_within 1 = .ok (.iload_n 1, 1) := by decide +kernel
theorem dX7_within_2 : decode cX7_within 2 = .ok (.if_icmp .lt 12, 3) := by decide +kernel
theorem dX7_within_5 : decode cX7_within 5 = .ok (.iload_n 0, 1) := by decide +kernel
theorem dX7_within_6 : decode cX7_within 6 = .ok (.iload_n 2, 1) := by decide +kernel
theorem dX7_within_7 : decode cX7_within 7 = .ok (.if_icmp .gt 7, 3) := by decide +kernel
theorem dX7_within_10 : decode cX7_within 10 = .ok (.iconst 1, 1) := by decide +kernel
theorem dX7_within_11 : decode cX7_within 11 = .ok (.goto 4, 3) := by decide +kernel
theorem dX7_within_14 : decode cX7_within 14 = .ok (.iconst 0, 1) := by decide +kernel
theorem dX7_within_15 : decode cX7_within 15 = .ok (.ireturn, 1) := by decide +kernel
theorem dX7_isWayNumber_0 : decode cX7_isWayNumber 0 = .ok (.iload_n 0, 1) := by decide +kernel
theorem dX7_isWayNumber_1 : decode cX7_isWayNumber 1 = .ok (.iconst 0, 1) := by decide +kernel
theorem dX7_isWayNumber_2 : decode cX7_isWayNumber 2 = .ok (.iconst 5, 1) := by decide +kernel
theorem dX7_isWayNumber_3 : decode cX7_isWayNumber 3 = .ok (.invokestatic 76, 3) := by decide +kernel
theorem dX7_isWayNumber_6 : decode cX7_isWayNumber 6 = .ok (.ireturn, 1) := by decide +kernel
theorem dX7_isPart_0 : decode cX7_isPart 0 = .ok (.iload_n 0, 1) := by decide +kernel
theorem dX7_isPart_1 : decode cX7_isPart 1 = .ok (.iconst 0, 1) := by decide +kernel
theorem dX7_isPart_2 : decode cX7_isPart 2 = .ok (.iconst 3, 1) := by decide +kernel
theorem dX7_isPart_3 : decode cX7_isPart 3 = .ok (.invokestatic 76, 3) := by decide +kernel
theorem dX7_isPart_6 : decode cX7_isPart 6 = .ok (.ireturn, 1) := by decide +kernel
theorem dX7_isSheet_0 : decode cX7_isSheet 0 = .ok (.iload_n 0, 1) := by decide +kernel
theorem dX7_isSheet_1 : decode cX7_isSheet 1 = .ok (.iconst 0, 1) := by decide +kernel
theorem dX7_isSheet_2 : decode cX7_isSheet 2 = .ok (.iconst 3, 1) := by decide +kernel
theorem dX7_isSheet_3 : decode cX7_isSheet 3 = .ok (.invokestatic 76, 3) := by decide +kernel
theorem dX7_isSheet_6 : decode cX7_isSheet 6 = .ok (.ireturn, 1) := by decide +kernel
theorem dX7_isWay_0 : decode cX7_isWay 0 = .ok (.iload_n 1, 1) := by decide +kernel
theorem dX7_isWay_1 : decode cX7_isWay 1 = .ok (.invokestatic 100, 3) := by decide +kernel
theorem dX7_isWay_4 : decode cX7_isWay 4 = .ok (.ifCond .eq 19, 3) := by decide +kernel
theorem dX7_isWay_7 : decode cX7_isWay 7 = .ok (.aload_n 0, 1) := by decide +kernel
theorem dX7_isWay_8 : decode cX7_isWay 8 = .ok (.getfield 32, 3) := by decide +kernel
theorem dX7_isWay_11 : decode cX7_isWay 11 = .ok (.iload_n 1, 1) := by decide +kernel
theorem dX7_isWay_12 : decode cX7_isWay 12 = .ok (.aaload, 1) := by decide +kernel
theorem dX7_isWay_13 : decode cX7_isWay 13 = .ok (.getfield 108, 3) := by decide +kernel
theorem dX7_isWay_16 : decode cX7_isWay 16 = .ok (.ifCond .le 7, 3) := by decide +kernel
theorem dX7_isWay_19 : decode cX7_isWay 19 = .ok (.iconst 1, 1) := by decide +kernel
theorem dX7_isWay_20 : decode cX7_isWay 20 = .ok (.goto 4, 3) := by decide +kernel
theorem dX7_isWay_23 : decode cX7_isWay 23 = .ok (.iconst 0, 1) := by decide +kernel
theorem dX7_isWay_24 : decode cX7_isWay 24 = .ok (.ireturn, 1) := by decide +kernel
theorem dX7_isPartOfWay_0 : decode cX7_isPartOfWay 0 = .ok (.aload_n 0, 1) := by decide +kernel
theorem dX7_isPartOfWay_1 : decode cX7_isPartOfWay 1 = .ok (.iload_n 1, 1) := by decide +kernel
theorem dX7_isPartOfWay_2 : decode cX7_isPartOfWay 2 = .ok (.invokevirtual 128, 3) := by decide +kernel
theorem dX7_isPartOfWay_5 : decode cX7_isPartOfWay 5 = .ok (.ifCond .eq 33, 3) := by decide +kernel
theorem dX7_isPartOfWay_8 : decode cX7_isPartOfWay 8 = .ok (.iload_n 2, 1) := by decide +kernel
theorem dX7_isPartOfWay_9 : decode cX7_isPartOfWay 9 = .ok (.iconst 0, 1) := by decide +kernel
theorem dX7_isPartOfWay_10 : decode cX7_isPartOfWay 10 = .ok (.aload_n 0, 1) := by decide +kernel
theorem dX7_isPartOfWay_11 : decode cX7_isPartOfWay 11 = .ok (.getfield 32, 3) := by decide +kernel
theorem dX7_isPartOfWay_14 : decode cX7_isPartOfWay 14 = .ok (.iload_n 1, 1) := by decide +kernel
theorem dX7_isPartOfWay_15 : decode cX7_isPartOfWay 15 = .ok (.aaload, 1) := by decide +kernel
theorem dX7_isPartOfWay_16 : decode cX7_isPartOfWay 16 = .ok (.getfield 108, 3) := by decide +kernel
theorem dX7_isPartOfWay_19 : decode cX7_isPartOfWay 19 = .ok (.iconst 1, 1) := by decide +kernel
theorem dX7_isPartOfWay_20 : decode cX7_isPartOfWay 20 = .ok (.isub, 1) := by decide +kernel
theorem dX7_isPartOfWay_21 : decode cX7_isPartOfWay 21 = .ok (.invokestatic 76, 3) := by decide +kernel
theorem dX7_isPartOfWay_24 : decode cX7_isPartOfWay 24 = .ok (.ifCond .eq 14, 3) := by decide +kernel
theorem dX7_isPartOfWay_27 : decode cX7_isPartOfWay 27 = .ok (.iload_n 3, 1) := by decide +kernel
theorem dX7_isPartOfWay_28 : decode cX7_isPartOfWay 28 = .ok (.invokestatic 215, 3) := by decide +kernel
theorem dX7_isPartOfWay_31 : decode cX7_isPartOfWay 31 = .ok (.ifCond .eq 7, 3) := by decide +kernel
theorem dX7_isPartOfWay_34 : decode cX7_isPartOfWay 34 = .ok (.iconst 1, 1) := by decide +kernel
theorem dX7_isPartOfWay_35 : decode cX7_isPartOfWay 35 = .ok (.goto 4, 3) := by decide +kernel
theorem dX7_isPartOfWay_38 : decode cX7_isPartOfWay 38 = .ok (.iconst 0, 1) := by decide +kernel
theorem dX7_isPartOfWay_39 : decode cX7_isPartOfWay 39 = .ok (.ireturn, 1) := by decide +kernel
theorem dX7_weighWays_0 : decode cX7_weighWays 0 = .ok (.iconst 0, 1) := by decide +kernel
theorem dX7_weighWays_1 : decode cX7_weighWays 1 = .ok (.istore_n 1, 1) := by decide +kernel
theorem dX7_weighWays_2 : decode cX7_weighWays 2 = .ok (.iload_n 1, 1) := by decide +kernel
theorem dX7_weighWays_3 : decode cX7_weighWays 3 = .ok (.bipush 6, 2) := by decide +kernel
theorem dX7_weighWays_5 : decode cX7_weighWays 5 = .ok (.if_icmp .ge 56, 3) := by decide +kernel
theorem dX7_weighWays_8 : decode cX7_weighWays 8 = .ok (.aload_n 0, 1) := by decide +kernel
theorem dX7_weighWays_9 : decode cX7_weighWays 9 = .ok (.getfield 50, 3) := by decide +kernel
theorem dX7_weighWays_12 : decode cX7_weighWays 12 = .ok (.iload_n 1, 1) := by decide +kernel
theorem dX7_weighWays_13 : decode cX7_weighWays 13 = .ok (.iconst (-1), 1) := by decide +kernel
theorem dX7_weighWays_14 : decode cX7_weighWays 14 = .ok (.iastore, 1) := by decide +kernel
theorem dX7_weighWays_15 : decode cX7_weighWays 15 = .ok (.aload_n 0, 1) := by decide +kernel
theorem dX7_weighWays_16 : decode cX7_weighWays 16 = .ok (.iload_n 1, 1) := by decide +kernel
theorem dX7_weighWays_17 : decode cX7_weighWays 17 = .ok (.invokevirtual 128, 3) := by decide +kernel
theorem dX7_weighWays_20 : decode cX7_weighWays 20 = .ok (.ifCond .eq 35, 3) := by decide +kernel
theorem dX7_weighWays_23 : decode cX7_weighWays 23 = .ok (.aload_n 0, 1) := by decide +kernel
theorem dX7_weighWays_24 : decode cX7_weighWays 24 = .ok (.getfield 46, 3) := by decide +kernel
theorem dX7_weighWays_27 : decode cX7_weighWays 27 = .ok (.aload_n 0, 1) := by decide +kernel
theorem dX7_weighWays_28 : decode cX7_weighWays 28 = .ok (.getfield 32, 3) := by decide +kernel
theorem dX7_weighWays_31 : decode cX7_weighWays 31 = .ok (.iload_n 1, 1) := by decide +kernel
theorem dX7_weighWays_32 : decode cX7_weighWays 32 = .ok (.aaload, 1) := by decide +kernel
theorem dX7_weighWays_33 : decode cX7_weighWays 33 = .ok (.invokevirtual 146, 3) := by decide +kernel
theorem dX7_weighWays_36 : decode cX7_weighWays 36 = .ok (.aload_n 0, 1) := by decide +kernel
theorem dX7_weighWays_37 : decode cX7_weighWays 37 = .ok (.getfield 50, 3) := by decide +kernel
theorem dX7_weighWays_40 : decode cX7_weighWays 40 = .ok (.iload_n 1, 1) := by decide +kernel
theorem dX7_weighWays_41 : decode cX7_weighWays 41 = .ok (.aload_n 0, 1) := by decide +kernel
theorem dX7_weighWays_42 : decode cX7_weighWays 42 = .ok (.getfield 46, 3) := by decide +kernel
theorem dX7_weighWays_45 : decode cX7_weighWays 45 = .ok (.aload_n 0, 1) := by decide +kernel
theorem dX7_weighWays_46 : decode cX7_weighWays 46 = .ok (.getfield 32, 3) := by decide +kernel
theorem dX7_weighWays_49 : decode cX7_weighWays 49 = .ok (.iload_n 1, 1) := by decide +kernel
theorem dX7_weighWays_50 : decode cX7_weighWays 50 = .ok (.aaload, 1) := by decide +kernel
theorem dX7_weighWays_51 : decode cX7_weighWays 51 = .ok (.invokevirtual 184, 3) := by decide +kernel
theorem dX7_weighWays_54 : decode cX7_weighWays 54 = .ok (.iastore, 1) := by decide +kernel
theorem dX7_weighWays_55 : decode cX7_weighWays 55 = .ok (.iinc 1 1, 3) := by decide +kernel
theorem dX7_weighWays_58 : decode cX7_weighWays 58 = .ok (.goto (-56), 3) := by decide +kernel
theorem dX7_weighWays_61 : decode cX7_weighWays 61 = .ok (.return_, 1) := by decide +kernel
theorem dX7_bestWay_0 : decode cX7_bestWay 0 = .ok (.aload_n 0, 1) := by decide +kernel
theorem dX7_bestWay_1 : decode cX7_bestWay 1 = .ok (.invokevirtual 256, 3) := by decide +kernel
theorem dX7_bestWay_4 : decode cX7_bestWay 4 = .ok (.bipush (-4), 2) := by decide +kernel
theorem dX7_bestWay_6 : decode cX7_bestWay 6 = .ok (.istore_n 1, 1) := by decide +kernel
theorem dX7_bestWay_7 : decode cX7_bestWay 7 = .ok (.iconst (-1), 1) := by decide +kernel
theorem dX7_bestWay_8 : decode cX7_bestWay 8 = .ok (.istore_n 2, 1) := by decide +kernel
theorem dX7_bestWay_9 : decode cX7_bestWay 9 = .ok (.iconst 0, 1) := by decide +kernel
theorem dX7_bestWay_10 : decode cX7_bestWay 10 = .ok (.istore_n 3, 1) := by decide +kernel
theorem dX7_bestWay_11 : decode cX7_bestWay 11 = .ok (.iload_n 3, 1) := by decide +kernel
theorem dX7_bestWay_12 : decode cX7_bestWay 12 = .ok (.bipush 6, 2) := by decide +kernel
theorem dX7_bestWay_14 : decode cX7_bestWay 14 = .ok (.if_icmp .ge 28, 3) := by decide +kernel
theorem dX7_bestWay_17 : decode cX7_bestWay 17 = .ok (.aload_n 0, 1) := by decide +kernel
theorem dX7_bestWay_18 : decode cX7_bestWay 18 = .ok (.getfield 50, 3) := by decide +kernel
theorem dX7_bestWay_21 : decode cX7_bestWay 21 = .ok (.iload_n 3, 1) := by decide +kernel
theorem dX7_bestWay_22 : decode cX7_bestWay 22 = .ok (.iaload, 1) := by decide +kernel
theorem dX7_bestWay_23 : decode cX7_bestWay 23 = .ok (.iload_n 2, 1) := by decide +kernel
theorem dX7_bestWay_24 : decode cX7_bestWay 24 = .ok (.if_icmp .le 12, 3) := by decide +kernel
theorem dX7_bestWay_27 : decode cX7_bestWay 27 = .ok (.aload_n 0, 1) := by decide +kernel
theorem dX7_bestWay_28 : decode cX7_bestWay 28 = .ok (.getfield 50, 3) := by decide +kernel
theorem dX7_bestWay_31 : decode cX7_bestWay 31 = .ok (.iload_n 3, 1) := by decide +kernel
theorem dX7_bestWay_32 : decode cX7_bestWay 32 = .ok (.iaload, 1) := by decide +kernel
theorem dX7_bestWay_33 : decode cX7_bestWay 33 = .ok (.istore_n 2, 1) := by decide +kernel
theorem dX7_bestWay_34 : decode cX7_bestWay 34 = .ok (.iload_n 3, 1) := by decide +kernel
theorem dX7_bestWay_35 : decode cX7_bestWay 35 = .ok (.istore_n 1, 1) := by decide +kernel
theorem dX7_bestWay_36 : decode cX7_bestWay 36 = .ok (.iinc 3 1, 3) := by decide +kernel
theorem dX7_bestWay_39 : decode cX7_bestWay 39 = .ok (.goto (-28), 3) := by decide +kernel
theorem dX7_bestWay_42 : decode cX7_bestWay 42 = .ok (.iload_n 1, 1) := by decide +kernel
theorem dX7_bestWay_43 : decode cX7_bestWay 43 = .ok (.ireturn, 1) := by decide +kernel
theorem dX7_goYears_0 : decode cX7_goYears 0 = .ok (.aload_n 0, 1) := by decide +kernel
theorem dX7_goYears_1 : decode cX7_goYears 1 = .ok (.invokevirtual 256, 3) := by decide +kernel
theorem dX7_goYears_4 : decode cX7_goYears 4 = .ok (.iconst 0, 1) := by decide +kernel
theorem dX7_goYears_5 : decode cX7_goYears 5 = .ok (.istore_n 2, 1) := by decide +kernel
theorem dX7_goYears_6 : decode cX7_goYears 6 = .ok (.iload_n 2, 1) := by decide +kernel
theorem dX7_goYears_7 : decode cX7_goYears 7 = .ok (.iload_n 1, 1) := by decide +kernel
theorem dX7_goYears_8 : decode cX7_goYears 8 = .ok (.if_icmp .ge 24, 3) := by decide +kernel
theorem dX7_goYears_11 : decode cX7_goYears 11 = .ok (.aload_n 0, 1) := by decide +kernel
theorem dX7_goYears_12 : decode cX7_goYears 12 = .ok (.getfield 57, 3) := by decide +kernel
theorem dX7_goYears_15 : decode cX7_goYears 15 = .ok (.aload_n 0, 1) := by decide +kernel
theorem dX7_goYears_16 : decode cX7_goYears 16 = .ok (.getfield 50, 3) := by decide +kernel
theorem dX7_goYears_19 : decode cX7_goYears 19 = .ok (.aload_n 0, 1) := by decide +kernel
theorem dX7_goYears_20 : decode cX7_goYears 20 = .ok (.getfield 26, 3) := by decide +kernel
theorem dX7_goYears_23 : decode cX7_goYears 23 = .ok (.invokevirtual 263, 3) := by decide +kernel
theorem dX7_goYears_26 : decode cX7_goYears 26 = .ok (.iinc 2 1, 3) := by decide +kernel
theorem dX7_goYears_29 : decode cX7_goYears 29 = .ok (.goto (-23), 3) := by decide +kernel
theorem dX7_goYears_32 : decode cX7_goYears 32 = .ok (.return_, 1) := by decide +kernel
theorem dX7_countWays_0 : decode cX7_countWays 0 = .ok (.iconst 0, 1) := by decide +kernel
theorem dX7_countWays_1 : decode cX7_countWays 1 = .ok (.istore_n 1, 1) := by decide +kernel
theorem dX7_countWays_2 : decode cX7_countWays 2 = .ok (.iconst 0, 1) := by decide +kernel
theorem dX7_countWays_3 : decode cX7_countWays 3 = .ok (.istore_n 2, 1) := by decide +kernel
theorem dX7_countWays_4 : decode cX7_countWays 4 = .ok (.iload_n 2, 1) := by decide +kernel
theorem dX7_countWays_5 : decode cX7_countWays 5 = .ok (.bipush 6, 2) := by decide +kernel
theorem dX7_countWays_7 : decode cX7_countWays 7 = .ok (.if_icmp .ge 20, 3) := by decide +kernel
theorem dX7_countWays_10 : decode cX7_countWays 10 = .ok (.aload_n 0, 1) := by decide +kernel
theorem dX7_countWays_11 : decode cX7_countWays 11 = .ok (.iload_n 2, 1) := by decide +kernel
theorem dX7_countWays_12 : decode cX7_countWays 12 = .ok (.invokevirtual 128, 3) := by decide +kernel
theorem dX7_countWays_15 : decode cX7_countWays 15 = .ok (.ifCond .eq 6, 3) := by decide +kernel
theorem dX7_countWays_18 : decode cX7_countWays 18 = .ok (.iinc 1 1, 3) := by decide +kernel
theorem dX7_countWays_21 : decode cX7_countWays 21 = .ok (.iinc 2 1, 3) := by decide +kernel
theorem dX7_countWays_24 : decode cX7_countWays 24 = .ok (.goto (-20), 3) := by decide +kernel
theorem dX7_countWays_27 : decode cX7_countWays 27 = .ok (.iload_n 1, 1) := by decide +kernel
theorem dX7_countWays_28 : decode cX7_countWays 28 = .ok (.ireturn, 1) := by decide +kernel
theorem dX7_countTenths_0 : decode cX7_countTenths 0 = .ok (.iconst 0, 1) := by decide +kernel
theorem dX7_countTenths_1 : decode cX7_countTenths 1 = .ok (.istore_n 1, 1) := by decide +kernel
theorem dX7_countTenths_2 : decode cX7_countTenths 2 = .ok (.iconst 0, 1) := by decide +kernel
theorem dX7_countTenths_3 : decode cX7_countTenths 3 = .ok (.istore_n 2, 1) := by decide +kernel
theorem dX7_countTenths_4 : decode cX7_countTenths 4 = .ok (.iload_n 2, 1) := by decide +kernel
theorem dX7_countTenths_5 : decode cX7_countTenths 5 = .ok (.bipush 6, 2) := by decide +kernel
theorem dX7_countTenths_7 : decode cX7_countTenths 7 = .ok (.if_icmp .ge 21, 3) := by decide +kernel
theorem dX7_countTenths_10 : decode cX7_countTenths 10 = .ok (.iload_n 1, 1) := by decide +kernel
theorem dX7_countTenths_11 : decode cX7_countTenths 11 = .ok (.aload_n 0, 1) := by decide +kernel
theorem dX7_countTenths_12 : decode cX7_countTenths 12 = .ok (.getfield 32, 3) := by decide +kernel
theorem dX7_countTenths_15 : decode cX7_countTenths 15 = .ok (.iload_n 2, 1) := by decide +kernel
theorem dX7_countTenths_16 : decode cX7_countTenths 16 = .ok (.aaload, 1) := by decide +kernel
theorem dX7_countTenths_17 : decode cX7_countTenths 17 = .ok (.getfield 108, 3) := by decide +kernel
theorem dX7_countTenths_20 : decode cX7_countTenths 20 = .ok (.iadd, 1) := by decide +kernel
theorem dX7_countTenths_21 : decode cX7_countTenths 21 = .ok (.istore_n 1, 1) := by decide +kernel
theorem dX7_countTenths_22 : decode cX7_countTenths 22 = .ok (.iinc 2 1, 3) := by decide +kernel
theorem dX7_countTenths_25 : decode cX7_countTenths 25 = .ok (.goto (-21), 3) := by decide +kernel
theorem dX7_countTenths_28 : decode cX7_countTenths 28 = .ok (.iload_n 1, 1) := by decide +kernel
theorem dX7_countTenths_29 : decode cX7_countTenths 29 = .ok (.ireturn, 1) := by decide +kernel
theorem dX7_goodSlips_0 : decode cX7_goodSlips 0 = .ok (.iconst 0, 1) := by decide +kernel
theorem dX7_goodSlips_1 : decode cX7_goodSlips 1 = .ok (.iload_n 2, 1) := by decide +kernel
theorem dX7_goodSlips_2 : decode cX7_goodSlips 2 = .ok (.iconst 1, 1) := by decide +kernel
theorem dX7_goodSlips_3 : decode cX7_goodSlips 3 = .ok (.iadd, 1) := by decide +kernel
theorem dX7_goodSlips_4 : decode cX7_goodSlips 4 = .ok (.iload_n 0, 1) := by decide +kernel
theorem dX7_goodSlips_5 : decode cX7_goodSlips 5 = .ok (.iload_n 1, 1) := by decide +kernel
theorem dX7_goodSlips_6 : decode cX7_goodSlips 6 = .ok (.isub, 1) := by decide +kernel
theorem dX7_goodSlips_7 : decode cX7_goodSlips 7 = .ok (.iconst 1, 1) := by decide +kernel
theorem dX7_goodSlips_8 : decode cX7_goodSlips 8 = .ok (.iadd, 1) := by decide +kernel
theorem dX7_goodSlips_9 : decode cX7_goodSlips 9 = .ok (.invokestatic 224, 3) := by decide +kernel
theorem dX7_goodSlips_12 : decode cX7_goodSlips 12 = .ok (.invokestatic 332, 3) := by decide +kernel
theorem dX7_goodSlips_15 : decode cX7_goodSlips 15 = .ok (.ireturn, 1) := by decide +kernel
theorem dX7_goodInThree_0 : decode cX7_goodInThree 0 = .ok (.iload_n 2, 1) := by decide +kernel
theorem dX7_goodInThree_1 : decode cX7_goodInThree 1 = .ok (.iconst 1, 1) := by decide +kernel
theorem dX7_goodInThree_2 : decode cX7_goodInThree 2 = .ok (.iadd, 1) := by decide +kernel
theorem dX7_goodInThree_3 : decode cX7_goodInThree 3 = .ok (.invokestatic 270, 3) := by decide +kernel
theorem dX7_goodInThree_6 : decode cX7_goodInThree 6 = .ok (.iload_n 2, 1) := by decide +kernel
theorem dX7_goodInThree_7 : decode cX7_goodInThree 7 = .ok (.iconst 1, 1) := by decide +kernel
theorem dX7_goodInThree_8 : decode cX7_goodInThree 8 = .ok (.iadd, 1) := by decide +kernel
theorem dX7_goodInThree_9 : decode cX7_goodInThree 9 = .ok (.iload_n 0, 1) := by decide +kernel
theorem dX7_goodInThree_10 : decode cX7_goodInThree 10 = .ok (.iload_n 1, 1) := by decide +kernel
theorem dX7_goodInThree_11 : decode cX7_goodInThree 11 = .ok (.iload_n 2, 1) := by decide +kernel
theorem dX7_goodInThree_12 : decode cX7_goodInThree 12 = .ok (.invokestatic 273, 3) := by decide +kernel
theorem dX7_goodInThree_15 : decode cX7_goodInThree 15 = .ok (.isub, 1) := by decide +kernel
theorem dX7_goodInThree_16 : decode cX7_goodInThree 16 = .ok (.invokestatic 270, 3) := by decide +kernel
theorem dX7_goodInThree_19 : decode cX7_goodInThree 19 = .ok (.isub, 1) := by decide +kernel
theorem dX7_goodInThree_20 : decode cX7_goodInThree 20 = .ok (.ireturn, 1) := by decide +kernel
theorem dX7_cube_0 : decode cX7_cube 0 = .ok (.iload_n 0, 1) := by decide +kernel
theorem dX7_cube_1 : decode cX7_cube 1 = .ok (.iload_n 0, 1) := by decide +kernel
theorem dX7_cube_2 : decode cX7_cube 2 = .ok (.imul, 1) := by decide +kernel
theorem dX7_cube_3 : decode cX7_cube 3 = .ok (.iload_n 0, 1) := by decide +kernel
theorem dX7_cube_4 : decode cX7_cube 4 = .ok (.imul, 1) := by decide +kernel
theorem dX7_cube_5 : decode cX7_cube 5 = .ok (.ireturn, 1) := by decide +kernel
theorem dX7_dividedDown_0 : decode cX7_dividedDown 0 = .ok (.iload_n 1, 1) := by decide +kernel
theorem dX7_dividedDown_1 : decode cX7_dividedDown 1 = .ok (.iconst 1, 1) := by decide +kernel
theorem dX7_dividedDown_2 : decode cX7_dividedDown 2 = .ok (.if_icmp .ge 7, 3) := by decide +kernel
theorem dX7_dividedDown_5 : decode cX7_dividedDown 5 = .ok (.iconst 0, 1) := by decide +kernel
theorem dX7_dividedDown_6 : decode cX7_dividedDown 6 = .ok (.goto 8, 3) := by decide +kernel
theorem dX7_dividedDown_9 : decode cX7_dividedDown 9 = .ok (.iload_n 0, 1) := by decide +kernel
theorem dX7_dividedDown_10 : decode cX7_dividedDown 10 = .ok (.iload_n 1, 1) := by decide +kernel
theorem dX7_dividedDown_11 : decode cX7_dividedDown 11 = .ok (.invokestatic 335, 3) := by decide +kernel
theorem dX7_dividedDown_14 : decode cX7_dividedDown 14 = .ok (.ireturn, 1) := by decide +kernel
theorem dX7_commonDivisor_0 : decode cX7_commonDivisor 0 = .ok (.iload_n 0, 1) := by decide +kernel
theorem dX7_commonDivisor_1 : decode cX7_commonDivisor 1 = .ok (.istore_n 2, 1) := by decide +kernel
theorem dX7_commonDivisor_2 : decode cX7_commonDivisor 2 = .ok (.iload_n 1, 1) := by decide +kernel
theorem dX7_commonDivisor_3 : decode cX7_commonDivisor 3 = .ok (.istore_n 3, 1) := by decide +kernel
theorem dX7_commonDivisor_4 : decode cX7_commonDivisor 4 = .ok (.iconst 0, 1) := by decide +kernel
theorem dX7_commonDivisor_5 : decode cX7_commonDivisor 5 = .ok (.istore 4, 2) := by decide +kernel
theorem dX7_commonDivisor_7 : decode cX7_commonDivisor 7 = .ok (.iload 4, 2) := by decide +kernel
theorem dX7_commonDivisor_9 : decode cX7_commonDivisor 9 = .ok (.bipush 64, 2) := by decide +kernel
theorem dX7_commonDivisor_11 : decode cX7_commonDivisor 11 = .ok (.if_icmp .ge 23, 3) := by decide +kernel
theorem dX7_commonDivisor_14 : decode cX7_commonDivisor 14 = .ok (.iload_n 3, 1) := by decide +kernel
theorem dX7_commonDivisor_15 : decode cX7_commonDivisor 15 = .ok (.ifCond .le 19, 3) := by decide +kernel
theorem dX7_commonDivisor_18 : decode cX7_commonDivisor 18 = .ok (.iload_n 2, 1) := by decide +kernel
theorem dX7_commonDivisor_19 : decode cX7_commonDivisor 19 = .ok (.iload_n 3, 1) := by decide +kernel
theorem dX7_commonDivisor_20 : decode cX7_commonDivisor 20 = .ok (.irem, 1) := by decide +kernel
theorem dX7_commonDivisor_21 : decode cX7_commonDivisor 21 = .ok (.istore 5, 2) := by decide +kernel
theorem dX7_commonDivisor_23 : decode cX7_commonDivisor 23 = .ok (.iload_n 3, 1) := by decide +kernel
theorem dX7_commonDivisor_24 : decode cX7_commonDivisor 24 = .ok (.istore_n 2, 1) := by decide +kernel
theorem dX7_commonDivisor_25 : decode cX7_commonDivisor 25 = .ok (.iload 5, 2) := by decide +kernel
theorem dX7_commonDivisor_27 : decode cX7_commonDivisor 27 = .ok (.istore_n 3, 1) := by decide +kernel
theorem dX7_commonDivisor_28 : decode cX7_commonDivisor 28 = .ok (.iinc 4 1, 3) := by decide +kernel
theorem dX7_commonDivisor_31 : decode cX7_commonDivisor 31 = .ok (.goto (-24), 3) := by decide +kernel
theorem dX7_commonDivisor_34 : decode cX7_commonDivisor 34 = .ok (.iload_n 2, 1) := by decide +kernel
theorem dX7_commonDivisor_35 : decode cX7_commonDivisor 35 = .ok (.ireturn, 1) := by decide +kernel
theorem dJ6_compare_7cf53_0 : decode cJ6_compare_7cf53 0 = .ok (.iload_n 0, 1) := by decide +kernel
theorem dJ6_compare_7cf53_1 : decode cJ6_compare_7cf53 1 = .ok (.iload_n 1, 1) := by decide +kernel
theorem dJ6_compare_7cf53_2 : decode cJ6_compare_7cf53 2 = .ok (.if_icmp .ge 7, 3) := by decide +kernel
theorem dJ6_compare_7cf53_5 : decode cJ6_compare_7cf53 5 = .ok (.iconst (-1), 1) := by decide +kernel
theorem dJ6_compare_7cf53_6 : decode cJ6_compare_7cf53 6 = .ok (.goto 13, 3) := by decide +kernel
theorem dJ6_compare_7cf53_9 : decode cJ6_compare_7cf53 9 = .ok (.iload_n 0, 1) := by decide +kernel
theorem dJ6_compare_7cf53_10 : decode cJ6_compare_7cf53 10 = .ok (.iload_n 1, 1) := by decide +kernel
theorem dJ6_compare_7cf53_11 : decode cJ6_compare_7cf53 11 = .ok (.if_icmp .ne 7, 3) := by decide +kernel
theorem dJ6_compare_7cf53_14 : decode cJ6_compare_7cf53 14 = .ok (.iconst 0, 1) := by decide +kernel
theorem dJ6_compare_7cf53_15 : decode cJ6_compare_7cf53 15 = .ok (.goto 4, 3) := by decide +kernel
theorem dJ6_compare_7cf53_18 : decode cJ6_compare_7cf53 18 = .ok (.iconst 1, 1) := by decide +kernel
theorem dJ6_compare_7cf53_19 : decode cJ6_compare_7cf53 19 = .ok (.ireturn, 1) := by decide +kernel
theorem dJ6_bitCount_0f7a4_0 : decode cJ6_bitCount_0f7a4 0 = .ok (.iload_n 0, 1) := by decide +kernel
theorem dJ6_bitCount_0f7a4_1 : decode cJ6_bitCount_0f7a4 1 = .ok (.iload_n 0, 1) := by decide +kernel
theorem dJ6_bitCount_0f7a4_2 : decode cJ6_bitCount_0f7a4 2 = .ok (.iconst 1, 1) := by decide +kernel
theorem dJ6_bitCount_0f7a4_3 : decode cJ6_bitCount_0f7a4 3 = .ok (.iushr, 1) := by decide +kernel
theorem dJ6_bitCount_0f7a4_4 : decode cJ6_bitCount_0f7a4 4 = .ok (.ldc_w 265, 3) := by decide +kernel
theorem dJ6_bitCount_0f7a4_7 : decode cJ6_bitCount_0f7a4 7 = .ok (.iand, 1) := by decide +kernel
theorem dJ6_bitCount_0f7a4_8 : decode cJ6_bitCount_0f7a4 8 = .ok (.isub, 1) := by decide +kernel
theorem dJ6_bitCount_0f7a4_9 : decode cJ6_bitCount_0f7a4 9 = .ok (.istore_n 0, 1) := by decide +kernel
theorem dJ6_bitCount_0f7a4_10 : decode cJ6_bitCount_0f7a4 10 = .ok (.iload_n 0, 1) := by decide +kernel
theorem dJ6_bitCount_0f7a4_11 : decode cJ6_bitCount_0f7a4 11 = .ok (.ldc_w 266, 3) := by decide +kernel
theorem dJ6_bitCount_0f7a4_14 : decode cJ6_bitCount_0f7a4 14 = .ok (.iand, 1) := by decide +kernel
theorem dJ6_bitCount_0f7a4_15 : decode cJ6_bitCount_0f7a4 15 = .ok (.iload_n 0, 1) := by decide +kernel
theorem dJ6_bitCount_0f7a4_16 : decode cJ6_bitCount_0f7a4 16 = .ok (.iconst 2, 1) := by decide +kernel
theorem dJ6_bitCount_0f7a4_17 : decode cJ6_bitCount_0f7a4 17 = .ok (.iushr, 1) := by decide +kernel
theorem dJ6_bitCount_0f7a4_18 : decode cJ6_bitCount_0f7a4 18 = .ok (.ldc_w 266, 3) := by decide +kernel
theorem dJ6_bitCount_0f7a4_21 : decode cJ6_bitCount_0f7a4 21 = .ok (.iand, 1) := by decide +kernel
theorem dJ6_bitCount_0f7a4_22 : decode cJ6_bitCount_0f7a4 22 = .ok (.iadd, 1) := by decide +kernel
theorem dJ6_bitCount_0f7a4_23 : decode cJ6_bitCount_0f7a4 23 = .ok (.istore_n 0, 1) := by decide +kernel
theorem dJ6_bitCount_0f7a4_24 : decode cJ6_bitCount_0f7a4 24 = .ok (.iload_n 0, 1) := by decide +kernel
theorem dJ6_bitCount_0f7a4_25 : decode cJ6_bitCount_0f7a4 25 = .ok (.iload_n 0, 1) := by decide +kernel
theorem dJ6_bitCount_0f7a4_26 : decode cJ6_bitCount_0f7a4 26 = .ok (.iconst 4, 1) := by decide +kernel
theorem dJ6_bitCount_0f7a4_27 : decode cJ6_bitCount_0f7a4 27 = .ok (.iushr, 1) := by decide +kernel
theorem dJ6_bitCount_0f7a4_28 : decode cJ6_bitCount_0f7a4 28 = .ok (.iadd, 1) := by decide +kernel
theorem dJ6_bitCount_0f7a4_29 : decode cJ6_bitCount_0f7a4 29 = .ok (.ldc_w 267, 3) := by decide +kernel
theorem dJ6_bitCount_0f7a4_32 : decode cJ6_bitCount_0f7a4 32 = .ok (.iand, 1) := by decide +kernel
theorem dJ6_bitCount_0f7a4_33 : decode cJ6_bitCount_0f7a4 33 = .ok (.istore_n 0, 1) := by decide +kernel
theorem dJ6_bitCount_0f7a4_34 : decode cJ6_bitCount_0f7a4 34 = .ok (.iload_n 0, 1) := by decide +kernel
theorem dJ6_bitCount_0f7a4_35 : decode cJ6_bitCount_0f7a4 35 = .ok (.iload_n 0, 1) := by decide +kernel
theorem dJ6_bitCount_0f7a4_36 : decode cJ6_bitCount_0f7a4 36 = .ok (.bipush 8, 2) := by decide +kernel
theorem dJ6_bitCount_0f7a4_38 : decode cJ6_bitCount_0f7a4 38 = .ok (.iushr, 1) := by decide +kernel
theorem dJ6_bitCount_0f7a4_39 : decode cJ6_bitCount_0f7a4 39 = .ok (.iadd, 1) := by decide +kernel
theorem dJ6_bitCount_0f7a4_40 : decode cJ6_bitCount_0f7a4 40 = .ok (.istore_n 0, 1) := by decide +kernel
theorem dJ6_bitCount_0f7a4_41 : decode cJ6_bitCount_0f7a4 41 = .ok (.iload_n 0, 1) := by decide +kernel
theorem dJ6_bitCount_0f7a4_42 : decode cJ6_bitCount_0f7a4 42 = .ok (.iload_n 0, 1) := by decide +kernel
theorem dJ6_bitCount_0f7a4_43 : decode cJ6_bitCount_0f7a4 43 = .ok (.bipush 16, 2) := by decide +kernel
theorem dJ6_bitCount_0f7a4_45 : decode cJ6_bitCount_0f7a4 45 = .ok (.iushr, 1) := by decide +kernel
theorem dJ6_bitCount_0f7a4_46 : decode cJ6_bitCount_0f7a4 46 = .ok (.iadd, 1) := by decide +kernel
theorem dJ6_bitCount_0f7a4_47 : decode cJ6_bitCount_0f7a4 47 = .ok (.istore_n 0, 1) := by decide +kernel
theorem dJ6_bitCount_0f7a4_48 : decode cJ6_bitCount_0f7a4 48 = .ok (.iload_n 0, 1) := by decide +kernel
theorem dJ6_bitCount_0f7a4_49 : decode cJ6_bitCount_0f7a4 49 = .ok (.bipush 63, 2) := by decide +kernel
theorem dJ6_bitCount_0f7a4_51 : decode cJ6_bitCount_0f7a4 51 = .ok (.iand, 1) := by decide +kernel
theorem dJ6_bitCount_0f7a4_52 : decode cJ6_bitCount_0f7a4 52 = .ok (.ireturn, 1) := by decide +kernel
theorem dJ9_floorDiv_7cf53_0 : decode cJ9_floorDiv_7cf53 0 = .ok (.iload_n 0, 1) := by decide +kernel
theorem dJ9_floorDiv_7cf53_1 : decode cJ9_floorDiv_7cf53 1 = .ok (.iload_n 1, 1) := by decide +kernel
theorem dJ9_floorDiv_7cf53_2 : decode cJ9_floorDiv_7cf53 2 = .ok (.idiv, 1) := by decide +kernel
theorem dJ9_floorDiv_7cf53_3 : decode cJ9_floorDiv_7cf53 3 = .ok (.istore_n 2, 1) := by decide +kernel
theorem dJ9_floorDiv_7cf53_4 : decode cJ9_floorDiv_7cf53 4 = .ok (.iload_n 0, 1) := by decide +kernel
theorem dJ9_floorDiv_7cf53_5 : decode cJ9_floorDiv_7cf53 5 = .ok (.iload_n 1, 1) := by decide +kernel
theorem dJ9_floorDiv_7cf53_6 : decode cJ9_floorDiv_7cf53 6 = .ok (.ixor, 1) := by decide +kernel
theorem dJ9_floorDiv_7cf53_7 : decode cJ9_floorDiv_7cf53 7 = .ok (.ifCond .ge 14, 3) := by decide +kernel
theorem dJ9_floorDiv_7cf53_10 : decode cJ9_floorDiv_7cf53 10 = .ok (.iload_n 2, 1) := by decide +kernel
theorem dJ9_floorDiv_7cf53_11 : decode cJ9_floorDiv_7cf53 11 = .ok (.iload_n 1, 1) := by decide +kernel
theorem dJ9_floorDiv_7cf53_12 : decode cJ9_floorDiv_7cf53 12 = .ok (.imul, 1) := by decide +kernel
theorem dJ9_floorDiv_7cf53_13 : decode cJ9_floorDiv_7cf53 13 = .ok (.iload_n 0, 1) := by decide +kernel
theorem dJ9_floorDiv_7cf53_14 : decode cJ9_floorDiv_7cf53 14 = .ok (.if_icmp .eq 7, 3) := by decide +kernel
theorem dJ9_floorDiv_7cf53_17 : decode cJ9_floorDiv_7cf53 17 = .ok (.iload_n 2, 1) := by decide +kernel
theorem dJ9_floorDiv_7cf53_18 : decode cJ9_floorDiv_7cf53 18 = .ok (.iconst 1, 1) := by decide +kernel
theorem dJ9_floorDiv_7cf53_19 : decode cJ9_floorDiv_7cf53 19 = .ok (.isub, 1) := by decide +kernel
theorem dJ9_floorDiv_7cf53_20 : decode cJ9_floorDiv_7cf53 20 = .ok (.ireturn, 1) := by decide +kernel
theorem dJ9_floorDiv_7cf53_21 : decode cJ9_floorDiv_7cf53 21 = .ok (.iload_n 2, 1) := by decide +kernel
theorem dJ9_floorDiv_7cf53_22 : decode cJ9_floorDiv_7cf53 22 = .ok (.ireturn, 1) := by decide +kernel
theorem dJ9_floorMod_7cf53_0 : decode cJ9_floorMod_7cf53 0 = .ok (.iload_n 0, 1) := by decide +kernel
theorem dJ9_floorMod_7cf53_1 : decode cJ9_floorMod_7cf53 1 = .ok (.iload_n 1, 1) := by decide +kernel
theorem dJ9_floorMod_7cf53_2 : decode cJ9_floorMod_7cf53 2 = .ok (.irem, 1) := by decide +kernel
theorem dJ9_floorMod_7cf53_3 : decode cJ9_floorMod_7cf53 3 = .ok (.istore_n 2, 1) := by decide +kernel
theorem dJ9_floorMod_7cf53_4 : decode cJ9_floorMod_7cf53 4 = .ok (.iload_n 0, 1) := by decide +kernel
theorem dJ9_floorMod_7cf53_5 : decode cJ9_floorMod_7cf53 5 = .ok (.iload_n 1, 1) := by decide +kernel
theorem dJ9_floorMod_7cf53_6 : decode cJ9_floorMod_7cf53 6 = .ok (.ixor, 1) := by decide +kernel
theorem dJ9_floorMod_7cf53_7 : decode cJ9_floorMod_7cf53 7 = .ok (.ifCond .ge 11, 3) := by decide +kernel
theorem dJ9_floorMod_7cf53_10 : decode cJ9_floorMod_7cf53 10 = .ok (.iload_n 2, 1) := by decide +kernel
theorem dJ9_floorMod_7cf53_11 : decode cJ9_floorMod_7cf53 11 = .ok (.ifCond .eq 7, 3) := by decide +kernel
theorem dJ9_floorMod_7cf53_14 : decode cJ9_floorMod_7cf53 14 = .ok (.iload_n 2, 1) := by decide +kernel
theorem dJ9_floorMod_7cf53_15 : decode cJ9_floorMod_7cf53 15 = .ok (.iload_n 1, 1) := by decide +kernel
theorem dJ9_floorMod_7cf53_16 : decode cJ9_floorMod_7cf53 16 = .ok (.iadd, 1) := by decide +kernel
theorem dJ9_floorMod_7cf53_17 : decode cJ9_floorMod_7cf53 17 = .ok (.ireturn, 1) := by decide +kernel
theorem dJ9_floorMod_7cf53_18 : decode cJ9_floorMod_7cf53 18 = .ok (.iload_n 2, 1) := by decide +kernel
theorem dJ9_floorMod_7cf53_19 : decode cJ9_floorMod_7cf53 19 = .ok (.ireturn, 1) := by decide +kernel
theorem dJ9_abs_0f7a4_0 : decode cJ9_abs_0f7a4 0 = .ok (.iload_n 0, 1) := by decide +kernel
theorem dJ9_abs_0f7a4_1 : decode cJ9_abs_0f7a4 1 = .ok (.ifCond .ge 8, 3) := by decide +kernel
theorem dJ9_abs_0f7a4_4 : decode cJ9_abs_0f7a4 4 = .ok (.iload_n 0, 1) := by decide +kernel
theorem dJ9_abs_0f7a4_5 : decode cJ9_abs_0f7a4 5 = .ok (.ineg, 1) := by decide +kernel
theorem dJ9_abs_0f7a4_6 : decode cJ9_abs_0f7a4 6 = .ok (.goto 4, 3) := by decide +kernel
theorem dJ9_abs_0f7a4_9 : decode cJ9_abs_0f7a4 9 = .ok (.iload_n 0, 1) := by decide +kernel
theorem dJ9_abs_0f7a4_10 : decode cJ9_abs_0f7a4 10 = .ok (.ireturn, 1) := by decide +kernel
theorem dJ9_max_7cf53_0 : decode cJ9_max_7cf53 0 = .ok (.iload_n 0, 1) := by decide +kernel
theorem dJ9_max_7cf53_1 : decode cJ9_max_7cf53 1 = .ok (.iload_n 1, 1) := by decide +kernel
theorem dJ9_max_7cf53_2 : decode cJ9_max_7cf53 2 = .ok (.if_icmp .lt 7, 3) := by decide +kernel
theorem dJ9_max_7cf53_5 : decode cJ9_max_7cf53 5 = .ok (.iload_n 0, 1) := by decide +kernel
theorem dJ9_max_7cf53_6 : decode cJ9_max_7cf53 6 = .ok (.goto 4, 3) := by decide +kernel
theorem dJ9_max_7cf53_9 : decode cJ9_max_7cf53 9 = .ok (.iload_n 1, 1) := by decide +kernel
theorem dJ9_max_7cf53_10 : decode cJ9_max_7cf53 10 = .ok (.ireturn, 1) := by decide +kernel
theorem dJ9_min_7cf53_0 : decode cJ9_min_7cf53 0 = .ok (.iload_n 0, 1) := by decide +kernel
theorem dJ9_min_7cf53_1 : decode cJ9_min_7cf53 1 = .ok (.iload_n 1, 1) := by decide +kernel
theorem dJ9_min_7cf53_2 : decode cJ9_min_7cf53 2 = .ok (.if_icmp .gt 7, 3) := by decide +kernel
theorem dJ9_min_7cf53_5 : decode cJ9_min_7cf53 5 = .ok (.iload_n 0, 1) := by decide +kernel
theorem dJ9_min_7cf53_6 : decode cJ9_min_7cf53 6 = .ok (.goto 4, 3) := by decide +kernel
theorem dJ9_min_7cf53_9 : decode cJ9_min_7cf53 9 = .ok (.iload_n 1, 1) := by decide +kernel
theorem dJ9_min_7cf53_10 : decode cJ9_min_7cf53 10 = .ok (.ireturn, 1) := by decide +kernel
theorem dJ0_charAt_5068e_0 : decode cJ0_charAt_5068e 0 = .ok (.aload_n 0, 1) := by decide +kernel
theorem dJ0_charAt_5068e_1 : decode cJ0_charAt_5068e 1 = .ok (.invokevirtual 492, 3) := by decide +kernel
theorem dJ0_charAt_5068e_4 : decode cJ0_charAt_5068e 4 = .ok (.ifCond .eq 12, 3) := by decide +kernel
theorem dJ0_charAt_5068e_7 : decode cJ0_charAt_5068e 7 = .ok (.aload_n 0, 1) := by decide +kernel
theorem dJ0_charAt_5068e_8 : decode cJ0_charAt_5068e 8 = .ok (.getfield 9, 3) := by decide +kernel
theorem dJ0_charAt_5068e_11 : decode cJ0_charAt_5068e 11 = .ok (.iload_n 1, 1) := by decide +kernel
theorem dJ0_charAt_5068e_12 : decode cJ0_charAt_5068e 12 = .ok (.invokestatic 495, 3) := by decide +kernel
theorem dJ0_charAt_5068e_15 : decode cJ0_charAt_5068e 15 = .ok (.ireturn, 1) := by decide +kernel
theorem dJ0_charAt_5068e_16 : decode cJ0_charAt_5068e 16 = .ok (.aload_n 0, 1) := by decide +kernel
theorem dJ0_charAt_5068e_17 : decode cJ0_charAt_5068e 17 = .ok (.getfield 9, 3) := by decide +kernel
theorem dJ0_charAt_5068e_20 : decode cJ0_charAt_5068e 20 = .ok (.iload_n 1, 1) := by decide +kernel
theorem dJ0_charAt_5068e_21 : decode cJ0_charAt_5068e 21 = .ok (.invokestatic 498, 3) := by decide +kernel
theorem dJ0_charAt_5068e_24 : decode cJ0_charAt_5068e 24 = .ok (.ireturn, 1) := by decide +kernel
theorem dJ0_isLatin1_aae02_0 : decode cJ0_isLatin1_aae02 0 = .ok (.getstatic 38, 3) := by decide +kernel
theorem dJ0_isLatin1_aae02_3 : decode cJ0_isLatin1_aae02 3 = .ok (.ifCond .eq 14, 3) := by decide +kernel
theorem dJ0_isLatin1_aae02_6 : decode cJ0_isLatin1_aae02 6 = .ok (.aload_n 0, 1) := by decide +kernel
theorem dJ0_isLatin1_aae02_7 : decode cJ0_isLatin1_aae02 7 = .ok (.getfield 15, 3) := by decide +kernel
theorem dJ0_isLatin1_aae02_10 : decode cJ0_isLatin1_aae02 10 = .ok (.ifCond .ne 7, 3) := by decide +kernel
theorem dJ0_isLatin1_aae02_13 : decode cJ0_isLatin1_aae02 13 = .ok (.iconst 1, 1) := by decide +kernel
theorem dJ0_isLatin1_aae02_14 : decode cJ0_isLatin1_aae02 14 = .ok (.goto 4, 3) := by decide +kernel
theorem dJ0_isLatin1_aae02_17 : decode cJ0_isLatin1_aae02 17 = .ok (.iconst 0, 1) := by decide +kernel
theorem dJ0_isLatin1_aae02_18 : decode cJ0_isLatin1_aae02 18 = .ok (.ireturn, 1) := by decide +kernel
theorem dJ0_checkIndex_df160_0 : decode cJ0_checkIndex_df160 0 = .ok (.iload_n 0, 1) := by decide +kernel
theorem dJ0_checkIndex_df160_1 : decode cJ0_checkIndex_df160 1 = .ok (.iload_n 1, 1) := by decide +kernel
theorem dJ0_checkIndex_df160_2 : decode cJ0_checkIndex_df160 2 = .ok (.getstatic 1053, 3) := by decide +kernel
theorem dJ0_checkIndex_df160_5 : decode cJ0_checkIndex_df160 5 = .ok (.invokestatic 1059, 3) := by decide +kernel
theorem dJ0_checkIndex_df160_8 : decode cJ0_checkIndex_df160 8 = .ok (.pop, 1) := by decide +kernel
theorem dJ0_checkIndex_df160_9 : decode cJ0_checkIndex_df160 9 = .ok (.return_, 1) := by decide +kernel
theorem dJ1_charAt_3b067_0 : decode cJ1_charAt_3b067 0 = .ok (.iload_n 1, 1) := by decide +kernel
theorem dJ1_charAt_3b067_1 : decode cJ1_charAt_3b067 1 = .ok (.aload_n 0, 1) := by decide +kernel
theorem dJ1_charAt_3b067_2 : decode cJ1_charAt_3b067 2 = .ok (.arraylength, 1) := by decide +kernel
theorem dJ1_charAt_3b067_3 : decode cJ1_charAt_3b067 3 = .ok (.invokestatic 9, 3) := by decide +kernel
theorem dJ1_charAt_3b067_6 : decode cJ1_charAt_3b067 6 = .ok (.aload_n 0, 1) := by decide +kernel
theorem dJ1_charAt_3b067_7 : decode cJ1_charAt_3b067 7 = .ok (.iload_n 1, 1) := by decide +kernel
theorem dJ1_charAt_3b067_8 : decode cJ1_charAt_3b067 8 = .ok (.baload, 1) := by decide +kernel
theorem dJ1_charAt_3b067_9 : decode cJ1_charAt_3b067 9 = .ok (.sipush 255, 3) := by decide +kernel
theorem dJ1_charAt_3b067_12 : decode cJ1_charAt_3b067 12 = .ok (.iand, 1) := by decide +kernel
theorem dJ1_charAt_3b067_13 : decode cJ1_charAt_3b067 13 = .ok (.i2c, 1) := by decide +kernel
theorem dJ1_charAt_3b067_14 : decode cJ1_charAt_3b067 14 = .ok (.ireturn, 1) := by decide +kernel
theorem dJ2_getChar_3b067_0 : decode cJ2_getChar_3b067 0 = .ok (.getstatic 44, 3) := by decide +kernel
theorem dJ2_getChar_3b067_3 : decode cJ2_getChar_3b067 3 = .ok (.ifCond .ne 25, 3) := by decide +kernel
theorem dJ2_getChar_3b067_6 : decode cJ2_getChar_3b067 6 = .ok (.iload_n 1, 1) := by decide +kernel
theorem dJ2_getChar_3b067_7 : decode cJ2_getChar_3b067 7 = .ok (.ifCond .lt 11, 3) := by decide +kernel
theorem dJ2_getChar_3b067_10 : decode cJ2_getChar_3b067 10 = .ok (.iload_n 1, 1) := by decide +kernel
theorem dJ2_getChar_3b067_11 : decode cJ2_getChar_3b067 11 = .ok (.aload_n 0, 1) := by decide +kernel
theorem dJ2_getChar_3b067_12 : decode cJ2_getChar_3b067 12 = .ok (.invokestatic 48, 3) := by decide +kernel
theorem dJ2_getChar_3b067_15 : decode cJ2_getChar_3b067 15 = .ok (.if_icmp .lt 13, 3) := by decide +kernel
theorem dJ2_getChar_3b067_18 : decode cJ2_getChar_3b067 18 = .ok (.new 52, 3) := by decide +kernel
theorem dJ2_getChar_3b067_21 : decode cJ2_getChar_3b067 21 = .ok (.dup, 1) := by decide +kernel
theorem dJ2_getChar_3b067_22 : decode cJ2_getChar_3b067 22 = .ok (.ldc 54, 2) := by decide +kernel
theorem dJ2_getChar_3b067_24 : decode cJ2_getChar_3b067 24 = .ok (.invokespecial 56, 3) := by decide +kernel
theorem dJ2_getChar_3b067_27 : decode cJ2_getChar_3b067 27 = .ok (.athrow, 1) := by decide +kernel
theorem dJ2_getChar_3b067_28 : decode cJ2_getChar_3b067 28 = .ok (.iload_n 1, 1) := by decide +kernel
theorem dJ2_getChar_3b067_29 : decode cJ2_getChar_3b067 29 = .ok (.iconst 1, 1) := by decide +kernel
theorem dJ2_getChar_3b067_30 : decode cJ2_getChar_3b067 30 = .ok (.ishl, 1) := by decide +kernel
theorem dJ2_getChar_3b067_31 : decode cJ2_getChar_3b067 31 = .ok (.istore_n 1, 1) := by decide +kernel
theorem dJ2_getChar_3b067_32 : decode cJ2_getChar_3b067 32 = .ok (.aload_n 0, 1) := by decide +kernel
theorem dJ2_getChar_3b067_33 : decode cJ2_getChar_3b067 33 = .ok (.iload_n 1, 1) := by decide +kernel
theorem dJ2_getChar_3b067_34 : decode cJ2_getChar_3b067 34 = .ok (.iinc 1 1, 3) := by decide +kernel
theorem dJ2_getChar_3b067_37 : decode cJ2_getChar_3b067 37 = .ok (.baload, 1) := by decide +kernel
theorem dJ2_getChar_3b067_38 : decode cJ2_getChar_3b067 38 = .ok (.sipush 255, 3) := by decide +kernel
theorem dJ2_getChar_3b067_41 : decode cJ2_getChar_3b067 41 = .ok (.iand, 1) := by decide +kernel
theorem dJ2_getChar_3b067_42 : decode cJ2_getChar_3b067 42 = .ok (.getstatic 59, 3) := by decide +kernel
theorem dJ2_getChar_3b067_45 : decode cJ2_getChar_3b067 45 = .ok (.ishl, 1) := by decide +kernel
theorem dJ2_getChar_3b067_46 : decode cJ2_getChar_3b067 46 = .ok (.aload_n 0, 1) := by decide +kernel
theorem dJ2_getChar_3b067_47 : decode cJ2_getChar_3b067 47 = .ok (.iload_n 1, 1) := by decide +kernel
theorem dJ2_getChar_3b067_48 : decode cJ2_getChar_3b067 48 = .ok (.baload, 1) := by decide +kernel
theorem dJ2_getChar_3b067_49 : decode cJ2_getChar_3b067 49 = .ok (.sipush 255, 3) := by decide +kernel
theorem dJ2_getChar_3b067_52 : decode cJ2_getChar_3b067 52 = .ok (.iand, 1) := by decide +kernel
theorem dJ2_getChar_3b067_53 : decode cJ2_getChar_3b067 53 = .ok (.getstatic 63, 3) := by decide +kernel
theorem dJ2_getChar_3b067_56 : decode cJ2_getChar_3b067 56 = .ok (.ishl, 1) := by decide +kernel
theorem dJ2_getChar_3b067_57 : decode cJ2_getChar_3b067 57 = .ok (.ior, 1) := by decide +kernel
theorem dJ2_getChar_3b067_58 : decode cJ2_getChar_3b067 58 = .ok (.i2c, 1) := by decide +kernel
theorem dJ2_getChar_3b067_59 : decode cJ2_getChar_3b067 59 = .ok (.ireturn, 1) := by decide +kernel
theorem dJ2_length_9d52b_0 : decode cJ2_length_9d52b 0 = .ok (.aload_n 0, 1) := by decide +kernel
theorem dJ2_length_9d52b_1 : decode cJ2_length_9d52b 1 = .ok (.arraylength, 1) := by decide +kernel
theorem dJ2_length_9d52b_2 : decode cJ2_length_9d52b 2 = .ok (.iconst 1, 1) := by decide +kernel
theorem dJ2_length_9d52b_3 : decode cJ2_length_9d52b 3 = .ok (.ishr, 1) := by decide +kernel
theorem dJ2_length_9d52b_4 : decode cJ2_length_9d52b 4 = .ok (.ireturn, 1) := by decide +kernel
theorem dJ2_charAt_3b067_0 : decode cJ2_charAt_3b067 0 = .ok (.iload_n 1, 1) := by decide +kernel
theorem dJ2_charAt_3b067_1 : decode cJ2_charAt_3b067 1 = .ok (.aload_n 0, 1) := by decide +kernel
theorem dJ2_charAt_3b067_2 : decode cJ2_charAt_3b067 2 = .ok (.invokestatic 67, 3) := by decide +kernel
theorem dJ2_charAt_3b067_5 : decode cJ2_charAt_3b067 5 = .ok (.aload_n 0, 1) := by decide +kernel
theorem dJ2_charAt_3b067_6 : decode cJ2_charAt_3b067 6 = .ok (.iload_n 1, 1) := by decide +kernel
theorem dJ2_charAt_3b067_7 : decode cJ2_charAt_3b067 7 = .ok (.invokestatic 71, 3) := by decide +kernel
theorem dJ2_charAt_3b067_10 : decode cJ2_charAt_3b067 10 = .ok (.ireturn, 1) := by decide +kernel
theorem dJ2_checkIndex_2214a_0 : decode cJ2_checkIndex_2214a 0 = .ok (.iload_n 0, 1) := by decide +kernel
theorem dJ2_checkIndex_2214a_1 : decode cJ2_checkIndex_2214a 1 = .ok (.aload_n 1, 1) := by decide +kernel
theorem dJ2_checkIndex_2214a_2 : decode cJ2_checkIndex_2214a 2 = .ok (.invokestatic 48, 3) := by decide +kernel
theorem dJ2_checkIndex_2214a_5 : decode cJ2_checkIndex_2214a 5 = .ok (.invokestatic 414, 3) := by decide +kernel
theorem dJ2_checkIndex_2214a_8 : decode cJ2_checkIndex_2214a 8 = .ok (.return_, 1) := by decide +kernel
theorem dJ3_checkIndex_8e157_0 : decode cJ3_checkIndex_8e157 0 = .ok (.iload_n 0, 1) := by decide +kernel
theorem dJ3_checkIndex_8e157_1 : decode cJ3_checkIndex_8e157 1 = .ok (.ifCond .lt 8, 3) := by decide +kernel
theorem dJ3_checkIndex_8e157_4 : decode cJ3_checkIndex_8e157 4 = .ok (.iload_n 0, 1) := by decide +kernel
theorem dJ3_checkIndex_8e157_5 : decode cJ3_checkIndex_8e157 5 = .ok (.iload_n 1, 1) := by decide +kernel
theorem dJ3_checkIndex_8e157_6 : decode cJ3_checkIndex_8e157 6 = .ok (.if_icmp .lt 10, 3) := by decide +kernel
theorem dJ3_checkIndex_8e157_9 : decode cJ3_checkIndex_8e157 9 = .ok (.aload_n 2, 1) := by decide +kernel
theorem dJ3_checkIndex_8e157_10 : decode cJ3_checkIndex_8e157 10 = .ok (.iload_n 0, 1) := by decide +kernel
theorem dJ3_checkIndex_8e157_11 : decode cJ3_checkIndex_8e157 11 = .ok (.iload_n 1, 1) := by decide +kernel
theorem dJ3_checkIndex_8e157_12 : decode cJ3_checkIndex_8e157 12 = .ok (.invokestatic 95, 3) := by decide +kernel
theorem dJ3_checkIndex_8e157_15 : decode cJ3_checkIndex_8e157 15 = .ok (.athrow, 1) := by decide +kernel
theorem dJ3_checkIndex_8e157_16 : decode cJ3_checkIndex_8e157 16 = .ok (.iload_n 0, 1) := by decide +kernel
theorem dJ3_checkIndex_8e157_17 : decode cJ3_checkIndex_8e157 17 = .ok (.ireturn, 1) := by decide +kernel
