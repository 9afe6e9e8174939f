theorem dX0_init_0 : decode cX0_init 0 = .ok (.aload_n 0, 1) := by decide +kernel
theorem dX0_init_1 : decode cX0_init 1 = .ok (.invokespecial 3, 3) := by decide +kernel
theorem dX0_init_4 : decode cX0_init 4 = .ok (.aload_n 0, 1) := by decide +kernel
theorem dX0_init_5 : decode cX0_init 5 = .ok (.iload_n 1, 1) := by decide +kernel
theorem dX0_init_6 : decode cX0_init 6 = .ok (.putfield 9, 3) := by decide +kernel
theorem dX0_init_9 : decode cX0_init 9 = .ok (.aload_n 0, 1) := by decide +kernel
theorem dX0_init_10 : decode cX0_init 10 = .ok (.iload_n 2, 1) := by decide +kernel
theorem dX0_init_11 : decode cX0_init 11 = .ok (.putfield 15, 3) := by decide +kernel
theorem dX0_init_14 : decode cX0_init 14 = .ok (.aload_n 0, 1) := by decide +kernel
theorem dX0_init_15 : decode cX0_init 15 = .ok (.iload_n 3, 1) := by decide +kernel
theorem dX0_init_16 : decode cX0_init 16 = .ok (.putfield 18, 3) := by decide +kernel
theorem dX0_init_19 : decode cX0_init 19 = .ok (.aload_n 0, 1) := by decide +kernel
theorem dX0_init_20 : decode cX0_init 20 = .ok (.iload 4, 2) := by decide +kernel
theorem dX0_init_22 : decode cX0_init 22 = .ok (.putfield 21, 3) := by decide +kernel
theorem dX0_init_25 : decode cX0_init 25 = .ok (.aload_n 0, 1) := by decide +kernel
theorem dX0_init_26 : decode cX0_init 26 = .ok (.new 24, 3) := by decide +kernel
theorem dX0_init_29 : decode cX0_init 29 = .ok (.dup, 1) := by decide +kernel
theorem dX0_init_30 : decode cX0_init 30 = .ok (.iload 5, 2) := by decide +kernel
theorem dX0_init_32 : decode cX0_init 32 = .ok (.invokespecial 26, 3) := by decide +kernel
theorem dX0_init_35 : decode cX0_init 35 = .ok (.putfield 29, 3) := by decide +kernel
theorem dX0_init_38 : decode cX0_init 38 = .ok (.aload_n 0, 1) := by decide +kernel
theorem dX0_init_39 : decode cX0_init 39 = .ok (.bipush 61, 2) := by decide +kernel
theorem dX0_init_41 : decode cX0_init 41 = .ok (.newarray .int, 2) := by decide +kernel
theorem dX0_init_43 : decode cX0_init 43 = .ok (.putfield 33, 3) := by decide +kernel
theorem dX0_init_46 : decode cX0_init 46 = .ok (.return_, 1) := by decide +kernel
theorem dX0_capacity_0 : decode cX0_capacity 0 = .ok (.aload_n 0, 1) := by decide +kernel
theorem dX0_capacity_1 : decode cX0_capacity 1 = .ok (.getfield 9, 3) := by decide +kernel
theorem dX0_capacity_4 : decode cX0_capacity 4 = .ok (.aload_n 0, 1) := by decide +kernel
theorem dX0_capacity_5 : decode cX0_capacity 5 = .ok (.getfield 15, 3) := by decide +kernel
theorem dX0_capacity_8 : decode cX0_capacity 8 = .ok (.imul, 1) := by decide +kernel
theorem dX0_capacity_9 : decode cX0_capacity 9 = .ok (.ireturn, 1) := by decide +kernel
theorem dX1_init_0 : decode cX1_init 0 = .ok (.aload_n 0, 1) := by decide +kernel
theorem dX1_init_1 : decode cX1_init 1 = .ok (.invokespecial 3, 3) := by decide +kernel
theorem dX1_init_4 : decode cX1_init 4 = .ok (.aload_n 0, 1) := by decide +kernel
theorem dX1_init_5 : decode cX1_init 5 = .ok (.aload_n 1, 1) := by decide +kernel
theorem dX1_init_6 : decode cX1_init 6 = .ok (.putfield 9, 3) := by decide +kernel
theorem dX1_init_9 : decode cX1_init 9 = .ok (.aload_n 0, 1) := by decide +kernel
theorem dX1_init_10 : decode cX1_init 10 = .ok (.iload_n 2, 1) := by decide +kernel
theorem dX1_init_11 : decode cX1_init 11 = .ok (.putfield 15, 3) := by decide +kernel
theorem dX1_init_14 : decode cX1_init 14 = .ok (.aload_n 0, 1) := by decide +kernel
theorem dX1_init_15 : decode cX1_init 15 = .ok (.iload_n 3, 1) := by decide +kernel
theorem dX1_init_16 : decode cX1_init 16 = .ok (.putfield 19, 3) := by decide +kernel
theorem dX1_init_19 : decode cX1_init 19 = .ok (.aload_n 0, 1) := by decide +kernel
theorem dX1_init_20 : decode cX1_init 20 = .ok (.iload 4, 2) := by decide +kernel
theorem dX1_init_22 : decode cX1_init 22 = .ok (.putfield 22, 3) := by decide +kernel
theorem dX1_init_25 : decode cX1_init 25 = .ok (.aload_n 0, 1) := by decide +kernel
theorem dX1_init_26 : decode cX1_init 26 = .ok (.bipush 61, 2) := by decide +kernel
theorem dX1_init_28 : decode cX1_init 28 = .ok (.newarray .boolean, 2) := by decide +kernel
theorem dX1_init_30 : decode cX1_init 30 = .ok (.putfield 25, 3) := by decide +kernel
theorem dX1_init_33 : decode cX1_init 33 = .ok (.return_, 1) := by decide +kernel
theorem dX1_isWetAt_0 : decode cX1_isWetAt 0 = .ok (.aload_n 0, 1) := by decide +kernel
theorem dX1_isWetAt_1 : decode cX1_isWetAt 1 = .ok (.getfield 9, 3) := by decide +kernel
theorem dX1_isWetAt_4 : decode cX1_isWetAt 4 = .ok (.aload_n 0, 1) := by decide +kernel
theorem dX1_isWetAt_5 : decode cX1_isWetAt 5 = .ok (.getfield 15, 3) := by decide +kernel
theorem dX1_isWetAt_8 : decode cX1_isWetAt 8 = .ok (.aload_n 0, 1) := by decide +kernel
theorem dX1_isWetAt_9 : decode cX1_isWetAt 9 = .ok (.getfield 9, 3) := by decide +kernel
theorem dX1_isWetAt_12 : decode cX1_isWetAt 12 = .ok (.getfield 29, 3) := by decide +kernel
theorem dX1_isWetAt_15 : decode cX1_isWetAt 15 = .ok (.iload_n 1, 1) := by decide +kernel
theorem dX1_isWetAt_16 : decode cX1_isWetAt 16 = .ok (.iaload, 1) := by decide +kernel
theorem dX1_isWetAt_17 : decode cX1_isWetAt 17 = .ok (.invokevirtual 35, 3) := by decide +kernel
theorem dX1_isWetAt_20 : decode cX1_isWetAt 20 = .ok (.ireturn, 1) := by decide +kernel
theorem dX1_worthAt_0 : decode cX1_worthAt 0 = .ok (.aload_n 0, 1) := by decide +kernel
theorem dX1_worthAt_1 : decode cX1_worthAt 1 = .ok (.getfield 19, 3) := by decide +kernel
theorem dX1_worthAt_4 : decode cX1_worthAt 4 = .ok (.aload_n 0, 1) := by decide +kernel
theorem dX1_worthAt_5 : decode cX1_worthAt 5 = .ok (.getfield 9, 3) := by decide +kernel
theorem dX1_worthAt_8 : decode cX1_worthAt 8 = .ok (.aload_n 0, 1) := by decide +kernel
theorem dX1_worthAt_9 : decode cX1_worthAt 9 = .ok (.getfield 15, 3) := by decide +kernel
theorem dX1_worthAt_12 : decode cX1_worthAt 12 = .ok (.aload_n 0, 1) := by decide +kernel
theorem dX1_worthAt_13 : decode cX1_worthAt 13 = .ok (.getfield 9, 3) := by decide +kernel
theorem dX1_worthAt_16 : decode cX1_worthAt 16 = .ok (.getfield 29, 3) := by decide +kernel
theorem dX1_worthAt_19 : decode cX1_worthAt 19 = .ok (.iload_n 1, 1) := by decide +kernel
theorem dX1_worthAt_20 : decode cX1_worthAt 20 = .ok (.iaload, 1) := by decide +kernel
theorem dX1_worthAt_21 : decode cX1_worthAt 21 = .ok (.invokevirtual 39, 3) := by decide +kernel
theorem dX1_worthAt_24 : decode cX1_worthAt 24 = .ok (.imul, 1) := by decide +kernel
theorem dX1_worthAt_25 : decode cX1_worthAt 25 = .ok (.ireturn, 1) := by decide +kernel
theorem dX1_worstHour_0 : decode cX1_worstHour 0 = .ok (.iconst 0, 1) := by decide +kernel
theorem dX1_worstHour_1 : decode cX1_worstHour 1 = .ok (.istore_n 2, 1) := by decide +kernel
theorem dX1_worstHour_2 : decode cX1_worstHour 2 = .ok (.iconst 0, 1) := by decide +kernel
theorem dX1_worstHour_3 : decode cX1_worstHour 3 = .ok (.istore_n 3, 1) := by decide +kernel
theorem dX1_worstHour_4 : decode cX1_worstHour 4 = .ok (.iconst 1, 1) := by decide +kernel
theorem dX1_worstHour_5 : decode cX1_worstHour 5 = .ok (.istore 4, 2) := by decide +kernel
theorem dX1_worstHour_7 : decode cX1_worstHour 7 = .ok (.iload 4, 2) := by decide +kernel
theorem dX1_worstHour_9 : decode cX1_worstHour 9 = .ok (.iload_n 1, 1) := by decide +kernel
theorem dX1_worstHour_10 : decode cX1_worstHour 10 = .ok (.if_icmp .gt 43, 3) := by decide +kernel
theorem dX1_worstHour_13 : decode cX1_worstHour 13 = .ok (.aload_n 0, 1) := by decide +kernel
theorem dX1_worstHour_14 : decode cX1_worstHour 14 = .ok (.getfield 25, 3) := by decide +kernel
theorem dX1_worstHour_17 : decode cX1_worstHour 17 = .ok (.iload 4, 2) := by decide +kernel
theorem dX1_worstHour_19 : decode cX1_worstHour 19 = .ok (.baload, 1) := by decide +kernel
theorem dX1_worstHour_20 : decode cX1_worstHour 20 = .ok (.ifCond .eq 7, 3) := by decide +kernel
theorem dX1_worstHour_23 : decode cX1_worstHour 23 = .ok (.iconst 0, 1) := by decide +kernel
theorem dX1_worstHour_24 : decode cX1_worstHour 24 = .ok (.goto 9, 3) := by decide +kernel
theorem dX1_worstHour_27 : decode cX1_worstHour 27 = .ok (.aload_n 0, 1) := by decide +kernel
theorem dX1_worstHour_28 : decode cX1_worstHour 28 = .ok (.iload 4, 2) := by decide +kernel
theorem dX1_worstHour_30 : decode cX1_worstHour 30 = .ok (.invokevirtual 43, 3) := by decide +kernel
theorem dX1_worstHour_33 : decode cX1_worstHour 33 = .ok (.istore 5, 2) := by decide +kernel
theorem dX1_worstHour_35 : decode cX1_worstHour 35 = .ok (.iload 5, 2) := by decide +kernel
theorem dX1_worstHour_37 : decode cX1_worstHour 37 = .ok (.iload_n 3, 1) := by decide +kernel
theorem dX1_worstHour_38 : decode cX1_worstHour 38 = .ok (.if_icmp .le 9, 3) := by decide +kernel
theorem dX1_worstHour_41 : decode cX1_worstHour 41 = .ok (.iload 5, 2) := by decide +kernel
theorem dX1_worstHour_43 : decode cX1_worstHour 43 = .ok (.istore_n 3, 1) := by decide +kernel
theorem dX1_worstHour_44 : decode cX1_worstHour 44 = .ok (.iload 4, 2) := by decide +kernel
theorem dX1_worstHour_46 : decode cX1_worstHour 46 = .ok (.istore_n 2, 1) := by decide +kernel
theorem dX1_worstHour_47 : decode cX1_worstHour 47 = .ok (.iinc 4 1, 3) := by decide +kernel
theorem dX1_worstHour_50 : decode cX1_worstHour 50 = .ok (.goto (-43), 3) := by decide +kernel
theorem dX1_worstHour_53 : decode cX1_worstHour 53 = .ok (.iload_n 2, 1) := by decide +kernel
theorem dX1_worstHour_54 : decode cX1_worstHour 54 = .ok (.ireturn, 1) := by decide +kernel
theorem dX1_pay_0 : decode cX1_pay 0 = .ok (.aload_n 0, 1) := by decide +kernel
theorem dX1_pay_1 : decode cX1_pay 1 = .ok (.iload_n 1, 1) := by decide +kernel
theorem dX1_pay_2 : decode cX1_pay 2 = .ok (.invokevirtual 43, 3) := by decide +kernel
theorem dX1_pay_5 : decode cX1_pay 5 = .ok (.aload_n 0, 1) := by decide +kernel
theorem dX1_pay_6 : decode cX1_pay 6 = .ok (.getfield 22, 3) := by decide +kernel
theorem dX1_pay_9 : decode cX1_pay 9 = .ok (.aload_n 0, 1) := by decide +kernel
theorem dX1_pay_10 : decode cX1_pay 10 = .ok (.getfield 47, 3) := by decide +kernel
theorem dX1_pay_13 : decode cX1_pay 13 = .ok (.isub, 1) := by decide +kernel
theorem dX1_pay_14 : decode cX1_pay 14 = .ok (.invokestatic 50, 3) := by decide +kernel
theorem dX1_pay_17 : decode cX1_pay 17 = .ok (.istore_n 2, 1) := by decide +kernel
theorem dX1_pay_18 : decode cX1_pay 18 = .ok (.aload_n 0, 1) := by decide +kernel
theorem dX1_pay_19 : decode cX1_pay 19 = .ok (.getfield 25, 3) := by decide +kernel
theorem dX1_pay_22 : decode cX1_pay 22 = .ok (.iload_n 1, 1) := by decide +kernel
theorem dX1_pay_23 : decode cX1_pay 23 = .ok (.iconst 1, 1) := by decide +kernel
theorem dX1_pay_24 : decode cX1_pay 24 = .ok (.bastore, 1) := by decide +kernel
theorem dX1_pay_25 : decode cX1_pay 25 = .ok (.aload_n 0, 1) := by decide +kernel
theorem dX1_pay_26 : decode cX1_pay 26 = .ok (.dup, 1) := by decide +kernel
theorem dX1_pay_27 : decode cX1_pay 27 = .ok (.getfield 55, 3) := by decide +kernel
theorem dX1_pay_30 : decode cX1_pay 30 = .ok (.iconst 1, 1) := by decide +kernel
theorem dX1_pay_31 : decode cX1_pay 31 = .ok (.iadd, 1) := by decide +kernel
theorem dX1_pay_32 : decode cX1_pay 32 = .ok (.putfield 55, 3) := by decide +kernel
theorem dX1_pay_35 : decode cX1_pay 35 = .ok (.aload_n 0, 1) := by decide +kernel
theorem dX1_pay_36 : decode cX1_pay 36 = .ok (.dup, 1) := by decide +kernel
theorem dX1_pay_37 : decode cX1_pay 37 = .ok (.getfield 47, 3) := by decide +kernel
theorem dX1_pay_40 : decode cX1_pay 40 = .ok (.iload_n 2, 1) := by decide +kernel
theorem dX1_pay_41 : decode cX1_pay 41 = .ok (.iadd, 1) := by decide +kernel
theorem dX1_pay_42 : decode cX1_pay 42 = .ok (.putfield 47, 3) := by decide +kernel
theorem dX1_pay_45 : decode cX1_pay 45 = .ok (.iload_n 2, 1) := by decide +kernel
theorem dX1_pay_46 : decode cX1_pay 46 = .ok (.ireturn, 1) := by decide +kernel
theorem dX2_init_0 : decode cX2_init 0 = .ok (.aload_n 0, 1) := by decide +kernel
theorem dX2_init_1 : decode cX2_init 1 = .ok (.invokespecial 1, 3) := by decide +kernel
theorem dX2_init_4 : decode cX2_init 4 = .ok (.aload_n 0, 1) := by decide +kernel
theorem dX2_init_5 : decode cX2_init 5 = .ok (.iload_n 1, 1) := by decide +kernel
theorem dX2_init_6 : decode cX2_init 6 = .ok (.putfield 7, 3) := by decide +kernel
theorem dX2_init_9 : decode cX2_init 9 = .ok (.aload_n 0, 1) := by decide +kernel
theorem dX2_init_10 : decode cX2_init 10 = .ok (.iload_n 2, 1) := by decide +kernel
theorem dX2_init_11 : decode cX2_init 11 = .ok (.putfield 13, 3) := by decide +kernel
theorem dX2_init_14 : decode cX2_init 14 = .ok (.aload_n 0, 1) := by decide +kernel
theorem dX2_init_15 : decode cX2_init 15 = .ok (.iload_n 3, 1) := by decide +kernel
theorem dX2_init_16 : decode cX2_init 16 = .ok (.putfield 16, 3) := by decide +kernel
theorem dX2_init_19 : decode cX2_init 19 = .ok (.aload_n 0, 1) := by decide +kernel
theorem dX2_init_20 : decode cX2_init 20 = .ok (.iload 4, 2) := by decide +kernel
theorem dX2_init_22 : decode cX2_init 22 = .ok (.putfield 20, 3) := by decide +kernel
theorem dX2_init_25 : decode cX2_init 25 = .ok (.aload_n 0, 1) := by decide +kernel
theorem dX2_init_26 : decode cX2_init 26 = .ok (.iload 5, 2) := by decide +kernel
theorem dX2_init_28 : decode cX2_init 28 = .ok (.putfield 23, 3) := by decide +kernel
theorem dX2_init_31 : decode cX2_init 31 = .ok (.return_, 1) := by decide +kernel
theorem dX3_init_0 : decode cX3_init 0 = .ok (.aload_n 0, 1) := by decide +kernel
theorem dX3_init_1 : decode cX3_init 1 = .ok (.invokespecial 3, 3) := by decide +kernel
theorem dX3_init_4 : decode cX3_init 4 = .ok (.aload_n 0, 1) := by decide +kernel
theorem dX3_init_5 : decode cX3_init 5 = .ok (.bipush 8, 2) := by decide +kernel
theorem dX3_init_7 : decode cX3_init 7 = .ok (.newarray .int, 2) := by decide +kernel
theorem dX3_init_9 : decode cX3_init 9 = .ok (.putfield 9, 3) := by decide +kernel
theorem dX3_init_12 : decode cX3_init 12 = .ok (.aload_n 0, 1) := by decide +kernel
theorem dX3_init_13 : decode cX3_init 13 = .ok (.getfield 9, 3) := by decide +kernel
theorem dX3_init_16 : decode cX3_init 16 = .ok (.iconst 0, 1) := by decide +kernel
theorem dX3_init_17 : decode cX3_init 17 = .ok (.iload_n 1, 1) := by decide +kernel
theorem dX3_init_18 : decode cX3_init 18 = .ok (.iastore, 1) := by decide +kernel
theorem dX3_init_19 : decode cX3_init 19 = .ok (.aload_n 0, 1) := by decide +kernel
theorem dX3_init_20 : decode cX3_init 20 = .ok (.iconst 1, 1) := by decide +kernel
theorem dX3_init_21 : decode cX3_init 21 = .ok (.putfield 15, 3) := by decide +kernel
theorem dX3_init_24 : decode cX3_init 24 = .ok (.aload_n 0, 1) := by decide +kernel
theorem dX3_init_25 : decode cX3_init 25 = .ok (.bipush 8, 2) := by decide +kernel
theorem dX3_init_27 : decode cX3_init 27 = .ok (.newarray .int, 2) := by decide +kernel
theorem dX3_init_29 : decode cX3_init 29 = .ok (.putfield 19, 3) := by decide +kernel
theorem dX3_init_32 : decode cX3_init 32 = .ok (.aload_n 0, 1) := by decide +kernel
theorem dX3_init_33 : decode cX3_init 33 = .ok (.bipush 8, 2) := by decide +kernel
theorem dX3_init_35 : decode cX3_init 35 = .ok (.newarray .int, 2) := by decide +kernel
theorem dX3_init_37 : decode cX3_init 37 = .ok (.putfield 22, 3) := by decide +kernel
theorem dX3_init_40 : decode cX3_init 40 = .ok (.aload_n 0, 1) := by decide +kernel
theorem dX3_init_41 : decode cX3_init 41 = .ok (.bipush 61, 2) := by decide +kernel
theorem dX3_init_43 : decode cX3_init 43 = .ok (.newarray .int, 2) := by decide +kernel
theorem dX3_init_45 : decode cX3_init 45 = .ok (.putfield 25, 3) := by decide +kernel
theorem dX3_init_48 : decode cX3_init 48 = .ok (.return_, 1) := by decide +kernel
theorem dX3_append_0 : decode cX3_append 0 = .ok (.aload_n 0, 1) := by decide +kernel
theorem dX3_append_1 : decode cX3_append 1 = .ok (.getfield 9, 3) := by decide +kernel
theorem dX3_append_4 : decode cX3_append 4 = .ok (.aload_n 0, 1) := by decide +kernel
theorem dX3_append_5 : decode cX3_append 5 = .ok (.getfield 15, 3) := by decide +kernel
theorem dX3_append_8 : decode cX3_append 8 = .ok (.iload_n 1, 1) := by decide +kernel
theorem dX3_append_9 : decode cX3_append 9 = .ok (.iastore, 1) := by decide +kernel
theorem dX3_append_10 : decode cX3_append 10 = .ok (.aload_n 0, 1) := by decide +kernel
theorem dX3_append_11 : decode cX3_append 11 = .ok (.dup, 1) := by decide +kernel
theorem dX3_append_12 : decode cX3_append 12 = .ok (.getfield 15, 3) := by decide +kernel
theorem dX3_append_15 : decode cX3_append 15 = .ok (.iconst 1, 1) := by decide +kernel
theorem dX3_append_16 : decode cX3_append 16 = .ok (.iadd, 1) := by decide +kernel
theorem dX3_append_17 : decode cX3_append 17 = .ok (.putfield 15, 3) := by decide +kernel
theorem dX3_append_20 : decode cX3_append 20 = .ok (.iconst 0, 1) := by decide +kernel
theorem dX3_append_21 : decode cX3_append 21 = .ok (.istore_n 2, 1) := by decide +kernel
theorem dX3_append_22 : decode cX3_append 22 = .ok (.iload_n 2, 1) := by decide +kernel
theorem dX3_append_23 : decode cX3_append 23 = .ok (.aload_n 0, 1) := by decide +kernel
theorem dX3_append_24 : decode cX3_append 24 = .ok (.getfield 15, 3) := by decide +kernel
theorem dX3_append_27 : decode cX3_append 27 = .ok (.if_icmp .ge 20, 3) := by decide +kernel
theorem dX3_append_30 : decode cX3_append 30 = .ok (.aload_n 0, 1) := by decide +kernel
theorem dX3_append_31 : decode cX3_append 31 = .ok (.getfield 19, 3) := by decide +kernel
theorem dX3_append_34 : decode cX3_append 34 = .ok (.iload_n 2, 1) := by decide +kernel
theorem dX3_append_35 : decode cX3_append 35 = .ok (.aload_n 0, 1) := by decide +kernel
theorem dX3_append_36 : decode cX3_append 36 = .ok (.iload_n 2, 1) := by decide +kernel
theorem dX3_append_37 : decode cX3_append 37 = .ok (.invokevirtual 28, 3) := by decide +kernel
theorem dX3_append_40 : decode cX3_append 40 = .ok (.iastore, 1) := by decide +kernel
theorem dX3_append_41 : decode cX3_append 41 = .ok (.iinc 2 1, 3) := by decide +kernel
theorem dX3_append_44 : decode cX3_append 44 = .ok (.goto (-22), 3) := by decide +kernel
theorem dX3_append_47 : decode cX3_append 47 = .ok (.return_, 1) := by decide +kernel
theorem dX3_volumeBefore_0 : decode cX3_volumeBefore 0 = .ok (.aload_n 0, 1) := by decide +kernel
theorem dX3_volumeBefore_1 : decode cX3_volumeBefore 1 = .ok (.iload_n 1, 1) := by decide +kernel
theorem dX3_volumeBefore_2 : decode cX3_volumeBefore 2 = .ok (.aload_n 0, 1) := by decide +kernel
theorem dX3_volumeBefore_3 : decode cX3_volumeBefore 3 = .ok (.getfield 9, 3) := by decide +kernel
theorem dX3_volumeBefore_6 : decode cX3_volumeBefore 6 = .ok (.iload_n 1, 1) := by decide +kernel
theorem dX3_volumeBefore_7 : decode cX3_volumeBefore 7 = .ok (.iaload, 1) := by decide +kernel
theorem dX3_volumeBefore_8 : decode cX3_volumeBefore 8 = .ok (.invokevirtual 32, 3) := by decide +kernel
theorem dX3_volumeBefore_11 : decode cX3_volumeBefore 11 = .ok (.istore_n 2, 1) := by decide +kernel
theorem dX3_volumeBefore_12 : decode cX3_volumeBefore 12 = .ok (.iconst 0, 1) := by decide +kernel
theorem dX3_volumeBefore_13 : decode cX3_volumeBefore 13 = .ok (.istore_n 3, 1) := by decide +kernel
theorem dX3_volumeBefore_14 : decode cX3_volumeBefore 14 = .ok (.iload_n 3, 1) := by decide +kernel
theorem dX3_volumeBefore_15 : decode cX3_volumeBefore 15 = .ok (.aload_n 0, 1) := by decide +kernel
theorem dX3_volumeBefore_16 : decode cX3_volumeBefore 16 = .ok (.getfield 15, 3) := by decide +kernel
theorem dX3_volumeBefore_19 : decode cX3_volumeBefore 19 = .ok (.if_icmp .ge 29, 3) := by decide +kernel
theorem dX3_volumeBefore_22 : decode cX3_volumeBefore 22 = .ok (.iload_n 2, 1) := by decide +kernel
theorem dX3_volumeBefore_23 : decode cX3_volumeBefore 23 = .ok (.aload_n 0, 1) := by decide +kernel
theorem dX3_volumeBefore_24 : decode cX3_volumeBefore 24 = .ok (.getfield 9, 3) := by decide +kernel
theorem dX3_volumeBefore_27 : decode cX3_volumeBefore 27 = .ok (.iload_n 1, 1) := by decide +kernel
theorem dX3_volumeBefore_28 : decode cX3_volumeBefore 28 = .ok (.iaload, 1) := by decide +kernel
theorem dX3_volumeBefore_29 : decode cX3_volumeBefore 29 = .ok (.aload_n 0, 1) := by decide +kernel
theorem dX3_volumeBefore_30 : decode cX3_volumeBefore 30 = .ok (.getfield 9, 3) := by decide +kernel
theorem dX3_volumeBefore_33 : decode cX3_volumeBefore 33 = .ok (.iload_n 3, 1) := by decide +kernel
theorem dX3_volumeBefore_34 : decode cX3_volumeBefore 34 = .ok (.iaload, 1) := by decide +kernel
theorem dX3_volumeBefore_35 : decode cX3_volumeBefore 35 = .ok (.isub, 1) := by decide +kernel
theorem dX3_volumeBefore_36 : decode cX3_volumeBefore 36 = .ok (.iconst 0, 1) := by decide +kernel
theorem dX3_volumeBefore_37 : decode cX3_volumeBefore 37 = .ok (.invokestatic 36, 3) := by decide +kernel
theorem dX3_volumeBefore_40 : decode cX3_volumeBefore 40 = .ok (.iadd, 1) := by decide +kernel
theorem dX3_volumeBefore_41 : decode cX3_volumeBefore 41 = .ok (.istore_n 2, 1) := by decide +kernel
theorem dX3_volumeBefore_42 : decode cX3_volumeBefore 42 = .ok (.iinc 3 1, 3) := by decide +kernel
theorem dX3_volumeBefore_45 : decode cX3_volumeBefore 45 = .ok (.goto (-31), 3) := by decide +kernel
theorem dX3_volumeBefore_48 : decode cX3_volumeBefore 48 = .ok (.iload_n 2, 1) := by decide +kernel
theorem dX3_volumeBefore_49 : decode cX3_volumeBefore 49 = .ok (.ireturn, 1) := by decide +kernel
theorem dX3_isWet_0 : decode cX3_isWet 0 = .ok (.iload_n 2, 1) := by decide +kernel
theorem dX3_isWet_1 : decode cX3_isWet 1 = .ok (.aload_n 0, 1) := by decide +kernel
theorem dX3_isWet_2 : decode cX3_isWet 2 = .ok (.getfield 19, 3) := by decide +kernel
theorem dX3_isWet_5 : decode cX3_isWet 5 = .ok (.iload_n 1, 1) := by decide +kernel
theorem dX3_isWet_6 : decode cX3_isWet 6 = .ok (.iaload, 1) := by decide +kernel
theorem dX3_isWet_7 : decode cX3_isWet 7 = .ok (.if_icmp .le 7, 3) := by decide +kernel
theorem dX3_isWet_10 : decode cX3_isWet 10 = .ok (.iconst 1, 1) := by decide +kernel
theorem dX3_isWet_11 : decode cX3_isWet 11 = .ok (.goto 4, 3) := by decide +kernel
theorem dX3_isWet_14 : decode cX3_isWet 14 = .ok (.iconst 0, 1) := by decide +kernel
theorem dX3_isWet_15 : decode cX3_isWet 15 = .ok (.ireturn, 1) := by decide +kernel
theorem dX3_countWet_0 : decode cX3_countWet 0 = .ok (.iconst 0, 1) := by decide +kernel
theorem dX3_countWet_1 : decode cX3_countWet 1 = .ok (.istore_n 2, 1) := by decide +kernel
theorem dX3_countWet_2 : decode cX3_countWet 2 = .ok (.iconst 0, 1) := by decide +kernel
theorem dX3_countWet_3 : decode cX3_countWet 3 = .ok (.istore_n 3, 1) := by decide +kernel
theorem dX3_countWet_4 : decode cX3_countWet 4 = .ok (.iload_n 3, 1) := by decide +kernel
theorem dX3_countWet_5 : decode cX3_countWet 5 = .ok (.aload_n 0, 1) := by decide +kernel
theorem dX3_countWet_6 : decode cX3_countWet 6 = .ok (.getfield 15, 3) := by decide +kernel
theorem dX3_countWet_9 : decode cX3_countWet 9 = .ok (.if_icmp .ge 21, 3) := by decide +kernel
theorem dX3_countWet_12 : decode cX3_countWet 12 = .ok (.aload_n 0, 1) := by decide +kernel
theorem dX3_countWet_13 : decode cX3_countWet 13 = .ok (.iload_n 3, 1) := by decide +kernel
theorem dX3_countWet_14 : decode cX3_countWet 14 = .ok (.iload_n 1, 1) := by decide +kernel
theorem dX3_countWet_15 : decode cX3_countWet 15 = .ok (.invokevirtual 41, 3) := by decide +kernel
theorem dX3_countWet_18 : decode cX3_countWet 18 = .ok (.ifCond .eq 6, 3) := by decide +kernel
theorem dX3_countWet_21 : decode cX3_countWet 21 = .ok (.iinc 2 1, 3) := by decide +kernel
theorem dX3_countWet_24 : decode cX3_countWet 24 = .ok (.iinc 3 1, 3) := by decide +kernel
theorem dX3_countWet_27 : decode cX3_countWet 27 = .ok (.goto (-23), 3) := by decide +kernel
theorem dX3_countWet_30 : decode cX3_countWet 30 = .ok (.iload_n 2, 1) := by decide +kernel
theorem dX3_countWet_31 : decode cX3_countWet 31 = .ok (.ireturn, 1) := by decide +kernel
theorem dX3_depthOf_0 : decode cX3_depthOf 0 = .ok (.iconst 0, 1) := by decide +kernel
theorem dX3_depthOf_1 : decode cX3_depthOf 1 = .ok (.istore_n 3, 1) := by decide +kernel
theorem dX3_depthOf_2 : decode cX3_depthOf 2 = .ok (.iload_n 2, 1) := by decide +kernel
theorem dX3_depthOf_3 : decode cX3_depthOf 3 = .ok (.istore 4, 2) := by decide +kernel
theorem dX3_depthOf_5 : decode cX3_depthOf 5 = .ok (.iload_n 3, 1) := by decide +kernel
theorem dX3_depthOf_6 : decode cX3_depthOf 6 = .ok (.bipush 30, 2) := by decide +kernel
theorem dX3_depthOf_8 : decode cX3_depthOf 8 = .ok (.if_icmp .ge 29, 3) := by decide +kernel
theorem dX3_depthOf_11 : decode cX3_depthOf 11 = .ok (.iload 4, 2) := by decide +kernel
theorem dX3_depthOf_13 : decode cX3_depthOf 13 = .ok (.aload_n 0, 1) := by decide +kernel
theorem dX3_depthOf_14 : decode cX3_depthOf 14 = .ok (.iload_n 3, 1) := by decide +kernel
theorem dX3_depthOf_15 : decode cX3_depthOf 15 = .ok (.invokevirtual 45, 3) := by decide +kernel
theorem dX3_depthOf_18 : decode cX3_depthOf 18 = .ok (.if_icmp .lt 19, 3) := by decide +kernel
theorem dX3_depthOf_21 : decode cX3_depthOf 21 = .ok (.iload 4, 2) := by decide +kernel
theorem dX3_depthOf_23 : decode cX3_depthOf 23 = .ok (.aload_n 0, 1) := by decide +kernel
theorem dX3_depthOf_24 : decode cX3_depthOf 24 = .ok (.iload_n 3, 1) := by decide +kernel
theorem dX3_depthOf_25 : decode cX3_depthOf 25 = .ok (.invokevirtual 45, 3) := by decide +kernel
theorem dX3_depthOf_28 : decode cX3_depthOf 28 = .ok (.isub, 1) := by decide +kernel
theorem dX3_depthOf_29 : decode cX3_depthOf 29 = .ok (.istore 4, 2) := by decide +kernel
theorem dX3_depthOf_31 : decode cX3_depthOf 31 = .ok (.iinc 3 1, 3) := by decide +kernel
theorem dX3_depthOf_34 : decode cX3_depthOf 34 = .ok (.goto (-29), 3) := by decide +kernel
theorem dX3_depthOf_37 : decode cX3_depthOf 37 = .ok (.aload_n 0, 1) := by decide +kernel
theorem dX3_depthOf_38 : decode cX3_depthOf 38 = .ok (.iload_n 3, 1) := by decide +kernel
theorem dX3_depthOf_39 : decode cX3_depthOf 39 = .ok (.invokevirtual 45, 3) := by decide +kernel
theorem dX3_depthOf_42 : decode cX3_depthOf 42 = .ok (.istore 5, 2) := by decide +kernel
theorem dX3_depthOf_44 : decode cX3_depthOf 44 = .ok (.iload 5, 2) := by decide +kernel
theorem dX3_depthOf_46 : decode cX3_depthOf 46 = .ok (.ifCond .le 18, 3) := by decide +kernel
theorem dX3_depthOf_49 : decode cX3_depthOf 49 = .ok (.iload_n 3, 1) := by decide +kernel
theorem dX3_depthOf_50 : decode cX3_depthOf 50 = .ok (.iload 4, 2) := by decide +kernel
theorem dX3_depthOf_52 : decode cX3_depthOf 52 = .ok (.iload 5, 2) := by decide +kernel
theorem dX3_depthOf_54 : decode cX3_depthOf 54 = .ok (.idiv, 1) := by decide +kernel
theorem dX3_depthOf_55 : decode cX3_depthOf 55 = .ok (.iadd, 1) := by decide +kernel
theorem dX3_depthOf_56 : decode cX3_depthOf 56 = .ok (.istore_n 3, 1) := by decide +kernel
theorem dX3_depthOf_57 : decode cX3_depthOf 57 = .ok (.iload 4, 2) := by decide +kernel
theorem dX3_depthOf_59 : decode cX3_depthOf 59 = .ok (.iload 5, 2) := by decide +kernel
theorem dX3_depthOf_61 : decode cX3_depthOf 61 = .ok (.irem, 1) := by decide +kernel
theorem dX3_depthOf_62 : decode cX3_depthOf 62 = .ok (.istore 4, 2) := by decide +kernel
theorem dX3_depthOf_64 : decode cX3_depthOf 64 = .ok (.aload_n 0, 1) := by decide +kernel
theorem dX3_depthOf_65 : decode cX3_depthOf 65 = .ok (.getfield 9, 3) := by decide +kernel
theorem dX3_depthOf_68 : decode cX3_depthOf 68 = .ok (.iload_n 1, 1) := by decide +kernel
theorem dX3_depthOf_69 : decode cX3_depthOf 69 = .ok (.iaload, 1) := by decide +kernel
theorem dX3_depthOf_70 : decode cX3_depthOf 70 = .ok (.iload_n 3, 1) := by decide +kernel
theorem dX3_depthOf_71 : decode cX3_depthOf 71 = .ok (.if_icmp .le 5, 3) := by decide +kernel
theorem dX3_depthOf_74 : decode cX3_depthOf 74 = .ok (.iconst 0, 1) := by decide +kernel
theorem dX3_depthOf_75 : decode cX3_depthOf 75 = .ok (.ireturn, 1) := by decide +kernel
theorem dX3_depthOf_76 : decode cX3_depthOf 76 = .ok (.aload_n 0, 1) := by decide +kernel
theorem dX3_depthOf_77 : decode cX3_depthOf 77 = .ok (.iload_n 1, 1) := by decide +kernel
theorem dX3_depthOf_78 : decode cX3_depthOf 78 = .ok (.iload_n 3, 1) := by decide +kernel
theorem dX3_depthOf_79 : decode cX3_depthOf 79 = .ok (.invokevirtual 32, 3) := by decide +kernel
theorem dX3_depthOf_82 : decode cX3_depthOf 82 = .ok (.iload 4, 2) := by decide +kernel
theorem dX3_depthOf_84 : decode cX3_depthOf 84 = .ok (.if_icmp .ge 7, 3) := by decide +kernel
theorem dX3_depthOf_87 : decode cX3_depthOf 87 = .ok (.iconst 1, 1) := by decide +kernel
theorem dX3_depthOf_88 : decode cX3_depthOf 88 = .ok (.goto 4, 3) := by decide +kernel
theorem dX3_depthOf_91 : decode cX3_depthOf 91 = .ok (.iconst 0, 1) := by decide +kernel
theorem dX3_depthOf_92 : decode cX3_depthOf 92 = .ok (.istore 6, 2) := by decide +kernel
theorem dX3_depthOf_94 : decode cX3_depthOf 94 = .ok (.iload_n 3, 1) := by decide +kernel
theorem dX3_depthOf_95 : decode cX3_depthOf 95 = .ok (.aload_n 0, 1) := by decide +kernel
theorem dX3_depthOf_96 : decode cX3_depthOf 96 = .ok (.getfield 9, 3) := by decide +kernel
theorem dX3_depthOf_99 : decode cX3_depthOf 99 = .ok (.iload_n 1, 1) := by decide +kernel
theorem dX3_depthOf_100 : decode cX3_depthOf 100 = .ok (.iaload, 1) := by decide +kernel
theorem dX3_depthOf_101 : decode cX3_depthOf 101 = .ok (.isub, 1) := by decide +kernel
theorem dX3_depthOf_102 : decode cX3_depthOf 102 = .ok (.iload 6, 2) := by decide +kernel
theorem dX3_depthOf_104 : decode cX3_depthOf 104 = .ok (.iadd, 1) := by decide +kernel
theorem dX3_depthOf_105 : decode cX3_depthOf 105 = .ok (.ireturn, 1) := by decide +kernel
theorem dX3_cellsUpTo_0 : decode cX3_cellsUpTo 0 = .ok (.aload_n 0, 1) := by decide +kernel
theorem dX3_cellsUpTo_1 : decode cX3_cellsUpTo 1 = .ok (.aload_n 0, 1) := by decide +kernel
theorem dX3_cellsUpTo_2 : decode cX3_cellsUpTo 2 = .ok (.getfield 15, 3) := by decide +kernel
theorem dX3_cellsUpTo_5 : decode cX3_cellsUpTo 5 = .ok (.iload_n 1, 1) := by decide +kernel
theorem dX3_cellsUpTo_6 : decode cX3_cellsUpTo 6 = .ok (.invokevirtual 32, 3) := by decide +kernel
theorem dX3_cellsUpTo_9 : decode cX3_cellsUpTo 9 = .ok (.ireturn, 1) := by decide +kernel
theorem dX3_cellsAhead_0 : decode cX3_cellsAhead 0 = .ok (.iconst 0, 1) := by decide +kernel
theorem dX3_cellsAhead_1 : decode cX3_cellsAhead 1 = .ok (.istore_n 3, 1) := by decide +kernel
theorem dX3_cellsAhead_2 : decode cX3_cellsAhead 2 = .ok (.iconst 0, 1) := by decide +kernel
theorem dX3_cellsAhead_3 : decode cX3_cellsAhead 3 = .ok (.istore 4, 2) := by decide +kernel
theorem dX3_cellsAhead_5 : decode cX3_cellsAhead 5 = .ok (.iload 4, 2) := by decide +kernel
theorem dX3_cellsAhead_7 : decode cX3_cellsAhead 7 = .ok (.iload_n 1, 1) := by decide +kernel
theorem dX3_cellsAhead_8 : decode cX3_cellsAhead 8 = .ok (.if_icmp .ge 23, 3) := by decide +kernel
theorem dX3_cellsAhead_11 : decode cX3_cellsAhead 11 = .ok (.aload_n 0, 1) := by decide +kernel
theorem dX3_cellsAhead_12 : decode cX3_cellsAhead 12 = .ok (.getfield 9, 3) := by decide +kernel
theorem dX3_cellsAhead_15 : decode cX3_cellsAhead 15 = .ok (.iload 4, 2) := by decide +kernel
theorem dX3_cellsAhead_17 : decode cX3_cellsAhead 17 = .ok (.iaload, 1) := by decide +kernel
theorem dX3_cellsAhead_18 : decode cX3_cellsAhead 18 = .ok (.iload_n 2, 1) := by decide +kernel
theorem dX3_cellsAhead_19 : decode cX3_cellsAhead 19 = .ok (.if_icmp .gt 6, 3) := by decide +kernel
theorem dX3_cellsAhead_22 : decode cX3_cellsAhead 22 = .ok (.iinc 3 1, 3) := by decide +kernel
theorem dX3_cellsAhead_25 : decode cX3_cellsAhead 25 = .ok (.iinc 4 1, 3) := by decide +kernel
theorem dX3_cellsAhead_28 : decode cX3_cellsAhead 28 = .ok (.goto (-23), 3) := by decide +kernel
theorem dX3_cellsAhead_31 : decode cX3_cellsAhead 31 = .ok (.iload_n 3, 1) := by decide +kernel
theorem dX3_cellsAhead_32 : decode cX3_cellsAhead 32 = .ok (.ireturn, 1) := by decide +kernel
theorem dX3_depthPoured_0 : decode cX3_depthPoured 0 = .ok (.aload_n 0, 1) := by decide +kernel
theorem dX3_depthPoured_1 : decode cX3_depthPoured 1 = .ok (.getfield 22, 3) := by decide +kernel
theorem dX3_depthPoured_4 : decode cX3_depthPoured 4 = .ok (.iconst 0, 1) := by decide +kernel
theorem dX3_depthPoured_5 : decode cX3_depthPoured 5 = .ok (.invokestatic 48, 3) := by decide +kernel
theorem dX3_depthPoured_8 : decode cX3_depthPoured 8 = .ok (.iconst 0, 1) := by decide +kernel
theorem dX3_depthPoured_9 : decode cX3_depthPoured 9 = .ok (.istore_n 3, 1) := by decide +kernel
theorem dX3_depthPoured_10 : decode cX3_depthPoured 10 = .ok (.iload_n 3, 1) := by decide +kernel
theorem dX3_depthPoured_11 : decode cX3_depthPoured 11 = .ok (.iload_n 2, 1) := by decide +kernel
theorem dX3_depthPoured_12 : decode cX3_depthPoured 12 = .ok (.if_icmp .ge 22, 3) := by decide +kernel
theorem dX3_depthPoured_15 : decode cX3_depthPoured 15 = .ok (.aload_n 0, 1) := by decide +kernel
theorem dX3_depthPoured_16 : decode cX3_depthPoured 16 = .ok (.getfield 22, 3) := by decide +kernel
theorem dX3_depthPoured_19 : decode cX3_depthPoured 19 = .ok (.aload_n 0, 1) := by decide +kernel
theorem dX3_depthPoured_20 : decode cX3_depthPoured 20 = .ok (.invokevirtual 54, 3) := by decide +kernel
theorem dX3_depthPoured_23 : decode cX3_depthPoured 23 = .ok (.dup2, 1) := by decide +kernel
theorem dX3_depthPoured_24 : decode cX3_depthPoured 24 = .ok (.iaload, 1) := by decide +kernel
theorem dX3_depthPoured_25 : decode cX3_depthPoured 25 = .ok (.iconst 1, 1) := by decide +kernel
theorem dX3_depthPoured_26 : decode cX3_depthPoured 26 = .ok (.iadd, 1) := by decide +kernel
theorem dX3_depthPoured_27 : decode cX3_depthPoured 27 = .ok (.iastore, 1) := by decide +kernel
theorem dX3_depthPoured_28 : decode cX3_depthPoured 28 = .ok (.iinc 3 1, 3) := by decide +kernel
theorem dX3_depthPoured_31 : decode cX3_depthPoured 31 = .ok (.goto (-21), 3) := by decide +kernel
theorem dX3_depthPoured_34 : decode cX3_depthPoured 34 = .ok (.aload_n 0, 1) := by decide +kernel
theorem dX3_depthPoured_35 : decode cX3_depthPoured 35 = .ok (.getfield 22, 3) := by decide +kernel
theorem dX3_depthPoured_38 : decode cX3_depthPoured 38 = .ok (.iload_n 1, 1) := by decide +kernel
theorem dX3_depthPoured_39 : decode cX3_depthPoured 39 = .ok (.iaload, 1) := by decide +kernel
theorem dX3_depthPoured_40 : decode cX3_depthPoured 40 = .ok (.ireturn, 1) := by decide +kernel
theorem dX3_lowestCell_0 : decode cX3_lowestCell 0 = .ok (.iconst 0, 1) := by decide +kernel
theorem dX3_lowestCell_1 : decode cX3_lowestCell 1 = .ok (.istore_n 1, 1) := by decide +kernel
theorem dX3_lowestCell_2 : decode cX3_lowestCell 2 = .ok (.iconst 1, 1) := by decide +kernel
theorem dX3_lowestCell_3 : decode cX3_lowestCell 3 = .ok (.istore_n 2, 1) := by decide +kernel
theorem dX3_lowestCell_4 : decode cX3_lowestCell 4 = .ok (.iload_n 2, 1) := by decide +kernel
theorem dX3_lowestCell_5 : decode cX3_lowestCell 5 = .ok (.aload_n 0, 1) := by decide +kernel
theorem dX3_lowestCell_6 : decode cX3_lowestCell 6 = .ok (.getfield 15, 3) := by decide +kernel
theorem dX3_lowestCell_9 : decode cX3_lowestCell 9 = .ok (.if_icmp .ge 40, 3) := by decide +kernel
theorem dX3_lowestCell_12 : decode cX3_lowestCell 12 = .ok (.aload_n 0, 1) := by decide +kernel
theorem dX3_lowestCell_13 : decode cX3_lowestCell 13 = .ok (.getfield 9, 3) := by decide +kernel
theorem dX3_lowestCell_16 : decode cX3_lowestCell 16 = .ok (.iload_n 2, 1) := by decide +kernel
theorem dX3_lowestCell_17 : decode cX3_lowestCell 17 = .ok (.iaload, 1) := by decide +kernel
theorem dX3_lowestCell_18 : decode cX3_lowestCell 18 = .ok (.aload_n 0, 1) := by decide +kernel
theorem dX3_lowestCell_19 : decode cX3_lowestCell 19 = .ok (.getfield 22, 3) := by decide +kernel
theorem dX3_lowestCell_22 : decode cX3_lowestCell 22 = .ok (.iload_n 2, 1) := by decide +kernel
theorem dX3_lowestCell_23 : decode cX3_lowestCell 23 = .ok (.iaload, 1) := by decide +kernel
theorem dX3_lowestCell_24 : decode cX3_lowestCell 24 = .ok (.iadd, 1) := by decide +kernel
theorem dX3_lowestCell_25 : decode cX3_lowestCell 25 = .ok (.aload_n 0, 1) := by decide +kernel
theorem dX3_lowestCell_26 : decode cX3_lowestCell 26 = .ok (.getfield 9, 3) := by decide +kernel
theorem dX3_lowestCell_29 : decode cX3_lowestCell 29 = .ok (.iload_n 1, 1) := by decide +kernel
theorem dX3_lowestCell_30 : decode cX3_lowestCell 30 = .ok (.iaload, 1) := by decide +kernel
theorem dX3_lowestCell_31 : decode cX3_lowestCell 31 = .ok (.aload_n 0, 1) := by decide +kernel
theorem dX3_lowestCell_32 : decode cX3_lowestCell 32 = .ok (.getfield 22, 3) := by decide +kernel
theorem dX3_lowestCell_35 : decode cX3_lowestCell 35 = .ok (.iload_n 1, 1) := by decide +kernel
theorem dX3_lowestCell_36 : decode cX3_lowestCell 36 = .ok (.iaload, 1) := by decide +kernel
theorem dX3_lowestCell_37 : decode cX3_lowestCell 37 = .ok (.iadd, 1) := by decide +kernel
theorem dX3_lowestCell_38 : decode cX3_lowestCell 38 = .ok (.if_icmp .ge 5, 3) := by decide +kernel
theorem dX3_lowestCell_41 : decode cX3_lowestCell 41 = .ok (.iload_n 2, 1) := by decide +kernel
theorem dX3_lowestCell_42 : decode cX3_lowestCell 42 = .ok (.istore_n 1, 1) := by decide +kernel
theorem dX3_lowestCell_43 : decode cX3_lowestCell 43 = .ok (.iinc 2 1, 3) := by decide +kernel
theorem dX3_lowestCell_46 : decode cX3_lowestCell 46 = .ok (.goto (-42), 3) := by decide +kernel
theorem dX3_lowestCell_49 : decode cX3_lowestCell 49 = .ok (.iload_n 1, 1) := by decide +kernel
theorem dX3_lowestCell_50 : decode cX3_lowestCell 50 = .ok (.ireturn, 1) := by decide +kernel
theorem dX4_init_0 : decode cX4_init 0 = .ok (.aload_n 0, 1) := by decide +kernel
theorem dX4_init_1 : decode cX4_init 1 = .ok (.invokespecial 3, 3) := by decide +kernel
theorem dX4_init_4 : decode cX4_init 4 = .ok (.aload_n 0, 1) := by decide +kernel
theorem dX4_init_5 : decode cX4_init 5 = .ok (.bipush 6, 2) := by decide +kernel
theorem dX4_init_7 : decode cX4_init 7 = .ok (.newarray .int, 2) := by decide +kernel
theorem dX4_init_9 : decode cX4_init 9 = .ok (.putfield 9, 3) := by decide +kernel
theorem dX4_init_12 : decode cX4_init 12 = .ok (.aload_n 0, 1) := by decide +kernel
theorem dX4_init_13 : decode cX4_init 13 = .ok (.bipush 6, 2) := by decide +kernel
theorem dX4_init_15 : decode cX4_init 15 = .ok (.newarray .int, 2) := by decide +kernel
theorem dX4_init_17 : decode cX4_init 17 = .ok (.putfield 15, 3) := by decide +kernel
theorem dX4_init_20 : decode cX4_init 20 = .ok (.aload_n 0, 1) := by decide +kernel
theorem dX4_init_21 : decode cX4_init 21 = .ok (.bipush 6, 2) := by decide +kernel
theorem dX4_init_23 : decode cX4_init 23 = .ok (.newarray .int, 2) := by decide +kernel
theorem dX4_init_25 : decode cX4_init 25 = .ok (.putfield 18, 3) := by decide +kernel
theorem dX4_init_28 : decode cX4_init 28 = .ok (.return_, 1) := by decide +kernel
theorem dX4_clear_0 : decode cX4_clear 0 = .ok (.aload_n 0, 1) := by decide +kernel
theorem dX4_clear_1 : decode cX4_clear 1 = .ok (.getfield 9, 3) := by decide +kernel
theorem dX4_clear_4 : decode cX4_clear 4 = .ok (.iconst 0, 1) := by decide +kernel
theorem dX4_clear_5 : decode cX4_clear 5 = .ok (.invokestatic 21, 3) := by decide +kernel
theorem dX4_clear_8 : decode cX4_clear 8 = .ok (.aload_n 0, 1) := by decide +kernel
theorem dX4_clear_9 : decode cX4_clear 9 = .ok (.getfield 15, 3) := by decide +kernel
theorem dX4_clear_12 : decode cX4_clear 12 = .ok (.iconst 0, 1) := by decide +kernel
theorem dX4_clear_13 : decode cX4_clear 13 = .ok (.invokestatic 21, 3) := by decide +kernel
theorem dX4_clear_16 : decode cX4_clear 16 = .ok (.aload_n 0, 1) := by decide +kernel
theorem dX4_clear_17 : decode cX4_clear 17 = .ok (.iconst 0, 1) := by decide +kernel
theorem dX4_clear_18 : decode cX4_clear 18 = .ok (.putfield 27, 3) := by decide +kernel
theorem dX4_clear_21 : decode cX4_clear 21 = .ok (.return_, 1) := by decide +kernel
theorem dX4_held_0 : decode cX4_held 0 = .ok (.iconst 0, 1) := by decide +kernel
theorem dX4_held_1 : decode cX4_held 1 = .ok (.istore_n 1, 1) := by decide +kernel
theorem dX4_held_2 : decode cX4_held 2 = .ok (.iconst 0, 1) := by decide +kernel
theorem dX4_held_3 : decode cX4_held 3 = .ok (.istore_n 2, 1) := by decide +kernel
theorem dX4_held_4 : decode cX4_held 4 = .ok (.iload_n 2, 1) := by decide +kernel
theorem dX4_held_5 : decode cX4_held 5 = .ok (.bipush 6, 2) := by decide +kernel
theorem dX4_held_7 : decode cX4_held 7 = .ok (.if_icmp .ge 25, 3) := by decide +kernel
theorem dX4_held_10 : decode cX4_held 10 = .ok (.iload_n 1, 1) := by decide +kernel
theorem dX4_held_11 : decode cX4_held 11 = .ok (.aload_n 0, 1) := by decide +kernel
theorem dX4_held_12 : decode cX4_held 12 = .ok (.getfield 9, 3) := by decide +kernel
theorem dX4_held_15 : decode cX4_held 15 = .ok (.iload_n 2, 1) := by decide +kernel
theorem dX4_held_16 : decode cX4_held 16 = .ok (.iaload, 1) := by decide +kernel
theorem dX4_held_17 : decode cX4_held 17 = .ok (.aload_n 0, 1) := by decide +kernel
theorem dX4_held_18 : decode cX4_held 18 = .ok (.getfield 15, 3) := by decide +kernel
theorem dX4_held_21 : decode cX4_held 21 = .ok (.iload_n 2, 1) := by decide +kernel
theorem dX4_held_22 : decode cX4_held 22 = .ok (.iaload, 1) := by decide +kernel
theorem dX4_held_23 : decode cX4_held 23 = .ok (.iadd, 1) := by decide +kernel
theorem dX4_held_24 : decode cX4_held 24 = .ok (.iadd, 1) := by decide +kernel
theorem dX4_held_25 : decode cX4_held 25 = .ok (.istore_n 1, 1) := by decide +kernel
theorem dX4_held_26 : decode cX4_held 26 = .ok (.iinc 2 1, 3) := by decide +kernel
theorem dX4_held_29 : decode cX4_held 29 = .ok (.goto (-25), 3) := by decide +kernel
theorem dX4_held_32 : decode cX4_held 32 = .ok (.iload_n 1, 1) := by decide +kernel
theorem dX4_held_33 : decode cX4_held 33 = .ok (.ireturn, 1) := by decide +kernel
theorem dX4_runThroughGate_0 : decode cX4_runThroughGate 0 = .ok (.aload_n 0, 1) := by decide +kernel
theorem dX4_runThroughGate_1 : decode cX4_runThroughGate 1 = .ok (.getfield 9, 3) := by decide +kernel
theorem dX4_runThroughGate_4 : decode cX4_runThroughGate 4 = .ok (.iload_n 1, 1) := by decide +kernel
theorem dX4_runThroughGate_5 : decode cX4_runThroughGate 5 = .ok (.dup2, 1) := by decide +kernel
theorem dX4_runThroughGate_6 : decode cX4_runThroughGate 6 = .ok (.iaload, 1) := by decide +kernel
theorem dX4_runThroughGate_7 : decode cX4_runThroughGate 7 = .ok (.aload_n 0, 1) := by decide +kernel
theorem dX4_runThroughGate_8 : decode cX4_runThroughGate 8 = .ok (.getfield 18, 3) := by decide +kernel
theorem dX4_runThroughGate_11 : decode cX4_runThroughGate 11 = .ok (.iload_n 1, 1) := by decide +kernel
theorem dX4_runThroughGate_12 : decode cX4_runThroughGate 12 = .ok (.iaload, 1) := by decide +kernel
theorem dX4_runThroughGate_13 : decode cX4_runThroughGate 13 = .ok (.isub, 1) := by decide +kernel
theorem dX4_runThroughGate_14 : decode cX4_runThroughGate 14 = .ok (.iastore, 1) := by decide +kernel
theorem dX4_runThroughGate_15 : decode cX4_runThroughGate 15 = .ok (.iload_n 2, 1) := by decide +kernel
theorem dX4_runThroughGate_16 : decode cX4_runThroughGate 16 = .ok (.iconst (-1), 1) := by decide +kernel
theorem dX4_runThroughGate_17 : decode cX4_runThroughGate 17 = .ok (.if_icmp .ne 21, 3) := by decide +kernel
theorem dX4_runThroughGate_20 : decode cX4_runThroughGate 20 = .ok (.aload_n 0, 1) := by decide +kernel
theorem dX4_runThroughGate_21 : decode cX4_runThroughGate 21 = .ok (.dup, 1) := by decide +kernel
theorem dX4_runThroughGate_22 : decode cX4_runThroughGate 22 = .ok (.getfield 27, 3) := by decide +kernel
theorem dX4_runThroughGate_25 : decode cX4_runThroughGate 25 = .ok (.aload_n 0, 1) := by decide +kernel
theorem dX4_runThroughGate_26 : decode cX4_runThroughGate 26 = .ok (.getfield 18, 3) := by decide +kernel
theorem dX4_runThroughGate_29 : decode cX4_runThroughGate 29 = .ok (.iload_n 1, 1) := by decide +kernel
theorem dX4_runThroughGate_30 : decode cX4_runThroughGate 30 = .ok (.iaload, 1) := by decide +kernel
theorem dX4_runThroughGate_31 : decode cX4_runThroughGate 31 = .ok (.iadd, 1) := by decide +kernel
theorem dX4_runThroughGate_32 : decode cX4_runThroughGate 32 = .ok (.putfield 27, 3) := by decide +kernel
theorem dX4_runThroughGate_35 : decode cX4_runThroughGate 35 = .ok (.goto 18, 3) := by decide +kernel
theorem dX4_runThroughGate_38 : decode cX4_runThroughGate 38 = .ok (.aload_n 0, 1) := by decide +kernel
theorem dX4_runThroughGate_39 : decode cX4_runThroughGate 39 = .ok (.getfield 9, 3) := by decide +kernel
theorem dX4_runThroughGate_42 : decode cX4_runThroughGate 42 = .ok (.iload_n 2, 1) := by decide +kernel
theorem dX4_runThroughGate_43 : decode cX4_runThroughGate 43 = .ok (.dup2, 1) := by decide +kernel
theorem dX4_runThroughGate_44 : decode cX4_runThroughGate 44 = .ok (.iaload, 1) := by decide +kernel
theorem dX4_runThroughGate_45 : decode cX4_runThroughGate 45 = .ok (.aload_n 0, 1) := by decide +kernel
theorem dX4_runThroughGate_46 : decode cX4_runThroughGate 46 = .ok (.getfield 18, 3) := by decide +kernel
theorem dX4_runThroughGate_49 : decode cX4_runThroughGate 49 = .ok (.iload_n 1, 1) := by decide +kernel
theorem dX4_runThroughGate_50 : decode cX4_runThroughGate 50 = .ok (.iaload, 1) := by decide +kernel
theorem dX4_runThroughGate_51 : decode cX4_runThroughGate 51 = .ok (.iadd, 1) := by decide +kernel
theorem dX4_runThroughGate_52 : decode cX4_runThroughGate 52 = .ok (.iastore, 1) := by decide +kernel
theorem dX4_runThroughGate_53 : decode cX4_runThroughGate 53 = .ok (.return_, 1) := by decide +kernel
theorem dX4_settle_0 : decode cX4_settle 0 = .ok (.iload_n 2, 1) := by decide +kernel
theorem dX4_settle_1 : decode cX4_settle 1 = .ok (.aload_n 0, 1) := by decide +kernel
theorem dX4_settle_2 : decode cX4_settle 2 = .ok (.getfield 9, 3) := by decide +kernel
theorem dX4_settle_5 : decode cX4_settle 5 = .ok (.iload_n 1, 1) := by decide +kernel
theorem dX4_settle_6 : decode cX4_settle 6 = .ok (.iaload, 1) := by decide +kernel
theorem dX4_settle_7 : decode cX4_settle 7 = .ok (.isub, 1) := by decide +kernel
theorem dX4_settle_8 : decode cX4_settle 8 = .ok (.istore_n 3, 1) := by decide +kernel
theorem dX4_settle_9 : decode cX4_settle 9 = .ok (.iload_n 3, 1) := by decide +kernel
theorem dX4_settle_10 : decode cX4_settle 10 = .ok (.ifCond .ge 23, 3) := by decide +kernel
theorem dX4_settle_13 : decode cX4_settle 13 = .ok (.aload_n 0, 1) := by decide +kernel
theorem dX4_settle_14 : decode cX4_settle 14 = .ok (.getfield 15, 3) := by decide +kernel
theorem dX4_settle_17 : decode cX4_settle 17 = .ok (.iload_n 1, 1) := by decide +kernel
theorem dX4_settle_18 : decode cX4_settle 18 = .ok (.dup2, 1) := by decide +kernel
theorem dX4_settle_19 : decode cX4_settle 19 = .ok (.iaload, 1) := by decide +kernel
theorem dX4_settle_20 : decode cX4_settle 20 = .ok (.iload_n 3, 1) := by decide +kernel
theorem dX4_settle_21 : decode cX4_settle 21 = .ok (.isub, 1) := by decide +kernel
theorem dX4_settle_22 : decode cX4_settle 22 = .ok (.iastore, 1) := by decide +kernel
theorem dX4_settle_23 : decode cX4_settle 23 = .ok (.aload_n 0, 1) := by decide +kernel
theorem dX4_settle_24 : decode cX4_settle 24 = .ok (.getfield 9, 3) := by decide +kernel
theorem dX4_settle_27 : decode cX4_settle 27 = .ok (.iload_n 1, 1) := by decide +kernel
theorem dX4_settle_28 : decode cX4_settle 28 = .ok (.iload_n 2, 1) := by decide +kernel
theorem dX4_settle_29 : decode cX4_settle 29 = .ok (.iastore, 1) := by decide +kernel
theorem dX4_settle_30 : decode cX4_settle 30 = .ok (.goto 37, 3) := by decide +kernel
theorem dX4_settle_33 : decode cX4_settle 33 = .ok (.aload_n 0, 1) := by decide +kernel
theorem dX4_settle_34 : decode cX4_settle 34 = .ok (.getfield 15, 3) := by decide +kernel
theorem dX4_settle_37 : decode cX4_settle 37 = .ok (.iload_n 1, 1) := by decide +kernel
theorem dX4_settle_38 : decode cX4_settle 38 = .ok (.iaload, 1) := by decide +kernel
theorem dX4_settle_39 : decode cX4_settle 39 = .ok (.iload_n 3, 1) := by decide +kernel
theorem dX4_settle_40 : decode cX4_settle 40 = .ok (.invokestatic 31, 3) := by decide +kernel
theorem dX4_settle_43 : decode cX4_settle 43 = .ok (.istore 4, 2) := by decide +kernel
theorem dX4_settle_45 : decode cX4_settle 45 = .ok (.aload_n 0, 1) := by decide +kernel
theorem dX4_settle_46 : decode cX4_settle 46 = .ok (.getfield 15, 3) := by decide +kernel
theorem dX4_settle_49 : decode cX4_settle 49 = .ok (.iload_n 1, 1) := by decide +kernel
theorem dX4_settle_50 : decode cX4_settle 50 = .ok (.dup2, 1) := by decide +kernel
theorem dX4_settle_51 : decode cX4_settle 51 = .ok (.iaload, 1) := by decide +kernel
theorem dX4_settle_52 : decode cX4_settle 52 = .ok (.iload 4, 2) := by decide +kernel
theorem dX4_settle_54 : decode cX4_settle 54 = .ok (.isub, 1) := by decide +kernel
theorem dX4_settle_55 : decode cX4_settle 55 = .ok (.iastore, 1) := by decide +kernel
theorem dX4_settle_56 : decode cX4_settle 56 = .ok (.aload_n 0, 1) := by decide +kernel
theorem dX4_settle_57 : decode cX4_settle 57 = .ok (.getfield 9, 3) := by decide +kernel
theorem dX4_settle_60 : decode cX4_settle 60 = .ok (.iload_n 1, 1) := by decide +kernel
theorem dX4_settle_61 : decode cX4_settle 61 = .ok (.dup2, 1) := by decide +kernel
theorem dX4_settle_62 : decode cX4_settle 62 = .ok (.iaload, 1) := by decide +kernel
theorem dX4_settle_63 : decode cX4_settle 63 = .ok (.iload 4, 2) := by decide +kernel
theorem dX4_settle_65 : decode cX4_settle 65 = .ok (.iadd, 1) := by decide +kernel
theorem dX4_settle_66 : decode cX4_settle 66 = .ok (.iastore, 1) := by decide +kernel
theorem dX4_settle_67 : decode cX4_settle 67 = .ok (.return_, 1) := by decide +kernel
theorem dX5_init_0 : decode cX5_init 0 = .ok (.aload_n 0, 1) := by decide +kernel
theorem dX5_init_1 : decode cX5_init 1 = .ok (.invokespecial 1, 3) := by decide +kernel
theorem dX5_init_4 : decode cX5_init 4 = .ok (.aload_n 0, 1) := by decide +kernel
theorem dX5_init_5 : decode cX5_init 5 = .ok (.new 7, 3) := by decide +kernel
theorem dX5_init_8 : decode cX5_init 8 = .ok (.dup, 1) := by decide +kernel
theorem dX5_init_9 : decode cX5_init 9 = .ok (.invokespecial 9, 3) := by decide +kernel
theorem dX5_init_12 : decode cX5_init 12 = .ok (.putfield 10, 3) := by decide +kernel
theorem dX5_init_15 : decode cX5_init 15 = .ok (.aload_n 0, 1) := by decide +kernel
theorem dX5_init_16 : decode cX5_init 16 = .ok (.new 7, 3) := by decide +kernel
theorem dX5_init_19 : decode cX5_init 19 = .ok (.dup, 1) := by decide +kernel
theorem dX5_init_20 : decode cX5_init 20 = .ok (.invokespecial 9, 3) := by decide +kernel
theorem dX5_init_23 : decode cX5_init 23 = .ok (.putfield 16, 3) := by decide +kernel
theorem dX5_init_26 : decode cX5_init 26 = .ok (.aload_n 0, 1) := by decide +kernel
theorem dX5_init_27 : decode cX5_init 27 = .ok (.new 7, 3) := by decide +kernel
theorem dX5_init_30 : decode cX5_init 30 = .ok (.dup, 1) := by decide +kernel
theorem dX5_init_31 : decode cX5_init 31 = .ok (.invokespecial 9, 3) := by decide +kernel
theorem dX5_init_34 : decode cX5_init 34 = .ok (.putfield 19, 3) := by decide +kernel
theorem dX5_init_37 : decode cX5_init 37 = .ok (.aload_n 0, 1) := by decide +kernel
theorem dX5_init_38 : decode cX5_init 38 = .ok (.new 22, 3) := by decide +kernel
theorem dX5_init_41 : decode cX5_init 41 = .ok (.dup, 1) := by decide +kernel
theorem dX5_init_42 : decode cX5_init 42 = .ok (.invokespecial 24, 3) := by decide +kernel
theorem dX5_init_45 : decode cX5_init 45 = .ok (.putfield 25, 3) := by decide +kernel
theorem dX5_init_48 : decode cX5_init 48 = .ok (.aload_n 0, 1) := by decide +kernel
theorem dX5_init_49 : decode cX5_init 49 = .ok (.new 22, 3) := by decide +kernel
theorem dX5_init_52 : decode cX5_init 52 = .ok (.dup, 1) := by decide +kernel
theorem dX5_init_53 : decode cX5_init 53 = .ok (.invokespecial 24, 3) := by decide +kernel
theorem dX5_init_56 : decode cX5_init 56 = .ok (.putfield 29, 3) := by decide +kernel
theorem dX5_init_59 : decode cX5_init 59 = .ok (.aload_n 0, 1) := by decide +kernel
theorem dX5_init_60 : decode cX5_init 60 = .ok (.new 32, 3) := by decide +kernel
theorem dX5_init_63 : decode cX5_init 63 = .ok (.dup, 1) := by decide +kernel
theorem dX5_init_64 : decode cX5_init 64 = .ok (.invokespecial 34, 3) := by decide +kernel
theorem dX5_init_67 : decode cX5_init 67 = .ok (.putfield 35, 3) := by decide +kernel
theorem dX5_init_70 : decode cX5_init 70 = .ok (.return_, 1) := by decide +kernel
theorem dX5_addBasin_0 : decode cX5_addBasin 0 = .ok (.aload_n 0, 1) := by decide +kernel
theorem dX5_addBasin_1 : decode cX5_addBasin 1 = .ok (.getfield 10, 3) := by decide +kernel
theorem dX5_addBasin_4 : decode cX5_addBasin 4 = .ok (.invokevirtual 39, 3) := by decide +kernel
theorem dX5_addBasin_7 : decode cX5_addBasin 7 = .ok (.istore 6, 2) := by decide +kernel
theorem dX5_addBasin_9 : decode cX5_addBasin 9 = .ok (.iload 6, 2) := by decide +kernel
theorem dX5_addBasin_11 : decode cX5_addBasin 11 = .ok (.ifCond .ne 17, 3) := by decide +kernel
theorem dX5_addBasin_14 : decode cX5_addBasin 14 = .ok (.iload 4, 2) := by decide +kernel
theorem dX5_addBasin_16 : decode cX5_addBasin 16 = .ok (.iconst (-1), 1) := by decide +kernel
theorem dX5_addBasin_17 : decode cX5_addBasin 17 = .ok (.if_icmp .ne 7, 3) := by decide +kernel
theorem dX5_addBasin_20 : decode cX5_addBasin 20 = .ok (.iconst 1, 1) := by decide +kernel
theorem dX5_addBasin_21 : decode cX5_addBasin 21 = .ok (.goto 17, 3) := by decide +kernel
theorem dX5_addBasin_24 : decode cX5_addBasin 24 = .ok (.iconst 0, 1) := by decide +kernel
theorem dX5_addBasin_25 : decode cX5_addBasin 25 = .ok (.goto 13, 3) := by decide +kernel
theorem dX5_addBasin_28 : decode cX5_addBasin 28 = .ok (.iload 4, 2) := by decide +kernel
theorem dX5_addBasin_30 : decode cX5_addBasin 30 = .ok (.iconst 0, 1) := by decide +kernel
theorem dX5_addBasin_31 : decode cX5_addBasin 31 = .ok (.iload 6, 2) := by decide +kernel
theorem dX5_addBasin_33 : decode cX5_addBasin 33 = .ok (.iconst 1, 1) := by decide +kernel
theorem dX5_addBasin_34 : decode cX5_addBasin 34 = .ok (.isub, 1) := by decide +kernel
theorem dX5_addBasin_35 : decode cX5_addBasin 35 = .ok (.invokestatic 43, 3) := by decide +kernel
theorem dX5_addBasin_38 : decode cX5_addBasin 38 = .ok (.istore 7, 2) := by decide +kernel
theorem dX5_addBasin_40 : decode cX5_addBasin 40 = .ok (.iload 7, 2) := by decide +kernel
theorem dX5_addBasin_42 : decode cX5_addBasin 42 = .ok (.ifCond .ne 13, 3) := by decide +kernel
theorem dX5_addBasin_45 : decode cX5_addBasin 45 = .ok (.new 47, 3) := by decide +kernel
theorem dX5_addBasin_48 : decode cX5_addBasin 48 = .ok (.dup, 1) := by decide +kernel
theorem dX5_addBasin_49 : decode cX5_addBasin 49 = .ok (.ldc 49, 2) := by decide +kernel
theorem dX5_addBasin_51 : decode cX5_addBasin 51 = .ok (.invokespecial 51, 3) := by decide +kernel
theorem dX5_addBasin_54 : decode cX5_addBasin 54 = .ok (.athrow, 1) := by decide +kernel
theorem dX5_addBasin_55 : decode cX5_addBasin 55 = .ok (.iload_n 1, 1) := by decide +kernel
theorem dX5_addBasin_56 : decode cX5_addBasin 56 = .ok (.iconst 1, 1) := by decide +kernel
theorem dX5_addBasin_57 : decode cX5_addBasin 57 = .ok (.bipush 50, 2) := by decide +kernel
theorem dX5_addBasin_59 : decode cX5_addBasin 59 = .ok (.invokestatic 43, 3) := by decide +kernel
theorem dX5_addBasin_62 : decode cX5_addBasin 62 = .ok (.ifCond .eq 23, 3) := by decide +kernel
theorem dX5_addBasin_65 : decode cX5_addBasin 65 = .ok (.iload_n 2, 1) := by decide +kernel
theorem dX5_addBasin_66 : decode cX5_addBasin 66 = .ok (.iconst 1, 1) := by decide +kernel
theorem dX5_addBasin_67 : decode cX5_addBasin 67 = .ok (.bipush 40, 2) := by decide +kernel
theorem dX5_addBasin_69 : decode cX5_addBasin 69 = .ok (.invokestatic 43, 3) := by decide +kernel
theorem dX5_addBasin_72 : decode cX5_addBasin 72 = .ok (.ifCond .eq 13, 3) := by decide +kernel
theorem dX5_addBasin_75 : decode cX5_addBasin 75 = .ok (.iload_n 3, 1) := by decide +kernel
theorem dX5_addBasin_76 : decode cX5_addBasin 76 = .ok (.iconst 0, 1) := by decide +kernel
theorem dX5_addBasin_77 : decode cX5_addBasin 77 = .ok (.bipush 20, 2) := by decide +kernel
theorem dX5_addBasin_79 : decode cX5_addBasin 79 = .ok (.invokestatic 43, 3) := by decide +kernel
theorem dX5_addBasin_82 : decode cX5_addBasin 82 = .ok (.ifCond .ne 13, 3) := by decide +kernel
theorem dX5_addBasin_85 : decode cX5_addBasin 85 = .ok (.new 54, 3) := by decide +kernel
theorem dX5_addBasin_88 : decode cX5_addBasin 88 = .ok (.dup, 1) := by decide +kernel
theorem dX5_addBasin_89 : decode cX5_addBasin 89 = .ok (.ldc 56, 2) := by decide +kernel
theorem dX5_addBasin_91 : decode cX5_addBasin 91 = .ok (.invokespecial 58, 3) := by decide +kernel
theorem dX5_addBasin_94 : decode cX5_addBasin 94 = .ok (.athrow, 1) := by decide +kernel
theorem dX5_addBasin_95 : decode cX5_addBasin 95 = .ok (.iload 5, 2) := by decide +kernel
theorem dX5_addBasin_97 : decode cX5_addBasin 97 = .ok (.invokestatic 59, 3) := by decide +kernel
theorem dX5_addBasin_100 : decode cX5_addBasin 100 = .ok (.iload 6, 2) := by decide +kernel
theorem dX5_addBasin_102 : decode cX5_addBasin 102 = .ok (.bipush 6, 2) := by decide +kernel
theorem dX5_addBasin_104 : decode cX5_addBasin 104 = .ok (.if_icmp .lt 13, 3) := by decide +kernel
theorem dX5_addBasin_107 : decode cX5_addBasin 107 = .ok (.new 63, 3) := by decide +kernel
theorem dX5_addBasin_110 : decode cX5_addBasin 110 = .ok (.dup, 1) := by decide +kernel
theorem dX5_addBasin_111 : decode cX5_addBasin 111 = .ok (.ldc 65, 2) := by decide +kernel
theorem dX5_addBasin_113 : decode cX5_addBasin 113 = .ok (.invokespecial 67, 3) := by decide +kernel
theorem dX5_addBasin_116 : decode cX5_addBasin 116 = .ok (.athrow, 1) := by decide +kernel
theorem dX5_addBasin_117 : decode cX5_addBasin 117 = .ok (.aload_n 0, 1) := by decide +kernel
theorem dX5_addBasin_118 : decode cX5_addBasin 118 = .ok (.invokevirtual 68, 3) := by decide +kernel
theorem dX5_addBasin_121 : decode cX5_addBasin 121 = .ok (.aload_n 0, 1) := by decide +kernel
theorem dX5_addBasin_122 : decode cX5_addBasin 122 = .ok (.getfield 10, 3) := by decide +kernel
theorem dX5_addBasin_125 : decode cX5_addBasin 125 = .ok (.new 71, 3) := by decide +kernel
theorem dX5_addBasin_128 : decode cX5_addBasin 128 = .ok (.dup, 1) := by decide +kernel
theorem dX5_addBasin_129 : decode cX5_addBasin 129 = .ok (.iload_n 1, 1) := by decide +kernel
theorem dX5_addBasin_130 : decode cX5_addBasin 130 = .ok (.iload_n 2, 1) := by decide +kernel
theorem dX5_addBasin_131 : decode cX5_addBasin 131 = .ok (.iload_n 3, 1) := by decide +kernel
theorem dX5_addBasin_132 : decode cX5_addBasin 132 = .ok (.iload 4, 2) := by decide +kernel
theorem dX5_addBasin_134 : decode cX5_addBasin 134 = .ok (.iload 5, 2) := by decide +kernel
theorem dX5_addBasin_136 : decode cX5_addBasin 136 = .ok (.invokespecial 73, 3) := by decide +kernel
theorem dX5_addBasin_139 : decode cX5_addBasin 139 = .ok (.invokevirtual 76, 3) := by decide +kernel
theorem dX5_addBasin_142 : decode cX5_addBasin 142 = .ok (.pop, 1) := by decide +kernel
theorem dX5_addBasin_143 : decode cX5_addBasin 143 = .ok (.iload 6, 2) := by decide +kernel
theorem dX5_addBasin_145 : decode cX5_addBasin 145 = .ok (.ireturn, 1) := by decide +kernel
theorem dX5_addCell_0 : decode cX5_addCell 0 = .ok (.aload_n 0, 1) := by decide +kernel
theorem dX5_addCell_1 : decode cX5_addCell 1 = .ok (.iload_n 1, 1) := by decide +kernel
theorem dX5_addCell_2 : decode cX5_addCell 2 = .ok (.invokevirtual 80, 3) := by decide +kernel
theorem dX5_addCell_5 : decode cX5_addCell 5 = .ok (.getfield 84, 3) := by decide +kernel
theorem dX5_addCell_8 : decode cX5_addCell 8 = .ok (.astore_n 3, 1) := by decide +kernel
theorem dX5_addCell_9 : decode cX5_addCell 9 = .ok (.iload_n 2, 1) := by decide +kernel
theorem dX5_addCell_10 : decode cX5_addCell 10 = .ok (.invokestatic 59, 3) := by decide +kernel
theorem dX5_addCell_13 : decode cX5_addCell 13 = .ok (.aload_n 3, 1) := by decide +kernel
theorem dX5_addCell_14 : decode cX5_addCell 14 = .ok (.getfield 88, 3) := by decide +kernel
theorem dX5_addCell_17 : decode cX5_addCell 17 = .ok (.bipush 8, 2) := by decide +kernel
theorem dX5_addCell_19 : decode cX5_addCell 19 = .ok (.if_icmp .lt 13, 3) := by decide +kernel
theorem dX5_addCell_22 : decode cX5_addCell 22 = .ok (.new 63, 3) := by decide +kernel
theorem dX5_addCell_25 : decode cX5_addCell 25 = .ok (.dup, 1) := by decide +kernel
theorem dX5_addCell_26 : decode cX5_addCell 26 = .ok (.ldc 94, 2) := by decide +kernel
theorem dX5_addCell_28 : decode cX5_addCell 28 = .ok (.invokespecial 67, 3) := by decide +kernel
theorem dX5_addCell_31 : decode cX5_addCell 31 = .ok (.athrow, 1) := by decide +kernel
theorem dX5_addCell_32 : decode cX5_addCell 32 = .ok (.aload_n 0, 1) := by decide +kernel
theorem dX5_addCell_33 : decode cX5_addCell 33 = .ok (.invokevirtual 68, 3) := by decide +kernel
theorem dX5_addCell_36 : decode cX5_addCell 36 = .ok (.aload_n 3, 1) := by decide +kernel
theorem dX5_addCell_37 : decode cX5_addCell 37 = .ok (.iload_n 2, 1) := by decide +kernel
theorem dX5_addCell_38 : decode cX5_addCell 38 = .ok (.invokevirtual 96, 3) := by decide +kernel
theorem dX5_addCell_41 : decode cX5_addCell 41 = .ok (.aload_n 3, 1) := by decide +kernel
theorem dX5_addCell_42 : decode cX5_addCell 42 = .ok (.getfield 88, 3) := by decide +kernel
theorem dX5_addCell_45 : decode cX5_addCell 45 = .ok (.ireturn, 1) := by decide +kernel
theorem dX5_basinCount_0 : decode cX5_basinCount 0 = .ok (.aload_n 0, 1) := by decide +kernel
theorem dX5_basinCount_1 : decode cX5_basinCount 1 = .ok (.getfield 10, 3) := by decide +kernel
theorem dX5_basinCount_4 : decode cX5_basinCount 4 = .ok (.invokevirtual 39, 3) := by decide +kernel
theorem dX5_basinCount_7 : decode cX5_basinCount 7 = .ok (.ireturn, 1) := by decide +kernel
theorem dX5_cellCount_0 : decode cX5_cellCount 0 = .ok (.aload_n 0, 1) := by decide +kernel
theorem dX5_cellCount_1 : decode cX5_cellCount 1 = .ok (.iload_n 1, 1) := by decide +kernel
theorem dX5_cellCount_2 : decode cX5_cellCount 2 = .ok (.invokevirtual 80, 3) := by decide +kernel
theorem dX5_cellCount_5 : decode cX5_cellCount 5 = .ok (.getfield 84, 3) := by decide +kernel
theorem dX5_cellCount_8 : decode cX5_cellCount 8 = .ok (.getfield 88, 3) := by decide +kernel
theorem dX5_cellCount_11 : decode cX5_cellCount 11 = .ok (.ireturn, 1) := by decide +kernel
theorem dX5_capacityOf_0 : decode cX5_capacityOf 0 = .ok (.aload_n 0, 1) := by decide +kernel
theorem dX5_capacityOf_1 : decode cX5_capacityOf 1 = .ok (.iload_n 1, 1) := by decide +kernel
theorem dX5_capacityOf_2 : decode cX5_capacityOf 2 = .ok (.invokevirtual 80, 3) := by decide +kernel
theorem dX5_capacityOf_5 : decode cX5_capacityOf 5 = .ok (.invokevirtual 99, 3) := by decide +kernel
theorem dX5_capacityOf_8 : decode cX5_capacityOf 8 = .ok (.ireturn, 1) := by decide +kernel
theorem dX5_setHand_0 : decode cX5_setHand 0 = .ok (.aload_n 0, 1) := by decide +kernel
theorem dX5_setHand_1 : decode cX5_setHand 1 = .ok (.iload_n 1, 1) := by decide +kernel
theorem dX5_setHand_2 : decode cX5_setHand 2 = .ok (.invokevirtual 80, 3) := by decide +kernel
theorem dX5_setHand_5 : decode cX5_setHand 5 = .ok (.astore_n 3, 1) := by decide +kernel
theorem dX5_setHand_6 : decode cX5_setHand 6 = .ok (.iload_n 2, 1) := by decide +kernel
theorem dX5_setHand_7 : decode cX5_setHand 7 = .ok (.invokestatic 102, 3) := by decide +kernel
theorem dX5_setHand_10 : decode cX5_setHand 10 = .ok (.aload_n 3, 1) := by decide +kernel
theorem dX5_setHand_11 : decode cX5_setHand 11 = .ok (.getfield 105, 3) := by decide +kernel
theorem dX5_setHand_14 : decode cX5_setHand 14 = .ok (.istore 4, 2) := by decide +kernel
theorem dX5_setHand_16 : decode cX5_setHand 16 = .ok (.aload_n 3, 1) := by decide +kernel
theorem dX5_setHand_17 : decode cX5_setHand 17 = .ok (.iload_n 2, 1) := by decide +kernel
theorem dX5_setHand_18 : decode cX5_setHand 18 = .ok (.putfield 105, 3) := by decide +kernel
theorem dX5_setHand_21 : decode cX5_setHand 21 = .ok (.iload 4, 2) := by decide +kernel
theorem dX5_setHand_23 : decode cX5_setHand 23 = .ok (.ireturn, 1) := by decide +kernel
theorem dX5_addRule_0 : decode cX5_addRule 0 = .ok (.aload_n 0, 1) := by decide +kernel
theorem dX5_addRule_1 : decode cX5_addRule 1 = .ok (.iload_n 1, 1) := by decide +kernel
theorem dX5_addRule_2 : decode cX5_addRule 2 = .ok (.invokevirtual 108, 3) := by decide +kernel
theorem dX5_addRule_5 : decode cX5_addRule 5 = .ok (.aload_n 0, 1) := by decide +kernel
theorem dX5_addRule_6 : decode cX5_addRule 6 = .ok (.iload_n 2, 1) := by decide +kernel
theorem dX5_addRule_7 : decode cX5_addRule 7 = .ok (.invokevirtual 108, 3) := by decide +kernel
theorem dX5_addRule_10 : decode cX5_addRule 10 = .ok (.iload 4, 2) := by decide +kernel
theorem dX5_addRule_12 : decode cX5_addRule 12 = .ok (.iconst 0, 1) := by decide +kernel
theorem dX5_addRule_13 : decode cX5_addRule 13 = .ok (.bipush 40, 2) := by decide +kernel
theorem dX5_addRule_15 : decode cX5_addRule 15 = .ok (.invokestatic 43, 3) := by decide +kernel
theorem dX5_addRule_18 : decode cX5_addRule 18 = .ok (.ifCond .ne 13, 3) := by decide +kernel
theorem dX5_addRule_21 : decode cX5_addRule 21 = .ok (.new 54, 3) := by decide +kernel
theorem dX5_addRule_24 : decode cX5_addRule 24 = .ok (.dup, 1) := by decide +kernel
theorem dX5_addRule_25 : decode cX5_addRule 25 = .ok (.ldc 111, 2) := by decide +kernel
theorem dX5_addRule_27 : decode cX5_addRule 27 = .ok (.invokespecial 58, 3) := by decide +kernel
theorem dX5_addRule_30 : decode cX5_addRule 30 = .ok (.athrow, 1) := by decide +kernel
theorem dX5_addRule_31 : decode cX5_addRule 31 = .ok (.iload 5, 2) := by decide +kernel
theorem dX5_addRule_33 : decode cX5_addRule 33 = .ok (.invokestatic 102, 3) := by decide +kernel
theorem dX5_addRule_36 : decode cX5_addRule 36 = .ok (.aload_n 0, 1) := by decide +kernel
theorem dX5_addRule_37 : decode cX5_addRule 37 = .ok (.getfield 16, 3) := by decide +kernel
theorem dX5_addRule_40 : decode cX5_addRule 40 = .ok (.invokevirtual 39, 3) := by decide +kernel
theorem dX5_addRule_43 : decode cX5_addRule 43 = .ok (.bipush 12, 2) := by decide +kernel
theorem dX5_addRule_45 : decode cX5_addRule 45 = .ok (.if_icmp .lt 13, 3) := by decide +kernel
theorem dX5_addRule_48 : decode cX5_addRule 48 = .ok (.new 63, 3) := by decide +kernel
theorem dX5_addRule_51 : decode cX5_addRule 51 = .ok (.dup, 1) := by decide +kernel
theorem dX5_addRule_52 : decode cX5_addRule 52 = .ok (.ldc 113, 2) := by decide +kernel
theorem dX5_addRule_54 : decode cX5_addRule 54 = .ok (.invokespecial 67, 3) := by decide +kernel
theorem dX5_addRule_57 : decode cX5_addRule 57 = .ok (.athrow, 1) := by decide +kernel
theorem dX5_addRule_58 : decode cX5_addRule 58 = .ok (.aload_n 0, 1) := by decide +kernel
theorem dX5_addRule_59 : decode cX5_addRule 59 = .ok (.getfield 16, 3) := by decide +kernel
theorem dX5_addRule_62 : decode cX5_addRule 62 = .ok (.new 115, 3) := by decide +kernel
theorem dX5_addRule_65 : decode cX5_addRule 65 = .ok (.dup, 1) := by decide +kernel
theorem dX5_addRule_66 : decode cX5_addRule 66 = .ok (.iload_n 1, 1) := by decide +kernel
theorem dX5_addRule_67 : decode cX5_addRule 67 = .ok (.iload_n 2, 1) := by decide +kernel
theorem dX5_addRule_68 : decode cX5_addRule 68 = .ok (.iload_n 3, 1) := by decide +kernel
theorem dX5_addRule_69 : decode cX5_addRule 69 = .ok (.iload 4, 2) := by decide +kernel
theorem dX5_addRule_71 : decode cX5_addRule 71 = .ok (.iload 5, 2) := by decide +kernel
theorem dX5_addRule_73 : decode cX5_addRule 73 = .ok (.invokespecial 117, 3) := by decide +kernel
theorem dX5_addRule_76 : decode cX5_addRule 76 = .ok (.invokevirtual 76, 3) := by decide +kernel
theorem dX5_addRule_79 : decode cX5_addRule 79 = .ok (.pop, 1) := by decide +kernel
theorem dX5_addRule_80 : decode cX5_addRule 80 = .ok (.aload_n 0, 1) := by decide +kernel
theorem dX5_addRule_81 : decode cX5_addRule 81 = .ok (.getfield 16, 3) := by decide +kernel
theorem dX5_addRule_84 : decode cX5_addRule 84 = .ok (.invokevirtual 39, 3) := by decide +kernel
theorem dX5_addRule_87 : decode cX5_addRule 87 = .ok (.ireturn, 1) := by decide +kernel
theorem dX5_removeRule_0 : decode cX5_removeRule 0 = .ok (.aload_n 0, 1) := by decide +kernel
theorem dX5_removeRule_1 : decode cX5_removeRule 1 = .ok (.iload_n 1, 1) := by decide +kernel
theorem dX5_removeRule_2 : decode cX5_removeRule 2 = .ok (.invokevirtual 120, 3) := by decide +kernel
theorem dX5_removeRule_5 : decode cX5_removeRule 5 = .ok (.aload_n 0, 1) := by decide +kernel
theorem dX5_removeRule_6 : decode cX5_removeRule 6 = .ok (.getfield 16, 3) := by decide +kernel
theorem dX5_removeRule_9 : decode cX5_removeRule 9 = .ok (.iload_n 1, 1) := by decide +kernel
theorem dX5_removeRule_10 : decode cX5_removeRule 10 = .ok (.invokevirtual 123, 3) := by decide +kernel
theorem dX5_removeRule_13 : decode cX5_removeRule 13 = .ok (.pop, 1) := by decide +kernel
theorem dX5_removeRule_14 : decode cX5_removeRule 14 = .ok (.aload_n 0, 1) := by decide +kernel
theorem dX5_removeRule_15 : decode cX5_removeRule 15 = .ok (.getfield 16, 3) := by decide +kernel
theorem dX5_removeRule_18 : decode cX5_removeRule 18 = .ok (.invokevirtual 39, 3) := by decide +kernel
theorem dX5_removeRule_21 : decode cX5_removeRule 21 = .ok (.ireturn, 1) := by decide +kernel
theorem dX5_ruleCount_0 : decode cX5_ruleCount 0 = .ok (.aload_n 0, 1) := by decide +kernel
theorem dX5_ruleCount_1 : decode cX5_ruleCount 1 = .ok (.getfield 16, 3) := by decide +kernel
theorem dX5_ruleCount_4 : decode cX5_ruleCount 4 = .ok (.invokevirtual 39, 3) := by decide +kernel
theorem dX5_ruleCount_7 : decode cX5_ruleCount 7 = .ok (.ireturn, 1) := by decide +kernel
theorem dX5_doesHold_0 : decode cX5_doesHold 0 = .ok (.aload_n 0, 1) := by decide +kernel
theorem dX5_doesHold_1 : decode cX5_doesHold 1 = .ok (.iload_n 1, 1) := by decide +kernel
theorem dX5_doesHold_2 : decode cX5_doesHold 2 = .ok (.invokevirtual 120, 3) := by decide +kernel
theorem dX5_doesHold_5 : decode cX5_doesHold 5 = .ok (.aload_n 0, 1) := by decide +kernel
theorem dX5_doesHold_6 : decode cX5_doesHold 6 = .ok (.aload_n 0, 1) := by decide +kernel
theorem dX5_doesHold_7 : decode cX5_doesHold 7 = .ok (.getfield 25, 3) := by decide +kernel
theorem dX5_doesHold_10 : decode cX5_doesHold 10 = .ok (.aload_n 0, 1) := by decide +kernel
theorem dX5_doesHold_11 : decode cX5_doesHold 11 = .ok (.getfield 16, 3) := by decide +kernel
theorem dX5_doesHold_14 : decode cX5_doesHold 14 = .ok (.iload_n 1, 1) := by decide +kernel
theorem dX5_doesHold_15 : decode cX5_doesHold 15 = .ok (.invokevirtual 127, 3) := by decide +kernel
theorem dX5_doesHold_18 : decode cX5_doesHold 18 = .ok (.checkcast 115, 3) := by decide +kernel
theorem dX5_doesHold_21 : decode cX5_doesHold 21 = .ok (.invokevirtual 130, 3) := by decide +kernel
theorem dX5_doesHold_24 : decode cX5_doesHold 24 = .ok (.ireturn, 1) := by decide +kernel
theorem dX5_openingNow_0 : decode cX5_openingNow 0 = .ok (.aload_n 0, 1) := by decide +kernel
theorem dX5_openingNow_1 : decode cX5_openingNow 1 = .ok (.iload_n 1, 1) := by decide +kernel
theorem dX5_openingNow_2 : decode cX5_openingNow 2 = .ok (.invokevirtual 108, 3) := by decide +kernel
theorem dX5_openingNow_5 : decode cX5_openingNow 5 = .ok (.aload_n 0, 1) := by decide +kernel
theorem dX5_openingNow_6 : decode cX5_openingNow 6 = .ok (.aload_n 0, 1) := by decide +kernel
theorem dX5_openingNow_7 : decode cX5_openingNow 7 = .ok (.getfield 25, 3) := by decide +kernel
theorem dX5_openingNow_10 : decode cX5_openingNow 10 = .ok (.iload_n 1, 1) := by decide +kernel
theorem dX5_openingNow_11 : decode cX5_openingNow 11 = .ok (.invokevirtual 134, 3) := by decide +kernel
theorem dX5_openingNow_14 : decode cX5_openingNow 14 = .ok (.ireturn, 1) := by decide +kernel
theorem dX5_setRain_0 : decode cX5_setRain 0 = .ok (.aload_n 0, 1) := by decide +kernel
theorem dX5_setRain_1 : decode cX5_setRain 1 = .ok (.iload_n 1, 1) := by decide +kernel
theorem dX5_setRain_2 : decode cX5_setRain 2 = .ok (.invokevirtual 80, 3) := by decide +kernel
theorem dX5_setRain_5 : decode cX5_setRain 5 = .ok (.astore_n 3, 1) := by decide +kernel
theorem dX5_setRain_6 : decode cX5_setRain 6 = .ok (.iload_n 2, 1) := by decide +kernel
theorem dX5_setRain_7 : decode cX5_setRain 7 = .ok (.iconst 0, 1) := by decide +kernel
theorem dX5_setRain_8 : decode cX5_setRain 8 = .ok (.sipush 500, 3) := by decide +kernel
theorem dX5_setRain_11 : decode cX5_setRain 11 = .ok (.invokestatic 43, 3) := by decide +kernel
theorem dX5_setRain_14 : decode cX5_setRain 14 = .ok (.ifCond .ne 13, 3) := by decide +kernel
theorem dX5_setRain_17 : decode cX5_setRain 17 = .ok (.new 54, 3) := by decide +kernel
theorem dX5_setRain_20 : decode cX5_setRain 20 = .ok (.dup, 1) := by decide +kernel
theorem dX5_setRain_21 : decode cX5_setRain 21 = .ok (.ldc 138, 2) := by decide +kernel
theorem dX5_setRain_23 : decode cX5_setRain 23 = .ok (.invokespecial 58, 3) := by decide +kernel
theorem dX5_setRain_26 : decode cX5_setRain 26 = .ok (.athrow, 1) := by decide +kernel
theorem dX5_setRain_27 : decode cX5_setRain 27 = .ok (.aload_n 3, 1) := by decide +kernel
theorem dX5_setRain_28 : decode cX5_setRain 28 = .ok (.getfield 140, 3) := by decide +kernel
theorem dX5_setRain_31 : decode cX5_setRain 31 = .ok (.istore 4, 2) := by decide +kernel
theorem dX5_setRain_33 : decode cX5_setRain 33 = .ok (.aload_n 3, 1) := by decide +kernel
theorem dX5_setRain_34 : decode cX5_setRain 34 = .ok (.iload_n 2, 1) := by decide +kernel
theorem dX5_setRain_35 : decode cX5_setRain 35 = .ok (.putfield 140, 3) := by decide +kernel
theorem dX5_setRain_38 : decode cX5_setRain 38 = .ok (.iload 4, 2) := by decide +kernel
theorem dX5_setRain_40 : decode cX5_setRain 40 = .ok (.ireturn, 1) := by decide +kernel
theorem dX5_pass_0 : decode cX5_pass 0 = .ok (.iload_n 1, 1) := by decide +kernel
theorem dX5_pass_1 : decode cX5_pass 1 = .ok (.iconst 1, 1) := by decide +kernel
theorem dX5_pass_2 : decode cX5_pass 2 = .ok (.bipush 24, 2) := by decide +kernel
theorem dX5_pass_4 : decode cX5_pass 4 = .ok (.invokestatic 43, 3) := by decide +kernel
theorem dX5_pass_7 : decode cX5_pass 7 = .ok (.ifCond .ne 13, 3) := by decide +kernel
theorem dX5_pass_10 : decode cX5_pass 10 = .ok (.new 54, 3) := by decide +kernel
theorem dX5_pass_13 : decode cX5_pass 13 = .ok (.dup, 1) := by decide +kernel
theorem dX5_pass_14 : decode cX5_pass 14 = .ok (.ldc 143, 2) := by decide +kernel
theorem dX5_pass_16 : decode cX5_pass 16 = .ok (.invokespecial 58, 3) := by decide +kernel
theorem dX5_pass_19 : decode cX5_pass 19 = .ok (.athrow, 1) := by decide +kernel
theorem dX5_pass_20 : decode cX5_pass 20 = .ok (.aload_n 0, 1) := by decide +kernel
theorem dX5_pass_21 : decode cX5_pass 21 = .ok (.getfield 10, 3) := by decide +kernel
theorem dX5_pass_24 : decode cX5_pass 24 = .ok (.invokevirtual 145, 3) := by decide +kernel
theorem dX5_pass_27 : decode cX5_pass 27 = .ok (.ifCond .eq 13, 3) := by decide +kernel
theorem dX5_pass_30 : decode cX5_pass 30 = .ok (.new 63, 3) := by decide +kernel
theorem dX5_pass_33 : decode cX5_pass 33 = .ok (.dup, 1) := by decide +kernel
theorem dX5_pass_34 : decode cX5_pass 34 = .ok (.ldc 149, 2) := by decide +kernel
theorem dX5_pass_36 : decode cX5_pass 36 = .ok (.invokespecial 67, 3) := by decide +kernel
theorem dX5_pass_39 : decode cX5_pass 39 = .ok (.athrow, 1) := by decide +kernel
theorem dX5_pass_40 : decode cX5_pass 40 = .ok (.iload_n 1, 1) := by decide +kernel
theorem dX5_pass_41 : decode cX5_pass 41 = .ok (.bipush 60, 2) := by decide +kernel
theorem dX5_pass_43 : decode cX5_pass 43 = .ok (.aload_n 0, 1) := by decide +kernel
theorem dX5_pass_44 : decode cX5_pass 44 = .ok (.getfield 151, 3) := by decide +kernel
theorem dX5_pass_47 : decode cX5_pass 47 = .ok (.isub, 1) := by decide +kernel
theorem dX5_pass_48 : decode cX5_pass 48 = .ok (.if_icmp .le 13, 3) := by decide +kernel
theorem dX5_pass_51 : decode cX5_pass 51 = .ok (.new 63, 3) := by decide +kernel
theorem dX5_pass_54 : decode cX5_pass 54 = .ok (.dup, 1) := by decide +kernel
theorem dX5_pass_55 : decode cX5_pass 55 = .ok (.ldc 154, 2) := by decide +kernel
theorem dX5_pass_57 : decode cX5_pass 57 = .ok (.invokespecial 67, 3) := by decide +kernel
theorem dX5_pass_60 : decode cX5_pass 60 = .ok (.athrow, 1) := by decide +kernel
theorem dX5_pass_61 : decode cX5_pass 61 = .ok (.iconst 0, 1) := by decide +kernel
theorem dX5_pass_62 : decode cX5_pass 62 = .ok (.istore_n 2, 1) := by decide +kernel
theorem dX5_pass_63 : decode cX5_pass 63 = .ok (.iload_n 2, 1) := by decide +kernel
theorem dX5_pass_64 : decode cX5_pass 64 = .ok (.iload_n 1, 1) := by decide +kernel
theorem dX5_pass_65 : decode cX5_pass 65 = .ok (.if_icmp .ge 13, 3) := by decide +kernel
theorem dX5_pass_68 : decode cX5_pass 68 = .ok (.aload_n 0, 1) := by decide +kernel
theorem dX5_pass_69 : decode cX5_pass 69 = .ok (.invokevirtual 156, 3) := by decide +kernel
theorem dX5_pass_72 : decode cX5_pass 72 = .ok (.iinc 2 1, 3) := by decide +kernel
theorem dX5_pass_75 : decode cX5_pass 75 = .ok (.goto (-12), 3) := by decide +kernel
theorem dX5_pass_78 : decode cX5_pass 78 = .ok (.aload_n 0, 1) := by decide +kernel
theorem dX5_pass_79 : decode cX5_pass 79 = .ok (.getfield 151, 3) := by decide +kernel
theorem dX5_pass_82 : decode cX5_pass 82 = .ok (.ireturn, 1) := by decide +kernel
theorem dX5_clock_0 : decode cX5_clock 0 = .ok (.aload_n 0, 1) := by decide +kernel
theorem dX5_clock_1 : decode cX5_clock 1 = .ok (.getfield 151, 3) := by decide +kernel
theorem dX5_clock_4 : decode cX5_clock 4 = .ok (.ireturn, 1) := by decide +kernel
theorem dX5_volumeOf_0 : decode cX5_volumeOf 0 = .ok (.aload_n 0, 1) := by decide +kernel
theorem dX5_volumeOf_1 : decode cX5_volumeOf 1 = .ok (.iload_n 1, 1) := by decide +kernel
theorem dX5_volumeOf_2 : decode cX5_volumeOf 2 = .ok (.invokevirtual 108, 3) := by decide +kernel
theorem dX5_volumeOf_5 : decode cX5_volumeOf 5 = .ok (.aload_n 0, 1) := by decide +kernel
theorem dX5_volumeOf_6 : decode cX5_volumeOf 6 = .ok (.getfield 25, 3) := by decide +kernel
theorem dX5_volumeOf_9 : decode cX5_volumeOf 9 = .ok (.getfield 159, 3) := by decide +kernel
theorem dX5_volumeOf_12 : decode cX5_volumeOf 12 = .ok (.iload_n 1, 1) := by decide +kernel
theorem dX5_volumeOf_13 : decode cX5_volumeOf 13 = .ok (.iaload, 1) := by decide +kernel
theorem dX5_volumeOf_14 : decode cX5_volumeOf 14 = .ok (.ireturn, 1) := by decide +kernel
theorem dX5_levelOf_0 : decode cX5_levelOf 0 = .ok (.aload_n 0, 1) := by decide +kernel
theorem dX5_levelOf_1 : decode cX5_levelOf 1 = .ok (.iload_n 1, 1) := by decide +kernel
theorem dX5_levelOf_2 : decode cX5_levelOf 2 = .ok (.invokevirtual 108, 3) := by decide +kernel
theorem dX5_levelOf_5 : decode cX5_levelOf 5 = .ok (.aload_n 0, 1) := by decide +kernel
theorem dX5_levelOf_6 : decode cX5_levelOf 6 = .ok (.aload_n 0, 1) := by decide +kernel
theorem dX5_levelOf_7 : decode cX5_levelOf 7 = .ok (.getfield 25, 3) := by decide +kernel
theorem dX5_levelOf_10 : decode cX5_levelOf 10 = .ok (.iload_n 1, 1) := by decide +kernel
theorem dX5_levelOf_11 : decode cX5_levelOf 11 = .ok (.invokevirtual 163, 3) := by decide +kernel
theorem dX5_levelOf_14 : decode cX5_levelOf 14 = .ok (.ireturn, 1) := by decide +kernel
theorem dX5_streetVolume_0 : decode cX5_streetVolume 0 = .ok (.aload_n 0, 1) := by decide +kernel
theorem dX5_streetVolume_1 : decode cX5_streetVolume 1 = .ok (.iload_n 1, 1) := by decide +kernel
theorem dX5_streetVolume_2 : decode cX5_streetVolume 2 = .ok (.invokevirtual 108, 3) := by decide +kernel
theorem dX5_streetVolume_5 : decode cX5_streetVolume 5 = .ok (.aload_n 0, 1) := by decide +kernel
theorem dX5_streetVolume_6 : decode cX5_streetVolume 6 = .ok (.getfield 25, 3) := by decide +kernel
theorem dX5_streetVolume_9 : decode cX5_streetVolume 9 = .ok (.getfield 166, 3) := by decide +kernel
theorem dX5_streetVolume_12 : decode cX5_streetVolume 12 = .ok (.iload_n 1, 1) := by decide +kernel
theorem dX5_streetVolume_13 : decode cX5_streetVolume 13 = .ok (.iaload, 1) := by decide +kernel
theorem dX5_streetVolume_14 : decode cX5_streetVolume 14 = .ok (.ireturn, 1) := by decide +kernel
theorem dX5_rainTotal_0 : decode cX5_rainTotal 0 = .ok (.aload_n 0, 1) := by decide +kernel
theorem dX5_rainTotal_1 : decode cX5_rainTotal 1 = .ok (.getfield 169, 3) := by decide +kernel
theorem dX5_rainTotal_4 : decode cX5_rainTotal 4 = .ok (.ireturn, 1) := by decide +kernel
theorem dX5_riverTotal_0 : decode cX5_riverTotal 0 = .ok (.aload_n 0, 1) := by decide +kernel
theorem dX5_riverTotal_1 : decode cX5_riverTotal 1 = .ok (.getfield 25, 3) := by decide +kernel
theorem dX5_riverTotal_4 : decode cX5_riverTotal 4 = .ok (.getfield 172, 3) := by decide +kernel
theorem dX5_riverTotal_7 : decode cX5_riverTotal 7 = .ok (.ireturn, 1) := by decide +kernel
theorem dX5_heldTotal_0 : decode cX5_heldTotal 0 = .ok (.aload_n 0, 1) := by decide +kernel
theorem dX5_heldTotal_1 : decode cX5_heldTotal 1 = .ok (.getfield 25, 3) := by decide +kernel
theorem dX5_heldTotal_4 : decode cX5_heldTotal 4 = .ok (.invokevirtual 175, 3) := by decide +kernel
theorem dX5_heldTotal_7 : decode cX5_heldTotal 7 = .ok (.ireturn, 1) := by decide +kernel
theorem dX5_isBalanced_0 : decode cX5_isBalanced 0 = .ok (.aload_n 0, 1) := by decide +kernel
theorem dX5_isBalanced_1 : decode cX5_isBalanced 1 = .ok (.getfield 169, 3) := by decide +kernel
theorem dX5_isBalanced_4 : decode cX5_isBalanced 4 = .ok (.aload_n 0, 1) := by decide +kernel
theorem dX5_isBalanced_5 : decode cX5_isBalanced 5 = .ok (.getfield 25, 3) := by decide +kernel
theorem dX5_isBalanced_8 : decode cX5_isBalanced 8 = .ok (.invokevirtual 175, 3) := by decide +kernel
theorem dX5_isBalanced_11 : decode cX5_isBalanced 11 = .ok (.aload_n 0, 1) := by decide +kernel
theorem dX5_isBalanced_12 : decode cX5_isBalanced 12 = .ok (.getfield 25, 3) := by decide +kernel
theorem dX5_isBalanced_15 : decode cX5_isBalanced 15 = .ok (.getfield 172, 3) := by decide +kernel
theorem dX5_isBalanced_18 : decode cX5_isBalanced 18 = .ok (.iadd, 1) := by decide +kernel
theorem dX5_isBalanced_19 : decode cX5_isBalanced 19 = .ok (.if_icmp .ne 7, 3) := by decide +kernel
theorem dX5_isBalanced_22 : decode cX5_isBalanced 22 = .ok (.iconst 1, 1) := by decide +kernel
theorem dX5_isBalanced_23 : decode cX5_isBalanced 23 = .ok (.goto 4, 3) := by decide +kernel
theorem dX5_isBalanced_26 : decode cX5_isBalanced 26 = .ok (.iconst 0, 1) := by decide +kernel
theorem dX5_isBalanced_27 : decode cX5_isBalanced 27 = .ok (.ireturn, 1) := by decide +kernel
theorem dX5_depthAt_0 : decode cX5_depthAt 0 = .ok (.aload_n 0, 1) := by decide +kernel
theorem dX5_depthAt_1 : decode cX5_depthAt 1 = .ok (.iload_n 1, 1) := by decide +kernel
theorem dX5_depthAt_2 : decode cX5_depthAt 2 = .ok (.iload_n 2, 1) := by decide +kernel
theorem dX5_depthAt_3 : decode cX5_depthAt 3 = .ok (.invokevirtual 178, 3) := by decide +kernel
theorem dX5_depthAt_6 : decode cX5_depthAt 6 = .ok (.astore_n 3, 1) := by decide +kernel
theorem dX5_depthAt_7 : decode cX5_depthAt 7 = .ok (.aload_n 3, 1) := by decide +kernel
theorem dX5_depthAt_8 : decode cX5_depthAt 8 = .ok (.iload_n 2, 1) := by decide +kernel
theorem dX5_depthAt_9 : decode cX5_depthAt 9 = .ok (.aload_n 0, 1) := by decide +kernel
theorem dX5_depthAt_10 : decode cX5_depthAt 10 = .ok (.getfield 25, 3) := by decide +kernel
theorem dX5_depthAt_13 : decode cX5_depthAt 13 = .ok (.getfield 166, 3) := by decide +kernel
theorem dX5_depthAt_16 : decode cX5_depthAt 16 = .ok (.iload_n 1, 1) := by decide +kernel
theorem dX5_depthAt_17 : decode cX5_depthAt 17 = .ok (.iaload, 1) := by decide +kernel
theorem dX5_depthAt_18 : decode cX5_depthAt 18 = .ok (.invokevirtual 182, 3) := by decide +kernel
theorem dX5_depthAt_21 : decode cX5_depthAt 21 = .ok (.ireturn, 1) := by decide +kernel
theorem dX5_depthByPouring_0 : decode cX5_depthByPouring 0 = .ok (.aload_n 0, 1) := by decide +kernel
theorem dX5_depthByPouring_1 : decode cX5_depthByPouring 1 = .ok (.iload_n 1, 1) := by decide +kernel
theorem dX5_depthByPouring_2 : decode cX5_depthByPouring 2 = .ok (.iload_n 2, 1) := by decide +kernel
theorem dX5_depthByPouring_3 : decode cX5_depthByPouring 3 = .ok (.invokevirtual 178, 3) := by decide +kernel
theorem dX5_depthByPouring_6 : decode cX5_depthByPouring 6 = .ok (.astore_n 3, 1) := by decide +kernel
theorem dX5_depthByPouring_7 : decode cX5_depthByPouring 7 = .ok (.aload_n 3, 1) := by decide +kernel
theorem dX5_depthByPouring_8 : decode cX5_depthByPouring 8 = .ok (.iload_n 2, 1) := by decide +kernel
theorem dX5_depthByPouring_9 : decode cX5_depthByPouring 9 = .ok (.aload_n 0, 1) := by decide +kernel
theorem dX5_depthByPouring_10 : decode cX5_depthByPouring 10 = .ok (.getfield 25, 3) := by decide +kernel
theorem dX5_depthByPouring_13 : decode cX5_depthByPouring 13 = .ok (.getfield 166, 3) := by decide +kernel
theorem dX5_depthByPouring_16 : decode cX5_depthByPouring 16 = .ok (.iload_n 1, 1) := by decide +kernel
theorem dX5_depthByPouring_17 : decode cX5_depthByPouring 17 = .ok (.iaload, 1) := by decide +kernel
theorem dX5_depthByPouring_18 : decode cX5_depthByPouring 18 = .ok (.invokevirtual 186, 3) := by decide +kernel
theorem dX5_depthByPouring_21 : decode cX5_depthByPouring 21 = .ok (.ireturn, 1) := by decide +kernel
theorem dX5_depthThen_0 : decode cX5_depthThen 0 = .ok (.aload_n 0, 1) := by decide +kernel
theorem dX5_depthThen_1 : decode cX5_depthThen 1 = .ok (.iload_n 1, 1) := by decide +kernel
theorem dX5_depthThen_2 : decode cX5_depthThen 2 = .ok (.iload_n 2, 1) := by decide +kernel
theorem dX5_depthThen_3 : decode cX5_depthThen 3 = .ok (.invokevirtual 178, 3) := by decide +kernel
theorem dX5_depthThen_6 : decode cX5_depthThen 6 = .ok (.astore 4, 2) := by decide +kernel
theorem dX5_depthThen_8 : decode cX5_depthThen 8 = .ok (.aload_n 0, 1) := by decide +kernel
theorem dX5_depthThen_9 : decode cX5_depthThen 9 = .ok (.iload_n 3, 1) := by decide +kernel
theorem dX5_depthThen_10 : decode cX5_depthThen 10 = .ok (.invokevirtual 189, 3) := by decide +kernel
theorem dX5_depthThen_13 : decode cX5_depthThen 13 = .ok (.aload 4, 2) := by decide +kernel
theorem dX5_depthThen_15 : decode cX5_depthThen 15 = .ok (.iload_n 2, 1) := by decide +kernel
theorem dX5_depthThen_16 : decode cX5_depthThen 16 = .ok (.aload 4, 2) := by decide +kernel
theorem dX5_depthThen_18 : decode cX5_depthThen 18 = .ok (.getfield 192, 3) := by decide +kernel
theorem dX5_depthThen_21 : decode cX5_depthThen 21 = .ok (.iload_n 3, 1) := by decide +kernel
theorem dX5_depthThen_22 : decode cX5_depthThen 22 = .ok (.iaload, 1) := by decide +kernel
theorem dX5_depthThen_23 : decode cX5_depthThen 23 = .ok (.invokevirtual 182, 3) := by decide +kernel
theorem dX5_depthThen_26 : decode cX5_depthThen 26 = .ok (.ireturn, 1) := by decide +kernel
theorem dX5_wetCells_0 : decode cX5_wetCells 0 = .ok (.aload_n 0, 1) := by decide +kernel
theorem dX5_wetCells_1 : decode cX5_wetCells 1 = .ok (.iload_n 1, 1) := by decide +kernel
theorem dX5_wetCells_2 : decode cX5_wetCells 2 = .ok (.invokevirtual 80, 3) := by decide +kernel
theorem dX5_wetCells_5 : decode cX5_wetCells 5 = .ok (.getfield 84, 3) := by decide +kernel
theorem dX5_wetCells_8 : decode cX5_wetCells 8 = .ok (.aload_n 0, 1) := by decide +kernel
theorem dX5_wetCells_9 : decode cX5_wetCells 9 = .ok (.getfield 25, 3) := by decide +kernel
theorem dX5_wetCells_12 : decode cX5_wetCells 12 = .ok (.getfield 166, 3) := by decide +kernel
theorem dX5_wetCells_15 : decode cX5_wetCells 15 = .ok (.iload_n 1, 1) := by decide +kernel
theorem dX5_wetCells_16 : decode cX5_wetCells 16 = .ok (.iaload, 1) := by decide +kernel
theorem dX5_wetCells_17 : decode cX5_wetCells 17 = .ok (.invokevirtual 195, 3) := by decide +kernel
theorem dX5_wetCells_20 : decode cX5_wetCells 20 = .ok (.ireturn, 1) := by decide +kernel
theorem dX5_wetHours_0 : decode cX5_wetHours 0 = .ok (.aload_n 0, 1) := by decide +kernel
theorem dX5_wetHours_1 : decode cX5_wetHours 1 = .ok (.iload_n 1, 1) := by decide +kernel
theorem dX5_wetHours_2 : decode cX5_wetHours 2 = .ok (.iload_n 2, 1) := by decide +kernel
theorem dX5_wetHours_3 : decode cX5_wetHours 3 = .ok (.invokevirtual 178, 3) := by decide +kernel
theorem dX5_wetHours_6 : decode cX5_wetHours 6 = .ok (.astore_n 3, 1) := by decide +kernel
theorem dX5_wetHours_7 : decode cX5_wetHours 7 = .ok (.iconst 0, 1) := by decide +kernel
theorem dX5_wetHours_8 : decode cX5_wetHours 8 = .ok (.istore 4, 2) := by decide +kernel
theorem dX5_wetHours_10 : decode cX5_wetHours 10 = .ok (.iconst 1, 1) := by decide +kernel
theorem dX5_wetHours_11 : decode cX5_wetHours 11 = .ok (.istore 5, 2) := by decide +kernel
theorem dX5_wetHours_13 : decode cX5_wetHours 13 = .ok (.iload 5, 2) := by decide +kernel
theorem dX5_wetHours_15 : decode cX5_wetHours 15 = .ok (.aload_n 0, 1) := by decide +kernel
theorem dX5_wetHours_16 : decode cX5_wetHours 16 = .ok (.getfield 151, 3) := by decide +kernel
theorem dX5_wetHours_19 : decode cX5_wetHours 19 = .ok (.if_icmp .gt 27, 3) := by decide +kernel
theorem dX5_wetHours_22 : decode cX5_wetHours 22 = .ok (.aload_n 3, 1) := by decide +kernel
theorem dX5_wetHours_23 : decode cX5_wetHours 23 = .ok (.iload_n 2, 1) := by decide +kernel
theorem dX5_wetHours_24 : decode cX5_wetHours 24 = .ok (.aload_n 3, 1) := by decide +kernel
theorem dX5_wetHours_25 : decode cX5_wetHours 25 = .ok (.getfield 192, 3) := by decide +kernel
theorem dX5_wetHours_28 : decode cX5_wetHours 28 = .ok (.iload 5, 2) := by decide +kernel
theorem dX5_wetHours_30 : decode cX5_wetHours 30 = .ok (.iaload, 1) := by decide +kernel
theorem dX5_wetHours_31 : decode cX5_wetHours 31 = .ok (.invokevirtual 199, 3) := by decide +kernel
theorem dX5_wetHours_34 : decode cX5_wetHours 34 = .ok (.ifCond .eq 6, 3) := by decide +kernel
theorem dX5_wetHours_37 : decode cX5_wetHours 37 = .ok (.iinc 4 1, 3) := by decide +kernel
theorem dX5_wetHours_40 : decode cX5_wetHours 40 = .ok (.iinc 5 1, 3) := by decide +kernel
theorem dX5_wetHours_43 : decode cX5_wetHours 43 = .ok (.goto (-30), 3) := by decide +kernel
theorem dX5_wetHours_46 : decode cX5_wetHours 46 = .ok (.iload 4, 2) := by decide +kernel
theorem dX5_wetHours_48 : decode cX5_wetHours 48 = .ok (.ireturn, 1) := by decide +kernel
theorem dX5_floodedSoFar_0 : decode cX5_floodedSoFar 0 = .ok (.aload_n 0, 1) := by decide +kernel
theorem dX5_floodedSoFar_1 : decode cX5_floodedSoFar 1 = .ok (.getfield 203, 3) := by decide +kernel
theorem dX5_floodedSoFar_4 : decode cX5_floodedSoFar 4 = .ok (.ireturn, 1) := by decide +kernel
theorem dX5_addHouse_0 : decode cX5_addHouse 0 = .ok (.aload_n 0, 1) := by decide +kernel
theorem dX5_addHouse_1 : decode cX5_addHouse 1 = .ok (.iload_n 1, 1) := by decide +kernel
theorem dX5_addHouse_2 : decode cX5_addHouse 2 = .ok (.iload_n 2, 1) := by decide +kernel
theorem dX5_addHouse_3 : decode cX5_addHouse 3 = .ok (.invokevirtual 178, 3) := by decide +kernel
theorem dX5_addHouse_6 : decode cX5_addHouse 6 = .ok (.astore 5, 2) := by decide +kernel
theorem dX5_addHouse_8 : decode cX5_addHouse 8 = .ok (.iload_n 3, 1) := by decide +kernel
theorem dX5_addHouse_9 : decode cX5_addHouse 9 = .ok (.iconst 1, 1) := by decide +kernel
theorem dX5_addHouse_10 : decode cX5_addHouse 10 = .ok (.bipush 100, 2) := by decide +kernel
theorem dX5_addHouse_12 : decode cX5_addHouse 12 = .ok (.invokestatic 43, 3) := by decide +kernel
theorem dX5_addHouse_15 : decode cX5_addHouse 15 = .ok (.ifCond .eq 15, 3) := by decide +kernel
theorem dX5_addHouse_18 : decode cX5_addHouse 18 = .ok (.iload 4, 2) := by decide +kernel
theorem dX5_addHouse_20 : decode cX5_addHouse 20 = .ok (.iconst 0, 1) := by decide +kernel
theorem dX5_addHouse_21 : decode cX5_addHouse 21 = .ok (.sipush 5000, 3) := by decide +kernel
theorem dX5_addHouse_24 : decode cX5_addHouse 24 = .ok (.invokestatic 43, 3) := by decide +kernel
theorem dX5_addHouse_27 : decode cX5_addHouse 27 = .ok (.ifCond .ne 13, 3) := by decide +kernel
theorem dX5_addHouse_30 : decode cX5_addHouse 30 = .ok (.new 54, 3) := by decide +kernel
theorem dX5_addHouse_33 : decode cX5_addHouse 33 = .ok (.dup, 1) := by decide +kernel
theorem dX5_addHouse_34 : decode cX5_addHouse 34 = .ok (.ldc 206, 2) := by decide +kernel
theorem dX5_addHouse_36 : decode cX5_addHouse 36 = .ok (.invokespecial 58, 3) := by decide +kernel
theorem dX5_addHouse_39 : decode cX5_addHouse 39 = .ok (.athrow, 1) := by decide +kernel
theorem dX5_addHouse_40 : decode cX5_addHouse 40 = .ok (.aload_n 0, 1) := by decide +kernel
theorem dX5_addHouse_41 : decode cX5_addHouse 41 = .ok (.getfield 19, 3) := by decide +kernel
theorem dX5_addHouse_44 : decode cX5_addHouse 44 = .ok (.invokevirtual 39, 3) := by decide +kernel
theorem dX5_addHouse_47 : decode cX5_addHouse 47 = .ok (.istore 6, 2) := by decide +kernel
theorem dX5_addHouse_49 : decode cX5_addHouse 49 = .ok (.iload 6, 2) := by decide +kernel
theorem dX5_addHouse_51 : decode cX5_addHouse 51 = .ok (.bipush 10, 2) := by decide +kernel
theorem dX5_addHouse_53 : decode cX5_addHouse 53 = .ok (.if_icmp .lt 13, 3) := by decide +kernel
theorem dX5_addHouse_56 : decode cX5_addHouse 56 = .ok (.new 63, 3) := by decide +kernel
theorem dX5_addHouse_59 : decode cX5_addHouse 59 = .ok (.dup, 1) := by decide +kernel
theorem dX5_addHouse_60 : decode cX5_addHouse 60 = .ok (.ldc 208, 2) := by decide +kernel
theorem dX5_addHouse_62 : decode cX5_addHouse 62 = .ok (.invokespecial 67, 3) := by decide +kernel
theorem dX5_addHouse_65 : decode cX5_addHouse 65 = .ok (.athrow, 1) := by decide +kernel
theorem dX5_addHouse_66 : decode cX5_addHouse 66 = .ok (.aload_n 0, 1) := by decide +kernel
theorem dX5_addHouse_67 : decode cX5_addHouse 67 = .ok (.getfield 19, 3) := by decide +kernel
theorem dX5_addHouse_70 : decode cX5_addHouse 70 = .ok (.new 210, 3) := by decide +kernel
theorem dX5_addHouse_73 : decode cX5_addHouse 73 = .ok (.dup, 1) := by decide +kernel
theorem dX5_addHouse_74 : decode cX5_addHouse 74 = .ok (.aload 5, 2) := by decide +kernel
theorem dX5_addHouse_76 : decode cX5_addHouse 76 = .ok (.iload_n 2, 1) := by decide +kernel
theorem dX5_addHouse_77 : decode cX5_addHouse 77 = .ok (.iload_n 3, 1) := by decide +kernel
theorem dX5_addHouse_78 : decode cX5_addHouse 78 = .ok (.iload 4, 2) := by decide +kernel
theorem dX5_addHouse_80 : decode cX5_addHouse 80 = .ok (.invokespecial 212, 3) := by decide +kernel
theorem dX5_addHouse_83 : decode cX5_addHouse 83 = .ok (.invokevirtual 76, 3) := by decide +kernel
theorem dX5_addHouse_86 : decode cX5_addHouse 86 = .ok (.pop, 1) := by decide +kernel
theorem dX5_addHouse_87 : decode cX5_addHouse 87 = .ok (.iload 6, 2) := by decide +kernel
theorem dX5_addHouse_89 : decode cX5_addHouse 89 = .ok (.ireturn, 1) := by decide +kernel
theorem dX5_houseCount_0 : decode cX5_houseCount 0 = .ok (.aload_n 0, 1) := by decide +kernel
theorem dX5_houseCount_1 : decode cX5_houseCount 1 = .ok (.getfield 19, 3) := by decide +kernel
theorem dX5_houseCount_4 : decode cX5_houseCount 4 = .ok (.invokevirtual 39, 3) := by decide +kernel
theorem dX5_houseCount_7 : decode cX5_houseCount 7 = .ok (.ireturn, 1) := by decide +kernel
theorem dX5_wasWet_0 : decode cX5_wasWet 0 = .ok (.aload_n 0, 1) := by decide +kernel
theorem dX5_wasWet_1 : decode cX5_wasWet 1 = .ok (.iload_n 1, 1) := by decide +kernel
theorem dX5_wasWet_2 : decode cX5_wasWet 2 = .ok (.invokevirtual 215, 3) := by decide +kernel
theorem dX5_wasWet_5 : decode cX5_wasWet 5 = .ok (.astore_n 3, 1) := by decide +kernel
theorem dX5_wasWet_6 : decode cX5_wasWet 6 = .ok (.aload_n 0, 1) := by decide +kernel
theorem dX5_wasWet_7 : decode cX5_wasWet 7 = .ok (.iload_n 2, 1) := by decide +kernel
theorem dX5_wasWet_8 : decode cX5_wasWet 8 = .ok (.invokevirtual 189, 3) := by decide +kernel
theorem dX5_wasWet_11 : decode cX5_wasWet 11 = .ok (.aload_n 3, 1) := by decide +kernel
theorem dX5_wasWet_12 : decode cX5_wasWet 12 = .ok (.iload_n 2, 1) := by decide +kernel
theorem dX5_wasWet_13 : decode cX5_wasWet 13 = .ok (.invokevirtual 219, 3) := by decide +kernel
theorem dX5_wasWet_16 : decode cX5_wasWet 16 = .ok (.ireturn, 1) := by decide +kernel
theorem dX5_worthOf_0 : decode cX5_worthOf 0 = .ok (.aload_n 0, 1) := by decide +kernel
theorem dX5_worthOf_1 : decode cX5_worthOf 1 = .ok (.iload_n 1, 1) := by decide +kernel
theorem dX5_worthOf_2 : decode cX5_worthOf 2 = .ok (.invokevirtual 215, 3) := by decide +kernel
theorem dX5_worthOf_5 : decode cX5_worthOf 5 = .ok (.astore_n 3, 1) := by decide +kernel
theorem dX5_worthOf_6 : decode cX5_worthOf 6 = .ok (.aload_n 0, 1) := by decide +kernel
theorem dX5_worthOf_7 : decode cX5_worthOf 7 = .ok (.iload_n 2, 1) := by decide +kernel
theorem dX5_worthOf_8 : decode cX5_worthOf 8 = .ok (.invokevirtual 189, 3) := by decide +kernel
theorem dX5_worthOf_11 : decode cX5_worthOf 11 = .ok (.aload_n 3, 1) := by decide +kernel
theorem dX5_worthOf_12 : decode cX5_worthOf 12 = .ok (.iload_n 2, 1) := by decide +kernel
theorem dX5_worthOf_13 : decode cX5_worthOf 13 = .ok (.invokevirtual 223, 3) := by decide +kernel
theorem dX5_worthOf_16 : decode cX5_worthOf 16 = .ok (.ireturn, 1) := by decide +kernel
theorem dX5_claim_0 : decode cX5_claim 0 = .ok (.aload_n 0, 1) := by decide +kernel
theorem dX5_claim_1 : decode cX5_claim 1 = .ok (.iload_n 1, 1) := by decide +kernel
theorem dX5_claim_2 : decode cX5_claim 2 = .ok (.invokevirtual 215, 3) := by decide +kernel
theorem dX5_claim_5 : decode cX5_claim 5 = .ok (.astore_n 3, 1) := by decide +kernel
theorem dX5_claim_6 : decode cX5_claim 6 = .ok (.aload_n 0, 1) := by decide +kernel
theorem dX5_claim_7 : decode cX5_claim 7 = .ok (.iload_n 2, 1) := by decide +kernel
theorem dX5_claim_8 : decode cX5_claim 8 = .ok (.invokevirtual 189, 3) := by decide +kernel
theorem dX5_claim_11 : decode cX5_claim 11 = .ok (.aload_n 3, 1) := by decide +kernel
theorem dX5_claim_12 : decode cX5_claim 12 = .ok (.iload_n 2, 1) := by decide +kernel
theorem dX5_claim_13 : decode cX5_claim 13 = .ok (.invokevirtual 219, 3) := by decide +kernel
theorem dX5_claim_16 : decode cX5_claim 16 = .ok (.ifCond .ne 13, 3) := by decide +kernel
theorem dX5_claim_19 : decode cX5_claim 19 = .ok (.new 226, 3) := by decide +kernel
theorem dX5_claim_22 : decode cX5_claim 22 = .ok (.dup, 1) := by decide +kernel
theorem dX5_claim_23 : decode cX5_claim 23 = .ok (.ldc 228, 2) := by decide +kernel
theorem dX5_claim_25 : decode cX5_claim 25 = .ok (.invokespecial 230, 3) := by decide +kernel
theorem dX5_claim_28 : decode cX5_claim 28 = .ok (.athrow, 1) := by decide +kernel
theorem dX5_claim_29 : decode cX5_claim 29 = .ok (.aload_n 3, 1) := by decide +kernel
theorem dX5_claim_30 : decode cX5_claim 30 = .ok (.getfield 231, 3) := by decide +kernel
theorem dX5_claim_33 : decode cX5_claim 33 = .ok (.iload_n 2, 1) := by decide +kernel
theorem dX5_claim_34 : decode cX5_claim 34 = .ok (.baload, 1) := by decide +kernel
theorem dX5_claim_35 : decode cX5_claim 35 = .ok (.ifCond .eq 13, 3) := by decide +kernel
theorem dX5_claim_38 : decode cX5_claim 38 = .ok (.new 63, 3) := by decide +kernel
theorem dX5_claim_41 : decode cX5_claim 41 = .ok (.dup, 1) := by decide +kernel
theorem dX5_claim_42 : decode cX5_claim 42 = .ok (.ldc 235, 2) := by decide +kernel
theorem dX5_claim_44 : decode cX5_claim 44 = .ok (.invokespecial 67, 3) := by decide +kernel
theorem dX5_claim_47 : decode cX5_claim 47 = .ok (.athrow, 1) := by decide +kernel
theorem dX5_claim_48 : decode cX5_claim 48 = .ok (.aload_n 3, 1) := by decide +kernel
theorem dX5_claim_49 : decode cX5_claim 49 = .ok (.iload_n 2, 1) := by decide +kernel
theorem dX5_claim_50 : decode cX5_claim 50 = .ok (.invokevirtual 237, 3) := by decide +kernel
theorem dX5_claim_53 : decode cX5_claim 53 = .ok (.ireturn, 1) := by decide +kernel
theorem dX5_claimWorst_0 : decode cX5_claimWorst 0 = .ok (.aload_n 0, 1) := by decide +kernel
theorem dX5_claimWorst_1 : decode cX5_claimWorst 1 = .ok (.iload_n 1, 1) := by decide +kernel
theorem dX5_claimWorst_2 : decode cX5_claimWorst 2 = .ok (.invokevirtual 215, 3) := by decide +kernel
theorem dX5_claimWorst_5 : decode cX5_claimWorst 5 = .ok (.astore_n 2, 1) := by decide +kernel
theorem dX5_claimWorst_6 : decode cX5_claimWorst 6 = .ok (.aload_n 2, 1) := by decide +kernel
theorem dX5_claimWorst_7 : decode cX5_claimWorst 7 = .ok (.aload_n 0, 1) := by decide +kernel
theorem dX5_claimWorst_8 : decode cX5_claimWorst 8 = .ok (.getfield 151, 3) := by decide +kernel
theorem dX5_claimWorst_11 : decode cX5_claimWorst 11 = .ok (.invokevirtual 240, 3) := by decide +kernel
theorem dX5_claimWorst_14 : decode cX5_claimWorst 14 = .ok (.istore_n 3, 1) := by decide +kernel
theorem dX5_claimWorst_15 : decode cX5_claimWorst 15 = .ok (.iload_n 3, 1) := by decide +kernel
theorem dX5_claimWorst_16 : decode cX5_claimWorst 16 = .ok (.ifCond .ne 13, 3) := by decide +kernel
theorem dX5_claimWorst_19 : decode cX5_claimWorst 19 = .ok (.new 243, 3) := by decide +kernel
theorem dX5_claimWorst_22 : decode cX5_claimWorst 22 = .ok (.dup, 1) := by decide +kernel
theorem dX5_claimWorst_23 : decode cX5_claimWorst 23 = .ok (.ldc 245, 2) := by decide +kernel
theorem dX5_claimWorst_25 : decode cX5_claimWorst 25 = .ok (.invokespecial 247, 3) := by decide +kernel
theorem dX5_claimWorst_28 : decode cX5_claimWorst 28 = .ok (.athrow, 1) := by decide +kernel
theorem dX5_claimWorst_29 : decode cX5_claimWorst 29 = .ok (.aload_n 2, 1) := by decide +kernel
theorem dX5_claimWorst_30 : decode cX5_claimWorst 30 = .ok (.iload_n 3, 1) := by decide +kernel
theorem dX5_claimWorst_31 : decode cX5_claimWorst 31 = .ok (.invokevirtual 237, 3) := by decide +kernel
theorem dX5_claimWorst_34 : decode cX5_claimWorst 34 = .ok (.ireturn, 1) := by decide +kernel
theorem dX5_claimCount_0 : decode cX5_claimCount 0 = .ok (.aload_n 0, 1) := by decide +kernel
theorem dX5_claimCount_1 : decode cX5_claimCount 1 = .ok (.iload_n 1, 1) := by decide +kernel
theorem dX5_claimCount_2 : decode cX5_claimCount 2 = .ok (.invokevirtual 215, 3) := by decide +kernel
theorem dX5_claimCount_5 : decode cX5_claimCount 5 = .ok (.getfield 248, 3) := by decide +kernel
theorem dX5_claimCount_8 : decode cX5_claimCount 8 = .ok (.ireturn, 1) := by decide +kernel
theorem dX5_paidTo_0 : decode cX5_paidTo 0 = .ok (.aload_n 0, 1) := by decide +kernel
theorem dX5_paidTo_1 : decode cX5_paidTo 1 = .ok (.iload_n 1, 1) := by decide +kernel
theorem dX5_paidTo_2 : decode cX5_paidTo 2 = .ok (.invokevirtual 215, 3) := by decide +kernel
theorem dX5_paidTo_5 : decode cX5_paidTo 5 = .ok (.getfield 251, 3) := by decide +kernel
theorem dX5_paidTo_8 : decode cX5_paidTo 8 = .ok (.ireturn, 1) := by decide +kernel
theorem dX5_paidTotal_0 : decode cX5_paidTotal 0 = .ok (.lconst 0, 1) := by decide +kernel
theorem dX5_paidTotal_1 : decode cX5_paidTotal 1 = .ok (.lstore_n 1, 1) := by decide +kernel
theorem dX5_paidTotal_2 : decode cX5_paidTotal 2 = .ok (.iconst 0, 1) := by decide +kernel
theorem dX5_paidTotal_3 : decode cX5_paidTotal 3 = .ok (.istore_n 3, 1) := by decide +kernel
theorem dX5_paidTotal_4 : decode cX5_paidTotal 4 = .ok (.iload_n 3, 1) := by decide +kernel
theorem dX5_paidTotal_5 : decode cX5_paidTotal 5 = .ok (.aload_n 0, 1) := by decide +kernel
theorem dX5_paidTotal_6 : decode cX5_paidTotal 6 = .ok (.getfield 19, 3) := by decide +kernel
theorem dX5_paidTotal_9 : decode cX5_paidTotal 9 = .ok (.invokevirtual 39, 3) := by decide +kernel
theorem dX5_paidTotal_12 : decode cX5_paidTotal 12 = .ok (.if_icmp .ge 27, 3) := by decide +kernel
theorem dX5_paidTotal_15 : decode cX5_paidTotal 15 = .ok (.lload_n 1, 1) := by decide +kernel
theorem dX5_paidTotal_16 : decode cX5_paidTotal 16 = .ok (.aload_n 0, 1) := by decide +kernel
theorem dX5_paidTotal_17 : decode cX5_paidTotal 17 = .ok (.getfield 19, 3) := by decide +kernel
theorem dX5_paidTotal_20 : decode cX5_paidTotal 20 = .ok (.iload_n 3, 1) := by decide +kernel
theorem dX5_paidTotal_21 : decode cX5_paidTotal 21 = .ok (.invokevirtual 127, 3) := by decide +kernel
theorem dX5_paidTotal_24 : decode cX5_paidTotal 24 = .ok (.checkcast 210, 3) := by decide +kernel
theorem dX5_paidTotal_27 : decode cX5_paidTotal 27 = .ok (.getfield 251, 3) := by decide +kernel
theorem dX5_paidTotal_30 : decode cX5_paidTotal 30 = .ok (.i2l, 1) := by decide +kernel
theorem dX5_paidTotal_31 : decode cX5_paidTotal 31 = .ok (.ladd, 1) := by decide +kernel
theorem dX5_paidTotal_32 : decode cX5_paidTotal 32 = .ok (.lstore_n 1, 1) := by decide +kernel
theorem dX5_paidTotal_33 : decode cX5_paidTotal 33 = .ok (.iinc 3 1, 3) := by decide +kernel
theorem dX5_paidTotal_36 : decode cX5_paidTotal 36 = .ok (.goto (-32), 3) := by decide +kernel
theorem dX5_paidTotal_39 : decode cX5_paidTotal 39 = .ok (.lload_n 1, 1) := by decide +kernel
theorem dX5_paidTotal_40 : decode cX5_paidTotal 40 = .ok (.lreturn, 1) := by decide +kernel
theorem dX5_meanPayment_0 : decode cX5_meanPayment 0 = .ok (.iconst 0, 1) := by decide +kernel
theorem dX5_meanPayment_1 : decode cX5_meanPayment 1 = .ok (.istore_n 1, 1) := by decide +kernel
theorem dX5_meanPayment_2 : decode cX5_meanPayment 2 = .ok (.iconst 0, 1) := by decide +kernel
theorem dX5_meanPayment_3 : decode cX5_meanPayment 3 = .ok (.istore_n 2, 1) := by decide +kernel
theorem dX5_meanPayment_4 : decode cX5_meanPayment 4 = .ok (.iload_n 2, 1) := by decide +kernel
theorem dX5_meanPayment_5 : decode cX5_meanPayment 5 = .ok (.aload_n 0, 1) := by decide +kernel
theorem dX5_meanPayment_6 : decode cX5_meanPayment 6 = .ok (.getfield 19, 3) := by decide +kernel
theorem dX5_meanPayment_9 : decode cX5_meanPayment 9 = .ok (.invokevirtual 39, 3) := by decide +kernel
theorem dX5_meanPayment_12 : decode cX5_meanPayment 12 = .ok (.if_icmp .ge 26, 3) := by decide +kernel
theorem dX5_meanPayment_15 : decode cX5_meanPayment 15 = .ok (.iload_n 1, 1) := by decide +kernel
theorem dX5_meanPayment_16 : decode cX5_meanPayment 16 = .ok (.aload_n 0, 1) := by decide +kernel
theorem dX5_meanPayment_17 : decode cX5_meanPayment 17 = .ok (.getfield 19, 3) := by decide +kernel
theorem dX5_meanPayment_20 : decode cX5_meanPayment 20 = .ok (.iload_n 2, 1) := by decide +kernel
theorem dX5_meanPayment_21 : decode cX5_meanPayment 21 = .ok (.invokevirtual 127, 3) := by decide +kernel
theorem dX5_meanPayment_24 : decode cX5_meanPayment 24 = .ok (.checkcast 210, 3) := by decide +kernel
theorem dX5_meanPayment_27 : decode cX5_meanPayment 27 = .ok (.getfield 248, 3) := by decide +kernel
theorem dX5_meanPayment_30 : decode cX5_meanPayment 30 = .ok (.iadd, 1) := by decide +kernel
theorem dX5_meanPayment_31 : decode cX5_meanPayment 31 = .ok (.istore_n 1, 1) := by decide +kernel
theorem dX5_meanPayment_32 : decode cX5_meanPayment 32 = .ok (.iinc 2 1, 3) := by decide +kernel
theorem dX5_meanPayment_35 : decode cX5_meanPayment 35 = .ok (.goto (-31), 3) := by decide +kernel
theorem dX5_meanPayment_38 : decode cX5_meanPayment 38 = .ok (.iload_n 1, 1) := by decide +kernel
theorem dX5_meanPayment_39 : decode cX5_meanPayment 39 = .ok (.ifCond .ne 14, 3) := by decide +kernel
theorem dX5_meanPayment_42 : decode cX5_meanPayment 42 = .ok (.new 254, 3) := by decide +kernel
theorem dX5_meanPayment_45 : decode cX5_meanPayment 45 = .ok (.dup, 1) := by decide +kernel
theorem dX5_meanPayment_46 : decode cX5_meanPayment 46 = .ok (.ldc_w 256, 3) := by decide +kernel
theorem dX5_meanPayment_49 : decode cX5_meanPayment 49 = .ok (.invokespecial 258, 3) := by decide +kernel
theorem dX5_meanPayment_52 : decode cX5_meanPayment 52 = .ok (.athrow, 1) := by decide +kernel
theorem dX5_meanPayment_53 : decode cX5_meanPayment 53 = .ok (.aload_n 0, 1) := by decide +kernel
theorem dX5_meanPayment_54 : decode cX5_meanPayment 54 = .ok (.invokevirtual 259, 3) := by decide +kernel
theorem dX5_meanPayment_57 : decode cX5_meanPayment 57 = .ok (.l2d, 1) := by decide +kernel
theorem dX5_meanPayment_58 : decode cX5_meanPayment 58 = .ok (.iload_n 1, 1) := by decide +kernel
theorem dX5_meanPayment_59 : decode cX5_meanPayment 59 = .ok (.i2d, 1) := by decide +kernel
theorem dX5_meanPayment_60 : decode cX5_meanPayment 60 = .ok (.ddiv, 1) := by decide +kernel
theorem dX5_meanPayment_61 : decode cX5_meanPayment 61 = .ok (.dreturn, 1) := by decide +kernel
theorem dX5_floodedWith_0 : decode cX5_floodedWith 0 = .ok (.aload_n 0, 1) := by decide +kernel
theorem dX5_floodedWith_1 : decode cX5_floodedWith 1 = .ok (.iconst (-1), 1) := by decide +kernel
theorem dX5_floodedWith_2 : decode cX5_floodedWith 2 = .ok (.iconst 0, 1) := by decide +kernel
theorem dX5_floodedWith_3 : decode cX5_floodedWith 3 = .ok (.invokevirtual 263, 3) := by decide +kernel
theorem dX5_floodedWith_6 : decode cX5_floodedWith 6 = .ok (.ireturn, 1) := by decide +kernel
theorem dX5_floodedWithOpening_0 : decode cX5_floodedWithOpening 0 = .ok (.aload_n 0, 1) := by decide +kernel
theorem dX5_floodedWithOpening_1 : decode cX5_floodedWithOpening 1 = .ok (.iload_n 1, 1) := by decide +kernel
theorem dX5_floodedWithOpening_2 : decode cX5_floodedWithOpening 2 = .ok (.invokevirtual 108, 3) := by decide +kernel
theorem dX5_floodedWithOpening_5 : decode cX5_floodedWithOpening 5 = .ok (.iload_n 2, 1) := by decide +kernel
theorem dX5_floodedWithOpening_6 : decode cX5_floodedWithOpening 6 = .ok (.invokestatic 102, 3) := by decide +kernel
theorem dX5_floodedWithOpening_9 : decode cX5_floodedWithOpening 9 = .ok (.aload_n 0, 1) := by decide +kernel
theorem dX5_floodedWithOpening_10 : decode cX5_floodedWithOpening 10 = .ok (.iload_n 1, 1) := by decide +kernel
theorem dX5_floodedWithOpening_11 : decode cX5_floodedWithOpening 11 = .ok (.iload_n 2, 1) := by decide +kernel
theorem dX5_floodedWithOpening_12 : decode cX5_floodedWithOpening 12 = .ok (.invokevirtual 263, 3) := by decide +kernel
theorem dX5_floodedWithOpening_15 : decode cX5_floodedWithOpening 15 = .ok (.ireturn, 1) := by decide +kernel
theorem dX5_bestOpening_0 : decode cX5_bestOpening 0 = .ok (.aload_n 0, 1) := by decide +kernel
theorem dX5_bestOpening_1 : decode cX5_bestOpening 1 = .ok (.iload_n 1, 1) := by decide +kernel
theorem dX5_bestOpening_2 : decode cX5_bestOpening 2 = .ok (.invokevirtual 108, 3) := by decide +kernel
theorem dX5_bestOpening_5 : decode cX5_bestOpening 5 = .ok (.iconst 0, 1) := by decide +kernel
theorem dX5_bestOpening_6 : decode cX5_bestOpening 6 = .ok (.istore_n 2, 1) := by decide +kernel
theorem dX5_bestOpening_7 : decode cX5_bestOpening 7 = .ok (.aload_n 0, 1) := by decide +kernel
theorem dX5_bestOpening_8 : decode cX5_bestOpening 8 = .ok (.iload_n 1, 1) := by decide +kernel
theorem dX5_bestOpening_9 : decode cX5_bestOpening 9 = .ok (.iconst 0, 1) := by decide +kernel
theorem dX5_bestOpening_10 : decode cX5_bestOpening 10 = .ok (.invokevirtual 263, 3) := by decide +kernel
theorem dX5_bestOpening_13 : decode cX5_bestOpening 13 = .ok (.istore_n 3, 1) := by decide +kernel
theorem dX5_bestOpening_14 : decode cX5_bestOpening 14 = .ok (.iconst 1, 1) := by decide +kernel
theorem dX5_bestOpening_15 : decode cX5_bestOpening 15 = .ok (.istore 4, 2) := by decide +kernel
theorem dX5_bestOpening_17 : decode cX5_bestOpening 17 = .ok (.iload 4, 2) := by decide +kernel
theorem dX5_bestOpening_19 : decode cX5_bestOpening 19 = .ok (.bipush 10, 2) := by decide +kernel
theorem dX5_bestOpening_21 : decode cX5_bestOpening 21 = .ok (.if_icmp .gt 30, 3) := by decide +kernel
theorem dX5_bestOpening_24 : decode cX5_bestOpening 24 = .ok (.aload_n 0, 1) := by decide +kernel
theorem dX5_bestOpening_25 : decode cX5_bestOpening 25 = .ok (.iload_n 1, 1) := by decide +kernel
theorem dX5_bestOpening_26 : decode cX5_bestOpening 26 = .ok (.iload 4, 2) := by decide +kernel
theorem dX5_bestOpening_28 : decode cX5_bestOpening 28 = .ok (.invokevirtual 263, 3) := by decide +kernel
theorem dX5_bestOpening_31 : decode cX5_bestOpening 31 = .ok (.istore 5, 2) := by decide +kernel
theorem dX5_bestOpening_33 : decode cX5_bestOpening 33 = .ok (.iload 5, 2) := by decide +kernel
theorem dX5_bestOpening_35 : decode cX5_bestOpening 35 = .ok (.iload_n 3, 1) := by decide +kernel
theorem dX5_bestOpening_36 : decode cX5_bestOpening 36 = .ok (.if_icmp .ge 9, 3) := by decide +kernel
theorem dX5_bestOpening_39 : decode cX5_bestOpening 39 = .ok (.iload 5, 2) := by decide +kernel
theorem dX5_bestOpening_41 : decode cX5_bestOpening 41 = .ok (.istore_n 3, 1) := by decide +kernel
theorem dX5_bestOpening_42 : decode cX5_bestOpening 42 = .ok (.iload 4, 2) := by decide +kernel
theorem dX5_bestOpening_44 : decode cX5_bestOpening 44 = .ok (.istore_n 2, 1) := by decide +kernel
theorem dX5_bestOpening_45 : decode cX5_bestOpening 45 = .ok (.iinc 4 1, 3) := by decide +kernel
theorem dX5_bestOpening_48 : decode cX5_bestOpening 48 = .ok (.goto (-31), 3) := by decide +kernel
theorem dX5_bestOpening_51 : decode cX5_bestOpening 51 = .ok (.iload_n 2, 1) := by decide +kernel
theorem dX5_bestOpening_52 : decode cX5_bestOpening 52 = .ok (.ireturn, 1) := by decide +kernel
theorem dX5_writeRule_0 : decode cX5_writeRule 0 = .ok (.aload_n 0, 1) := by decide +kernel
theorem dX5_writeRule_1 : decode cX5_writeRule 1 = .ok (.iload_n 1, 1) := by decide +kernel
theorem dX5_writeRule_2 : decode cX5_writeRule 2 = .ok (.invokevirtual 120, 3) := by decide +kernel
theorem dX5_writeRule_5 : decode cX5_writeRule 5 = .ok (.aload_n 0, 1) := by decide +kernel
theorem dX5_writeRule_6 : decode cX5_writeRule 6 = .ok (.getfield 16, 3) := by decide +kernel
theorem dX5_writeRule_9 : decode cX5_writeRule 9 = .ok (.iload_n 1, 1) := by decide +kernel
theorem dX5_writeRule_10 : decode cX5_writeRule 10 = .ok (.invokevirtual 127, 3) := by decide +kernel
theorem dX5_writeRule_13 : decode cX5_writeRule 13 = .ok (.checkcast 115, 3) := by decide +kernel
theorem dX5_writeRule_16 : decode cX5_writeRule 16 = .ok (.astore_n 2, 1) := by decide +kernel
theorem dX5_writeRule_17 : decode cX5_writeRule 17 = .ok (.aload_n 0, 1) := by decide +kernel
theorem dX5_writeRule_18 : decode cX5_writeRule 18 = .ok (.getfield 35, 3) := by decide +kernel
theorem dX5_writeRule_21 : decode cX5_writeRule 21 = .ok (.iconst 0, 1) := by decide +kernel
theorem dX5_writeRule_22 : decode cX5_writeRule 22 = .ok (.invokevirtual 266, 3) := by decide +kernel
theorem dX5_writeRule_25 : decode cX5_writeRule 25 = .ok (.aload_n 0, 1) := by decide +kernel
theorem dX5_writeRule_26 : decode cX5_writeRule 26 = .ok (.getfield 35, 3) := by decide +kernel
theorem dX5_writeRule_29 : decode cX5_writeRule 29 = .ok (.aload_n 2, 1) := by decide +kernel
theorem dX5_writeRule_30 : decode cX5_writeRule 30 = .ok (.getfield 269, 3) := by decide +kernel
theorem dX5_writeRule_33 : decode cX5_writeRule 33 = .ok (.invokevirtual 272, 3) := by decide +kernel
theorem dX5_writeRule_36 : decode cX5_writeRule 36 = .ok (.bipush 58, 2) := by decide +kernel
theorem dX5_writeRule_38 : decode cX5_writeRule 38 = .ok (.invokevirtual 275, 3) := by decide +kernel
theorem dX5_writeRule_41 : decode cX5_writeRule 41 = .ok (.aload_n 2, 1) := by decide +kernel
theorem dX5_writeRule_42 : decode cX5_writeRule 42 = .ok (.getfield 278, 3) := by decide +kernel
theorem dX5_writeRule_45 : decode cX5_writeRule 45 = .ok (.invokevirtual 272, 3) := by decide +kernel
theorem dX5_writeRule_48 : decode cX5_writeRule 48 = .ok (.pop, 1) := by decide +kernel
theorem dX5_writeRule_49 : decode cX5_writeRule 49 = .ok (.aload_n 0, 1) := by decide +kernel
theorem dX5_writeRule_50 : decode cX5_writeRule 50 = .ok (.getfield 35, 3) := by decide +kernel
theorem dX5_writeRule_53 : decode cX5_writeRule 53 = .ok (.aload_n 2, 1) := by decide +kernel
theorem dX5_writeRule_54 : decode cX5_writeRule 54 = .ok (.getfield 281, 3) := by decide +kernel
theorem dX5_writeRule_57 : decode cX5_writeRule 57 = .ok (.ifCond .eq 8, 3) := by decide +kernel
theorem dX5_writeRule_60 : decode cX5_writeRule 60 = .ok (.bipush 62, 2) := by decide +kernel
theorem dX5_writeRule_62 : decode cX5_writeRule 62 = .ok (.goto 5, 3) := by decide +kernel
theorem dX5_writeRule_65 : decode cX5_writeRule 65 = .ok (.bipush 60, 2) := by decide +kernel
theorem dX5_writeRule_67 : decode cX5_writeRule 67 = .ok (.invokevirtual 275, 3) := by decide +kernel
theorem dX5_writeRule_70 : decode cX5_writeRule 70 = .ok (.aload_n 2, 1) := by decide +kernel
theorem dX5_writeRule_71 : decode cX5_writeRule 71 = .ok (.getfield 285, 3) := by decide +kernel
theorem dX5_writeRule_74 : decode cX5_writeRule 74 = .ok (.invokevirtual 272, 3) := by decide +kernel
theorem dX5_writeRule_77 : decode cX5_writeRule 77 = .ok (.pop, 1) := by decide +kernel
theorem dX5_writeRule_78 : decode cX5_writeRule 78 = .ok (.aload_n 0, 1) := by decide +kernel
theorem dX5_writeRule_79 : decode cX5_writeRule 79 = .ok (.getfield 35, 3) := by decide +kernel
theorem dX5_writeRule_82 : decode cX5_writeRule 82 = .ok (.bipush 61, 2) := by decide +kernel
theorem dX5_writeRule_84 : decode cX5_writeRule 84 = .ok (.invokevirtual 275, 3) := by decide +kernel
theorem dX5_writeRule_87 : decode cX5_writeRule 87 = .ok (.aload_n 2, 1) := by decide +kernel
theorem dX5_writeRule_88 : decode cX5_writeRule 88 = .ok (.getfield 288, 3) := by decide +kernel
theorem dX5_writeRule_91 : decode cX5_writeRule 91 = .ok (.invokevirtual 272, 3) := by decide +kernel
theorem dX5_writeRule_94 : decode cX5_writeRule 94 = .ok (.pop, 1) := by decide +kernel
theorem dX5_writeRule_95 : decode cX5_writeRule 95 = .ok (.aload_n 0, 1) := by decide +kernel
theorem dX5_writeRule_96 : decode cX5_writeRule 96 = .ok (.getfield 35, 3) := by decide +kernel
theorem dX5_writeRule_99 : decode cX5_writeRule 99 = .ok (.invokevirtual 291, 3) := by decide +kernel
theorem dX5_writeRule_102 : decode cX5_writeRule 102 = .ok (.ireturn, 1) := by decide +kernel
theorem dX5_lineAt_0 : decode cX5_lineAt 0 = .ok (.iload_n 1, 1) := by decide +kernel
theorem dX5_lineAt_1 : decode cX5_lineAt 1 = .ok (.iconst 0, 1) := by decide +kernel
theorem dX5_lineAt_2 : decode cX5_lineAt 2 = .ok (.aload_n 0, 1) := by decide +kernel
theorem dX5_lineAt_3 : decode cX5_lineAt 3 = .ok (.getfield 35, 3) := by decide +kernel
theorem dX5_lineAt_6 : decode cX5_lineAt 6 = .ok (.invokevirtual 291, 3) := by decide +kernel
theorem dX5_lineAt_9 : decode cX5_lineAt 9 = .ok (.iconst 1, 1) := by decide +kernel
theorem dX5_lineAt_10 : decode cX5_lineAt 10 = .ok (.isub, 1) := by decide +kernel
theorem dX5_lineAt_11 : decode cX5_lineAt 11 = .ok (.invokestatic 43, 3) := by decide +kernel
theorem dX5_lineAt_14 : decode cX5_lineAt 14 = .ok (.ifCond .ne 14, 3) := by decide +kernel
theorem dX5_lineAt_17 : decode cX5_lineAt 17 = .ok (.new 47, 3) := by decide +kernel
theorem dX5_lineAt_20 : decode cX5_lineAt 20 = .ok (.dup, 1) := by decide +kernel
theorem dX5_lineAt_21 : decode cX5_lineAt 21 = .ok (.ldc_w 294, 3) := by decide +kernel
theorem dX5_lineAt_24 : decode cX5_lineAt 24 = .ok (.invokespecial 51, 3) := by decide +kernel
theorem dX5_lineAt_27 : decode cX5_lineAt 27 = .ok (.athrow, 1) := by decide +kernel
theorem dX5_lineAt_28 : decode cX5_lineAt 28 = .ok (.aload_n 0, 1) := by decide +kernel
theorem dX5_lineAt_29 : decode cX5_lineAt 29 = .ok (.getfield 35, 3) := by decide +kernel
theorem dX5_lineAt_32 : decode cX5_lineAt 32 = .ok (.iload_n 1, 1) := by decide +kernel
theorem dX5_lineAt_33 : decode cX5_lineAt 33 = .ok (.invokevirtual 296, 3) := by decide +kernel
theorem dX5_lineAt_36 : decode cX5_lineAt 36 = .ok (.ireturn, 1) := by decide +kernel
theorem dX5_isWithin_0 : decode cX5_isWithin 0 = .ok (.iload_n 0, 1) := by decide +kernel
theorem dX5_isWithin_1 : decode cX5_isWithin 1 = .ok (.iload_n 1, 1) := by decide +kernel
theorem dX5_isWithin_2 : decode cX5_isWithin 2 = .ok (.if_icmp .lt 12, 3) := by decide +kernel
theorem dX5_isWithin_5 : decode cX5_isWithin 5 = .ok (.iload_n 0, 1) := by decide +kernel
theorem dX5_isWithin_6 : decode cX5_isWithin 6 = .ok (.iload_n 2, 1) := by decide +kernel
theorem dX5_isWithin_7 : decode cX5_isWithin 7 = .ok (.if_icmp .gt 7, 3) := by decide +kernel
theorem dX5_isWithin_10 : decode cX5_isWithin 10 = .ok (.iconst 1, 1) := by decide +kernel
theorem dX5_isWithin_11 : decode cX5_isWithin 11 = .ok (.goto 4, 3) := by decide +kernel
theorem dX5_isWithin_14 : decode cX5_isWithin 14 = .ok (.iconst 0, 1) := by decide +kernel
theorem dX5_isWithin_15 : decode cX5_isWithin 15 = .ok (.ireturn, 1) := by decide +kernel
theorem dX5_requireHeight_0 : decode cX5_requireHeight 0 = .ok (.iload_n 0, 1) := by decide +kernel
theorem dX5_requireHeight_1 : decode cX5_requireHeight 1 = .ok (.iconst 0, 1) := by decide +kernel
theorem dX5_requireHeight_2 : decode cX5_requireHeight 2 = .ok (.bipush 30, 2) := by decide +kernel
theorem dX5_requireHeight_4 : decode cX5_requireHeight 4 = .ok (.invokestatic 43, 3) := by decide +kernel
theorem dX5_requireHeight_7 : decode cX5_requireHeight 7 = .ok (.ifCond .ne 14, 3) := by decide +kernel
theorem dX5_requireHeight_10 : decode cX5_requireHeight 10 = .ok (.new 54, 3) := by decide +kernel
theorem dX5_requireHeight_13 : decode cX5_requireHeight 13 = .ok (.dup, 1) := by decide +kernel
theorem dX5_requireHeight_14 : decode cX5_requireHeight 14 = .ok (.ldc_w 300, 3) := by decide +kernel
theorem dX5_requireHeight_17 : decode cX5_requireHeight 17 = .ok (.invokespecial 58, 3) := by decide +kernel
theorem dX5_requireHeight_20 : decode cX5_requireHeight 20 = .ok (.athrow, 1) := by decide +kernel
theorem dX5_requireHeight_21 : decode cX5_requireHeight 21 = .ok (.return_, 1) := by decide +kernel
theorem dX5_requireOpening_0 : decode cX5_requireOpening 0 = .ok (.iload_n 0, 1) := by decide +kernel
theorem dX5_requireOpening_1 : decode cX5_requireOpening 1 = .ok (.iconst 0, 1) := by decide +kernel
theorem dX5_requireOpening_2 : decode cX5_requireOpening 2 = .ok (.bipush 10, 2) := by decide +kernel
theorem dX5_requireOpening_4 : decode cX5_requireOpening 4 = .ok (.invokestatic 43, 3) := by decide +kernel
theorem dX5_requireOpening_7 : decode cX5_requireOpening 7 = .ok (.ifCond .ne 14, 3) := by decide +kernel
theorem dX5_requireOpening_10 : decode cX5_requireOpening 10 = .ok (.new 54, 3) := by decide +kernel
theorem dX5_requireOpening_13 : decode cX5_requireOpening 13 = .ok (.dup, 1) := by decide +kernel
theorem dX5_requireOpening_14 : decode cX5_requireOpening 14 = .ok (.ldc_w 302, 3) := by decide +kernel
theorem dX5_requireOpening_17 : decode cX5_requireOpening 17 = .ok (.invokespecial 58, 3) := by decide +kernel
theorem dX5_requireOpening_20 : decode cX5_requireOpening 20 = .ok (.athrow, 1) := by decide +kernel
theorem dX5_requireOpening_21 : decode cX5_requireOpening 21 = .ok (.return_, 1) := by decide +kernel
theorem dX5_requireBeforeFirstHour_0 : decode cX5_requireBeforeFirstHour 0 = .ok (.aload_n 0, 1) := by decide +kernel
theorem dX5_requireBeforeFirstHour_1 : decode cX5_requireBeforeFirstHour 1 = .ok (.getfield 151, 3) := by decide +kernel
theorem dX5_requireBeforeFirstHour_4 : decode cX5_requireBeforeFirstHour 4 = .ok (.ifCond .le 14, 3) := by decide +kernel
theorem dX5_requireBeforeFirstHour_7 : decode cX5_requireBeforeFirstHour 7 = .ok (.new 63, 3) := by decide +kernel
theorem dX5_requireBeforeFirstHour_10 : decode cX5_requireBeforeFirstHour 10 = .ok (.dup, 1) := by decide +kernel
theorem dX5_requireBeforeFirstHour_11 : decode cX5_requireBeforeFirstHour 11 = .ok (.ldc_w 304, 3) := by decide +kernel
theorem dX5_requireBeforeFirstHour_14 : decode cX5_requireBeforeFirstHour 14 = .ok (.invokespecial 67, 3) := by decide +kernel
theorem dX5_requireBeforeFirstHour_17 : decode cX5_requireBeforeFirstHour 17 = .ok (.athrow, 1) := by decide +kernel
theorem dX5_requireBeforeFirstHour_18 : decode cX5_requireBeforeFirstHour 18 = .ok (.return_, 1) := by decide +kernel
theorem dX5_requireHour_0 : decode cX5_requireHour 0 = .ok (.iload_n 1, 1) := by decide +kernel
theorem dX5_requireHour_1 : decode cX5_requireHour 1 = .ok (.iconst 1, 1) := by decide +kernel
theorem dX5_requireHour_2 : decode cX5_requireHour 2 = .ok (.aload_n 0, 1) := by decide +kernel
theorem dX5_requireHour_3 : decode cX5_requireHour 3 = .ok (.getfield 151, 3) := by decide +kernel
theorem dX5_requireHour_6 : decode cX5_requireHour 6 = .ok (.invokestatic 43, 3) := by decide +kernel
theorem dX5_requireHour_9 : decode cX5_requireHour 9 = .ok (.ifCond .ne 14, 3) := by decide +kernel
theorem dX5_requireHour_12 : decode cX5_requireHour 12 = .ok (.new 54, 3) := by decide +kernel
theorem dX5_requireHour_15 : decode cX5_requireHour 15 = .ok (.dup, 1) := by decide +kernel
theorem dX5_requireHour_16 : decode cX5_requireHour 16 = .ok (.ldc_w 306, 3) := by decide +kernel
theorem dX5_requireHour_19 : decode cX5_requireHour 19 = .ok (.invokespecial 58, 3) := by decide +kernel
theorem dX5_requireHour_22 : decode cX5_requireHour 22 = .ok (.athrow, 1) := by decide +kernel
theorem dX5_requireHour_23 : decode cX5_requireHour 23 = .ok (.return_, 1) := by decide +kernel
theorem dX5_requireBasin_0 : decode cX5_requireBasin 0 = .ok (.iload_n 1, 1) := by decide +kernel
theorem dX5_requireBasin_1 : decode cX5_requireBasin 1 = .ok (.iconst 0, 1) := by decide +kernel
theorem dX5_requireBasin_2 : decode cX5_requireBasin 2 = .ok (.aload_n 0, 1) := by decide +kernel
theorem dX5_requireBasin_3 : decode cX5_requireBasin 3 = .ok (.getfield 10, 3) := by decide +kernel
theorem dX5_requireBasin_6 : decode cX5_requireBasin 6 = .ok (.invokevirtual 39, 3) := by decide +kernel
theorem dX5_requireBasin_9 : decode cX5_requireBasin 9 = .ok (.iconst 1, 1) := by decide +kernel
theorem dX5_requireBasin_10 : decode cX5_requireBasin 10 = .ok (.isub, 1) := by decide +kernel
theorem dX5_requireBasin_11 : decode cX5_requireBasin 11 = .ok (.invokestatic 43, 3) := by decide +kernel
theorem dX5_requireBasin_14 : decode cX5_requireBasin 14 = .ok (.ifCond .ne 14, 3) := by decide +kernel
theorem dX5_requireBasin_17 : decode cX5_requireBasin 17 = .ok (.new 47, 3) := by decide +kernel
theorem dX5_requireBasin_20 : decode cX5_requireBasin 20 = .ok (.dup, 1) := by decide +kernel
theorem dX5_requireBasin_21 : decode cX5_requireBasin 21 = .ok (.ldc_w 308, 3) := by decide +kernel
theorem dX5_requireBasin_24 : decode cX5_requireBasin 24 = .ok (.invokespecial 51, 3) := by decide +kernel
theorem dX5_requireBasin_27 : decode cX5_requireBasin 27 = .ok (.athrow, 1) := by decide +kernel
theorem dX5_requireBasin_28 : decode cX5_requireBasin 28 = .ok (.return_, 1) := by decide +kernel
theorem dX5_requireRule_0 : decode cX5_requireRule 0 = .ok (.iload_n 1, 1) := by decide +kernel
theorem dX5_requireRule_1 : decode cX5_requireRule 1 = .ok (.iconst 0, 1) := by decide +kernel
theorem dX5_requireRule_2 : decode cX5_requireRule 2 = .ok (.aload_n 0, 1) := by decide +kernel
theorem dX5_requireRule_3 : decode cX5_requireRule 3 = .ok (.getfield 16, 3) := by decide +kernel
theorem dX5_requireRule_6 : decode cX5_requireRule 6 = .ok (.invokevirtual 39, 3) := by decide +kernel
theorem dX5_requireRule_9 : decode cX5_requireRule 9 = .ok (.iconst 1, 1) := by decide +kernel
theorem dX5_requireRule_10 : decode cX5_requireRule 10 = .ok (.isub, 1) := by decide +kernel
theorem dX5_requireRule_11 : decode cX5_requireRule 11 = .ok (.invokestatic 43, 3) := by decide +kernel
theorem dX5_requireRule_14 : decode cX5_requireRule 14 = .ok (.ifCond .ne 14, 3) := by decide +kernel
theorem dX5_requireRule_17 : decode cX5_requireRule 17 = .ok (.new 47, 3) := by decide +kernel
theorem dX5_requireRule_20 : decode cX5_requireRule 20 = .ok (.dup, 1) := by decide +kernel
theorem dX5_requireRule_21 : decode cX5_requireRule 21 = .ok (.ldc_w 310, 3) := by decide +kernel
theorem dX5_requireRule_24 : decode cX5_requireRule 24 = .ok (.invokespecial 51, 3) := by decide +kernel
theorem dX5_requireRule_27 : decode cX5_requireRule 27 = .ok (.athrow, 1) := by decide +kernel
theorem dX5_requireRule_28 : decode cX5_requireRule 28 = .ok (.return_, 1) := by decide +kernel
theorem dX5_basinOf_0 : decode cX5_basinOf 0 = .ok (.aload_n 0, 1) := by decide +kernel
theorem dX5_basinOf_1 : decode cX5_basinOf 1 = .ok (.iload_n 1, 1) := by decide +kernel
theorem dX5_basinOf_2 : decode cX5_basinOf 2 = .ok (.invokevirtual 108, 3) := by decide +kernel
theorem dX5_basinOf_5 : decode cX5_basinOf 5 = .ok (.aload_n 0, 1) := by decide +kernel
theorem dX5_basinOf_6 : decode cX5_basinOf 6 = .ok (.getfield 10, 3) := by decide +kernel
theorem dX5_basinOf_9 : decode cX5_basinOf 9 = .ok (.iload_n 1, 1) := by decide +kernel
theorem dX5_basinOf_10 : decode cX5_basinOf 10 = .ok (.invokevirtual 127, 3) := by decide +kernel
theorem dX5_basinOf_13 : decode cX5_basinOf 13 = .ok (.checkcast 71, 3) := by decide +kernel
theorem dX5_basinOf_16 : decode cX5_basinOf 16 = .ok (.areturn, 1) := by decide +kernel
theorem dX5_streetWith_0 : decode cX5_streetWith 0 = .ok (.aload_n 0, 1) := by decide +kernel
theorem dX5_streetWith_1 : decode cX5_streetWith 1 = .ok (.iload_n 1, 1) := by decide +kernel
theorem dX5_streetWith_2 : decode cX5_streetWith 2 = .ok (.invokevirtual 80, 3) := by decide +kernel
theorem dX5_streetWith_5 : decode cX5_streetWith 5 = .ok (.getfield 84, 3) := by decide +kernel
theorem dX5_streetWith_8 : decode cX5_streetWith 8 = .ok (.astore_n 3, 1) := by decide +kernel
theorem dX5_streetWith_9 : decode cX5_streetWith 9 = .ok (.iload_n 2, 1) := by decide +kernel
theorem dX5_streetWith_10 : decode cX5_streetWith 10 = .ok (.iconst 0, 1) := by decide +kernel
theorem dX5_streetWith_11 : decode cX5_streetWith 11 = .ok (.aload_n 3, 1) := by decide +kernel
theorem dX5_streetWith_12 : decode cX5_streetWith 12 = .ok (.getfield 88, 3) := by decide +kernel
theorem dX5_streetWith_15 : decode cX5_streetWith 15 = .ok (.iconst 1, 1) := by decide +kernel
theorem dX5_streetWith_16 : decode cX5_streetWith 16 = .ok (.isub, 1) := by decide +kernel
theorem dX5_streetWith_17 : decode cX5_streetWith 17 = .ok (.invokestatic 43, 3) := by decide +kernel
theorem dX5_streetWith_20 : decode cX5_streetWith 20 = .ok (.ifCond .ne 14, 3) := by decide +kernel
theorem dX5_streetWith_23 : decode cX5_streetWith 23 = .ok (.new 47, 3) := by decide +kernel
theorem dX5_streetWith_26 : decode cX5_streetWith 26 = .ok (.dup, 1) := by decide +kernel
theorem dX5_streetWith_27 : decode cX5_streetWith 27 = .ok (.ldc_w 312, 3) := by decide +kernel
theorem dX5_streetWith_30 : decode cX5_streetWith 30 = .ok (.invokespecial 51, 3) := by decide +kernel
theorem dX5_streetWith_33 : decode cX5_streetWith 33 = .ok (.athrow, 1) := by decide +kernel
theorem dX5_streetWith_34 : decode cX5_streetWith 34 = .ok (.aload_n 3, 1) := by decide +kernel
theorem dX5_streetWith_35 : decode cX5_streetWith 35 = .ok (.areturn, 1) := by decide +kernel
theorem dX5_houseOf_0 : decode cX5_houseOf 0 = .ok (.iload_n 1, 1) := by decide +kernel
theorem dX5_houseOf_1 : decode cX5_houseOf 1 = .ok (.iconst 0, 1) := by decide +kernel
theorem dX5_houseOf_2 : decode cX5_houseOf 2 = .ok (.aload_n 0, 1) := by decide +kernel
theorem dX5_houseOf_3 : decode cX5_houseOf 3 = .ok (.getfield 19, 3) := by decide +kernel
theorem dX5_houseOf_6 : decode cX5_houseOf 6 = .ok (.invokevirtual 39, 3) := by decide +kernel
theorem dX5_houseOf_9 : decode cX5_houseOf 9 = .ok (.iconst 1, 1) := by decide +kernel
theorem dX5_houseOf_10 : decode cX5_houseOf 10 = .ok (.isub, 1) := by decide +kernel
theorem dX5_houseOf_11 : decode cX5_houseOf 11 = .ok (.invokestatic 43, 3) := by decide +kernel
theorem dX5_houseOf_14 : decode cX5_houseOf 14 = .ok (.ifCond .ne 14, 3) := by decide +kernel
theorem dX5_houseOf_17 : decode cX5_houseOf 17 = .ok (.new 47, 3) := by decide +kernel
theorem dX5_houseOf_20 : decode cX5_houseOf 20 = .ok (.dup, 1) := by decide +kernel
theorem dX5_houseOf_21 : decode cX5_houseOf 21 = .ok (.ldc_w 314, 3) := by decide +kernel
theorem dX5_houseOf_24 : decode cX5_houseOf 24 = .ok (.invokespecial 51, 3) := by decide +kernel
theorem dX5_houseOf_27 : decode cX5_houseOf 27 = .ok (.athrow, 1) := by decide +kernel
theorem dX5_houseOf_28 : decode cX5_houseOf 28 = .ok (.aload_n 0, 1) := by decide +kernel
theorem dX5_houseOf_29 : decode cX5_houseOf 29 = .ok (.getfield 19, 3) := by decide +kernel
theorem dX5_houseOf_32 : decode cX5_houseOf 32 = .ok (.iload_n 1, 1) := by decide +kernel
theorem dX5_houseOf_33 : decode cX5_houseOf 33 = .ok (.invokevirtual 127, 3) := by decide +kernel
theorem dX5_houseOf_36 : decode cX5_houseOf 36 = .ok (.checkcast 210, 3) := by decide +kernel
theorem dX5_houseOf_39 : decode cX5_houseOf 39 = .ok (.areturn, 1) := by decide +kernel
theorem dX5_passOneHour_0 : decode cX5_passOneHour 0 = .ok (.aload_n 0, 1) := by decide +kernel
theorem dX5_passOneHour_1 : decode cX5_passOneHour 1 = .ok (.getfield 151, 3) := by decide +kernel
theorem dX5_passOneHour_4 : decode cX5_passOneHour 4 = .ok (.iconst 1, 1) := by decide +kernel
theorem dX5_passOneHour_5 : decode cX5_passOneHour 5 = .ok (.iadd, 1) := by decide +kernel
theorem dX5_passOneHour_6 : decode cX5_passOneHour 6 = .ok (.istore_n 1, 1) := by decide +kernel
theorem dX5_passOneHour_7 : decode cX5_passOneHour 7 = .ok (.iconst 0, 1) := by decide +kernel
theorem dX5_passOneHour_8 : decode cX5_passOneHour 8 = .ok (.istore_n 2, 1) := by decide +kernel
theorem dX5_passOneHour_9 : decode cX5_passOneHour 9 = .ok (.iload_n 2, 1) := by decide +kernel
theorem dX5_passOneHour_10 : decode cX5_passOneHour 10 = .ok (.aload_n 0, 1) := by decide +kernel
theorem dX5_passOneHour_11 : decode cX5_passOneHour 11 = .ok (.getfield 10, 3) := by decide +kernel
theorem dX5_passOneHour_14 : decode cX5_passOneHour 14 = .ok (.invokevirtual 39, 3) := by decide +kernel
theorem dX5_passOneHour_17 : decode cX5_passOneHour 17 = .ok (.if_icmp .ge 44, 3) := by decide +kernel
theorem dX5_passOneHour_20 : decode cX5_passOneHour 20 = .ok (.aload_n 0, 1) := by decide +kernel
theorem dX5_passOneHour_21 : decode cX5_passOneHour 21 = .ok (.getfield 10, 3) := by decide +kernel
theorem dX5_passOneHour_24 : decode cX5_passOneHour 24 = .ok (.iload_n 2, 1) := by decide +kernel
theorem dX5_passOneHour_25 : decode cX5_passOneHour 25 = .ok (.invokevirtual 127, 3) := by decide +kernel
theorem dX5_passOneHour_28 : decode cX5_passOneHour 28 = .ok (.checkcast 71, 3) := by decide +kernel
theorem dX5_passOneHour_31 : decode cX5_passOneHour 31 = .ok (.astore_n 3, 1) := by decide +kernel
theorem dX5_passOneHour_32 : decode cX5_passOneHour 32 = .ok (.aload_n 3, 1) := by decide +kernel
theorem dX5_passOneHour_33 : decode cX5_passOneHour 33 = .ok (.getfield 316, 3) := by decide +kernel
theorem dX5_passOneHour_36 : decode cX5_passOneHour 36 = .ok (.iload_n 1, 1) := by decide +kernel
theorem dX5_passOneHour_37 : decode cX5_passOneHour 37 = .ok (.aload_n 3, 1) := by decide +kernel
theorem dX5_passOneHour_38 : decode cX5_passOneHour 38 = .ok (.getfield 140, 3) := by decide +kernel
theorem dX5_passOneHour_41 : decode cX5_passOneHour 41 = .ok (.iastore, 1) := by decide +kernel
theorem dX5_passOneHour_42 : decode cX5_passOneHour 42 = .ok (.aload_n 0, 1) := by decide +kernel
theorem dX5_passOneHour_43 : decode cX5_passOneHour 43 = .ok (.dup, 1) := by decide +kernel
theorem dX5_passOneHour_44 : decode cX5_passOneHour 44 = .ok (.getfield 169, 3) := by decide +kernel
theorem dX5_passOneHour_47 : decode cX5_passOneHour 47 = .ok (.aload_n 3, 1) := by decide +kernel
theorem dX5_passOneHour_48 : decode cX5_passOneHour 48 = .ok (.getfield 140, 3) := by decide +kernel
theorem dX5_passOneHour_51 : decode cX5_passOneHour 51 = .ok (.iadd, 1) := by decide +kernel
theorem dX5_passOneHour_52 : decode cX5_passOneHour 52 = .ok (.putfield 169, 3) := by decide +kernel
theorem dX5_passOneHour_55 : decode cX5_passOneHour 55 = .ok (.iinc 2 1, 3) := by decide +kernel
theorem dX5_passOneHour_58 : decode cX5_passOneHour 58 = .ok (.goto (-49), 3) := by decide +kernel
theorem dX5_passOneHour_61 : decode cX5_passOneHour 61 = .ok (.aload_n 0, 1) := by decide +kernel
theorem dX5_passOneHour_62 : decode cX5_passOneHour 62 = .ok (.aload_n 0, 1) := by decide +kernel
theorem dX5_passOneHour_63 : decode cX5_passOneHour 63 = .ok (.getfield 25, 3) := by decide +kernel
theorem dX5_passOneHour_66 : decode cX5_passOneHour 66 = .ok (.iload_n 1, 1) := by decide +kernel
theorem dX5_passOneHour_67 : decode cX5_passOneHour 67 = .ok (.iconst (-1), 1) := by decide +kernel
theorem dX5_passOneHour_68 : decode cX5_passOneHour 68 = .ok (.iconst 0, 1) := by decide +kernel
theorem dX5_passOneHour_69 : decode cX5_passOneHour 69 = .ok (.invokevirtual 319, 3) := by decide +kernel
theorem dX5_passOneHour_72 : decode cX5_passOneHour 72 = .ok (.iconst 0, 1) := by decide +kernel
theorem dX5_passOneHour_73 : decode cX5_passOneHour 73 = .ok (.istore_n 2, 1) := by decide +kernel
theorem dX5_passOneHour_74 : decode cX5_passOneHour 74 = .ok (.iload_n 2, 1) := by decide +kernel
theorem dX5_passOneHour_75 : decode cX5_passOneHour 75 = .ok (.aload_n 0, 1) := by decide +kernel
theorem dX5_passOneHour_76 : decode cX5_passOneHour 76 = .ok (.getfield 10, 3) := by decide +kernel
theorem dX5_passOneHour_79 : decode cX5_passOneHour 79 = .ok (.invokevirtual 39, 3) := by decide +kernel
theorem dX5_passOneHour_82 : decode cX5_passOneHour 82 = .ok (.if_icmp .ge 37, 3) := by decide +kernel
theorem dX5_passOneHour_85 : decode cX5_passOneHour 85 = .ok (.aload_n 0, 1) := by decide +kernel
theorem dX5_passOneHour_86 : decode cX5_passOneHour 86 = .ok (.getfield 10, 3) := by decide +kernel
theorem dX5_passOneHour_89 : decode cX5_passOneHour 89 = .ok (.iload_n 2, 1) := by decide +kernel
theorem dX5_passOneHour_90 : decode cX5_passOneHour 90 = .ok (.invokevirtual 127, 3) := by decide +kernel
theorem dX5_passOneHour_93 : decode cX5_passOneHour 93 = .ok (.checkcast 71, 3) := by decide +kernel
theorem dX5_passOneHour_96 : decode cX5_passOneHour 96 = .ok (.getfield 84, 3) := by decide +kernel
theorem dX5_passOneHour_99 : decode cX5_passOneHour 99 = .ok (.getfield 192, 3) := by decide +kernel
theorem dX5_passOneHour_102 : decode cX5_passOneHour 102 = .ok (.iload_n 1, 1) := by decide +kernel
theorem dX5_passOneHour_103 : decode cX5_passOneHour 103 = .ok (.aload_n 0, 1) := by decide +kernel
theorem dX5_passOneHour_104 : decode cX5_passOneHour 104 = .ok (.getfield 25, 3) := by decide +kernel
theorem dX5_passOneHour_107 : decode cX5_passOneHour 107 = .ok (.getfield 166, 3) := by decide +kernel
theorem dX5_passOneHour_110 : decode cX5_passOneHour 110 = .ok (.iload_n 2, 1) := by decide +kernel
theorem dX5_passOneHour_111 : decode cX5_passOneHour 111 = .ok (.iaload, 1) := by decide +kernel
theorem dX5_passOneHour_112 : decode cX5_passOneHour 112 = .ok (.iastore, 1) := by decide +kernel
theorem dX5_passOneHour_113 : decode cX5_passOneHour 113 = .ok (.iinc 2 1, 3) := by decide +kernel
theorem dX5_passOneHour_116 : decode cX5_passOneHour 116 = .ok (.goto (-42), 3) := by decide +kernel
theorem dX5_passOneHour_119 : decode cX5_passOneHour 119 = .ok (.aload_n 0, 1) := by decide +kernel
theorem dX5_passOneHour_120 : decode cX5_passOneHour 120 = .ok (.dup, 1) := by decide +kernel
theorem dX5_passOneHour_121 : decode cX5_passOneHour 121 = .ok (.getfield 203, 3) := by decide +kernel
theorem dX5_passOneHour_124 : decode cX5_passOneHour 124 = .ok (.aload_n 0, 1) := by decide +kernel
theorem dX5_passOneHour_125 : decode cX5_passOneHour 125 = .ok (.aload_n 0, 1) := by decide +kernel
theorem dX5_passOneHour_126 : decode cX5_passOneHour 126 = .ok (.getfield 25, 3) := by decide +kernel
theorem dX5_passOneHour_129 : decode cX5_passOneHour 129 = .ok (.invokevirtual 323, 3) := by decide +kernel
theorem dX5_passOneHour_132 : decode cX5_passOneHour 132 = .ok (.iadd, 1) := by decide +kernel
theorem dX5_passOneHour_133 : decode cX5_passOneHour 133 = .ok (.putfield 203, 3) := by decide +kernel
theorem dX5_passOneHour_136 : decode cX5_passOneHour 136 = .ok (.aload_n 0, 1) := by decide +kernel
theorem dX5_passOneHour_137 : decode cX5_passOneHour 137 = .ok (.iload_n 1, 1) := by decide +kernel
theorem dX5_passOneHour_138 : decode cX5_passOneHour 138 = .ok (.putfield 151, 3) := by decide +kernel
theorem dX5_passOneHour_141 : decode cX5_passOneHour 141 = .ok (.return_, 1) := by decide +kernel
theorem dX5_tryPastRain_0 : decode cX5_tryPastRain 0 = .ok (.aload_n 0, 1) := by decide +kernel
theorem dX5_tryPastRain_1 : decode cX5_tryPastRain 1 = .ok (.getfield 29, 3) := by decide +kernel
theorem dX5_tryPastRain_4 : decode cX5_tryPastRain 4 = .ok (.invokevirtual 327, 3) := by decide +kernel
theorem dX5_tryPastRain_7 : decode cX5_tryPastRain 7 = .ok (.iconst 0, 1) := by decide +kernel
theorem dX5_tryPastRain_8 : decode cX5_tryPastRain 8 = .ok (.istore_n 3, 1) := by decide +kernel
theorem dX5_tryPastRain_9 : decode cX5_tryPastRain 9 = .ok (.iconst 1, 1) := by decide +kernel
theorem dX5_tryPastRain_10 : decode cX5_tryPastRain 10 = .ok (.istore 4, 2) := by decide +kernel
theorem dX5_tryPastRain_12 : decode cX5_tryPastRain 12 = .ok (.iload 4, 2) := by decide +kernel
theorem dX5_tryPastRain_14 : decode cX5_tryPastRain 14 = .ok (.aload_n 0, 1) := by decide +kernel
theorem dX5_tryPastRain_15 : decode cX5_tryPastRain 15 = .ok (.getfield 151, 3) := by decide +kernel
theorem dX5_tryPastRain_18 : decode cX5_tryPastRain 18 = .ok (.if_icmp .gt 32, 3) := by decide +kernel
theorem dX5_tryPastRain_21 : decode cX5_tryPastRain 21 = .ok (.aload_n 0, 1) := by decide +kernel
theorem dX5_tryPastRain_22 : decode cX5_tryPastRain 22 = .ok (.aload_n 0, 1) := by decide +kernel
theorem dX5_tryPastRain_23 : decode cX5_tryPastRain 23 = .ok (.getfield 29, 3) := by decide +kernel
theorem dX5_tryPastRain_26 : decode cX5_tryPastRain 26 = .ok (.iload 4, 2) := by decide +kernel
theorem dX5_tryPastRain_28 : decode cX5_tryPastRain 28 = .ok (.iload_n 1, 1) := by decide +kernel
theorem dX5_tryPastRain_29 : decode cX5_tryPastRain 29 = .ok (.iload_n 2, 1) := by decide +kernel
theorem dX5_tryPastRain_30 : decode cX5_tryPastRain 30 = .ok (.invokevirtual 319, 3) := by decide +kernel
theorem dX5_tryPastRain_33 : decode cX5_tryPastRain 33 = .ok (.iload_n 3, 1) := by decide +kernel
theorem dX5_tryPastRain_34 : decode cX5_tryPastRain 34 = .ok (.aload_n 0, 1) := by decide +kernel
theorem dX5_tryPastRain_35 : decode cX5_tryPastRain 35 = .ok (.aload_n 0, 1) := by decide +kernel
theorem dX5_tryPastRain_36 : decode cX5_tryPastRain 36 = .ok (.getfield 29, 3) := by decide +kernel
theorem dX5_tryPastRain_39 : decode cX5_tryPastRain 39 = .ok (.invokevirtual 323, 3) := by decide +kernel
theorem dX5_tryPastRain_42 : decode cX5_tryPastRain 42 = .ok (.iadd, 1) := by decide +kernel
theorem dX5_tryPastRain_43 : decode cX5_tryPastRain 43 = .ok (.istore_n 3, 1) := by decide +kernel
theorem dX5_tryPastRain_44 : decode cX5_tryPastRain 44 = .ok (.iinc 4 1, 3) := by decide +kernel
theorem dX5_tryPastRain_47 : decode cX5_tryPastRain 47 = .ok (.goto (-35), 3) := by decide +kernel
theorem dX5_tryPastRain_50 : decode cX5_tryPastRain 50 = .ok (.iload_n 3, 1) := by decide +kernel
theorem dX5_tryPastRain_51 : decode cX5_tryPastRain 51 = .ok (.ireturn, 1) := by decide +kernel
theorem dX5_moveWater_0 : decode cX5_moveWater 0 = .ok (.iconst 0, 1) := by decide +kernel
theorem dX5_moveWater_1 : decode cX5_moveWater 1 = .ok (.istore 5, 2) := by decide +kernel
theorem dX5_moveWater_3 : decode cX5_moveWater 3 = .ok (.iload 5, 2) := by decide +kernel
theorem dX5_moveWater_5 : decode cX5_moveWater 5 = .ok (.aload_n 0, 1) := by decide +kernel
theorem dX5_moveWater_6 : decode cX5_moveWater 6 = .ok (.getfield 10, 3) := by decide +kernel
theorem dX5_moveWater_9 : decode cX5_moveWater 9 = .ok (.invokevirtual 39, 3) := by decide +kernel
theorem dX5_moveWater_12 : decode cX5_moveWater 12 = .ok (.if_icmp .ge 36, 3) := by decide +kernel
theorem dX5_moveWater_15 : decode cX5_moveWater 15 = .ok (.aload_n 1, 1) := by decide +kernel
theorem dX5_moveWater_16 : decode cX5_moveWater 16 = .ok (.getfield 159, 3) := by decide +kernel
theorem dX5_moveWater_19 : decode cX5_moveWater 19 = .ok (.iload 5, 2) := by decide +kernel
theorem dX5_moveWater_21 : decode cX5_moveWater 21 = .ok (.dup2, 1) := by decide +kernel
theorem dX5_moveWater_22 : decode cX5_moveWater 22 = .ok (.iaload, 1) := by decide +kernel
theorem dX5_moveWater_23 : decode cX5_moveWater 23 = .ok (.aload_n 0, 1) := by decide +kernel
theorem dX5_moveWater_24 : decode cX5_moveWater 24 = .ok (.getfield 10, 3) := by decide +kernel
theorem dX5_moveWater_27 : decode cX5_moveWater 27 = .ok (.iload 5, 2) := by decide +kernel
theorem dX5_moveWater_29 : decode cX5_moveWater 29 = .ok (.invokevirtual 127, 3) := by decide +kernel
theorem dX5_moveWater_32 : decode cX5_moveWater 32 = .ok (.checkcast 71, 3) := by decide +kernel
theorem dX5_moveWater_35 : decode cX5_moveWater 35 = .ok (.getfield 316, 3) := by decide +kernel
theorem dX5_moveWater_38 : decode cX5_moveWater 38 = .ok (.iload_n 2, 1) := by decide +kernel
theorem dX5_moveWater_39 : decode cX5_moveWater 39 = .ok (.iaload, 1) := by decide +kernel
theorem dX5_moveWater_40 : decode cX5_moveWater 40 = .ok (.iadd, 1) := by decide +kernel
theorem dX5_moveWater_41 : decode cX5_moveWater 41 = .ok (.iastore, 1) := by decide +kernel
theorem dX5_moveWater_42 : decode cX5_moveWater 42 = .ok (.iinc 5 1, 3) := by decide +kernel
theorem dX5_moveWater_45 : decode cX5_moveWater 45 = .ok (.goto (-42), 3) := by decide +kernel
theorem dX5_moveWater_48 : decode cX5_moveWater 48 = .ok (.iconst 0, 1) := by decide +kernel
theorem dX5_moveWater_49 : decode cX5_moveWater 49 = .ok (.istore 5, 2) := by decide +kernel
theorem dX5_moveWater_51 : decode cX5_moveWater 51 = .ok (.iload 5, 2) := by decide +kernel
theorem dX5_moveWater_53 : decode cX5_moveWater 53 = .ok (.aload_n 0, 1) := by decide +kernel
theorem dX5_moveWater_54 : decode cX5_moveWater 54 = .ok (.getfield 10, 3) := by decide +kernel
theorem dX5_moveWater_57 : decode cX5_moveWater 57 = .ok (.invokevirtual 39, 3) := by decide +kernel
theorem dX5_moveWater_60 : decode cX5_moveWater 60 = .ok (.if_icmp .ge 64, 3) := by decide +kernel
theorem dX5_moveWater_63 : decode cX5_moveWater 63 = .ok (.iload 5, 2) := by decide +kernel
theorem dX5_moveWater_65 : decode cX5_moveWater 65 = .ok (.iload_n 3, 1) := by decide +kernel
theorem dX5_moveWater_66 : decode cX5_moveWater 66 = .ok (.if_icmp .ne 8, 3) := by decide +kernel
theorem dX5_moveWater_69 : decode cX5_moveWater 69 = .ok (.iload 4, 2) := by decide +kernel
theorem dX5_moveWater_71 : decode cX5_moveWater 71 = .ok (.goto 10, 3) := by decide +kernel
theorem dX5_moveWater_74 : decode cX5_moveWater 74 = .ok (.aload_n 0, 1) := by decide +kernel
theorem dX5_moveWater_75 : decode cX5_moveWater 75 = .ok (.aload_n 1, 1) := by decide +kernel
theorem dX5_moveWater_76 : decode cX5_moveWater 76 = .ok (.iload 5, 2) := by decide +kernel
theorem dX5_moveWater_78 : decode cX5_moveWater 78 = .ok (.invokevirtual 134, 3) := by decide +kernel
theorem dX5_moveWater_81 : decode cX5_moveWater 81 = .ok (.istore 6, 2) := by decide +kernel
theorem dX5_moveWater_83 : decode cX5_moveWater 83 = .ok (.aload_n 1, 1) := by decide +kernel
theorem dX5_moveWater_84 : decode cX5_moveWater 84 = .ok (.getfield 330, 3) := by decide +kernel
theorem dX5_moveWater_87 : decode cX5_moveWater 87 = .ok (.iload 5, 2) := by decide +kernel
theorem dX5_moveWater_89 : decode cX5_moveWater 89 = .ok (.iload 6, 2) := by decide +kernel
theorem dX5_moveWater_91 : decode cX5_moveWater 91 = .ok (.aload_n 0, 1) := by decide +kernel
theorem dX5_moveWater_92 : decode cX5_moveWater 92 = .ok (.getfield 10, 3) := by decide +kernel
theorem dX5_moveWater_95 : decode cX5_moveWater 95 = .ok (.iload 5, 2) := by decide +kernel
theorem dX5_moveWater_97 : decode cX5_moveWater 97 = .ok (.invokevirtual 127, 3) := by decide +kernel
theorem dX5_moveWater_100 : decode cX5_moveWater 100 = .ok (.checkcast 71, 3) := by decide +kernel
theorem dX5_moveWater_103 : decode cX5_moveWater 103 = .ok (.getfield 333, 3) := by decide +kernel
theorem dX5_moveWater_106 : decode cX5_moveWater 106 = .ok (.imul, 1) := by decide +kernel
theorem dX5_moveWater_107 : decode cX5_moveWater 107 = .ok (.aload_n 1, 1) := by decide +kernel
theorem dX5_moveWater_108 : decode cX5_moveWater 108 = .ok (.getfield 159, 3) := by decide +kernel
theorem dX5_moveWater_111 : decode cX5_moveWater 111 = .ok (.iload 5, 2) := by decide +kernel
theorem dX5_moveWater_113 : decode cX5_moveWater 113 = .ok (.iaload, 1) := by decide +kernel
theorem dX5_moveWater_114 : decode cX5_moveWater 114 = .ok (.invokestatic 336, 3) := by decide +kernel
theorem dX5_moveWater_117 : decode cX5_moveWater 117 = .ok (.iastore, 1) := by decide +kernel
theorem dX5_moveWater_118 : decode cX5_moveWater 118 = .ok (.iinc 5 1, 3) := by decide +kernel
theorem dX5_moveWater_121 : decode cX5_moveWater 121 = .ok (.goto (-70), 3) := by decide +kernel
theorem dX5_moveWater_124 : decode cX5_moveWater 124 = .ok (.iconst 0, 1) := by decide +kernel
theorem dX5_moveWater_125 : decode cX5_moveWater 125 = .ok (.istore 5, 2) := by decide +kernel
theorem dX5_moveWater_127 : decode cX5_moveWater 127 = .ok (.iload 5, 2) := by decide +kernel
theorem dX5_moveWater_129 : decode cX5_moveWater 129 = .ok (.aload_n 0, 1) := by decide +kernel
theorem dX5_moveWater_130 : decode cX5_moveWater 130 = .ok (.getfield 10, 3) := by decide +kernel
theorem dX5_moveWater_133 : decode cX5_moveWater 133 = .ok (.invokevirtual 39, 3) := by decide +kernel
theorem dX5_moveWater_136 : decode cX5_moveWater 136 = .ok (.if_icmp .ge 30, 3) := by decide +kernel
theorem dX5_moveWater_139 : decode cX5_moveWater 139 = .ok (.aload_n 1, 1) := by decide +kernel
theorem dX5_moveWater_140 : decode cX5_moveWater 140 = .ok (.iload 5, 2) := by decide +kernel
theorem dX5_moveWater_142 : decode cX5_moveWater 142 = .ok (.aload_n 0, 1) := by decide +kernel
theorem dX5_moveWater_143 : decode cX5_moveWater 143 = .ok (.getfield 10, 3) := by decide +kernel
theorem dX5_moveWater_146 : decode cX5_moveWater 146 = .ok (.iload 5, 2) := by decide +kernel
theorem dX5_moveWater_148 : decode cX5_moveWater 148 = .ok (.invokevirtual 127, 3) := by decide +kernel
theorem dX5_moveWater_151 : decode cX5_moveWater 151 = .ok (.checkcast 71, 3) := by decide +kernel
theorem dX5_moveWater_154 : decode cX5_moveWater 154 = .ok (.getfield 341, 3) := by decide +kernel
theorem dX5_moveWater_157 : decode cX5_moveWater 157 = .ok (.invokevirtual 344, 3) := by decide +kernel
theorem dX5_moveWater_160 : decode cX5_moveWater 160 = .ok (.iinc 5 1, 3) := by decide +kernel
theorem dX5_moveWater_163 : decode cX5_moveWater 163 = .ok (.goto (-36), 3) := by decide +kernel
theorem dX5_moveWater_166 : decode cX5_moveWater 166 = .ok (.iconst 0, 1) := by decide +kernel
theorem dX5_moveWater_167 : decode cX5_moveWater 167 = .ok (.istore 5, 2) := by decide +kernel
theorem dX5_moveWater_169 : decode cX5_moveWater 169 = .ok (.iload 5, 2) := by decide +kernel
theorem dX5_moveWater_171 : decode cX5_moveWater 171 = .ok (.aload_n 0, 1) := by decide +kernel
theorem dX5_moveWater_172 : decode cX5_moveWater 172 = .ok (.getfield 10, 3) := by decide +kernel
theorem dX5_moveWater_175 : decode cX5_moveWater 175 = .ok (.invokevirtual 39, 3) := by decide +kernel
theorem dX5_moveWater_178 : decode cX5_moveWater 178 = .ok (.if_icmp .ge 30, 3) := by decide +kernel
theorem dX5_moveWater_181 : decode cX5_moveWater 181 = .ok (.aload_n 1, 1) := by decide +kernel
theorem dX5_moveWater_182 : decode cX5_moveWater 182 = .ok (.iload 5, 2) := by decide +kernel
theorem dX5_moveWater_184 : decode cX5_moveWater 184 = .ok (.aload_n 0, 1) := by decide +kernel
theorem dX5_moveWater_185 : decode cX5_moveWater 185 = .ok (.getfield 10, 3) := by decide +kernel
theorem dX5_moveWater_188 : decode cX5_moveWater 188 = .ok (.iload 5, 2) := by decide +kernel
theorem dX5_moveWater_190 : decode cX5_moveWater 190 = .ok (.invokevirtual 127, 3) := by decide +kernel
theorem dX5_moveWater_193 : decode cX5_moveWater 193 = .ok (.checkcast 71, 3) := by decide +kernel
theorem dX5_moveWater_196 : decode cX5_moveWater 196 = .ok (.invokevirtual 99, 3) := by decide +kernel
theorem dX5_moveWater_199 : decode cX5_moveWater 199 = .ok (.invokevirtual 348, 3) := by decide +kernel
theorem dX5_moveWater_202 : decode cX5_moveWater 202 = .ok (.iinc 5 1, 3) := by decide +kernel
theorem dX5_moveWater_205 : decode cX5_moveWater 205 = .ok (.goto (-36), 3) := by decide +kernel
theorem dX5_moveWater_208 : decode cX5_moveWater 208 = .ok (.return_, 1) := by decide +kernel
theorem dX5_openingBy_0 : decode cX5_openingBy 0 = .ok (.aload_n 0, 1) := by decide +kernel
theorem dX5_openingBy_1 : decode cX5_openingBy 1 = .ok (.getfield 16, 3) := by decide +kernel
theorem dX5_openingBy_4 : decode cX5_openingBy 4 = .ok (.invokevirtual 39, 3) := by decide +kernel
theorem dX5_openingBy_7 : decode cX5_openingBy 7 = .ok (.iconst 1, 1) := by decide +kernel
theorem dX5_openingBy_8 : decode cX5_openingBy 8 = .ok (.isub, 1) := by decide +kernel
theorem dX5_openingBy_9 : decode cX5_openingBy 9 = .ok (.istore_n 3, 1) := by decide +kernel
theorem dX5_openingBy_10 : decode cX5_openingBy 10 = .ok (.iload_n 3, 1) := by decide +kernel
theorem dX5_openingBy_11 : decode cX5_openingBy 11 = .ok (.ifCond .lt 47, 3) := by decide +kernel
theorem dX5_openingBy_14 : decode cX5_openingBy 14 = .ok (.aload_n 0, 1) := by decide +kernel
theorem dX5_openingBy_15 : decode cX5_openingBy 15 = .ok (.getfield 16, 3) := by decide +kernel
theorem dX5_openingBy_18 : decode cX5_openingBy 18 = .ok (.iload_n 3, 1) := by decide +kernel
theorem dX5_openingBy_19 : decode cX5_openingBy 19 = .ok (.invokevirtual 127, 3) := by decide +kernel
theorem dX5_openingBy_22 : decode cX5_openingBy 22 = .ok (.checkcast 115, 3) := by decide +kernel
theorem dX5_openingBy_25 : decode cX5_openingBy 25 = .ok (.astore 4, 2) := by decide +kernel
theorem dX5_openingBy_27 : decode cX5_openingBy 27 = .ok (.aload 4, 2) := by decide +kernel
theorem dX5_openingBy_29 : decode cX5_openingBy 29 = .ok (.getfield 269, 3) := by decide +kernel
theorem dX5_openingBy_32 : decode cX5_openingBy 32 = .ok (.iload_n 2, 1) := by decide +kernel
theorem dX5_openingBy_33 : decode cX5_openingBy 33 = .ok (.if_icmp .ne 19, 3) := by decide +kernel
theorem dX5_openingBy_36 : decode cX5_openingBy 36 = .ok (.aload_n 0, 1) := by decide +kernel
theorem dX5_openingBy_37 : decode cX5_openingBy 37 = .ok (.aload_n 1, 1) := by decide +kernel
theorem dX5_openingBy_38 : decode cX5_openingBy 38 = .ok (.aload 4, 2) := by decide +kernel
theorem dX5_openingBy_40 : decode cX5_openingBy 40 = .ok (.invokevirtual 130, 3) := by decide +kernel
theorem dX5_openingBy_43 : decode cX5_openingBy 43 = .ok (.ifCond .eq 9, 3) := by decide +kernel
theorem dX5_openingBy_46 : decode cX5_openingBy 46 = .ok (.aload 4, 2) := by decide +kernel
theorem dX5_openingBy_48 : decode cX5_openingBy 48 = .ok (.getfield 288, 3) := by decide +kernel
theorem dX5_openingBy_51 : decode cX5_openingBy 51 = .ok (.ireturn, 1) := by decide +kernel
theorem dX5_openingBy_52 : decode cX5_openingBy 52 = .ok (.iinc 3 (-1), 3) := by decide +kernel
theorem dX5_openingBy_55 : decode cX5_openingBy 55 = .ok (.goto (-45), 3) := by decide +kernel
theorem dX5_openingBy_58 : decode cX5_openingBy 58 = .ok (.aload_n 0, 1) := by decide +kernel
theorem dX5_openingBy_59 : decode cX5_openingBy 59 = .ok (.getfield 10, 3) := by decide +kernel
theorem dX5_openingBy_62 : decode cX5_openingBy 62 = .ok (.iload_n 2, 1) := by decide +kernel
theorem dX5_openingBy_63 : decode cX5_openingBy 63 = .ok (.invokevirtual 127, 3) := by decide +kernel
theorem dX5_openingBy_66 : decode cX5_openingBy 66 = .ok (.checkcast 71, 3) := by decide +kernel
theorem dX5_openingBy_69 : decode cX5_openingBy 69 = .ok (.getfield 105, 3) := by decide +kernel
theorem dX5_openingBy_72 : decode cX5_openingBy 72 = .ok (.ireturn, 1) := by decide +kernel
theorem dX5_holdsBy_0 : decode cX5_holdsBy 0 = .ok (.aload_n 2, 1) := by decide +kernel
theorem dX5_holdsBy_1 : decode cX5_holdsBy 1 = .ok (.getfield 281, 3) := by decide +kernel
theorem dX5_holdsBy_4 : decode cX5_holdsBy 4 = .ok (.aload_n 0, 1) := by decide +kernel
theorem dX5_holdsBy_5 : decode cX5_holdsBy 5 = .ok (.aload_n 1, 1) := by decide +kernel
theorem dX5_holdsBy_6 : decode cX5_holdsBy 6 = .ok (.aload_n 2, 1) := by decide +kernel
theorem dX5_holdsBy_7 : decode cX5_holdsBy 7 = .ok (.getfield 278, 3) := by decide +kernel
theorem dX5_holdsBy_10 : decode cX5_holdsBy 10 = .ok (.invokevirtual 163, 3) := by decide +kernel
theorem dX5_holdsBy_13 : decode cX5_holdsBy 13 = .ok (.aload_n 2, 1) := by decide +kernel
theorem dX5_holdsBy_14 : decode cX5_holdsBy 14 = .ok (.getfield 285, 3) := by decide +kernel
theorem dX5_holdsBy_17 : decode cX5_holdsBy 17 = .ok (.if_icmp .lt 7, 3) := by decide +kernel
theorem dX5_holdsBy_20 : decode cX5_holdsBy 20 = .ok (.iconst 1, 1) := by decide +kernel
theorem dX5_holdsBy_21 : decode cX5_holdsBy 21 = .ok (.goto 4, 3) := by decide +kernel
theorem dX5_holdsBy_24 : decode cX5_holdsBy 24 = .ok (.iconst 0, 1) := by decide +kernel
theorem dX5_holdsBy_25 : decode cX5_holdsBy 25 = .ok (.if_icmp .ne 7, 3) := by decide +kernel
theorem dX5_holdsBy_28 : decode cX5_holdsBy 28 = .ok (.iconst 1, 1) := by decide +kernel
theorem dX5_holdsBy_29 : decode cX5_holdsBy 29 = .ok (.goto 4, 3) := by decide +kernel
theorem dX5_holdsBy_32 : decode cX5_holdsBy 32 = .ok (.iconst 0, 1) := by decide +kernel
theorem dX5_holdsBy_33 : decode cX5_holdsBy 33 = .ok (.ireturn, 1) := by decide +kernel
theorem dX5_levelBy_0 : decode cX5_levelBy 0 = .ok (.aload_n 0, 1) := by decide +kernel
theorem dX5_levelBy_1 : decode cX5_levelBy 1 = .ok (.getfield 10, 3) := by decide +kernel
theorem dX5_levelBy_4 : decode cX5_levelBy 4 = .ok (.iload_n 2, 1) := by decide +kernel
theorem dX5_levelBy_5 : decode cX5_levelBy 5 = .ok (.invokevirtual 127, 3) := by decide +kernel
theorem dX5_levelBy_8 : decode cX5_levelBy 8 = .ok (.checkcast 71, 3) := by decide +kernel
theorem dX5_levelBy_11 : decode cX5_levelBy 11 = .ok (.getfield 351, 3) := by decide +kernel
theorem dX5_levelBy_14 : decode cX5_levelBy 14 = .ok (.istore_n 3, 1) := by decide +kernel
theorem dX5_levelBy_15 : decode cX5_levelBy 15 = .ok (.iload_n 3, 1) := by decide +kernel
theorem dX5_levelBy_16 : decode cX5_levelBy 16 = .ok (.ifCond .le 14, 3) := by decide +kernel
theorem dX5_levelBy_19 : decode cX5_levelBy 19 = .ok (.aload_n 1, 1) := by decide +kernel
theorem dX5_levelBy_20 : decode cX5_levelBy 20 = .ok (.getfield 159, 3) := by decide +kernel
theorem dX5_levelBy_23 : decode cX5_levelBy 23 = .ok (.iload_n 2, 1) := by decide +kernel
theorem dX5_levelBy_24 : decode cX5_levelBy 24 = .ok (.iaload, 1) := by decide +kernel
theorem dX5_levelBy_25 : decode cX5_levelBy 25 = .ok (.iload_n 3, 1) := by decide +kernel
theorem dX5_levelBy_26 : decode cX5_levelBy 26 = .ok (.idiv, 1) := by decide +kernel
theorem dX5_levelBy_27 : decode cX5_levelBy 27 = .ok (.goto 4, 3) := by decide +kernel
theorem dX5_levelBy_30 : decode cX5_levelBy 30 = .ok (.iconst 0, 1) := by decide +kernel
theorem dX5_levelBy_31 : decode cX5_levelBy 31 = .ok (.ireturn, 1) := by decide +kernel
theorem dX5_wetCellsBy_0 : decode cX5_wetCellsBy 0 = .ok (.iconst 0, 1) := by decide +kernel
theorem dX5_wetCellsBy_1 : decode cX5_wetCellsBy 1 = .ok (.istore_n 2, 1) := by decide +kernel
theorem dX5_wetCellsBy_2 : decode cX5_wetCellsBy 2 = .ok (.iconst 0, 1) := by decide +kernel
theorem dX5_wetCellsBy_3 : decode cX5_wetCellsBy 3 = .ok (.istore_n 3, 1) := by decide +kernel
theorem dX5_wetCellsBy_4 : decode cX5_wetCellsBy 4 = .ok (.iload_n 3, 1) := by decide +kernel
theorem dX5_wetCellsBy_5 : decode cX5_wetCellsBy 5 = .ok (.aload_n 0, 1) := by decide +kernel
theorem dX5_wetCellsBy_6 : decode cX5_wetCellsBy 6 = .ok (.getfield 10, 3) := by decide +kernel
theorem dX5_wetCellsBy_9 : decode cX5_wetCellsBy 9 = .ok (.invokevirtual 39, 3) := by decide +kernel
theorem dX5_wetCellsBy_12 : decode cX5_wetCellsBy 12 = .ok (.if_icmp .ge 35, 3) := by decide +kernel
theorem dX5_wetCellsBy_15 : decode cX5_wetCellsBy 15 = .ok (.iload_n 2, 1) := by decide +kernel
theorem dX5_wetCellsBy_16 : decode cX5_wetCellsBy 16 = .ok (.aload_n 0, 1) := by decide +kernel
theorem dX5_wetCellsBy_17 : decode cX5_wetCellsBy 17 = .ok (.getfield 10, 3) := by decide +kernel
theorem dX5_wetCellsBy_20 : decode cX5_wetCellsBy 20 = .ok (.iload_n 3, 1) := by decide +kernel
theorem dX5_wetCellsBy_21 : decode cX5_wetCellsBy 21 = .ok (.invokevirtual 127, 3) := by decide +kernel
theorem dX5_wetCellsBy_24 : decode cX5_wetCellsBy 24 = .ok (.checkcast 71, 3) := by decide +kernel
theorem dX5_wetCellsBy_27 : decode cX5_wetCellsBy 27 = .ok (.getfield 84, 3) := by decide +kernel
theorem dX5_wetCellsBy_30 : decode cX5_wetCellsBy 30 = .ok (.aload_n 1, 1) := by decide +kernel
theorem dX5_wetCellsBy_31 : decode cX5_wetCellsBy 31 = .ok (.getfield 166, 3) := by decide +kernel
theorem dX5_wetCellsBy_34 : decode cX5_wetCellsBy 34 = .ok (.iload_n 3, 1) := by decide +kernel
theorem dX5_wetCellsBy_35 : decode cX5_wetCellsBy 35 = .ok (.iaload, 1) := by decide +kernel
theorem dX5_wetCellsBy_36 : decode cX5_wetCellsBy 36 = .ok (.invokevirtual 195, 3) := by decide +kernel
theorem dX5_wetCellsBy_39 : decode cX5_wetCellsBy 39 = .ok (.iadd, 1) := by decide +kernel
theorem dX5_wetCellsBy_40 : decode cX5_wetCellsBy 40 = .ok (.istore_n 2, 1) := by decide +kernel
theorem dX5_wetCellsBy_41 : decode cX5_wetCellsBy 41 = .ok (.iinc 3 1, 3) := by decide +kernel
theorem dX5_wetCellsBy_44 : decode cX5_wetCellsBy 44 = .ok (.goto (-40), 3) := by decide +kernel
theorem dX5_wetCellsBy_47 : decode cX5_wetCellsBy 47 = .ok (.iload_n 2, 1) := by decide +kernel
theorem dX5_wetCellsBy_48 : decode cX5_wetCellsBy 48 = .ok (.ireturn, 1) := by decide +kernel
