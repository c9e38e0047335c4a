theorem d_BN_init_0 : decode b_BN_init 0 = .ok (.aload_n 0, 1) := by decide +kernel
theorem d_BN_init_1 : decode b_BN_init 1 = .ok (.invokespecial 1, 3) := by decide +kernel
theorem d_BN_init_4 : decode b_BN_init 4 = .ok (.aload_n 0, 1) := by decide +kernel
theorem d_BN_init_5 : decode b_BN_init 5 = .ok (.bipush 8, 2) := by decide +kernel
theorem d_BN_init_7 : decode b_BN_init 7 = .ok (.anewarray 9, 3) := by decide +kernel
theorem d_BN_init_10 : decode b_BN_init 10 = .ok (.putfield 11, 3) := by decide +kernel
theorem d_BN_init_13 : decode b_BN_init 13 = .ok (.aload_n 0, 1) := by decide +kernel
theorem d_BN_init_14 : decode b_BN_init 14 = .ok (.iconst 4, 1) := by decide +kernel
theorem d_BN_init_15 : decode b_BN_init 15 = .ok (.newarray .int, 2) := by decide +kernel
theorem d_BN_init_17 : decode b_BN_init 17 = .ok (.putfield 15, 3) := by decide +kernel
theorem d_BN_init_20 : decode b_BN_init 20 = .ok (.aload_n 0, 1) := by decide +kernel
theorem d_BN_init_21 : decode b_BN_init 21 = .ok (.bipush 16, 2) := by decide +kernel
theorem d_BN_init_23 : decode b_BN_init 23 = .ok (.anewarray 19, 3) := by decide +kernel
theorem d_BN_init_26 : decode b_BN_init 26 = .ok (.putfield 21, 3) := by decide +kernel
theorem d_BN_init_29 : decode b_BN_init 29 = .ok (.aload_n 0, 1) := by decide +kernel
theorem d_BN_init_30 : decode b_BN_init 30 = .ok (.bipush 100, 2) := by decide +kernel
theorem d_BN_init_32 : decode b_BN_init 32 = .ok (.anewarray 25, 3) := by decide +kernel
theorem d_BN_init_35 : decode b_BN_init 35 = .ok (.putfield 27, 3) := by decide +kernel
theorem d_BN_init_38 : decode b_BN_init 38 = .ok (.aload_n 0, 1) := by decide +kernel
theorem d_BN_init_39 : decode b_BN_init 39 = .ok (.new 31, 3) := by decide +kernel
theorem d_BN_init_42 : decode b_BN_init 42 = .ok (.dup, 1) := by decide +kernel
theorem d_BN_init_43 : decode b_BN_init 43 = .ok (.invokespecial 33, 3) := by decide +kernel
theorem d_BN_init_46 : decode b_BN_init 46 = .ok (.putfield 34, 3) := by decide +kernel
theorem d_BN_init_49 : decode b_BN_init 49 = .ok (.aload_n 0, 1) := by decide +kernel
theorem d_BN_init_50 : decode b_BN_init 50 = .ok (.new 38, 3) := by decide +kernel
theorem d_BN_init_53 : decode b_BN_init 53 = .ok (.dup, 1) := by decide +kernel
theorem d_BN_init_54 : decode b_BN_init 54 = .ok (.invokespecial 40, 3) := by decide +kernel
theorem d_BN_init_57 : decode b_BN_init 57 = .ok (.putfield 41, 3) := by decide +kernel
theorem d_BN_init_60 : decode b_BN_init 60 = .ok (.iconst 0, 1) := by decide +kernel
theorem d_BN_init_61 : decode b_BN_init 61 = .ok (.istore_n 1, 1) := by decide +kernel
theorem d_BN_init_62 : decode b_BN_init 62 = .ok (.iload_n 1, 1) := by decide +kernel
theorem d_BN_init_63 : decode b_BN_init 63 = .ok (.bipush 8, 2) := by decide +kernel
theorem d_BN_init_65 : decode b_BN_init 65 = .ok (.if_icmp .ge 22, 3) := by decide +kernel
theorem d_BN_init_68 : decode b_BN_init 68 = .ok (.aload_n 0, 1) := by decide +kernel
theorem d_BN_init_69 : decode b_BN_init 69 = .ok (.getfield 11, 3) := by decide +kernel
theorem d_BN_init_72 : decode b_BN_init 72 = .ok (.iload_n 1, 1) := by decide +kernel
theorem d_BN_init_73 : decode b_BN_init 73 = .ok (.new 9, 3) := by decide +kernel
theorem d_BN_init_76 : decode b_BN_init 76 = .ok (.dup, 1) := by decide +kernel
theorem d_BN_init_77 : decode b_BN_init 77 = .ok (.invokespecial 45, 3) := by decide +kernel
theorem d_BN_init_80 : decode b_BN_init 80 = .ok (.aastore, 1) := by decide +kernel
theorem d_BN_init_81 : decode b_BN_init 81 = .ok (.iinc 1 1, 3) := by decide +kernel
theorem d_BN_init_84 : decode b_BN_init 84 = .ok (.goto (-22), 3) := by decide +kernel
theorem d_BN_init_87 : decode b_BN_init 87 = .ok (.iconst 0, 1) := by decide +kernel
theorem d_BN_init_88 : decode b_BN_init 88 = .ok (.istore_n 1, 1) := by decide +kernel
theorem d_BN_init_89 : decode b_BN_init 89 = .ok (.iload_n 1, 1) := by decide +kernel
theorem d_BN_init_90 : decode b_BN_init 90 = .ok (.bipush 16, 2) := by decide +kernel
theorem d_BN_init_92 : decode b_BN_init 92 = .ok (.if_icmp .ge 22, 3) := by decide +kernel
theorem d_BN_init_95 : decode b_BN_init 95 = .ok (.aload_n 0, 1) := by decide +kernel
theorem d_BN_init_96 : decode b_BN_init 96 = .ok (.getfield 21, 3) := by decide +kernel
theorem d_BN_init_99 : decode b_BN_init 99 = .ok (.iload_n 1, 1) := by decide +kernel
theorem d_BN_init_100 : decode b_BN_init 100 = .ok (.new 19, 3) := by decide +kernel
theorem d_BN_init_103 : decode b_BN_init 103 = .ok (.dup, 1) := by decide +kernel
theorem d_BN_init_104 : decode b_BN_init 104 = .ok (.invokespecial 46, 3) := by decide +kernel
theorem d_BN_init_107 : decode b_BN_init 107 = .ok (.aastore, 1) := by decide +kernel
theorem d_BN_init_108 : decode b_BN_init 108 = .ok (.iinc 1 1, 3) := by decide +kernel
theorem d_BN_init_111 : decode b_BN_init 111 = .ok (.goto (-22), 3) := by decide +kernel
theorem d_BN_init_114 : decode b_BN_init 114 = .ok (.iconst 0, 1) := by decide +kernel
theorem d_BN_init_115 : decode b_BN_init 115 = .ok (.istore_n 1, 1) := by decide +kernel
theorem d_BN_init_116 : decode b_BN_init 116 = .ok (.iload_n 1, 1) := by decide +kernel
theorem d_BN_init_117 : decode b_BN_init 117 = .ok (.bipush 100, 2) := by decide +kernel
theorem d_BN_init_119 : decode b_BN_init 119 = .ok (.if_icmp .ge 22, 3) := by decide +kernel
theorem d_BN_init_122 : decode b_BN_init 122 = .ok (.aload_n 0, 1) := by decide +kernel
theorem d_BN_init_123 : decode b_BN_init 123 = .ok (.getfield 27, 3) := by decide +kernel
theorem d_BN_init_126 : decode b_BN_init 126 = .ok (.iload_n 1, 1) := by decide +kernel
theorem d_BN_init_127 : decode b_BN_init 127 = .ok (.new 25, 3) := by decide +kernel
theorem d_BN_init_130 : decode b_BN_init 130 = .ok (.dup, 1) := by decide +kernel
theorem d_BN_init_131 : decode b_BN_init 131 = .ok (.invokespecial 47, 3) := by decide +kernel
theorem d_BN_init_134 : decode b_BN_init 134 = .ok (.aastore, 1) := by decide +kernel
theorem d_BN_init_135 : decode b_BN_init 135 = .ok (.iinc 1 1, 3) := by decide +kernel
theorem d_BN_init_138 : decode b_BN_init 138 = .ok (.goto (-22), 3) := by decide +kernel
theorem d_BN_init_141 : decode b_BN_init 141 = .ok (.return_, 1) := by decide +kernel
theorem d_BN_device_0 : decode b_BN_device 0 = .ok (.iload_n 1, 1) := by decide +kernel
theorem d_BN_device_1 : decode b_BN_device 1 = .ok (.invokestatic 48, 3) := by decide +kernel
theorem d_BN_device_4 : decode b_BN_device 4 = .ok (.ifCond .eq 23, 3) := by decide +kernel
theorem d_BN_device_7 : decode b_BN_device 7 = .ok (.iload_n 2, 1) := by decide +kernel
theorem d_BN_device_8 : decode b_BN_device 8 = .ok (.invokestatic 52, 3) := by decide +kernel
theorem d_BN_device_11 : decode b_BN_device 11 = .ok (.ifCond .eq 16, 3) := by decide +kernel
theorem d_BN_device_14 : decode b_BN_device 14 = .ok (.aload_n 0, 1) := by decide +kernel
theorem d_BN_device_15 : decode b_BN_device 15 = .ok (.getfield 11, 3) := by decide +kernel
theorem d_BN_device_18 : decode b_BN_device 18 = .ok (.iload_n 1, 1) := by decide +kernel
theorem d_BN_device_19 : decode b_BN_device 19 = .ok (.aaload, 1) := by decide +kernel
theorem d_BN_device_20 : decode b_BN_device 20 = .ok (.getfield 55, 3) := by decide +kernel
theorem d_BN_device_23 : decode b_BN_device 23 = .ok (.iconst 2, 1) := by decide +kernel
theorem d_BN_device_24 : decode b_BN_device 24 = .ok (.if_icmp .ne 5, 3) := by decide +kernel
theorem d_BN_device_27 : decode b_BN_device 27 = .ok (.iconst 0, 1) := by decide +kernel
theorem d_BN_device_28 : decode b_BN_device 28 = .ok (.ireturn, 1) := by decide +kernel
theorem d_BN_device_29 : decode b_BN_device 29 = .ok (.aload_n 0, 1) := by decide +kernel
theorem d_BN_device_30 : decode b_BN_device 30 = .ok (.getfield 11, 3) := by decide +kernel
theorem d_BN_device_33 : decode b_BN_device 33 = .ok (.iload_n 1, 1) := by decide +kernel
theorem d_BN_device_34 : decode b_BN_device 34 = .ok (.aaload, 1) := by decide +kernel
theorem d_BN_device_35 : decode b_BN_device 35 = .ok (.iload_n 2, 1) := by decide +kernel
theorem d_BN_device_36 : decode b_BN_device 36 = .ok (.invokevirtual 59, 3) := by decide +kernel
theorem d_BN_device_39 : decode b_BN_device 39 = .ok (.iconst 1, 1) := by decide +kernel
theorem d_BN_device_40 : decode b_BN_device 40 = .ok (.ireturn, 1) := by decide +kernel
theorem d_BN_channel_0 : decode b_BN_channel 0 = .ok (.aload_n 0, 1) := by decide +kernel
theorem d_BN_channel_1 : decode b_BN_channel 1 = .ok (.iload_n 1, 1) := by decide +kernel
theorem d_BN_channel_2 : decode b_BN_channel 2 = .ok (.invokevirtual 63, 3) := by decide +kernel
theorem d_BN_channel_5 : decode b_BN_channel 5 = .ok (.ifCond .eq 21, 3) := by decide +kernel
theorem d_BN_channel_8 : decode b_BN_channel 8 = .ok (.iload_n 2, 1) := by decide +kernel
theorem d_BN_channel_9 : decode b_BN_channel 9 = .ok (.invokestatic 66, 3) := by decide +kernel
theorem d_BN_channel_12 : decode b_BN_channel 12 = .ok (.ifCond .eq 14, 3) := by decide +kernel
theorem d_BN_channel_15 : decode b_BN_channel 15 = .ok (.iload_n 3, 1) := by decide +kernel
theorem d_BN_channel_16 : decode b_BN_channel 16 = .ok (.iload 4, 2) := by decide +kernel
theorem d_BN_channel_18 : decode b_BN_channel 18 = .ok (.iload 5, 2) := by decide +kernel
theorem d_BN_channel_20 : decode b_BN_channel 20 = .ok (.invokestatic 69, 3) := by decide +kernel
theorem d_BN_channel_23 : decode b_BN_channel 23 = .ok (.ifCond .ne 11, 3) := by decide +kernel
theorem d_BN_channel_26 : decode b_BN_channel 26 = .ok (.new 73, 3) := by decide +kernel
theorem d_BN_channel_29 : decode b_BN_channel 29 = .ok (.dup, 1) := by decide +kernel
theorem d_BN_channel_30 : decode b_BN_channel 30 = .ok (.invokespecial 75, 3) := by decide +kernel
theorem d_BN_channel_33 : decode b_BN_channel 33 = .ok (.athrow, 1) := by decide +kernel
theorem d_BN_channel_34 : decode b_BN_channel 34 = .ok (.aload_n 0, 1) := by decide +kernel
theorem d_BN_channel_35 : decode b_BN_channel 35 = .ok (.getfield 11, 3) := by decide +kernel
theorem d_BN_channel_38 : decode b_BN_channel 38 = .ok (.iload_n 1, 1) := by decide +kernel
theorem d_BN_channel_39 : decode b_BN_channel 39 = .ok (.aaload, 1) := by decide +kernel
theorem d_BN_channel_40 : decode b_BN_channel 40 = .ok (.astore 6, 2) := by decide +kernel
theorem d_BN_channel_42 : decode b_BN_channel 42 = .ok (.aload 6, 2) := by decide +kernel
theorem d_BN_channel_44 : decode b_BN_channel 44 = .ok (.getfield 76, 3) := by decide +kernel
theorem d_BN_channel_47 : decode b_BN_channel 47 = .ok (.iconst 4, 1) := by decide +kernel
theorem d_BN_channel_48 : decode b_BN_channel 48 = .ok (.if_icmp .lt 11, 3) := by decide +kernel
theorem d_BN_channel_51 : decode b_BN_channel 51 = .ok (.new 79, 3) := by decide +kernel
theorem d_BN_channel_54 : decode b_BN_channel 54 = .ok (.dup, 1) := by decide +kernel
theorem d_BN_channel_55 : decode b_BN_channel 55 = .ok (.invokespecial 81, 3) := by decide +kernel
theorem d_BN_channel_58 : decode b_BN_channel 58 = .ok (.athrow, 1) := by decide +kernel
theorem d_BN_channel_59 : decode b_BN_channel 59 = .ok (.aload 6, 2) := by decide +kernel
theorem d_BN_channel_61 : decode b_BN_channel 61 = .ok (.getfield 76, 3) := by decide +kernel
theorem d_BN_channel_64 : decode b_BN_channel 64 = .ok (.istore 7, 2) := by decide +kernel
theorem d_BN_channel_66 : decode b_BN_channel 66 = .ok (.aload 6, 2) := by decide +kernel
theorem d_BN_channel_68 : decode b_BN_channel 68 = .ok (.getfield 82, 3) := by decide +kernel
theorem d_BN_channel_71 : decode b_BN_channel 71 = .ok (.iload 7, 2) := by decide +kernel
theorem d_BN_channel_73 : decode b_BN_channel 73 = .ok (.aaload, 1) := by decide +kernel
theorem d_BN_channel_74 : decode b_BN_channel 74 = .ok (.iload_n 2, 1) := by decide +kernel
theorem d_BN_channel_75 : decode b_BN_channel 75 = .ok (.iload_n 3, 1) := by decide +kernel
theorem d_BN_channel_76 : decode b_BN_channel 76 = .ok (.iload 4, 2) := by decide +kernel
theorem d_BN_channel_78 : decode b_BN_channel 78 = .ok (.iload 5, 2) := by decide +kernel
theorem d_BN_channel_80 : decode b_BN_channel 80 = .ok (.invokevirtual 86, 3) := by decide +kernel
theorem d_BN_channel_83 : decode b_BN_channel 83 = .ok (.aload 6, 2) := by decide +kernel
theorem d_BN_channel_85 : decode b_BN_channel 85 = .ok (.iload 7, 2) := by decide +kernel
theorem d_BN_channel_87 : decode b_BN_channel 87 = .ok (.iconst 1, 1) := by decide +kernel
theorem d_BN_channel_88 : decode b_BN_channel 88 = .ok (.iadd, 1) := by decide +kernel
theorem d_BN_channel_89 : decode b_BN_channel 89 = .ok (.putfield 76, 3) := by decide +kernel
theorem d_BN_channel_92 : decode b_BN_channel 92 = .ok (.iload 7, 2) := by decide +kernel
theorem d_BN_channel_94 : decode b_BN_channel 94 = .ok (.ireturn, 1) := by decide +kernel
theorem d_BN_alarm_0 : decode b_BN_alarm 0 = .ok (.aload_n 0, 1) := by decide +kernel
theorem d_BN_alarm_1 : decode b_BN_alarm 1 = .ok (.iload_n 1, 1) := by decide +kernel
theorem d_BN_alarm_2 : decode b_BN_alarm 2 = .ok (.invokevirtual 63, 3) := by decide +kernel
theorem d_BN_alarm_5 : decode b_BN_alarm 5 = .ok (.ifCond .eq 16, 3) := by decide +kernel
theorem d_BN_alarm_8 : decode b_BN_alarm 8 = .ok (.aload_n 0, 1) := by decide +kernel
theorem d_BN_alarm_9 : decode b_BN_alarm 9 = .ok (.getfield 11, 3) := by decide +kernel
theorem d_BN_alarm_12 : decode b_BN_alarm 12 = .ok (.iload_n 1, 1) := by decide +kernel
theorem d_BN_alarm_13 : decode b_BN_alarm 13 = .ok (.aaload, 1) := by decide +kernel
theorem d_BN_alarm_14 : decode b_BN_alarm 14 = .ok (.iload_n 2, 1) := by decide +kernel
theorem d_BN_alarm_15 : decode b_BN_alarm 15 = .ok (.invokevirtual 91, 3) := by decide +kernel
theorem d_BN_alarm_18 : decode b_BN_alarm 18 = .ok (.ifCond .ne 5, 3) := by decide +kernel
theorem d_BN_alarm_21 : decode b_BN_alarm 21 = .ok (.iconst 0, 1) := by decide +kernel
theorem d_BN_alarm_22 : decode b_BN_alarm 22 = .ok (.ireturn, 1) := by decide +kernel
theorem d_BN_alarm_23 : decode b_BN_alarm 23 = .ok (.iload_n 3, 1) := by decide +kernel
theorem d_BN_alarm_24 : decode b_BN_alarm 24 = .ok (.iconst 1, 1) := by decide +kernel
theorem d_BN_alarm_25 : decode b_BN_alarm 25 = .ok (.if_icmp .lt 24, 3) := by decide +kernel
theorem d_BN_alarm_28 : decode b_BN_alarm 28 = .ok (.iload_n 3, 1) := by decide +kernel
theorem d_BN_alarm_29 : decode b_BN_alarm 29 = .ok (.iconst 3, 1) := by decide +kernel
theorem d_BN_alarm_30 : decode b_BN_alarm 30 = .ok (.if_icmp .gt 19, 3) := by decide +kernel
theorem d_BN_alarm_33 : decode b_BN_alarm 33 = .ok (.iload 4, 2) := by decide +kernel
theorem d_BN_alarm_35 : decode b_BN_alarm 35 = .ok (.invokestatic 94, 3) := by decide +kernel
theorem d_BN_alarm_38 : decode b_BN_alarm 38 = .ok (.ifCond .eq 11, 3) := by decide +kernel
theorem d_BN_alarm_41 : decode b_BN_alarm 41 = .ok (.iload 5, 2) := by decide +kernel
theorem d_BN_alarm_43 : decode b_BN_alarm 43 = .ok (.invokestatic 97, 3) := by decide +kernel
theorem d_BN_alarm_46 : decode b_BN_alarm 46 = .ok (.ifCond .ne 5, 3) := by decide +kernel
theorem d_BN_alarm_49 : decode b_BN_alarm 49 = .ok (.iconst 0, 1) := by decide +kernel
theorem d_BN_alarm_50 : decode b_BN_alarm 50 = .ok (.ireturn, 1) := by decide +kernel
theorem d_BN_alarm_51 : decode b_BN_alarm 51 = .ok (.aload_n 0, 1) := by decide +kernel
theorem d_BN_alarm_52 : decode b_BN_alarm 52 = .ok (.getfield 11, 3) := by decide +kernel
theorem d_BN_alarm_55 : decode b_BN_alarm 55 = .ok (.iload_n 1, 1) := by decide +kernel
theorem d_BN_alarm_56 : decode b_BN_alarm 56 = .ok (.aaload, 1) := by decide +kernel
theorem d_BN_alarm_57 : decode b_BN_alarm 57 = .ok (.getfield 82, 3) := by decide +kernel
theorem d_BN_alarm_60 : decode b_BN_alarm 60 = .ok (.iload_n 2, 1) := by decide +kernel
theorem d_BN_alarm_61 : decode b_BN_alarm 61 = .ok (.aaload, 1) := by decide +kernel
theorem d_BN_alarm_62 : decode b_BN_alarm 62 = .ok (.getfield 100, 3) := by decide +kernel
theorem d_BN_alarm_65 : decode b_BN_alarm 65 = .ok (.iload_n 3, 1) := by decide +kernel
theorem d_BN_alarm_66 : decode b_BN_alarm 66 = .ok (.iload 4, 2) := by decide +kernel
theorem d_BN_alarm_68 : decode b_BN_alarm 68 = .ok (.iload 5, 2) := by decide +kernel
theorem d_BN_alarm_70 : decode b_BN_alarm 70 = .ok (.invokevirtual 104, 3) := by decide +kernel
theorem d_BN_alarm_73 : decode b_BN_alarm 73 = .ok (.iconst 1, 1) := by decide +kernel
theorem d_BN_alarm_74 : decode b_BN_alarm 74 = .ok (.ireturn, 1) := by decide +kernel
theorem d_BN_setPoint_0 : decode b_BN_setPoint 0 = .ok (.aload_n 0, 1) := by decide +kernel
theorem d_BN_setPoint_1 : decode b_BN_setPoint 1 = .ok (.iload_n 1, 1) := by decide +kernel
theorem d_BN_setPoint_2 : decode b_BN_setPoint 2 = .ok (.invokevirtual 63, 3) := by decide +kernel
theorem d_BN_setPoint_5 : decode b_BN_setPoint 5 = .ok (.ifCond .eq 13, 3) := by decide +kernel
theorem d_BN_setPoint_8 : decode b_BN_setPoint 8 = .ok (.iload_n 2, 1) := by decide +kernel
theorem d_BN_setPoint_9 : decode b_BN_setPoint 9 = .ok (.iload_n 3, 1) := by decide +kernel
theorem d_BN_setPoint_10 : decode b_BN_setPoint 10 = .ok (.iload 4, 2) := by decide +kernel
theorem d_BN_setPoint_12 : decode b_BN_setPoint 12 = .ok (.invokestatic 69, 3) := by decide +kernel
theorem d_BN_setPoint_15 : decode b_BN_setPoint 15 = .ok (.ifCond .ne 5, 3) := by decide +kernel
theorem d_BN_setPoint_18 : decode b_BN_setPoint 18 = .ok (.iconst 0, 1) := by decide +kernel
theorem d_BN_setPoint_19 : decode b_BN_setPoint 19 = .ok (.ireturn, 1) := by decide +kernel
theorem d_BN_setPoint_20 : decode b_BN_setPoint 20 = .ok (.aload_n 0, 1) := by decide +kernel
theorem d_BN_setPoint_21 : decode b_BN_setPoint 21 = .ok (.getfield 11, 3) := by decide +kernel
theorem d_BN_setPoint_24 : decode b_BN_setPoint 24 = .ok (.iload_n 1, 1) := by decide +kernel
theorem d_BN_setPoint_25 : decode b_BN_setPoint 25 = .ok (.aaload, 1) := by decide +kernel
theorem d_BN_setPoint_26 : decode b_BN_setPoint 26 = .ok (.getfield 110, 3) := by decide +kernel
theorem d_BN_setPoint_29 : decode b_BN_setPoint 29 = .ok (.iload_n 2, 1) := by decide +kernel
theorem d_BN_setPoint_30 : decode b_BN_setPoint 30 = .ok (.iload_n 3, 1) := by decide +kernel
theorem d_BN_setPoint_31 : decode b_BN_setPoint 31 = .ok (.iload 4, 2) := by decide +kernel
theorem d_BN_setPoint_33 : decode b_BN_setPoint 33 = .ok (.invokevirtual 114, 3) := by decide +kernel
theorem d_BN_setPoint_36 : decode b_BN_setPoint 36 = .ok (.iconst 1, 1) := by decide +kernel
theorem d_BN_setPoint_37 : decode b_BN_setPoint 37 = .ok (.ireturn, 1) := by decide +kernel
theorem d_BN_seal_0 : decode b_BN_seal 0 = .ok (.aload_n 0, 1) := by decide +kernel
theorem d_BN_seal_1 : decode b_BN_seal 1 = .ok (.iload_n 1, 1) := by decide +kernel
theorem d_BN_seal_2 : decode b_BN_seal 2 = .ok (.invokevirtual 63, 3) := by decide +kernel
theorem d_BN_seal_5 : decode b_BN_seal 5 = .ok (.ifCond .eq 15, 3) := by decide +kernel
theorem d_BN_seal_8 : decode b_BN_seal 8 = .ok (.aload_n 0, 1) := by decide +kernel
theorem d_BN_seal_9 : decode b_BN_seal 9 = .ok (.getfield 11, 3) := by decide +kernel
theorem d_BN_seal_12 : decode b_BN_seal 12 = .ok (.iload_n 1, 1) := by decide +kernel
theorem d_BN_seal_13 : decode b_BN_seal 13 = .ok (.aaload, 1) := by decide +kernel
theorem d_BN_seal_14 : decode b_BN_seal 14 = .ok (.getfield 76, 3) := by decide +kernel
theorem d_BN_seal_17 : decode b_BN_seal 17 = .ok (.ifCond .ne 5, 3) := by decide +kernel
theorem d_BN_seal_20 : decode b_BN_seal 20 = .ok (.iconst 0, 1) := by decide +kernel
theorem d_BN_seal_21 : decode b_BN_seal 21 = .ok (.ireturn, 1) := by decide +kernel
theorem d_BN_seal_22 : decode b_BN_seal 22 = .ok (.aload_n 0, 1) := by decide +kernel
theorem d_BN_seal_23 : decode b_BN_seal 23 = .ok (.getfield 11, 3) := by decide +kernel
theorem d_BN_seal_26 : decode b_BN_seal 26 = .ok (.iload_n 1, 1) := by decide +kernel
theorem d_BN_seal_27 : decode b_BN_seal 27 = .ok (.aaload, 1) := by decide +kernel
theorem d_BN_seal_28 : decode b_BN_seal 28 = .ok (.iconst 2, 1) := by decide +kernel
theorem d_BN_seal_29 : decode b_BN_seal 29 = .ok (.putfield 55, 3) := by decide +kernel
theorem d_BN_seal_32 : decode b_BN_seal 32 = .ok (.iconst 1, 1) := by decide +kernel
theorem d_BN_seal_33 : decode b_BN_seal 33 = .ok (.ireturn, 1) := by decide +kernel
theorem d_BN_move_0 : decode b_BN_move 0 = .ok (.aload_n 0, 1) := by decide +kernel
theorem d_BN_move_1 : decode b_BN_move 1 = .ok (.iload_n 1, 1) := by decide +kernel
theorem d_BN_move_2 : decode b_BN_move 2 = .ok (.invokevirtual 117, 3) := by decide +kernel
theorem d_BN_move_5 : decode b_BN_move 5 = .ok (.ifCond .eq 10, 3) := by decide +kernel
theorem d_BN_move_8 : decode b_BN_move 8 = .ok (.iload_n 2, 1) := by decide +kernel
theorem d_BN_move_9 : decode b_BN_move 9 = .ok (.invokestatic 52, 3) := by decide +kernel
theorem d_BN_move_12 : decode b_BN_move 12 = .ok (.ifCond .ne 5, 3) := by decide +kernel
theorem d_BN_move_15 : decode b_BN_move 15 = .ok (.iconst 0, 1) := by decide +kernel
theorem d_BN_move_16 : decode b_BN_move 16 = .ok (.ireturn, 1) := by decide +kernel
theorem d_BN_move_17 : decode b_BN_move 17 = .ok (.aload_n 0, 1) := by decide +kernel
theorem d_BN_move_18 : decode b_BN_move 18 = .ok (.getfield 11, 3) := by decide +kernel
theorem d_BN_move_21 : decode b_BN_move 21 = .ok (.iload_n 1, 1) := by decide +kernel
theorem d_BN_move_22 : decode b_BN_move 22 = .ok (.aaload, 1) := by decide +kernel
theorem d_BN_move_23 : decode b_BN_move 23 = .ok (.iload_n 2, 1) := by decide +kernel
theorem d_BN_move_24 : decode b_BN_move 24 = .ok (.putfield 120, 3) := by decide +kernel
theorem d_BN_move_27 : decode b_BN_move 27 = .ok (.aload_n 0, 1) := by decide +kernel
theorem d_BN_move_28 : decode b_BN_move 28 = .ok (.getfield 11, 3) := by decide +kernel
theorem d_BN_move_31 : decode b_BN_move 31 = .ok (.iload_n 1, 1) := by decide +kernel
theorem d_BN_move_32 : decode b_BN_move 32 = .ok (.aaload, 1) := by decide +kernel
theorem d_BN_move_33 : decode b_BN_move 33 = .ok (.iconst 0, 1) := by decide +kernel
theorem d_BN_move_34 : decode b_BN_move 34 = .ok (.putfield 123, 3) := by decide +kernel
theorem d_BN_move_37 : decode b_BN_move 37 = .ok (.iconst 1, 1) := by decide +kernel
theorem d_BN_move_38 : decode b_BN_move 38 = .ok (.ireturn, 1) := by decide +kernel
theorem d_BN_patient_0 : decode b_BN_patient 0 = .ok (.iload_n 1, 1) := by decide +kernel
theorem d_BN_patient_1 : decode b_BN_patient 1 = .ok (.invokestatic 52, 3) := by decide +kernel
theorem d_BN_patient_4 : decode b_BN_patient 4 = .ok (.ifCond .eq 17, 3) := by decide +kernel
theorem d_BN_patient_7 : decode b_BN_patient 7 = .ok (.iload_n 2, 1) := by decide +kernel
theorem d_BN_patient_8 : decode b_BN_patient 8 = .ok (.ifCond .lt 13, 3) := by decide +kernel
theorem d_BN_patient_11 : decode b_BN_patient 11 = .ok (.aload_n 0, 1) := by decide +kernel
theorem d_BN_patient_12 : decode b_BN_patient 12 = .ok (.getfield 15, 3) := by decide +kernel
theorem d_BN_patient_15 : decode b_BN_patient 15 = .ok (.iload_n 1, 1) := by decide +kernel
theorem d_BN_patient_16 : decode b_BN_patient 16 = .ok (.iaload, 1) := by decide +kernel
theorem d_BN_patient_17 : decode b_BN_patient 17 = .ok (.iload_n 2, 1) := by decide +kernel
theorem d_BN_patient_18 : decode b_BN_patient 18 = .ok (.if_icmp .ne 5, 3) := by decide +kernel
theorem d_BN_patient_21 : decode b_BN_patient 21 = .ok (.iconst 0, 1) := by decide +kernel
theorem d_BN_patient_22 : decode b_BN_patient 22 = .ok (.ireturn, 1) := by decide +kernel
theorem d_BN_patient_23 : decode b_BN_patient 23 = .ok (.aload_n 0, 1) := by decide +kernel
theorem d_BN_patient_24 : decode b_BN_patient 24 = .ok (.getfield 15, 3) := by decide +kernel
theorem d_BN_patient_27 : decode b_BN_patient 27 = .ok (.iload_n 1, 1) := by decide +kernel
theorem d_BN_patient_28 : decode b_BN_patient 28 = .ok (.iload_n 2, 1) := by decide +kernel
theorem d_BN_patient_29 : decode b_BN_patient 29 = .ok (.iastore, 1) := by decide +kernel
theorem d_BN_patient_30 : decode b_BN_patient 30 = .ok (.iconst 0, 1) := by decide +kernel
theorem d_BN_patient_31 : decode b_BN_patient 31 = .ok (.istore_n 3, 1) := by decide +kernel
theorem d_BN_patient_32 : decode b_BN_patient 32 = .ok (.iload_n 3, 1) := by decide +kernel
theorem d_BN_patient_33 : decode b_BN_patient 33 = .ok (.bipush 8, 2) := by decide +kernel
theorem d_BN_patient_35 : decode b_BN_patient 35 = .ok (.if_icmp .ge 32, 3) := by decide +kernel
theorem d_BN_patient_38 : decode b_BN_patient 38 = .ok (.aload_n 0, 1) := by decide +kernel
theorem d_BN_patient_39 : decode b_BN_patient 39 = .ok (.getfield 11, 3) := by decide +kernel
theorem d_BN_patient_42 : decode b_BN_patient 42 = .ok (.iload_n 3, 1) := by decide +kernel
theorem d_BN_patient_43 : decode b_BN_patient 43 = .ok (.aaload, 1) := by decide +kernel
theorem d_BN_patient_44 : decode b_BN_patient 44 = .ok (.getfield 120, 3) := by decide +kernel
theorem d_BN_patient_47 : decode b_BN_patient 47 = .ok (.iload_n 1, 1) := by decide +kernel
theorem d_BN_patient_48 : decode b_BN_patient 48 = .ok (.if_icmp .ne 13, 3) := by decide +kernel
theorem d_BN_patient_51 : decode b_BN_patient 51 = .ok (.aload_n 0, 1) := by decide +kernel
theorem d_BN_patient_52 : decode b_BN_patient 52 = .ok (.getfield 11, 3) := by decide +kernel
theorem d_BN_patient_55 : decode b_BN_patient 55 = .ok (.iload_n 3, 1) := by decide +kernel
theorem d_BN_patient_56 : decode b_BN_patient 56 = .ok (.aaload, 1) := by decide +kernel
theorem d_BN_patient_57 : decode b_BN_patient 57 = .ok (.iconst 0, 1) := by decide +kernel
theorem d_BN_patient_58 : decode b_BN_patient 58 = .ok (.putfield 123, 3) := by decide +kernel
theorem d_BN_patient_61 : decode b_BN_patient 61 = .ok (.iinc 3 1, 3) := by decide +kernel
theorem d_BN_patient_64 : decode b_BN_patient 64 = .ok (.goto (-32), 3) := by decide +kernel
theorem d_BN_patient_67 : decode b_BN_patient 67 = .ok (.iconst 1, 1) := by decide +kernel
theorem d_BN_patient_68 : decode b_BN_patient 68 = .ok (.ireturn, 1) := by decide +kernel
theorem d_BN_confirm_0 : decode b_BN_confirm 0 = .ok (.aload_n 0, 1) := by decide +kernel
theorem d_BN_confirm_1 : decode b_BN_confirm 1 = .ok (.iload_n 1, 1) := by decide +kernel
theorem d_BN_confirm_2 : decode b_BN_confirm 2 = .ok (.invokevirtual 117, 3) := by decide +kernel
theorem d_BN_confirm_5 : decode b_BN_confirm 5 = .ok (.ifCond .ne 5, 3) := by decide +kernel
theorem d_BN_confirm_8 : decode b_BN_confirm 8 = .ok (.iconst 0, 1) := by decide +kernel
theorem d_BN_confirm_9 : decode b_BN_confirm 9 = .ok (.ireturn, 1) := by decide +kernel
theorem d_BN_confirm_10 : decode b_BN_confirm 10 = .ok (.aload_n 0, 1) := by decide +kernel
theorem d_BN_confirm_11 : decode b_BN_confirm 11 = .ok (.getfield 11, 3) := by decide +kernel
theorem d_BN_confirm_14 : decode b_BN_confirm 14 = .ok (.iload_n 1, 1) := by decide +kernel
theorem d_BN_confirm_15 : decode b_BN_confirm 15 = .ok (.aaload, 1) := by decide +kernel
theorem d_BN_confirm_16 : decode b_BN_confirm 16 = .ok (.astore_n 2, 1) := by decide +kernel
theorem d_BN_confirm_17 : decode b_BN_confirm 17 = .ok (.aload_n 2, 1) := by decide +kernel
theorem d_BN_confirm_18 : decode b_BN_confirm 18 = .ok (.getfield 120, 3) := by decide +kernel
theorem d_BN_confirm_21 : decode b_BN_confirm 21 = .ok (.invokestatic 52, 3) := by decide +kernel
theorem d_BN_confirm_24 : decode b_BN_confirm 24 = .ok (.ifCond .eq 15, 3) := by decide +kernel
theorem d_BN_confirm_27 : decode b_BN_confirm 27 = .ok (.aload_n 0, 1) := by decide +kernel
theorem d_BN_confirm_28 : decode b_BN_confirm 28 = .ok (.getfield 15, 3) := by decide +kernel
theorem d_BN_confirm_31 : decode b_BN_confirm 31 = .ok (.aload_n 2, 1) := by decide +kernel
theorem d_BN_confirm_32 : decode b_BN_confirm 32 = .ok (.getfield 120, 3) := by decide +kernel
theorem d_BN_confirm_35 : decode b_BN_confirm 35 = .ok (.iaload, 1) := by decide +kernel
theorem d_BN_confirm_36 : decode b_BN_confirm 36 = .ok (.goto 4, 3) := by decide +kernel
theorem d_BN_confirm_39 : decode b_BN_confirm 39 = .ok (.iconst 0, 1) := by decide +kernel
theorem d_BN_confirm_40 : decode b_BN_confirm 40 = .ok (.istore_n 3, 1) := by decide +kernel
theorem d_BN_confirm_41 : decode b_BN_confirm 41 = .ok (.iload_n 3, 1) := by decide +kernel
theorem d_BN_confirm_42 : decode b_BN_confirm 42 = .ok (.ifCond .eq 10, 3) := by decide +kernel
theorem d_BN_confirm_45 : decode b_BN_confirm 45 = .ok (.aload_n 2, 1) := by decide +kernel
theorem d_BN_confirm_46 : decode b_BN_confirm 46 = .ok (.getfield 123, 3) := by decide +kernel
theorem d_BN_confirm_49 : decode b_BN_confirm 49 = .ok (.ifCond .eq 5, 3) := by decide +kernel
theorem d_BN_confirm_52 : decode b_BN_confirm 52 = .ok (.iconst 0, 1) := by decide +kernel
theorem d_BN_confirm_53 : decode b_BN_confirm 53 = .ok (.ireturn, 1) := by decide +kernel
theorem d_BN_confirm_54 : decode b_BN_confirm 54 = .ok (.aload_n 2, 1) := by decide +kernel
theorem d_BN_confirm_55 : decode b_BN_confirm 55 = .ok (.iload_n 3, 1) := by decide +kernel
theorem d_BN_confirm_56 : decode b_BN_confirm 56 = .ok (.invokevirtual 126, 3) := by decide +kernel
theorem d_BN_confirm_59 : decode b_BN_confirm 59 = .ok (.iconst 1, 1) := by decide +kernel
theorem d_BN_confirm_60 : decode b_BN_confirm 60 = .ok (.ireturn, 1) := by decide +kernel
theorem d_BN_sample_0 : decode b_BN_sample 0 = .ok (.aload_n 0, 1) := by decide +kernel
theorem d_BN_sample_1 : decode b_BN_sample 1 = .ok (.iload_n 1, 1) := by decide +kernel
theorem d_BN_sample_2 : decode b_BN_sample 2 = .ok (.invokevirtual 117, 3) := by decide +kernel
theorem d_BN_sample_5 : decode b_BN_sample 5 = .ok (.ifCond .eq 28, 3) := by decide +kernel
theorem d_BN_sample_8 : decode b_BN_sample 8 = .ok (.aload_n 0, 1) := by decide +kernel
theorem d_BN_sample_9 : decode b_BN_sample 9 = .ok (.getfield 11, 3) := by decide +kernel
theorem d_BN_sample_12 : decode b_BN_sample 12 = .ok (.iload_n 1, 1) := by decide +kernel
theorem d_BN_sample_13 : decode b_BN_sample 13 = .ok (.aaload, 1) := by decide +kernel
theorem d_BN_sample_14 : decode b_BN_sample 14 = .ok (.getfield 123, 3) := by decide +kernel
theorem d_BN_sample_17 : decode b_BN_sample 17 = .ok (.ifCond .eq 16, 3) := by decide +kernel
theorem d_BN_sample_20 : decode b_BN_sample 20 = .ok (.aload_n 0, 1) := by decide +kernel
theorem d_BN_sample_21 : decode b_BN_sample 21 = .ok (.getfield 11, 3) := by decide +kernel
theorem d_BN_sample_24 : decode b_BN_sample 24 = .ok (.iload_n 1, 1) := by decide +kernel
theorem d_BN_sample_25 : decode b_BN_sample 25 = .ok (.aaload, 1) := by decide +kernel
theorem d_BN_sample_26 : decode b_BN_sample 26 = .ok (.iload_n 2, 1) := by decide +kernel
theorem d_BN_sample_27 : decode b_BN_sample 27 = .ok (.invokevirtual 91, 3) := by decide +kernel
theorem d_BN_sample_30 : decode b_BN_sample 30 = .ok (.ifCond .ne 5, 3) := by decide +kernel
theorem d_BN_sample_33 : decode b_BN_sample 33 = .ok (.iconst 0, 1) := by decide +kernel
theorem d_BN_sample_34 : decode b_BN_sample 34 = .ok (.ireturn, 1) := by decide +kernel
theorem d_BN_sample_35 : decode b_BN_sample 35 = .ok (.aload_n 0, 1) := by decide +kernel
theorem d_BN_sample_36 : decode b_BN_sample 36 = .ok (.getfield 11, 3) := by decide +kernel
theorem d_BN_sample_39 : decode b_BN_sample 39 = .ok (.iload_n 1, 1) := by decide +kernel
theorem d_BN_sample_40 : decode b_BN_sample 40 = .ok (.aaload, 1) := by decide +kernel
theorem d_BN_sample_41 : decode b_BN_sample 41 = .ok (.getfield 82, 3) := by decide +kernel
theorem d_BN_sample_44 : decode b_BN_sample 44 = .ok (.iload_n 2, 1) := by decide +kernel
theorem d_BN_sample_45 : decode b_BN_sample 45 = .ok (.aaload, 1) := by decide +kernel
theorem d_BN_sample_46 : decode b_BN_sample 46 = .ok (.astore 4, 2) := by decide +kernel
theorem d_BN_sample_48 : decode b_BN_sample 48 = .ok (.aload 4, 2) := by decide +kernel
theorem d_BN_sample_50 : decode b_BN_sample 50 = .ok (.getfield 129, 3) := by decide +kernel
theorem d_BN_sample_53 : decode b_BN_sample 53 = .ok (.iload_n 3, 1) := by decide +kernel
theorem d_BN_sample_54 : decode b_BN_sample 54 = .ok (.invokevirtual 133, 3) := by decide +kernel
theorem d_BN_sample_57 : decode b_BN_sample 57 = .ok (.ifCond .ne 5, 3) := by decide +kernel
theorem d_BN_sample_60 : decode b_BN_sample 60 = .ok (.iconst 0, 1) := by decide +kernel
theorem d_BN_sample_61 : decode b_BN_sample 61 = .ok (.ireturn, 1) := by decide +kernel
theorem d_BN_sample_62 : decode b_BN_sample 62 = .ok (.aload 4, 2) := by decide +kernel
theorem d_BN_sample_64 : decode b_BN_sample 64 = .ok (.iload_n 3, 1) := by decide +kernel
theorem d_BN_sample_65 : decode b_BN_sample 65 = .ok (.aload_n 0, 1) := by decide +kernel
theorem d_BN_sample_66 : decode b_BN_sample 66 = .ok (.getfield 138, 3) := by decide +kernel
theorem d_BN_sample_69 : decode b_BN_sample 69 = .ok (.invokevirtual 141, 3) := by decide +kernel
theorem d_BN_sample_72 : decode b_BN_sample 72 = .ok (.aload_n 0, 1) := by decide +kernel
theorem d_BN_sample_73 : decode b_BN_sample 73 = .ok (.iload_n 1, 1) := by decide +kernel
theorem d_BN_sample_74 : decode b_BN_sample 74 = .ok (.iload_n 2, 1) := by decide +kernel
theorem d_BN_sample_75 : decode b_BN_sample 75 = .ok (.invokevirtual 145, 3) := by decide +kernel
theorem d_BN_sample_78 : decode b_BN_sample 78 = .ok (.aload_n 0, 1) := by decide +kernel
theorem d_BN_sample_79 : decode b_BN_sample 79 = .ok (.invokevirtual 148, 3) := by decide +kernel
theorem d_BN_sample_82 : decode b_BN_sample 82 = .ok (.iconst 1, 1) := by decide +kernel
theorem d_BN_sample_83 : decode b_BN_sample 83 = .ok (.ireturn, 1) := by decide +kernel
theorem d_BN_tick_0 : decode b_BN_tick 0 = .ok (.iload_n 1, 1) := by decide +kernel
theorem d_BN_tick_1 : decode b_BN_tick 1 = .ok (.iconst 1, 1) := by decide +kernel
theorem d_BN_tick_2 : decode b_BN_tick 2 = .ok (.if_icmp .lt 21, 3) := by decide +kernel
theorem d_BN_tick_5 : decode b_BN_tick 5 = .ok (.iload_n 1, 1) := by decide +kernel
theorem d_BN_tick_6 : decode b_BN_tick 6 = .ok (.sipush 10000, 3) := by decide +kernel
theorem d_BN_tick_9 : decode b_BN_tick 9 = .ok (.if_icmp .gt 14, 3) := by decide +kernel
theorem d_BN_tick_12 : decode b_BN_tick 12 = .ok (.aload_n 0, 1) := by decide +kernel
theorem d_BN_tick_13 : decode b_BN_tick 13 = .ok (.getfield 138, 3) := by decide +kernel
theorem d_BN_tick_16 : decode b_BN_tick 16 = .ok (.ldc 151, 2) := by decide +kernel
theorem d_BN_tick_18 : decode b_BN_tick 18 = .ok (.iload_n 1, 1) := by decide +kernel
theorem d_BN_tick_19 : decode b_BN_tick 19 = .ok (.isub, 1) := by decide +kernel
theorem d_BN_tick_20 : decode b_BN_tick 20 = .ok (.if_icmp .le 11, 3) := by decide +kernel
theorem d_BN_tick_23 : decode b_BN_tick 23 = .ok (.new 73, 3) := by decide +kernel
theorem d_BN_tick_26 : decode b_BN_tick 26 = .ok (.dup, 1) := by decide +kernel
theorem d_BN_tick_27 : decode b_BN_tick 27 = .ok (.invokespecial 75, 3) := by decide +kernel
theorem d_BN_tick_30 : decode b_BN_tick 30 = .ok (.athrow, 1) := by decide +kernel
theorem d_BN_tick_31 : decode b_BN_tick 31 = .ok (.aload_n 0, 1) := by decide +kernel
theorem d_BN_tick_32 : decode b_BN_tick 32 = .ok (.getfield 34, 3) := by decide +kernel
theorem d_BN_tick_35 : decode b_BN_tick 35 = .ok (.getfield 152, 3) := by decide +kernel
theorem d_BN_tick_38 : decode b_BN_tick 38 = .ok (.istore_n 2, 1) := by decide +kernel
theorem d_BN_tick_39 : decode b_BN_tick 39 = .ok (.aload_n 0, 1) := by decide +kernel
theorem d_BN_tick_40 : decode b_BN_tick 40 = .ok (.dup, 1) := by decide +kernel
theorem d_BN_tick_41 : decode b_BN_tick 41 = .ok (.getfield 138, 3) := by decide +kernel
theorem d_BN_tick_44 : decode b_BN_tick 44 = .ok (.iload_n 1, 1) := by decide +kernel
theorem d_BN_tick_45 : decode b_BN_tick 45 = .ok (.iadd, 1) := by decide +kernel
theorem d_BN_tick_46 : decode b_BN_tick 46 = .ok (.putfield 138, 3) := by decide +kernel
theorem d_BN_tick_49 : decode b_BN_tick 49 = .ok (.aload_n 0, 1) := by decide +kernel
theorem d_BN_tick_50 : decode b_BN_tick 50 = .ok (.invokevirtual 155, 3) := by decide +kernel
theorem d_BN_tick_53 : decode b_BN_tick 53 = .ok (.aload_n 0, 1) := by decide +kernel
theorem d_BN_tick_54 : decode b_BN_tick 54 = .ok (.invokevirtual 148, 3) := by decide +kernel
theorem d_BN_tick_57 : decode b_BN_tick 57 = .ok (.aload_n 0, 1) := by decide +kernel
theorem d_BN_tick_58 : decode b_BN_tick 58 = .ok (.invokevirtual 158, 3) := by decide +kernel
theorem d_BN_tick_61 : decode b_BN_tick 61 = .ok (.aload_n 0, 1) := by decide +kernel
theorem d_BN_tick_62 : decode b_BN_tick 62 = .ok (.getfield 34, 3) := by decide +kernel
theorem d_BN_tick_65 : decode b_BN_tick 65 = .ok (.getfield 152, 3) := by decide +kernel
theorem d_BN_tick_68 : decode b_BN_tick 68 = .ok (.iload_n 2, 1) := by decide +kernel
theorem d_BN_tick_69 : decode b_BN_tick 69 = .ok (.isub, 1) := by decide +kernel
theorem d_BN_tick_70 : decode b_BN_tick 70 = .ok (.ireturn, 1) := by decide +kernel
theorem d_BN_repeatValues_0 : decode b_BN_repeatValues 0 = .ok (.iconst 0, 1) := by decide +kernel
theorem d_BN_repeatValues_1 : decode b_BN_repeatValues 1 = .ok (.istore_n 1, 1) := by decide +kernel
theorem d_BN_repeatValues_2 : decode b_BN_repeatValues 2 = .ok (.iload_n 1, 1) := by decide +kernel
theorem d_BN_repeatValues_3 : decode b_BN_repeatValues 3 = .ok (.bipush 8, 2) := by decide +kernel
theorem d_BN_repeatValues_5 : decode b_BN_repeatValues 5 = .ok (.if_icmp .ge 82, 3) := by decide +kernel
theorem d_BN_repeatValues_8 : decode b_BN_repeatValues 8 = .ok (.iconst 0, 1) := by decide +kernel
theorem d_BN_repeatValues_9 : decode b_BN_repeatValues 9 = .ok (.istore_n 2, 1) := by decide +kernel
theorem d_BN_repeatValues_10 : decode b_BN_repeatValues 10 = .ok (.iload_n 2, 1) := by decide +kernel
theorem d_BN_repeatValues_11 : decode b_BN_repeatValues 11 = .ok (.aload_n 0, 1) := by decide +kernel
theorem d_BN_repeatValues_12 : decode b_BN_repeatValues 12 = .ok (.getfield 11, 3) := by decide +kernel
theorem d_BN_repeatValues_15 : decode b_BN_repeatValues 15 = .ok (.iload_n 1, 1) := by decide +kernel
theorem d_BN_repeatValues_16 : decode b_BN_repeatValues 16 = .ok (.aaload, 1) := by decide +kernel
theorem d_BN_repeatValues_17 : decode b_BN_repeatValues 17 = .ok (.getfield 76, 3) := by decide +kernel
theorem d_BN_repeatValues_20 : decode b_BN_repeatValues 20 = .ok (.if_icmp .ge 61, 3) := by decide +kernel
theorem d_BN_repeatValues_23 : decode b_BN_repeatValues 23 = .ok (.aload_n 0, 1) := by decide +kernel
theorem d_BN_repeatValues_24 : decode b_BN_repeatValues 24 = .ok (.getfield 11, 3) := by decide +kernel
theorem d_BN_repeatValues_27 : decode b_BN_repeatValues 27 = .ok (.iload_n 1, 1) := by decide +kernel
theorem d_BN_repeatValues_28 : decode b_BN_repeatValues 28 = .ok (.aaload, 1) := by decide +kernel
theorem d_BN_repeatValues_29 : decode b_BN_repeatValues 29 = .ok (.getfield 82, 3) := by decide +kernel
theorem d_BN_repeatValues_32 : decode b_BN_repeatValues 32 = .ok (.iload_n 2, 1) := by decide +kernel
theorem d_BN_repeatValues_33 : decode b_BN_repeatValues 33 = .ok (.aaload, 1) := by decide +kernel
theorem d_BN_repeatValues_34 : decode b_BN_repeatValues 34 = .ok (.astore_n 3, 1) := by decide +kernel
theorem d_BN_repeatValues_35 : decode b_BN_repeatValues 35 = .ok (.aload_n 0, 1) := by decide +kernel
theorem d_BN_repeatValues_36 : decode b_BN_repeatValues 36 = .ok (.getfield 11, 3) := by decide +kernel
theorem d_BN_repeatValues_39 : decode b_BN_repeatValues 39 = .ok (.iload_n 1, 1) := by decide +kernel
theorem d_BN_repeatValues_40 : decode b_BN_repeatValues 40 = .ok (.aaload, 1) := by decide +kernel
theorem d_BN_repeatValues_41 : decode b_BN_repeatValues 41 = .ok (.getfield 123, 3) := by decide +kernel
theorem d_BN_repeatValues_44 : decode b_BN_repeatValues 44 = .ok (.ifCond .eq 31, 3) := by decide +kernel
theorem d_BN_repeatValues_47 : decode b_BN_repeatValues 47 = .ok (.aload_n 3, 1) := by decide +kernel
theorem d_BN_repeatValues_48 : decode b_BN_repeatValues 48 = .ok (.getfield 161, 3) := by decide +kernel
theorem d_BN_repeatValues_51 : decode b_BN_repeatValues 51 = .ok (.ifCond .eq 24, 3) := by decide +kernel
theorem d_BN_repeatValues_54 : decode b_BN_repeatValues 54 = .ok (.aload_n 0, 1) := by decide +kernel
theorem d_BN_repeatValues_55 : decode b_BN_repeatValues 55 = .ok (.getfield 138, 3) := by decide +kernel
theorem d_BN_repeatValues_58 : decode b_BN_repeatValues 58 = .ok (.aload_n 3, 1) := by decide +kernel
theorem d_BN_repeatValues_59 : decode b_BN_repeatValues 59 = .ok (.getfield 165, 3) := by decide +kernel
theorem d_BN_repeatValues_62 : decode b_BN_repeatValues 62 = .ok (.isub, 1) := by decide +kernel
theorem d_BN_repeatValues_63 : decode b_BN_repeatValues 63 = .ok (.sipush 1000, 3) := by decide +kernel
theorem d_BN_repeatValues_66 : decode b_BN_repeatValues 66 = .ok (.if_icmp .lt 9, 3) := by decide +kernel
theorem d_BN_repeatValues_69 : decode b_BN_repeatValues 69 = .ok (.aload_n 0, 1) := by decide +kernel
theorem d_BN_repeatValues_70 : decode b_BN_repeatValues 70 = .ok (.iload_n 1, 1) := by decide +kernel
theorem d_BN_repeatValues_71 : decode b_BN_repeatValues 71 = .ok (.iload_n 2, 1) := by decide +kernel
theorem d_BN_repeatValues_72 : decode b_BN_repeatValues 72 = .ok (.invokevirtual 145, 3) := by decide +kernel
theorem d_BN_repeatValues_75 : decode b_BN_repeatValues 75 = .ok (.iinc 2 1, 3) := by decide +kernel
theorem d_BN_repeatValues_78 : decode b_BN_repeatValues 78 = .ok (.goto (-68), 3) := by decide +kernel
theorem d_BN_repeatValues_81 : decode b_BN_repeatValues 81 = .ok (.iinc 1 1, 3) := by decide +kernel
theorem d_BN_repeatValues_84 : decode b_BN_repeatValues 84 = .ok (.goto (-82), 3) := by decide +kernel
theorem d_BN_repeatValues_87 : decode b_BN_repeatValues 87 = .ok (.return_, 1) := by decide +kernel
theorem d_BN_settleAlarms_0 : decode b_BN_settleAlarms 0 = .ok (.iconst 0, 1) := by decide +kernel
theorem d_BN_settleAlarms_1 : decode b_BN_settleAlarms 1 = .ok (.istore_n 1, 1) := by decide +kernel
theorem d_BN_settleAlarms_2 : decode b_BN_settleAlarms 2 = .ok (.iload_n 1, 1) := by decide +kernel
theorem d_BN_settleAlarms_3 : decode b_BN_settleAlarms 3 = .ok (.bipush 8, 2) := by decide +kernel
theorem d_BN_settleAlarms_5 : decode b_BN_settleAlarms 5 = .ok (.if_icmp .ge 75, 3) := by decide +kernel
theorem d_BN_settleAlarms_8 : decode b_BN_settleAlarms 8 = .ok (.iconst 0, 1) := by decide +kernel
theorem d_BN_settleAlarms_9 : decode b_BN_settleAlarms 9 = .ok (.istore_n 2, 1) := by decide +kernel
theorem d_BN_settleAlarms_10 : decode b_BN_settleAlarms 10 = .ok (.iload_n 2, 1) := by decide +kernel
theorem d_BN_settleAlarms_11 : decode b_BN_settleAlarms 11 = .ok (.aload_n 0, 1) := by decide +kernel
theorem d_BN_settleAlarms_12 : decode b_BN_settleAlarms 12 = .ok (.getfield 11, 3) := by decide +kernel
theorem d_BN_settleAlarms_15 : decode b_BN_settleAlarms 15 = .ok (.iload_n 1, 1) := by decide +kernel
theorem d_BN_settleAlarms_16 : decode b_BN_settleAlarms 16 = .ok (.aaload, 1) := by decide +kernel
theorem d_BN_settleAlarms_17 : decode b_BN_settleAlarms 17 = .ok (.getfield 76, 3) := by decide +kernel
theorem d_BN_settleAlarms_20 : decode b_BN_settleAlarms 20 = .ok (.if_icmp .ge 54, 3) := by decide +kernel
theorem d_BN_settleAlarms_23 : decode b_BN_settleAlarms 23 = .ok (.aload_n 0, 1) := by decide +kernel
theorem d_BN_settleAlarms_24 : decode b_BN_settleAlarms 24 = .ok (.getfield 11, 3) := by decide +kernel
theorem d_BN_settleAlarms_27 : decode b_BN_settleAlarms 27 = .ok (.iload_n 1, 1) := by decide +kernel
theorem d_BN_settleAlarms_28 : decode b_BN_settleAlarms 28 = .ok (.aaload, 1) := by decide +kernel
theorem d_BN_settleAlarms_29 : decode b_BN_settleAlarms 29 = .ok (.getfield 82, 3) := by decide +kernel
theorem d_BN_settleAlarms_32 : decode b_BN_settleAlarms 32 = .ok (.iload_n 2, 1) := by decide +kernel
theorem d_BN_settleAlarms_33 : decode b_BN_settleAlarms 33 = .ok (.aaload, 1) := by decide +kernel
theorem d_BN_settleAlarms_34 : decode b_BN_settleAlarms 34 = .ok (.getfield 100, 3) := by decide +kernel
theorem d_BN_settleAlarms_37 : decode b_BN_settleAlarms 37 = .ok (.astore_n 3, 1) := by decide +kernel
theorem d_BN_settleAlarms_38 : decode b_BN_settleAlarms 38 = .ok (.aload_n 3, 1) := by decide +kernel
theorem d_BN_settleAlarms_39 : decode b_BN_settleAlarms 39 = .ok (.aload_n 0, 1) := by decide +kernel
theorem d_BN_settleAlarms_40 : decode b_BN_settleAlarms 40 = .ok (.getfield 138, 3) := by decide +kernel
theorem d_BN_settleAlarms_43 : decode b_BN_settleAlarms 43 = .ok (.invokevirtual 168, 3) := by decide +kernel
theorem d_BN_settleAlarms_46 : decode b_BN_settleAlarms 46 = .ok (.ifCond .eq 22, 3) := by decide +kernel
theorem d_BN_settleAlarms_49 : decode b_BN_settleAlarms 49 = .ok (.aload_n 0, 1) := by decide +kernel
theorem d_BN_settleAlarms_50 : decode b_BN_settleAlarms 50 = .ok (.iconst 2, 1) := by decide +kernel
theorem d_BN_settleAlarms_51 : decode b_BN_settleAlarms 51 = .ok (.iload_n 1, 1) := by decide +kernel
theorem d_BN_settleAlarms_52 : decode b_BN_settleAlarms 52 = .ok (.iload_n 2, 1) := by decide +kernel
theorem d_BN_settleAlarms_53 : decode b_BN_settleAlarms 53 = .ok (.aload_n 3, 1) := by decide +kernel
theorem d_BN_settleAlarms_54 : decode b_BN_settleAlarms 54 = .ok (.getfield 171, 3) := by decide +kernel
theorem d_BN_settleAlarms_57 : decode b_BN_settleAlarms 57 = .ok (.ifCond .eq 7, 3) := by decide +kernel
theorem d_BN_settleAlarms_60 : decode b_BN_settleAlarms 60 = .ok (.iconst 1, 1) := by decide +kernel
theorem d_BN_settleAlarms_61 : decode b_BN_settleAlarms 61 = .ok (.goto 4, 3) := by decide +kernel
theorem d_BN_settleAlarms_64 : decode b_BN_settleAlarms 64 = .ok (.iconst 0, 1) := by decide +kernel
theorem d_BN_settleAlarms_65 : decode b_BN_settleAlarms 65 = .ok (.invokevirtual 174, 3) := by decide +kernel
theorem d_BN_settleAlarms_68 : decode b_BN_settleAlarms 68 = .ok (.iinc 2 1, 3) := by decide +kernel
theorem d_BN_settleAlarms_71 : decode b_BN_settleAlarms 71 = .ok (.goto (-61), 3) := by decide +kernel
theorem d_BN_settleAlarms_74 : decode b_BN_settleAlarms 74 = .ok (.iinc 1 1, 3) := by decide +kernel
theorem d_BN_settleAlarms_77 : decode b_BN_settleAlarms 77 = .ok (.goto (-75), 3) := by decide +kernel
theorem d_BN_settleAlarms_80 : decode b_BN_settleAlarms 80 = .ok (.return_, 1) := by decide +kernel
theorem d_BN_repeatSounds_0 : decode b_BN_repeatSounds 0 = .ok (.iconst 0, 1) := by decide +kernel
theorem d_BN_repeatSounds_1 : decode b_BN_repeatSounds 1 = .ok (.istore_n 1, 1) := by decide +kernel
theorem d_BN_repeatSounds_2 : decode b_BN_repeatSounds 2 = .ok (.iload_n 1, 1) := by decide +kernel
theorem d_BN_repeatSounds_3 : decode b_BN_repeatSounds 3 = .ok (.bipush 8, 2) := by decide +kernel
theorem d_BN_repeatSounds_5 : decode b_BN_repeatSounds 5 = .ok (.if_icmp .ge 46, 3) := by decide +kernel
theorem d_BN_repeatSounds_8 : decode b_BN_repeatSounds 8 = .ok (.aload_n 0, 1) := by decide +kernel
theorem d_BN_repeatSounds_9 : decode b_BN_repeatSounds 9 = .ok (.getfield 11, 3) := by decide +kernel
theorem d_BN_repeatSounds_12 : decode b_BN_repeatSounds 12 = .ok (.iload_n 1, 1) := by decide +kernel
theorem d_BN_repeatSounds_13 : decode b_BN_repeatSounds 13 = .ok (.aaload, 1) := by decide +kernel
theorem d_BN_repeatSounds_14 : decode b_BN_repeatSounds 14 = .ok (.invokevirtual 177, 3) := by decide +kernel
theorem d_BN_repeatSounds_17 : decode b_BN_repeatSounds 17 = .ok (.ifCond .eq 28, 3) := by decide +kernel
theorem d_BN_repeatSounds_20 : decode b_BN_repeatSounds 20 = .ok (.aload_n 0, 1) := by decide +kernel
theorem d_BN_repeatSounds_21 : decode b_BN_repeatSounds 21 = .ok (.getfield 138, 3) := by decide +kernel
theorem d_BN_repeatSounds_24 : decode b_BN_repeatSounds 24 = .ok (.aload_n 0, 1) := by decide +kernel
theorem d_BN_repeatSounds_25 : decode b_BN_repeatSounds 25 = .ok (.getfield 11, 3) := by decide +kernel
theorem d_BN_repeatSounds_28 : decode b_BN_repeatSounds 28 = .ok (.iload_n 1, 1) := by decide +kernel
theorem d_BN_repeatSounds_29 : decode b_BN_repeatSounds 29 = .ok (.aaload, 1) := by decide +kernel
theorem d_BN_repeatSounds_30 : decode b_BN_repeatSounds 30 = .ok (.getfield 181, 3) := by decide +kernel
theorem d_BN_repeatSounds_33 : decode b_BN_repeatSounds 33 = .ok (.isub, 1) := by decide +kernel
theorem d_BN_repeatSounds_34 : decode b_BN_repeatSounds 34 = .ok (.sipush 1000, 3) := by decide +kernel
theorem d_BN_repeatSounds_37 : decode b_BN_repeatSounds 37 = .ok (.if_icmp .lt 8, 3) := by decide +kernel
theorem d_BN_repeatSounds_40 : decode b_BN_repeatSounds 40 = .ok (.aload_n 0, 1) := by decide +kernel
theorem d_BN_repeatSounds_41 : decode b_BN_repeatSounds 41 = .ok (.iload_n 1, 1) := by decide +kernel
theorem d_BN_repeatSounds_42 : decode b_BN_repeatSounds 42 = .ok (.invokevirtual 184, 3) := by decide +kernel
theorem d_BN_repeatSounds_45 : decode b_BN_repeatSounds 45 = .ok (.iinc 1 1, 3) := by decide +kernel
theorem d_BN_repeatSounds_48 : decode b_BN_repeatSounds 48 = .ok (.goto (-46), 3) := by decide +kernel
theorem d_BN_repeatSounds_51 : decode b_BN_repeatSounds 51 = .ok (.return_, 1) := by decide +kernel
theorem d_BN_carry_0 : decode b_BN_carry 0 = .ok (.aload_n 0, 1) := by decide +kernel
theorem d_BN_carry_1 : decode b_BN_carry 1 = .ok (.getfield 34, 3) := by decide +kernel
theorem d_BN_carry_4 : decode b_BN_carry 4 = .ok (.iload_n 1, 1) := by decide +kernel
theorem d_BN_carry_5 : decode b_BN_carry 5 = .ok (.invokevirtual 187, 3) := by decide +kernel
theorem d_BN_carry_8 : decode b_BN_carry 8 = .ok (.istore_n 3, 1) := by decide +kernel
theorem d_BN_carry_9 : decode b_BN_carry 9 = .ok (.iload_n 3, 1) := by decide +kernel
theorem d_BN_carry_10 : decode b_BN_carry 10 = .ok (.iconst (-1), 1) := by decide +kernel
theorem d_BN_carry_11 : decode b_BN_carry 11 = .ok (.if_icmp .ne 5, 3) := by decide +kernel
theorem d_BN_carry_14 : decode b_BN_carry 14 = .ok (.iconst 0, 1) := by decide +kernel
theorem d_BN_carry_15 : decode b_BN_carry 15 = .ok (.ireturn, 1) := by decide +kernel
theorem d_BN_carry_16 : decode b_BN_carry 16 = .ok (.aload_n 0, 1) := by decide +kernel
theorem d_BN_carry_17 : decode b_BN_carry 17 = .ok (.getfield 41, 3) := by decide +kernel
theorem d_BN_carry_20 : decode b_BN_carry 20 = .ok (.aload_n 0, 1) := by decide +kernel
theorem d_BN_carry_21 : decode b_BN_carry 21 = .ok (.getfield 34, 3) := by decide +kernel
theorem d_BN_carry_24 : decode b_BN_carry 24 = .ok (.getfield 191, 3) := by decide +kernel
theorem d_BN_carry_27 : decode b_BN_carry 27 = .ok (.iload_n 3, 1) := by decide +kernel
theorem d_BN_carry_28 : decode b_BN_carry 28 = .ok (.aaload, 1) := by decide +kernel
theorem d_BN_carry_29 : decode b_BN_carry 29 = .ok (.invokevirtual 195, 3) := by decide +kernel
theorem d_BN_carry_32 : decode b_BN_carry 32 = .ok (.iload_n 2, 1) := by decide +kernel
theorem d_BN_carry_33 : decode b_BN_carry 33 = .ok (.ifCond .ne 11, 3) := by decide +kernel
theorem d_BN_carry_36 : decode b_BN_carry 36 = .ok (.aload_n 0, 1) := by decide +kernel
theorem d_BN_carry_37 : decode b_BN_carry 37 = .ok (.getfield 34, 3) := by decide +kernel
theorem d_BN_carry_40 : decode b_BN_carry 40 = .ok (.iload_n 3, 1) := by decide +kernel
theorem d_BN_carry_41 : decode b_BN_carry 41 = .ok (.invokevirtual 199, 3) := by decide +kernel
theorem d_BN_carry_44 : decode b_BN_carry 44 = .ok (.aload_n 0, 1) := by decide +kernel
theorem d_BN_carry_45 : decode b_BN_carry 45 = .ok (.invokevirtual 202, 3) := by decide +kernel
theorem d_BN_carry_48 : decode b_BN_carry 48 = .ok (.aload_n 0, 1) := by decide +kernel
theorem d_BN_carry_49 : decode b_BN_carry 49 = .ok (.invokevirtual 148, 3) := by decide +kernel
theorem d_BN_carry_52 : decode b_BN_carry 52 = .ok (.iconst 1, 1) := by decide +kernel
theorem d_BN_carry_53 : decode b_BN_carry 53 = .ok (.ireturn, 1) := by decide +kernel
theorem d_BN_drop_0 : decode b_BN_drop 0 = .ok (.aload_n 0, 1) := by decide +kernel
theorem d_BN_drop_1 : decode b_BN_drop 1 = .ok (.getfield 34, 3) := by decide +kernel
theorem d_BN_drop_4 : decode b_BN_drop 4 = .ok (.iload_n 1, 1) := by decide +kernel
theorem d_BN_drop_5 : decode b_BN_drop 5 = .ok (.invokevirtual 187, 3) := by decide +kernel
theorem d_BN_drop_8 : decode b_BN_drop 8 = .ok (.istore_n 2, 1) := by decide +kernel
theorem d_BN_drop_9 : decode b_BN_drop 9 = .ok (.iload_n 2, 1) := by decide +kernel
theorem d_BN_drop_10 : decode b_BN_drop 10 = .ok (.iconst (-1), 1) := by decide +kernel
theorem d_BN_drop_11 : decode b_BN_drop 11 = .ok (.if_icmp .ne 5, 3) := by decide +kernel
theorem d_BN_drop_14 : decode b_BN_drop 14 = .ok (.iconst 0, 1) := by decide +kernel
theorem d_BN_drop_15 : decode b_BN_drop 15 = .ok (.ireturn, 1) := by decide +kernel
theorem d_BN_drop_16 : decode b_BN_drop 16 = .ok (.aload_n 0, 1) := by decide +kernel
theorem d_BN_drop_17 : decode b_BN_drop 17 = .ok (.getfield 34, 3) := by decide +kernel
theorem d_BN_drop_20 : decode b_BN_drop 20 = .ok (.iload_n 2, 1) := by decide +kernel
theorem d_BN_drop_21 : decode b_BN_drop 21 = .ok (.invokevirtual 199, 3) := by decide +kernel
theorem d_BN_drop_24 : decode b_BN_drop 24 = .ok (.iconst 1, 1) := by decide +kernel
theorem d_BN_drop_25 : decode b_BN_drop 25 = .ok (.ireturn, 1) := by decide +kernel
theorem d_BN_message_0 : decode b_BN_message 0 = .ok (.aload_n 0, 1) := by decide +kernel
theorem d_BN_message_1 : decode b_BN_message 1 = .ok (.getfield 34, 3) := by decide +kernel
theorem d_BN_message_4 : decode b_BN_message 4 = .ok (.iload_n 1, 1) := by decide +kernel
theorem d_BN_message_5 : decode b_BN_message 5 = .ok (.invokevirtual 187, 3) := by decide +kernel
theorem d_BN_message_8 : decode b_BN_message 8 = .ok (.istore_n 3, 1) := by decide +kernel
theorem d_BN_message_9 : decode b_BN_message 9 = .ok (.iload_n 3, 1) := by decide +kernel
theorem d_BN_message_10 : decode b_BN_message 10 = .ok (.iconst (-1), 1) := by decide +kernel
theorem d_BN_message_11 : decode b_BN_message 11 = .ok (.if_icmp .ne 11, 3) := by decide +kernel
theorem d_BN_message_14 : decode b_BN_message 14 = .ok (.new 205, 3) := by decide +kernel
theorem d_BN_message_17 : decode b_BN_message 17 = .ok (.dup, 1) := by decide +kernel
theorem d_BN_message_18 : decode b_BN_message 18 = .ok (.invokespecial 207, 3) := by decide +kernel
theorem d_BN_message_21 : decode b_BN_message 21 = .ok (.athrow, 1) := by decide +kernel
theorem d_BN_message_22 : decode b_BN_message 22 = .ok (.iload_n 2, 1) := by decide +kernel
theorem d_BN_message_23 : decode b_BN_message 23 = .ok (.ifCond .lt 8, 3) := by decide +kernel
theorem d_BN_message_26 : decode b_BN_message 26 = .ok (.iload_n 2, 1) := by decide +kernel
theorem d_BN_message_27 : decode b_BN_message 27 = .ok (.iconst 5, 1) := by decide +kernel
theorem d_BN_message_28 : decode b_BN_message 28 = .ok (.if_icmp .lt 11, 3) := by decide +kernel
theorem d_BN_message_31 : decode b_BN_message 31 = .ok (.new 208, 3) := by decide +kernel
theorem d_BN_message_34 : decode b_BN_message 34 = .ok (.dup, 1) := by decide +kernel
theorem d_BN_message_35 : decode b_BN_message 35 = .ok (.invokespecial 210, 3) := by decide +kernel
theorem d_BN_message_38 : decode b_BN_message 38 = .ok (.athrow, 1) := by decide +kernel
theorem d_BN_message_39 : decode b_BN_message 39 = .ok (.aload_n 0, 1) := by decide +kernel
theorem d_BN_message_40 : decode b_BN_message 40 = .ok (.getfield 34, 3) := by decide +kernel
theorem d_BN_message_43 : decode b_BN_message 43 = .ok (.getfield 191, 3) := by decide +kernel
theorem d_BN_message_46 : decode b_BN_message 46 = .ok (.iload_n 3, 1) := by decide +kernel
theorem d_BN_message_47 : decode b_BN_message 47 = .ok (.aaload, 1) := by decide +kernel
theorem d_BN_message_48 : decode b_BN_message 48 = .ok (.iload_n 2, 1) := by decide +kernel
theorem d_BN_message_49 : decode b_BN_message 49 = .ok (.invokevirtual 211, 3) := by decide +kernel
theorem d_BN_message_52 : decode b_BN_message 52 = .ok (.ireturn, 1) := by decide +kernel
theorem d_BN_send_0 : decode b_BN_send 0 = .ok (.aload_n 0, 1) := by decide +kernel
theorem d_BN_send_1 : decode b_BN_send 1 = .ok (.getfield 34, 3) := by decide +kernel
theorem d_BN_send_4 : decode b_BN_send 4 = .ok (.iload_n 1, 1) := by decide +kernel
theorem d_BN_send_5 : decode b_BN_send 5 = .ok (.iload_n 2, 1) := by decide +kernel
theorem d_BN_send_6 : decode b_BN_send 6 = .ok (.iload_n 3, 1) := by decide +kernel
theorem d_BN_send_7 : decode b_BN_send 7 = .ok (.aload_n 0, 1) := by decide +kernel
theorem d_BN_send_8 : decode b_BN_send 8 = .ok (.getfield 11, 3) := by decide +kernel
theorem d_BN_send_11 : decode b_BN_send 11 = .ok (.iload_n 2, 1) := by decide +kernel
theorem d_BN_send_12 : decode b_BN_send 12 = .ok (.aaload, 1) := by decide +kernel
theorem d_BN_send_13 : decode b_BN_send 13 = .ok (.getfield 214, 3) := by decide +kernel
theorem d_BN_send_16 : decode b_BN_send 16 = .ok (.iload 4, 2) := by decide +kernel
theorem d_BN_send_18 : decode b_BN_send 18 = .ok (.iconst 0, 1) := by decide +kernel
theorem d_BN_send_19 : decode b_BN_send 19 = .ok (.iconst 0, 1) := by decide +kernel
theorem d_BN_send_20 : decode b_BN_send 20 = .ok (.invokevirtual 217, 3) := by decide +kernel
theorem d_BN_send_23 : decode b_BN_send 23 = .ok (.return_, 1) := by decide +kernel
theorem d_BN_sendValue_0 : decode b_BN_sendValue 0 = .ok (.aload_n 0, 1) := by decide +kernel
theorem d_BN_sendValue_1 : decode b_BN_sendValue 1 = .ok (.getfield 11, 3) := by decide +kernel
theorem d_BN_sendValue_4 : decode b_BN_sendValue 4 = .ok (.iload_n 1, 1) := by decide +kernel
theorem d_BN_sendValue_5 : decode b_BN_sendValue 5 = .ok (.aaload, 1) := by decide +kernel
theorem d_BN_sendValue_6 : decode b_BN_sendValue 6 = .ok (.astore_n 3, 1) := by decide +kernel
theorem d_BN_sendValue_7 : decode b_BN_sendValue 7 = .ok (.aload_n 3, 1) := by decide +kernel
theorem d_BN_sendValue_8 : decode b_BN_sendValue 8 = .ok (.getfield 82, 3) := by decide +kernel
theorem d_BN_sendValue_11 : decode b_BN_sendValue 11 = .ok (.iload_n 2, 1) := by decide +kernel
theorem d_BN_sendValue_12 : decode b_BN_sendValue 12 = .ok (.aaload, 1) := by decide +kernel
theorem d_BN_sendValue_13 : decode b_BN_sendValue 13 = .ok (.astore 4, 2) := by decide +kernel
theorem d_BN_sendValue_15 : decode b_BN_sendValue 15 = .ok (.aload_n 0, 1) := by decide +kernel
theorem d_BN_sendValue_16 : decode b_BN_sendValue 16 = .ok (.getfield 34, 3) := by decide +kernel
theorem d_BN_sendValue_19 : decode b_BN_sendValue 19 = .ok (.iconst 1, 1) := by decide +kernel
theorem d_BN_sendValue_20 : decode b_BN_sendValue 20 = .ok (.iload_n 1, 1) := by decide +kernel
theorem d_BN_sendValue_21 : decode b_BN_sendValue 21 = .ok (.iload_n 2, 1) := by decide +kernel
theorem d_BN_sendValue_22 : decode b_BN_sendValue 22 = .ok (.aload_n 3, 1) := by decide +kernel
theorem d_BN_sendValue_23 : decode b_BN_sendValue 23 = .ok (.getfield 214, 3) := by decide +kernel
theorem d_BN_sendValue_26 : decode b_BN_sendValue 26 = .ok (.aload 4, 2) := by decide +kernel
theorem d_BN_sendValue_28 : decode b_BN_sendValue 28 = .ok (.getfield 220, 3) := by decide +kernel
theorem d_BN_sendValue_31 : decode b_BN_sendValue 31 = .ok (.aload 4, 2) := by decide +kernel
theorem d_BN_sendValue_33 : decode b_BN_sendValue 33 = .ok (.getfield 223, 3) := by decide +kernel
theorem d_BN_sendValue_36 : decode b_BN_sendValue 36 = .ok (.aload_n 3, 1) := by decide +kernel
theorem d_BN_sendValue_37 : decode b_BN_sendValue 37 = .ok (.getfield 123, 3) := by decide +kernel
theorem d_BN_sendValue_40 : decode b_BN_sendValue 40 = .ok (.invokevirtual 217, 3) := by decide +kernel
theorem d_BN_sendValue_43 : decode b_BN_sendValue 43 = .ok (.aload 4, 2) := by decide +kernel
theorem d_BN_sendValue_45 : decode b_BN_sendValue 45 = .ok (.aload_n 0, 1) := by decide +kernel
theorem d_BN_sendValue_46 : decode b_BN_sendValue 46 = .ok (.getfield 138, 3) := by decide +kernel
theorem d_BN_sendValue_49 : decode b_BN_sendValue 49 = .ok (.putfield 165, 3) := by decide +kernel
theorem d_BN_sendValue_52 : decode b_BN_sendValue 52 = .ok (.return_, 1) := by decide +kernel
theorem d_BN_sendSounds_0 : decode b_BN_sendSounds 0 = .ok (.aload_n 0, 1) := by decide +kernel
theorem d_BN_sendSounds_1 : decode b_BN_sendSounds 1 = .ok (.iconst 3, 1) := by decide +kernel
theorem d_BN_sendSounds_2 : decode b_BN_sendSounds 2 = .ok (.iload_n 1, 1) := by decide +kernel
theorem d_BN_sendSounds_3 : decode b_BN_sendSounds 3 = .ok (.iconst 0, 1) := by decide +kernel
theorem d_BN_sendSounds_4 : decode b_BN_sendSounds 4 = .ok (.iconst 0, 1) := by decide +kernel
theorem d_BN_sendSounds_5 : decode b_BN_sendSounds 5 = .ok (.invokevirtual 174, 3) := by decide +kernel
theorem d_BN_sendSounds_8 : decode b_BN_sendSounds 8 = .ok (.aload_n 0, 1) := by decide +kernel
theorem d_BN_sendSounds_9 : decode b_BN_sendSounds 9 = .ok (.getfield 11, 3) := by decide +kernel
theorem d_BN_sendSounds_12 : decode b_BN_sendSounds 12 = .ok (.iload_n 1, 1) := by decide +kernel
theorem d_BN_sendSounds_13 : decode b_BN_sendSounds 13 = .ok (.aaload, 1) := by decide +kernel
theorem d_BN_sendSounds_14 : decode b_BN_sendSounds 14 = .ok (.aload_n 0, 1) := by decide +kernel
theorem d_BN_sendSounds_15 : decode b_BN_sendSounds 15 = .ok (.getfield 138, 3) := by decide +kernel
theorem d_BN_sendSounds_18 : decode b_BN_sendSounds 18 = .ok (.putfield 181, 3) := by decide +kernel
theorem d_BN_sendSounds_21 : decode b_BN_sendSounds 21 = .ok (.return_, 1) := by decide +kernel
theorem d_BN_deliver_0 : decode b_BN_deliver 0 = .ok (.aload_n 0, 1) := by decide +kernel
theorem d_BN_deliver_1 : decode b_BN_deliver 1 = .ok (.getfield 11, 3) := by decide +kernel
theorem d_BN_deliver_4 : decode b_BN_deliver 4 = .ok (.aload_n 0, 1) := by decide +kernel
theorem d_BN_deliver_5 : decode b_BN_deliver 5 = .ok (.getfield 41, 3) := by decide +kernel
theorem d_BN_deliver_8 : decode b_BN_deliver 8 = .ok (.getfield 226, 3) := by decide +kernel
theorem d_BN_deliver_11 : decode b_BN_deliver 11 = .ok (.aaload, 1) := by decide +kernel
theorem d_BN_deliver_12 : decode b_BN_deliver 12 = .ok (.astore_n 1, 1) := by decide +kernel
theorem d_BN_deliver_13 : decode b_BN_deliver 13 = .ok (.aload_n 0, 1) := by decide +kernel
theorem d_BN_deliver_14 : decode b_BN_deliver 14 = .ok (.getfield 41, 3) := by decide +kernel
theorem d_BN_deliver_17 : decode b_BN_deliver 17 = .ok (.getfield 229, 3) := by decide +kernel
theorem d_BN_deliver_20 : decode b_BN_deliver 20 = .ok (.iconst 5, 1) := by decide +kernel
theorem d_BN_deliver_21 : decode b_BN_deliver 21 = .ok (.if_icmp .ne 11, 3) := by decide +kernel
theorem d_BN_deliver_24 : decode b_BN_deliver 24 = .ok (.aload_n 0, 1) := by decide +kernel
theorem d_BN_deliver_25 : decode b_BN_deliver 25 = .ok (.aload_n 1, 1) := by decide +kernel
theorem d_BN_deliver_26 : decode b_BN_deliver 26 = .ok (.invokevirtual 232, 3) := by decide +kernel
theorem d_BN_deliver_29 : decode b_BN_deliver 29 = .ok (.goto 61, 3) := by decide +kernel
theorem d_BN_deliver_32 : decode b_BN_deliver 32 = .ok (.aload_n 0, 1) := by decide +kernel
theorem d_BN_deliver_33 : decode b_BN_deliver 33 = .ok (.getfield 41, 3) := by decide +kernel
theorem d_BN_deliver_36 : decode b_BN_deliver 36 = .ok (.getfield 229, 3) := by decide +kernel
theorem d_BN_deliver_39 : decode b_BN_deliver 39 = .ok (.bipush 6, 2) := by decide +kernel
theorem d_BN_deliver_41 : decode b_BN_deliver 41 = .ok (.if_icmp .ne 30, 3) := by decide +kernel
theorem d_BN_deliver_44 : decode b_BN_deliver 44 = .ok (.aload_n 0, 1) := by decide +kernel
theorem d_BN_deliver_45 : decode b_BN_deliver 45 = .ok (.getfield 27, 3) := by decide +kernel
theorem d_BN_deliver_48 : decode b_BN_deliver 48 = .ok (.aload_n 0, 1) := by decide +kernel
theorem d_BN_deliver_49 : decode b_BN_deliver 49 = .ok (.getfield 41, 3) := by decide +kernel
theorem d_BN_deliver_52 : decode b_BN_deliver 52 = .ok (.getfield 236, 3) := by decide +kernel
theorem d_BN_deliver_55 : decode b_BN_deliver 55 = .ok (.aaload, 1) := by decide +kernel
theorem d_BN_deliver_56 : decode b_BN_deliver 56 = .ok (.iconst 1, 1) := by decide +kernel
theorem d_BN_deliver_57 : decode b_BN_deliver 57 = .ok (.aload_n 0, 1) := by decide +kernel
theorem d_BN_deliver_58 : decode b_BN_deliver 58 = .ok (.getfield 41, 3) := by decide +kernel
theorem d_BN_deliver_61 : decode b_BN_deliver 61 = .ok (.getfield 239, 3) := by decide +kernel
theorem d_BN_deliver_64 : decode b_BN_deliver 64 = .ok (.iadd, 1) := by decide +kernel
theorem d_BN_deliver_65 : decode b_BN_deliver 65 = .ok (.putfield 240, 3) := by decide +kernel
theorem d_BN_deliver_68 : decode b_BN_deliver 68 = .ok (.goto 22, 3) := by decide +kernel
theorem d_BN_deliver_71 : decode b_BN_deliver 71 = .ok (.aload_n 0, 1) := by decide +kernel
theorem d_BN_deliver_72 : decode b_BN_deliver 72 = .ok (.getfield 41, 3) := by decide +kernel
theorem d_BN_deliver_75 : decode b_BN_deliver 75 = .ok (.getfield 243, 3) := by decide +kernel
theorem d_BN_deliver_78 : decode b_BN_deliver 78 = .ok (.aload_n 1, 1) := by decide +kernel
theorem d_BN_deliver_79 : decode b_BN_deliver 79 = .ok (.getfield 214, 3) := by decide +kernel
theorem d_BN_deliver_82 : decode b_BN_deliver 82 = .ok (.if_icmp .ne 8, 3) := by decide +kernel
theorem d_BN_deliver_85 : decode b_BN_deliver 85 = .ok (.aload_n 0, 1) := by decide +kernel
theorem d_BN_deliver_86 : decode b_BN_deliver 86 = .ok (.aload_n 1, 1) := by decide +kernel
theorem d_BN_deliver_87 : decode b_BN_deliver 87 = .ok (.invokevirtual 244, 3) := by decide +kernel
theorem d_BN_deliver_90 : decode b_BN_deliver 90 = .ok (.return_, 1) := by decide +kernel
theorem d_BN_deliverWithinLife_0 : decode b_BN_deliverWithinLife 0 = .ok (.aload_n 0, 1) := by decide +kernel
theorem d_BN_deliverWithinLife_1 : decode b_BN_deliverWithinLife 1 = .ok (.getfield 41, 3) := by decide +kernel
theorem d_BN_deliverWithinLife_4 : decode b_BN_deliverWithinLife 4 = .ok (.getfield 229, 3) := by decide +kernel
theorem d_BN_deliverWithinLife_7 : decode b_BN_deliverWithinLife 7 = .ok (.tableswitch 119 1 4 #[29, 65, 87, 98], 29) := by decide +kernel
theorem d_BN_deliverWithinLife_36 : decode b_BN_deliverWithinLife 36 = .ok (.iconst 0, 1) := by decide +kernel
theorem d_BN_deliverWithinLife_37 : decode b_BN_deliverWithinLife 37 = .ok (.istore_n 2, 1) := by decide +kernel
theorem d_BN_deliverWithinLife_38 : decode b_BN_deliverWithinLife 38 = .ok (.iload_n 2, 1) := by decide +kernel
theorem d_BN_deliverWithinLife_39 : decode b_BN_deliverWithinLife 39 = .ok (.aload_n 0, 1) := by decide +kernel
theorem d_BN_deliverWithinLife_40 : decode b_BN_deliverWithinLife 40 = .ok (.getfield 247, 3) := by decide +kernel
theorem d_BN_deliverWithinLife_43 : decode b_BN_deliverWithinLife 43 = .ok (.if_icmp .ge 26, 3) := by decide +kernel
theorem d_BN_deliverWithinLife_46 : decode b_BN_deliverWithinLife 46 = .ok (.aload_n 0, 1) := by decide +kernel
theorem d_BN_deliverWithinLife_47 : decode b_BN_deliverWithinLife 47 = .ok (.getfield 21, 3) := by decide +kernel
theorem d_BN_deliverWithinLife_50 : decode b_BN_deliverWithinLife 50 = .ok (.iload_n 2, 1) := by decide +kernel
theorem d_BN_deliverWithinLife_51 : decode b_BN_deliverWithinLife 51 = .ok (.aaload, 1) := by decide +kernel
theorem d_BN_deliverWithinLife_52 : decode b_BN_deliverWithinLife 52 = .ok (.aload_n 0, 1) := by decide +kernel
theorem d_BN_deliverWithinLife_53 : decode b_BN_deliverWithinLife 53 = .ok (.getfield 41, 3) := by decide +kernel
theorem d_BN_deliverWithinLife_56 : decode b_BN_deliverWithinLife 56 = .ok (.aload_n 0, 1) := by decide +kernel
theorem d_BN_deliverWithinLife_57 : decode b_BN_deliverWithinLife 57 = .ok (.getfield 138, 3) := by decide +kernel
theorem d_BN_deliverWithinLife_60 : decode b_BN_deliverWithinLife 60 = .ok (.invokevirtual 250, 3) := by decide +kernel
theorem d_BN_deliverWithinLife_63 : decode b_BN_deliverWithinLife 63 = .ok (.iinc 2 1, 3) := by decide +kernel
theorem d_BN_deliverWithinLife_66 : decode b_BN_deliverWithinLife 66 = .ok (.goto (-28), 3) := by decide +kernel
theorem d_BN_deliverWithinLife_69 : decode b_BN_deliverWithinLife 69 = .ok (.goto 57, 3) := by decide +kernel
theorem d_BN_deliverWithinLife_72 : decode b_BN_deliverWithinLife 72 = .ok (.aload_n 0, 1) := by decide +kernel
theorem d_BN_deliverWithinLife_73 : decode b_BN_deliverWithinLife 73 = .ok (.aload_n 1, 1) := by decide +kernel
theorem d_BN_deliverWithinLife_74 : decode b_BN_deliverWithinLife 74 = .ok (.getfield 82, 3) := by decide +kernel
theorem d_BN_deliverWithinLife_77 : decode b_BN_deliverWithinLife 77 = .ok (.aload_n 0, 1) := by decide +kernel
theorem d_BN_deliverWithinLife_78 : decode b_BN_deliverWithinLife 78 = .ok (.getfield 41, 3) := by decide +kernel
theorem d_BN_deliverWithinLife_81 : decode b_BN_deliverWithinLife 81 = .ok (.getfield 236, 3) := by decide +kernel
theorem d_BN_deliverWithinLife_84 : decode b_BN_deliverWithinLife 84 = .ok (.aaload, 1) := by decide +kernel
theorem d_BN_deliverWithinLife_85 : decode b_BN_deliverWithinLife 85 = .ok (.getfield 254, 3) := by decide +kernel
theorem d_BN_deliverWithinLife_88 : decode b_BN_deliverWithinLife 88 = .ok (.invokevirtual 257, 3) := by decide +kernel
theorem d_BN_deliverWithinLife_91 : decode b_BN_deliverWithinLife 91 = .ok (.goto 35, 3) := by decide +kernel
theorem d_BN_deliverWithinLife_94 : decode b_BN_deliverWithinLife 94 = .ok (.aload_n 1, 1) := by decide +kernel
theorem d_BN_deliverWithinLife_95 : decode b_BN_deliverWithinLife 95 = .ok (.aload_n 0, 1) := by decide +kernel
theorem d_BN_deliverWithinLife_96 : decode b_BN_deliverWithinLife 96 = .ok (.getfield 138, 3) := by decide +kernel
theorem d_BN_deliverWithinLife_99 : decode b_BN_deliverWithinLife 99 = .ok (.putfield 261, 3) := by decide +kernel
theorem d_BN_deliverWithinLife_102 : decode b_BN_deliverWithinLife 102 = .ok (.goto 24, 3) := by decide +kernel
theorem d_BN_deliverWithinLife_105 : decode b_BN_deliverWithinLife 105 = .ok (.aload_n 1, 1) := by decide +kernel
theorem d_BN_deliverWithinLife_106 : decode b_BN_deliverWithinLife 106 = .ok (.getfield 82, 3) := by decide +kernel
theorem d_BN_deliverWithinLife_109 : decode b_BN_deliverWithinLife 109 = .ok (.aload_n 0, 1) := by decide +kernel
theorem d_BN_deliverWithinLife_110 : decode b_BN_deliverWithinLife 110 = .ok (.getfield 41, 3) := by decide +kernel
theorem d_BN_deliverWithinLife_113 : decode b_BN_deliverWithinLife 113 = .ok (.getfield 236, 3) := by decide +kernel
theorem d_BN_deliverWithinLife_116 : decode b_BN_deliverWithinLife 116 = .ok (.aaload, 1) := by decide +kernel
theorem d_BN_deliverWithinLife_117 : decode b_BN_deliverWithinLife 117 = .ok (.getfield 100, 3) := by decide +kernel
theorem d_BN_deliverWithinLife_120 : decode b_BN_deliverWithinLife 120 = .ok (.invokevirtual 264, 3) := by decide +kernel
theorem d_BN_deliverWithinLife_123 : decode b_BN_deliverWithinLife 123 = .ok (.goto 3, 3) := by decide +kernel
theorem d_BN_deliverWithinLife_126 : decode b_BN_deliverWithinLife 126 = .ok (.return_, 1) := by decide +kernel
theorem d_BN_learnAlarm_0 : decode b_BN_learnAlarm 0 = .ok (.aload_n 0, 1) := by decide +kernel
theorem d_BN_learnAlarm_1 : decode b_BN_learnAlarm 1 = .ok (.getfield 41, 3) := by decide +kernel
theorem d_BN_learnAlarm_4 : decode b_BN_learnAlarm 4 = .ok (.getfield 267, 3) := by decide +kernel
theorem d_BN_learnAlarm_7 : decode b_BN_learnAlarm 7 = .ok (.aload_n 1, 1) := by decide +kernel
theorem d_BN_learnAlarm_8 : decode b_BN_learnAlarm 8 = .ok (.getfield 270, 3) := by decide +kernel
theorem d_BN_learnAlarm_11 : decode b_BN_learnAlarm 11 = .ok (.if_icmp .gt 4, 3) := by decide +kernel
theorem d_BN_learnAlarm_14 : decode b_BN_learnAlarm 14 = .ok (.return_, 1) := by decide +kernel
theorem d_BN_learnAlarm_15 : decode b_BN_learnAlarm 15 = .ok (.aload_n 1, 1) := by decide +kernel
theorem d_BN_learnAlarm_16 : decode b_BN_learnAlarm 16 = .ok (.aload_n 0, 1) := by decide +kernel
theorem d_BN_learnAlarm_17 : decode b_BN_learnAlarm 17 = .ok (.getfield 41, 3) := by decide +kernel
theorem d_BN_learnAlarm_20 : decode b_BN_learnAlarm 20 = .ok (.getfield 267, 3) := by decide +kernel
theorem d_BN_learnAlarm_23 : decode b_BN_learnAlarm 23 = .ok (.aload_n 0, 1) := by decide +kernel
theorem d_BN_learnAlarm_24 : decode b_BN_learnAlarm 24 = .ok (.getfield 41, 3) := by decide +kernel
theorem d_BN_learnAlarm_27 : decode b_BN_learnAlarm 27 = .ok (.getfield 239, 3) := by decide +kernel
theorem d_BN_learnAlarm_30 : decode b_BN_learnAlarm 30 = .ok (.iconst 1, 1) := by decide +kernel
theorem d_BN_learnAlarm_31 : decode b_BN_learnAlarm 31 = .ok (.if_icmp .ne 7, 3) := by decide +kernel
theorem d_BN_learnAlarm_34 : decode b_BN_learnAlarm 34 = .ok (.iconst 1, 1) := by decide +kernel
theorem d_BN_learnAlarm_35 : decode b_BN_learnAlarm 35 = .ok (.goto 4, 3) := by decide +kernel
theorem d_BN_learnAlarm_38 : decode b_BN_learnAlarm 38 = .ok (.iconst 0, 1) := by decide +kernel
theorem d_BN_learnAlarm_39 : decode b_BN_learnAlarm 39 = .ok (.invokevirtual 273, 3) := by decide +kernel
theorem d_BN_learnAlarm_42 : decode b_BN_learnAlarm 42 = .ok (.aload_n 1, 1) := by decide +kernel
theorem d_BN_learnAlarm_43 : decode b_BN_learnAlarm 43 = .ok (.getfield 277, 3) := by decide +kernel
theorem d_BN_learnAlarm_46 : decode b_BN_learnAlarm 46 = .ok (.ifCond .eq 14, 3) := by decide +kernel
theorem d_BN_learnAlarm_49 : decode b_BN_learnAlarm 49 = .ok (.aload_n 0, 1) := by decide +kernel
theorem d_BN_learnAlarm_50 : decode b_BN_learnAlarm 50 = .ok (.aload_n 0, 1) := by decide +kernel
theorem d_BN_learnAlarm_51 : decode b_BN_learnAlarm 51 = .ok (.getfield 41, 3) := by decide +kernel
theorem d_BN_learnAlarm_54 : decode b_BN_learnAlarm 54 = .ok (.getfield 226, 3) := by decide +kernel
theorem d_BN_learnAlarm_57 : decode b_BN_learnAlarm 57 = .ok (.invokevirtual 184, 3) := by decide +kernel
theorem d_BN_learnAlarm_60 : decode b_BN_learnAlarm 60 = .ok (.return_, 1) := by decide +kernel
theorem d_BN_takeOrder_0 : decode b_BN_takeOrder 0 = .ok (.aload_n 0, 1) := by decide +kernel
theorem d_BN_takeOrder_1 : decode b_BN_takeOrder 1 = .ok (.getfield 27, 3) := by decide +kernel
theorem d_BN_takeOrder_4 : decode b_BN_takeOrder 4 = .ok (.aload_n 0, 1) := by decide +kernel
theorem d_BN_takeOrder_5 : decode b_BN_takeOrder 5 = .ok (.getfield 41, 3) := by decide +kernel
theorem d_BN_takeOrder_8 : decode b_BN_takeOrder 8 = .ok (.getfield 236, 3) := by decide +kernel
theorem d_BN_takeOrder_11 : decode b_BN_takeOrder 11 = .ok (.aaload, 1) := by decide +kernel
theorem d_BN_takeOrder_12 : decode b_BN_takeOrder 12 = .ok (.astore_n 2, 1) := by decide +kernel
theorem d_BN_takeOrder_13 : decode b_BN_takeOrder 13 = .ok (.aload_n 2, 1) := by decide +kernel
theorem d_BN_takeOrder_14 : decode b_BN_takeOrder 14 = .ok (.getfield 278, 3) := by decide +kernel
theorem d_BN_takeOrder_17 : decode b_BN_takeOrder 17 = .ok (.iconst (-1), 1) := by decide +kernel
theorem d_BN_takeOrder_18 : decode b_BN_takeOrder 18 = .ok (.if_icmp .ne 31, 3) := by decide +kernel
theorem d_BN_takeOrder_21 : decode b_BN_takeOrder 21 = .ok (.aload_n 2, 1) := by decide +kernel
theorem d_BN_takeOrder_22 : decode b_BN_takeOrder 22 = .ok (.aload_n 0, 1) := by decide +kernel
theorem d_BN_takeOrder_23 : decode b_BN_takeOrder 23 = .ok (.aload_n 2, 1) := by decide +kernel
theorem d_BN_takeOrder_24 : decode b_BN_takeOrder 24 = .ok (.aload_n 1, 1) := by decide +kernel
theorem d_BN_takeOrder_25 : decode b_BN_takeOrder 25 = .ok (.invokevirtual 281, 3) := by decide +kernel
theorem d_BN_takeOrder_28 : decode b_BN_takeOrder 28 = .ok (.putfield 278, 3) := by decide +kernel
theorem d_BN_takeOrder_31 : decode b_BN_takeOrder 31 = .ok (.aload_n 2, 1) := by decide +kernel
theorem d_BN_takeOrder_32 : decode b_BN_takeOrder 32 = .ok (.getfield 278, 3) := by decide +kernel
theorem d_BN_takeOrder_35 : decode b_BN_takeOrder 35 = .ok (.ifCond .ne 14, 3) := by decide +kernel
theorem d_BN_takeOrder_38 : decode b_BN_takeOrder 38 = .ok (.aload_n 1, 1) := by decide +kernel
theorem d_BN_takeOrder_39 : decode b_BN_takeOrder 39 = .ok (.getfield 110, 3) := by decide +kernel
theorem d_BN_takeOrder_42 : decode b_BN_takeOrder 42 = .ok (.aload_n 2, 1) := by decide +kernel
theorem d_BN_takeOrder_43 : decode b_BN_takeOrder 43 = .ok (.getfield 285, 3) := by decide +kernel
theorem d_BN_takeOrder_46 : decode b_BN_takeOrder 46 = .ok (.putfield 286, 3) := by decide +kernel
theorem d_BN_takeOrder_49 : decode b_BN_takeOrder 49 = .ok (.aload_n 0, 1) := by decide +kernel
theorem d_BN_takeOrder_50 : decode b_BN_takeOrder 50 = .ok (.bipush 6, 2) := by decide +kernel
theorem d_BN_takeOrder_52 : decode b_BN_takeOrder 52 = .ok (.aload_n 0, 1) := by decide +kernel
theorem d_BN_takeOrder_53 : decode b_BN_takeOrder 53 = .ok (.getfield 41, 3) := by decide +kernel
theorem d_BN_takeOrder_56 : decode b_BN_takeOrder 56 = .ok (.getfield 226, 3) := by decide +kernel
theorem d_BN_takeOrder_59 : decode b_BN_takeOrder 59 = .ok (.aload_n 0, 1) := by decide +kernel
theorem d_BN_takeOrder_60 : decode b_BN_takeOrder 60 = .ok (.getfield 41, 3) := by decide +kernel
theorem d_BN_takeOrder_63 : decode b_BN_takeOrder 63 = .ok (.getfield 236, 3) := by decide +kernel
theorem d_BN_takeOrder_66 : decode b_BN_takeOrder 66 = .ok (.aload_n 2, 1) := by decide +kernel
theorem d_BN_takeOrder_67 : decode b_BN_takeOrder 67 = .ok (.getfield 278, 3) := by decide +kernel
theorem d_BN_takeOrder_70 : decode b_BN_takeOrder 70 = .ok (.invokevirtual 174, 3) := by decide +kernel
theorem d_BN_takeOrder_73 : decode b_BN_takeOrder 73 = .ok (.return_, 1) := by decide +kernel
theorem d_BN_judge_0 : decode b_BN_judge 0 = .ok (.aload_n 0, 1) := by decide +kernel
theorem d_BN_judge_1 : decode b_BN_judge 1 = .ok (.getfield 41, 3) := by decide +kernel
theorem d_BN_judge_4 : decode b_BN_judge 4 = .ok (.getfield 243, 3) := by decide +kernel
theorem d_BN_judge_7 : decode b_BN_judge 7 = .ok (.aload_n 2, 1) := by decide +kernel
theorem d_BN_judge_8 : decode b_BN_judge 8 = .ok (.getfield 214, 3) := by decide +kernel
theorem d_BN_judge_11 : decode b_BN_judge 11 = .ok (.if_icmp .eq 5, 3) := by decide +kernel
theorem d_BN_judge_14 : decode b_BN_judge 14 = .ok (.iconst 1, 1) := by decide +kernel
theorem d_BN_judge_15 : decode b_BN_judge 15 = .ok (.ireturn, 1) := by decide +kernel
theorem d_BN_judge_16 : decode b_BN_judge 16 = .ok (.aload_n 2, 1) := by decide +kernel
theorem d_BN_judge_17 : decode b_BN_judge 17 = .ok (.getfield 110, 3) := by decide +kernel
theorem d_BN_judge_20 : decode b_BN_judge 20 = .ok (.aload_n 0, 1) := by decide +kernel
theorem d_BN_judge_21 : decode b_BN_judge 21 = .ok (.getfield 138, 3) := by decide +kernel
theorem d_BN_judge_24 : decode b_BN_judge 24 = .ok (.invokevirtual 287, 3) := by decide +kernel
theorem d_BN_judge_27 : decode b_BN_judge 27 = .ok (.aload_n 1, 1) := by decide +kernel
theorem d_BN_judge_28 : decode b_BN_judge 28 = .ok (.getfield 290, 3) := by decide +kernel
theorem d_BN_judge_31 : decode b_BN_judge 31 = .ok (.if_icmp .eq 5, 3) := by decide +kernel
theorem d_BN_judge_34 : decode b_BN_judge 34 = .ok (.iconst 2, 1) := by decide +kernel
theorem d_BN_judge_35 : decode b_BN_judge 35 = .ok (.ireturn, 1) := by decide +kernel
theorem d_BN_judge_36 : decode b_BN_judge 36 = .ok (.aload_n 2, 1) := by decide +kernel
theorem d_BN_judge_37 : decode b_BN_judge 37 = .ok (.getfield 110, 3) := by decide +kernel
theorem d_BN_judge_40 : decode b_BN_judge 40 = .ok (.getfield 293, 3) := by decide +kernel
theorem d_BN_judge_43 : decode b_BN_judge 43 = .ok (.ifCond .ne 5, 3) := by decide +kernel
theorem d_BN_judge_46 : decode b_BN_judge 46 = .ok (.iconst 3, 1) := by decide +kernel
theorem d_BN_judge_47 : decode b_BN_judge 47 = .ok (.ireturn, 1) := by decide +kernel
theorem d_BN_judge_48 : decode b_BN_judge 48 = .ok (.aload_n 2, 1) := by decide +kernel
theorem d_BN_judge_49 : decode b_BN_judge 49 = .ok (.getfield 110, 3) := by decide +kernel
theorem d_BN_judge_52 : decode b_BN_judge 52 = .ok (.getfield 296, 3) := by decide +kernel
theorem d_BN_judge_55 : decode b_BN_judge 55 = .ok (.aload_n 1, 1) := by decide +kernel
theorem d_BN_judge_56 : decode b_BN_judge 56 = .ok (.getfield 285, 3) := by decide +kernel
theorem d_BN_judge_59 : decode b_BN_judge 59 = .ok (.invokevirtual 133, 3) := by decide +kernel
theorem d_BN_judge_62 : decode b_BN_judge 62 = .ok (.ifCond .ne 5, 3) := by decide +kernel
theorem d_BN_judge_65 : decode b_BN_judge 65 = .ok (.iconst 4, 1) := by decide +kernel
theorem d_BN_judge_66 : decode b_BN_judge 66 = .ok (.ireturn, 1) := by decide +kernel
theorem d_BN_judge_67 : decode b_BN_judge 67 = .ok (.aload_n 2, 1) := by decide +kernel
theorem d_BN_judge_68 : decode b_BN_judge 68 = .ok (.getfield 110, 3) := by decide +kernel
theorem d_BN_judge_71 : decode b_BN_judge 71 = .ok (.getfield 286, 3) := by decide +kernel
theorem d_BN_judge_74 : decode b_BN_judge 74 = .ok (.aload_n 1, 1) := by decide +kernel
theorem d_BN_judge_75 : decode b_BN_judge 75 = .ok (.getfield 297, 3) := by decide +kernel
theorem d_BN_judge_78 : decode b_BN_judge 78 = .ok (.if_icmp .ne 7, 3) := by decide +kernel
theorem d_BN_judge_81 : decode b_BN_judge 81 = .ok (.iconst 0, 1) := by decide +kernel
theorem d_BN_judge_82 : decode b_BN_judge 82 = .ok (.goto 4, 3) := by decide +kernel
theorem d_BN_judge_85 : decode b_BN_judge 85 = .ok (.iconst 5, 1) := by decide +kernel
theorem d_BN_judge_86 : decode b_BN_judge 86 = .ok (.ireturn, 1) := by decide +kernel
theorem d_BN_bind_0 : decode b_BN_bind 0 = .ok (.iload_n 1, 1) := by decide +kernel
theorem d_BN_bind_1 : decode b_BN_bind 1 = .ok (.invokestatic 52, 3) := by decide +kernel
theorem d_BN_bind_4 : decode b_BN_bind 4 = .ok (.ifCond .eq 10, 3) := by decide +kernel
theorem d_BN_bind_7 : decode b_BN_bind 7 = .ok (.iload_n 2, 1) := by decide +kernel
theorem d_BN_bind_8 : decode b_BN_bind 8 = .ok (.invokestatic 66, 3) := by decide +kernel
theorem d_BN_bind_11 : decode b_BN_bind 11 = .ok (.ifCond .ne 11, 3) := by decide +kernel
theorem d_BN_bind_14 : decode b_BN_bind 14 = .ok (.new 73, 3) := by decide +kernel
theorem d_BN_bind_17 : decode b_BN_bind 17 = .ok (.dup, 1) := by decide +kernel
theorem d_BN_bind_18 : decode b_BN_bind 18 = .ok (.invokespecial 75, 3) := by decide +kernel
theorem d_BN_bind_21 : decode b_BN_bind 21 = .ok (.athrow, 1) := by decide +kernel
theorem d_BN_bind_22 : decode b_BN_bind 22 = .ok (.aload_n 0, 1) := by decide +kernel
theorem d_BN_bind_23 : decode b_BN_bind 23 = .ok (.iload_n 1, 1) := by decide +kernel
theorem d_BN_bind_24 : decode b_BN_bind 24 = .ok (.iload_n 2, 1) := by decide +kernel
theorem d_BN_bind_25 : decode b_BN_bind 25 = .ok (.invokevirtual 300, 3) := by decide +kernel
theorem d_BN_bind_28 : decode b_BN_bind 28 = .ok (.istore_n 3, 1) := by decide +kernel
theorem d_BN_bind_29 : decode b_BN_bind 29 = .ok (.aload_n 0, 1) := by decide +kernel
theorem d_BN_bind_30 : decode b_BN_bind 30 = .ok (.getfield 247, 3) := by decide +kernel
theorem d_BN_bind_33 : decode b_BN_bind 33 = .ok (.bipush 16, 2) := by decide +kernel
theorem d_BN_bind_35 : decode b_BN_bind 35 = .ok (.if_icmp .ge 8, 3) := by decide +kernel
theorem d_BN_bind_38 : decode b_BN_bind 38 = .ok (.iload_n 3, 1) := by decide +kernel
theorem d_BN_bind_39 : decode b_BN_bind 39 = .ok (.iconst (-1), 1) := by decide +kernel
theorem d_BN_bind_40 : decode b_BN_bind 40 = .ok (.if_icmp .ne 11, 3) := by decide +kernel
theorem d_BN_bind_43 : decode b_BN_bind 43 = .ok (.new 79, 3) := by decide +kernel
theorem d_BN_bind_46 : decode b_BN_bind 46 = .ok (.dup, 1) := by decide +kernel
theorem d_BN_bind_47 : decode b_BN_bind 47 = .ok (.invokespecial 81, 3) := by decide +kernel
theorem d_BN_bind_50 : decode b_BN_bind 50 = .ok (.athrow, 1) := by decide +kernel
theorem d_BN_bind_51 : decode b_BN_bind 51 = .ok (.aload_n 0, 1) := by decide +kernel
theorem d_BN_bind_52 : decode b_BN_bind 52 = .ok (.getfield 11, 3) := by decide +kernel
theorem d_BN_bind_55 : decode b_BN_bind 55 = .ok (.iload_n 3, 1) := by decide +kernel
theorem d_BN_bind_56 : decode b_BN_bind 56 = .ok (.aaload, 1) := by decide +kernel
theorem d_BN_bind_57 : decode b_BN_bind 57 = .ok (.astore 4, 2) := by decide +kernel
theorem d_BN_bind_59 : decode b_BN_bind 59 = .ok (.aload_n 0, 1) := by decide +kernel
theorem d_BN_bind_60 : decode b_BN_bind 60 = .ok (.getfield 247, 3) := by decide +kernel
theorem d_BN_bind_63 : decode b_BN_bind 63 = .ok (.istore 5, 2) := by decide +kernel
theorem d_BN_bind_65 : decode b_BN_bind 65 = .ok (.aload_n 0, 1) := by decide +kernel
theorem d_BN_bind_66 : decode b_BN_bind 66 = .ok (.getfield 21, 3) := by decide +kernel
theorem d_BN_bind_69 : decode b_BN_bind 69 = .ok (.iload 5, 2) := by decide +kernel
theorem d_BN_bind_71 : decode b_BN_bind 71 = .ok (.aaload, 1) := by decide +kernel
theorem d_BN_bind_72 : decode b_BN_bind 72 = .ok (.iload_n 3, 1) := by decide +kernel
theorem d_BN_bind_73 : decode b_BN_bind 73 = .ok (.aload 4, 2) := by decide +kernel
theorem d_BN_bind_75 : decode b_BN_bind 75 = .ok (.iload_n 2, 1) := by decide +kernel
theorem d_BN_bind_76 : decode b_BN_bind 76 = .ok (.invokevirtual 304, 3) := by decide +kernel
theorem d_BN_bind_79 : decode b_BN_bind 79 = .ok (.aload 4, 2) := by decide +kernel
theorem d_BN_bind_81 : decode b_BN_bind 81 = .ok (.getfield 214, 3) := by decide +kernel
theorem d_BN_bind_84 : decode b_BN_bind 84 = .ok (.aload 4, 2) := by decide +kernel
theorem d_BN_bind_86 : decode b_BN_bind 86 = .ok (.getfield 123, 3) := by decide +kernel
theorem d_BN_bind_89 : decode b_BN_bind 89 = .ok (.invokevirtual 307, 3) := by decide +kernel
theorem d_BN_bind_92 : decode b_BN_bind 92 = .ok (.aload_n 0, 1) := by decide +kernel
theorem d_BN_bind_93 : decode b_BN_bind 93 = .ok (.iload 5, 2) := by decide +kernel
theorem d_BN_bind_95 : decode b_BN_bind 95 = .ok (.iconst 1, 1) := by decide +kernel
theorem d_BN_bind_96 : decode b_BN_bind 96 = .ok (.iadd, 1) := by decide +kernel
theorem d_BN_bind_97 : decode b_BN_bind 97 = .ok (.putfield 247, 3) := by decide +kernel
theorem d_BN_bind_100 : decode b_BN_bind 100 = .ok (.iload 5, 2) := by decide +kernel
theorem d_BN_bind_102 : decode b_BN_bind 102 = .ok (.ireturn, 1) := by decide +kernel
theorem d_BN_shown_0 : decode b_BN_shown 0 = .ok (.iload_n 1, 1) := by decide +kernel
theorem d_BN_shown_1 : decode b_BN_shown 1 = .ok (.ifCond .lt 20, 3) := by decide +kernel
theorem d_BN_shown_4 : decode b_BN_shown 4 = .ok (.iload_n 1, 1) := by decide +kernel
theorem d_BN_shown_5 : decode b_BN_shown 5 = .ok (.aload_n 0, 1) := by decide +kernel
theorem d_BN_shown_6 : decode b_BN_shown 6 = .ok (.getfield 247, 3) := by decide +kernel
theorem d_BN_shown_9 : decode b_BN_shown 9 = .ok (.if_icmp .ge 12, 3) := by decide +kernel
theorem d_BN_shown_12 : decode b_BN_shown 12 = .ok (.iload_n 2, 1) := by decide +kernel
theorem d_BN_shown_13 : decode b_BN_shown 13 = .ok (.ifCond .lt 8, 3) := by decide +kernel
theorem d_BN_shown_16 : decode b_BN_shown 16 = .ok (.iload_n 2, 1) := by decide +kernel
theorem d_BN_shown_17 : decode b_BN_shown 17 = .ok (.iconst 4, 1) := by decide +kernel
theorem d_BN_shown_18 : decode b_BN_shown 18 = .ok (.if_icmp .lt 11, 3) := by decide +kernel
theorem d_BN_shown_21 : decode b_BN_shown 21 = .ok (.new 208, 3) := by decide +kernel
theorem d_BN_shown_24 : decode b_BN_shown 24 = .ok (.dup, 1) := by decide +kernel
theorem d_BN_shown_25 : decode b_BN_shown 25 = .ok (.invokespecial 210, 3) := by decide +kernel
theorem d_BN_shown_28 : decode b_BN_shown 28 = .ok (.athrow, 1) := by decide +kernel
theorem d_BN_shown_29 : decode b_BN_shown 29 = .ok (.aload_n 0, 1) := by decide +kernel
theorem d_BN_shown_30 : decode b_BN_shown 30 = .ok (.getfield 21, 3) := by decide +kernel
theorem d_BN_shown_33 : decode b_BN_shown 33 = .ok (.iload_n 1, 1) := by decide +kernel
theorem d_BN_shown_34 : decode b_BN_shown 34 = .ok (.aaload, 1) := by decide +kernel
theorem d_BN_shown_35 : decode b_BN_shown 35 = .ok (.astore_n 3, 1) := by decide +kernel
theorem d_BN_shown_36 : decode b_BN_shown 36 = .ok (.iload_n 2, 1) := by decide +kernel
theorem d_BN_shown_37 : decode b_BN_shown 37 = .ok (.iconst 2, 1) := by decide +kernel
theorem d_BN_shown_38 : decode b_BN_shown 38 = .ok (.if_icmp .lt 20, 3) := by decide +kernel
theorem d_BN_shown_41 : decode b_BN_shown 41 = .ok (.iload_n 2, 1) := by decide +kernel
theorem d_BN_shown_42 : decode b_BN_shown 42 = .ok (.iconst 2, 1) := by decide +kernel
theorem d_BN_shown_43 : decode b_BN_shown 43 = .ok (.if_icmp .ne 10, 3) := by decide +kernel
theorem d_BN_shown_46 : decode b_BN_shown 46 = .ok (.aload_n 3, 1) := by decide +kernel
theorem d_BN_shown_47 : decode b_BN_shown 47 = .ok (.getfield 310, 3) := by decide +kernel
theorem d_BN_shown_50 : decode b_BN_shown 50 = .ok (.goto 7, 3) := by decide +kernel
theorem d_BN_shown_53 : decode b_BN_shown 53 = .ok (.aload_n 3, 1) := by decide +kernel
theorem d_BN_shown_54 : decode b_BN_shown 54 = .ok (.getfield 311, 3) := by decide +kernel
theorem d_BN_shown_57 : decode b_BN_shown 57 = .ok (.ireturn, 1) := by decide +kernel
theorem d_BN_shown_58 : decode b_BN_shown 58 = .ok (.aload_n 0, 1) := by decide +kernel
theorem d_BN_shown_59 : decode b_BN_shown 59 = .ok (.getfield 138, 3) := by decide +kernel
theorem d_BN_shown_62 : decode b_BN_shown 62 = .ok (.aload_n 3, 1) := by decide +kernel
theorem d_BN_shown_63 : decode b_BN_shown 63 = .ok (.getfield 314, 3) := by decide +kernel
theorem d_BN_shown_66 : decode b_BN_shown 66 = .ok (.isub, 1) := by decide +kernel
theorem d_BN_shown_67 : decode b_BN_shown 67 = .ok (.sipush 3000, 3) := by decide +kernel
theorem d_BN_shown_70 : decode b_BN_shown 70 = .ok (.if_icmp .lt 11, 3) := by decide +kernel
theorem d_BN_shown_73 : decode b_BN_shown 73 = .ok (.new 205, 3) := by decide +kernel
theorem d_BN_shown_76 : decode b_BN_shown 76 = .ok (.dup, 1) := by decide +kernel
theorem d_BN_shown_77 : decode b_BN_shown 77 = .ok (.invokespecial 207, 3) := by decide +kernel
theorem d_BN_shown_80 : decode b_BN_shown 80 = .ok (.athrow, 1) := by decide +kernel
theorem d_BN_shown_81 : decode b_BN_shown 81 = .ok (.iload_n 2, 1) := by decide +kernel
theorem d_BN_shown_82 : decode b_BN_shown 82 = .ok (.ifCond .ne 10, 3) := by decide +kernel
theorem d_BN_shown_85 : decode b_BN_shown 85 = .ok (.aload_n 3, 1) := by decide +kernel
theorem d_BN_shown_86 : decode b_BN_shown 86 = .ok (.getfield 317, 3) := by decide +kernel
theorem d_BN_shown_89 : decode b_BN_shown 89 = .ok (.goto 12, 3) := by decide +kernel
theorem d_BN_shown_92 : decode b_BN_shown 92 = .ok (.aload_n 0, 1) := by decide +kernel
theorem d_BN_shown_93 : decode b_BN_shown 93 = .ok (.getfield 138, 3) := by decide +kernel
theorem d_BN_shown_96 : decode b_BN_shown 96 = .ok (.aload_n 3, 1) := by decide +kernel
theorem d_BN_shown_97 : decode b_BN_shown 97 = .ok (.getfield 318, 3) := by decide +kernel
theorem d_BN_shown_100 : decode b_BN_shown 100 = .ok (.isub, 1) := by decide +kernel
theorem d_BN_shown_101 : decode b_BN_shown 101 = .ok (.ireturn, 1) := by decide +kernel
theorem d_BN_leastDeviceWith_0 : decode b_BN_leastDeviceWith 0 = .ok (.iconst 0, 1) := by decide +kernel
theorem d_BN_leastDeviceWith_1 : decode b_BN_leastDeviceWith 1 = .ok (.istore_n 3, 1) := by decide +kernel
theorem d_BN_leastDeviceWith_2 : decode b_BN_leastDeviceWith 2 = .ok (.iload_n 3, 1) := by decide +kernel
theorem d_BN_leastDeviceWith_3 : decode b_BN_leastDeviceWith 3 = .ok (.bipush 8, 2) := by decide +kernel
theorem d_BN_leastDeviceWith_5 : decode b_BN_leastDeviceWith 5 = .ok (.if_icmp .ge 50, 3) := by decide +kernel
theorem d_BN_leastDeviceWith_8 : decode b_BN_leastDeviceWith 8 = .ok (.aload_n 0, 1) := by decide +kernel
theorem d_BN_leastDeviceWith_9 : decode b_BN_leastDeviceWith 9 = .ok (.getfield 11, 3) := by decide +kernel
theorem d_BN_leastDeviceWith_12 : decode b_BN_leastDeviceWith 12 = .ok (.iload_n 3, 1) := by decide +kernel
theorem d_BN_leastDeviceWith_13 : decode b_BN_leastDeviceWith 13 = .ok (.aaload, 1) := by decide +kernel
theorem d_BN_leastDeviceWith_14 : decode b_BN_leastDeviceWith 14 = .ok (.getfield 120, 3) := by decide +kernel
theorem d_BN_leastDeviceWith_17 : decode b_BN_leastDeviceWith 17 = .ok (.iload_n 1, 1) := by decide +kernel
theorem d_BN_leastDeviceWith_18 : decode b_BN_leastDeviceWith 18 = .ok (.if_icmp .ne 31, 3) := by decide +kernel
theorem d_BN_leastDeviceWith_21 : decode b_BN_leastDeviceWith 21 = .ok (.aload_n 0, 1) := by decide +kernel
theorem d_BN_leastDeviceWith_22 : decode b_BN_leastDeviceWith 22 = .ok (.getfield 11, 3) := by decide +kernel
theorem d_BN_leastDeviceWith_25 : decode b_BN_leastDeviceWith 25 = .ok (.iload_n 3, 1) := by decide +kernel
theorem d_BN_leastDeviceWith_26 : decode b_BN_leastDeviceWith 26 = .ok (.aaload, 1) := by decide +kernel
theorem d_BN_leastDeviceWith_27 : decode b_BN_leastDeviceWith 27 = .ok (.getfield 123, 3) := by decide +kernel
theorem d_BN_leastDeviceWith_30 : decode b_BN_leastDeviceWith 30 = .ok (.ifCond .eq 19, 3) := by decide +kernel
theorem d_BN_leastDeviceWith_33 : decode b_BN_leastDeviceWith 33 = .ok (.aload_n 0, 1) := by decide +kernel
theorem d_BN_leastDeviceWith_34 : decode b_BN_leastDeviceWith 34 = .ok (.getfield 11, 3) := by decide +kernel
theorem d_BN_leastDeviceWith_37 : decode b_BN_leastDeviceWith 37 = .ok (.iload_n 3, 1) := by decide +kernel
theorem d_BN_leastDeviceWith_38 : decode b_BN_leastDeviceWith 38 = .ok (.aaload, 1) := by decide +kernel
theorem d_BN_leastDeviceWith_39 : decode b_BN_leastDeviceWith 39 = .ok (.iload_n 2, 1) := by decide +kernel
theorem d_BN_leastDeviceWith_40 : decode b_BN_leastDeviceWith 40 = .ok (.invokevirtual 304, 3) := by decide +kernel
theorem d_BN_leastDeviceWith_43 : decode b_BN_leastDeviceWith 43 = .ok (.iconst (-1), 1) := by decide +kernel
theorem d_BN_leastDeviceWith_44 : decode b_BN_leastDeviceWith 44 = .ok (.if_icmp .eq 5, 3) := by decide +kernel
theorem d_BN_leastDeviceWith_47 : decode b_BN_leastDeviceWith 47 = .ok (.iload_n 3, 1) := by decide +kernel
theorem d_BN_leastDeviceWith_48 : decode b_BN_leastDeviceWith 48 = .ok (.ireturn, 1) := by decide +kernel
theorem d_BN_leastDeviceWith_49 : decode b_BN_leastDeviceWith 49 = .ok (.iinc 3 1, 3) := by decide +kernel
theorem d_BN_leastDeviceWith_52 : decode b_BN_leastDeviceWith 52 = .ok (.goto (-50), 3) := by decide +kernel
theorem d_BN_leastDeviceWith_55 : decode b_BN_leastDeviceWith 55 = .ok (.iconst (-1), 1) := by decide +kernel
theorem d_BN_leastDeviceWith_56 : decode b_BN_leastDeviceWith 56 = .ok (.ireturn, 1) := by decide +kernel
theorem d_BN_acknowledge_0 : decode b_BN_acknowledge 0 = .ok (.iload_n 1, 1) := by decide +kernel
theorem d_BN_acknowledge_1 : decode b_BN_acknowledge 1 = .ok (.invokestatic 48, 3) := by decide +kernel
theorem d_BN_acknowledge_4 : decode b_BN_acknowledge 4 = .ok (.ifCond .eq 16, 3) := by decide +kernel
theorem d_BN_acknowledge_7 : decode b_BN_acknowledge 7 = .ok (.aload_n 0, 1) := by decide +kernel
theorem d_BN_acknowledge_8 : decode b_BN_acknowledge 8 = .ok (.getfield 11, 3) := by decide +kernel
theorem d_BN_acknowledge_11 : decode b_BN_acknowledge 11 = .ok (.iload_n 1, 1) := by decide +kernel
theorem d_BN_acknowledge_12 : decode b_BN_acknowledge 12 = .ok (.aaload, 1) := by decide +kernel
theorem d_BN_acknowledge_13 : decode b_BN_acknowledge 13 = .ok (.iload_n 2, 1) := by decide +kernel
theorem d_BN_acknowledge_14 : decode b_BN_acknowledge 14 = .ok (.invokevirtual 91, 3) := by decide +kernel
theorem d_BN_acknowledge_17 : decode b_BN_acknowledge 17 = .ok (.ifCond .ne 5, 3) := by decide +kernel
theorem d_BN_acknowledge_20 : decode b_BN_acknowledge 20 = .ok (.iconst 0, 1) := by decide +kernel
theorem d_BN_acknowledge_21 : decode b_BN_acknowledge 21 = .ok (.ireturn, 1) := by decide +kernel
theorem d_BN_acknowledge_22 : decode b_BN_acknowledge 22 = .ok (.aload_n 0, 1) := by decide +kernel
theorem d_BN_acknowledge_23 : decode b_BN_acknowledge 23 = .ok (.getfield 11, 3) := by decide +kernel
theorem d_BN_acknowledge_26 : decode b_BN_acknowledge 26 = .ok (.iload_n 1, 1) := by decide +kernel
theorem d_BN_acknowledge_27 : decode b_BN_acknowledge 27 = .ok (.aaload, 1) := by decide +kernel
theorem d_BN_acknowledge_28 : decode b_BN_acknowledge 28 = .ok (.getfield 82, 3) := by decide +kernel
theorem d_BN_acknowledge_31 : decode b_BN_acknowledge 31 = .ok (.iload_n 2, 1) := by decide +kernel
theorem d_BN_acknowledge_32 : decode b_BN_acknowledge 32 = .ok (.aaload, 1) := by decide +kernel
theorem d_BN_acknowledge_33 : decode b_BN_acknowledge 33 = .ok (.getfield 254, 3) := by decide +kernel
theorem d_BN_acknowledge_36 : decode b_BN_acknowledge 36 = .ok (.astore_n 3, 1) := by decide +kernel
theorem d_BN_acknowledge_37 : decode b_BN_acknowledge 37 = .ok (.aload_n 3, 1) := by decide +kernel
theorem d_BN_acknowledge_38 : decode b_BN_acknowledge 38 = .ok (.invokevirtual 319, 3) := by decide +kernel
theorem d_BN_acknowledge_41 : decode b_BN_acknowledge 41 = .ok (.ifCond .ne 5, 3) := by decide +kernel
theorem d_BN_acknowledge_44 : decode b_BN_acknowledge 44 = .ok (.iconst 0, 1) := by decide +kernel
theorem d_BN_acknowledge_45 : decode b_BN_acknowledge 45 = .ok (.ireturn, 1) := by decide +kernel
theorem d_BN_acknowledge_46 : decode b_BN_acknowledge 46 = .ok (.aload_n 3, 1) := by decide +kernel
theorem d_BN_acknowledge_47 : decode b_BN_acknowledge 47 = .ok (.iconst 1, 1) := by decide +kernel
theorem d_BN_acknowledge_48 : decode b_BN_acknowledge 48 = .ok (.putfield 322, 3) := by decide +kernel
theorem d_BN_acknowledge_51 : decode b_BN_acknowledge 51 = .ok (.aload_n 0, 1) := by decide +kernel
theorem d_BN_acknowledge_52 : decode b_BN_acknowledge 52 = .ok (.iconst 4, 1) := by decide +kernel
theorem d_BN_acknowledge_53 : decode b_BN_acknowledge 53 = .ok (.iload_n 1, 1) := by decide +kernel
theorem d_BN_acknowledge_54 : decode b_BN_acknowledge 54 = .ok (.iload_n 2, 1) := by decide +kernel
theorem d_BN_acknowledge_55 : decode b_BN_acknowledge 55 = .ok (.iconst 0, 1) := by decide +kernel
theorem d_BN_acknowledge_56 : decode b_BN_acknowledge 56 = .ok (.invokevirtual 174, 3) := by decide +kernel
theorem d_BN_acknowledge_59 : decode b_BN_acknowledge 59 = .ok (.iconst 1, 1) := by decide +kernel
theorem d_BN_acknowledge_60 : decode b_BN_acknowledge 60 = .ok (.ireturn, 1) := by decide +kernel
theorem d_BN_inhibit_0 : decode b_BN_inhibit 0 = .ok (.aload_n 0, 1) := by decide +kernel
theorem d_BN_inhibit_1 : decode b_BN_inhibit 1 = .ok (.iload_n 1, 1) := by decide +kernel
theorem d_BN_inhibit_2 : decode b_BN_inhibit 2 = .ok (.invokevirtual 117, 3) := by decide +kernel
theorem d_BN_inhibit_5 : decode b_BN_inhibit 5 = .ok (.ifCond .eq 23, 3) := by decide +kernel
theorem d_BN_inhibit_8 : decode b_BN_inhibit 8 = .ok (.aload_n 0, 1) := by decide +kernel
theorem d_BN_inhibit_9 : decode b_BN_inhibit 9 = .ok (.getfield 11, 3) := by decide +kernel
theorem d_BN_inhibit_12 : decode b_BN_inhibit 12 = .ok (.iload_n 1, 1) := by decide +kernel
theorem d_BN_inhibit_13 : decode b_BN_inhibit 13 = .ok (.aaload, 1) := by decide +kernel
theorem d_BN_inhibit_14 : decode b_BN_inhibit 14 = .ok (.iload_n 2, 1) := by decide +kernel
theorem d_BN_inhibit_15 : decode b_BN_inhibit 15 = .ok (.invokevirtual 91, 3) := by decide +kernel
theorem d_BN_inhibit_18 : decode b_BN_inhibit 18 = .ok (.ifCond .eq 10, 3) := by decide +kernel
theorem d_BN_inhibit_21 : decode b_BN_inhibit 21 = .ok (.iload_n 3, 1) := by decide +kernel
theorem d_BN_inhibit_22 : decode b_BN_inhibit 22 = .ok (.invokestatic 97, 3) := by decide +kernel
theorem d_BN_inhibit_25 : decode b_BN_inhibit 25 = .ok (.ifCond .ne 5, 3) := by decide +kernel
theorem d_BN_inhibit_28 : decode b_BN_inhibit 28 = .ok (.iconst 0, 1) := by decide +kernel
theorem d_BN_inhibit_29 : decode b_BN_inhibit 29 = .ok (.ireturn, 1) := by decide +kernel
theorem d_BN_inhibit_30 : decode b_BN_inhibit 30 = .ok (.aload_n 0, 1) := by decide +kernel
theorem d_BN_inhibit_31 : decode b_BN_inhibit 31 = .ok (.getfield 11, 3) := by decide +kernel
theorem d_BN_inhibit_34 : decode b_BN_inhibit 34 = .ok (.iload_n 1, 1) := by decide +kernel
theorem d_BN_inhibit_35 : decode b_BN_inhibit 35 = .ok (.aaload, 1) := by decide +kernel
theorem d_BN_inhibit_36 : decode b_BN_inhibit 36 = .ok (.getfield 82, 3) := by decide +kernel
theorem d_BN_inhibit_39 : decode b_BN_inhibit 39 = .ok (.iload_n 2, 1) := by decide +kernel
theorem d_BN_inhibit_40 : decode b_BN_inhibit 40 = .ok (.aaload, 1) := by decide +kernel
theorem d_BN_inhibit_41 : decode b_BN_inhibit 41 = .ok (.getfield 100, 3) := by decide +kernel
theorem d_BN_inhibit_44 : decode b_BN_inhibit 44 = .ok (.astore 4, 2) := by decide +kernel
theorem d_BN_inhibit_46 : decode b_BN_inhibit 46 = .ok (.aload 4, 2) := by decide +kernel
theorem d_BN_inhibit_48 : decode b_BN_inhibit 48 = .ok (.getfield 325, 3) := by decide +kernel
theorem d_BN_inhibit_51 : decode b_BN_inhibit 51 = .ok (.ifCond .ne 5, 3) := by decide +kernel
theorem d_BN_inhibit_54 : decode b_BN_inhibit 54 = .ok (.iconst 0, 1) := by decide +kernel
theorem d_BN_inhibit_55 : decode b_BN_inhibit 55 = .ok (.ireturn, 1) := by decide +kernel
theorem d_BN_inhibit_56 : decode b_BN_inhibit 56 = .ok (.aload 4, 2) := by decide +kernel
theorem d_BN_inhibit_58 : decode b_BN_inhibit 58 = .ok (.aload_n 0, 1) := by decide +kernel
theorem d_BN_inhibit_59 : decode b_BN_inhibit 59 = .ok (.getfield 138, 3) := by decide +kernel
theorem d_BN_inhibit_62 : decode b_BN_inhibit 62 = .ok (.iload_n 3, 1) := by decide +kernel
theorem d_BN_inhibit_63 : decode b_BN_inhibit 63 = .ok (.iadd, 1) := by decide +kernel
theorem d_BN_inhibit_64 : decode b_BN_inhibit 64 = .ok (.putfield 328, 3) := by decide +kernel
theorem d_BN_inhibit_67 : decode b_BN_inhibit 67 = .ok (.aload_n 0, 1) := by decide +kernel
theorem d_BN_inhibit_68 : decode b_BN_inhibit 68 = .ok (.invokevirtual 148, 3) := by decide +kernel
theorem d_BN_inhibit_71 : decode b_BN_inhibit 71 = .ok (.iconst 1, 1) := by decide +kernel
theorem d_BN_inhibit_72 : decode b_BN_inhibit 72 = .ok (.ireturn, 1) := by decide +kernel
theorem d_BN_lease_0 : decode b_BN_lease 0 = .ok (.iload_n 1, 1) := by decide +kernel
theorem d_BN_lease_1 : decode b_BN_lease 1 = .ok (.invokestatic 331, 3) := by decide +kernel
theorem d_BN_lease_4 : decode b_BN_lease 4 = .ok (.ifCond .eq 11, 3) := by decide +kernel
theorem d_BN_lease_7 : decode b_BN_lease 7 = .ok (.aload_n 0, 1) := by decide +kernel
theorem d_BN_lease_8 : decode b_BN_lease 8 = .ok (.iload_n 2, 1) := by decide +kernel
theorem d_BN_lease_9 : decode b_BN_lease 9 = .ok (.invokevirtual 334, 3) := by decide +kernel
theorem d_BN_lease_12 : decode b_BN_lease 12 = .ok (.ifCond .ne 5, 3) := by decide +kernel
theorem d_BN_lease_15 : decode b_BN_lease 15 = .ok (.iconst 0, 1) := by decide +kernel
theorem d_BN_lease_16 : decode b_BN_lease 16 = .ok (.ireturn, 1) := by decide +kernel
theorem d_BN_lease_17 : decode b_BN_lease 17 = .ok (.aload_n 0, 1) := by decide +kernel
theorem d_BN_lease_18 : decode b_BN_lease 18 = .ok (.getfield 11, 3) := by decide +kernel
theorem d_BN_lease_21 : decode b_BN_lease 21 = .ok (.iload_n 2, 1) := by decide +kernel
theorem d_BN_lease_22 : decode b_BN_lease 22 = .ok (.aaload, 1) := by decide +kernel
theorem d_BN_lease_23 : decode b_BN_lease 23 = .ok (.getfield 110, 3) := by decide +kernel
theorem d_BN_lease_26 : decode b_BN_lease 26 = .ok (.astore_n 3, 1) := by decide +kernel
theorem d_BN_lease_27 : decode b_BN_lease 27 = .ok (.aload_n 3, 1) := by decide +kernel
theorem d_BN_lease_28 : decode b_BN_lease 28 = .ok (.aload_n 0, 1) := by decide +kernel
theorem d_BN_lease_29 : decode b_BN_lease 29 = .ok (.getfield 138, 3) := by decide +kernel
theorem d_BN_lease_32 : decode b_BN_lease 32 = .ok (.invokevirtual 287, 3) := by decide +kernel
theorem d_BN_lease_35 : decode b_BN_lease 35 = .ok (.istore 4, 2) := by decide +kernel
theorem d_BN_lease_37 : decode b_BN_lease 37 = .ok (.iload 4, 2) := by decide +kernel
theorem d_BN_lease_39 : decode b_BN_lease 39 = .ok (.iconst (-1), 1) := by decide +kernel
theorem d_BN_lease_40 : decode b_BN_lease 40 = .ok (.if_icmp .eq 11, 3) := by decide +kernel
theorem d_BN_lease_43 : decode b_BN_lease 43 = .ok (.iload 4, 2) := by decide +kernel
theorem d_BN_lease_45 : decode b_BN_lease 45 = .ok (.iload_n 1, 1) := by decide +kernel
theorem d_BN_lease_46 : decode b_BN_lease 46 = .ok (.if_icmp .eq 5, 3) := by decide +kernel
theorem d_BN_lease_49 : decode b_BN_lease 49 = .ok (.iconst 0, 1) := by decide +kernel
theorem d_BN_lease_50 : decode b_BN_lease 50 = .ok (.ireturn, 1) := by decide +kernel
theorem d_BN_lease_51 : decode b_BN_lease 51 = .ok (.aload_n 3, 1) := by decide +kernel
theorem d_BN_lease_52 : decode b_BN_lease 52 = .ok (.iload_n 1, 1) := by decide +kernel
theorem d_BN_lease_53 : decode b_BN_lease 53 = .ok (.putfield 337, 3) := by decide +kernel
theorem d_BN_lease_56 : decode b_BN_lease 56 = .ok (.aload_n 3, 1) := by decide +kernel
theorem d_BN_lease_57 : decode b_BN_lease 57 = .ok (.aload_n 0, 1) := by decide +kernel
theorem d_BN_lease_58 : decode b_BN_lease 58 = .ok (.getfield 138, 3) := by decide +kernel
theorem d_BN_lease_61 : decode b_BN_lease 61 = .ok (.putfield 338, 3) := by decide +kernel
theorem d_BN_lease_64 : decode b_BN_lease 64 = .ok (.iconst 1, 1) := by decide +kernel
theorem d_BN_lease_65 : decode b_BN_lease 65 = .ok (.ireturn, 1) := by decide +kernel
theorem d_BN_order_0 : decode b_BN_order 0 = .ok (.iload_n 1, 1) := by decide +kernel
theorem d_BN_order_1 : decode b_BN_order 1 = .ok (.invokestatic 331, 3) := by decide +kernel
theorem d_BN_order_4 : decode b_BN_order 4 = .ok (.ifCond .eq 11, 3) := by decide +kernel
theorem d_BN_order_7 : decode b_BN_order 7 = .ok (.aload_n 0, 1) := by decide +kernel
theorem d_BN_order_8 : decode b_BN_order 8 = .ok (.iload_n 2, 1) := by decide +kernel
theorem d_BN_order_9 : decode b_BN_order 9 = .ok (.invokevirtual 334, 3) := by decide +kernel
theorem d_BN_order_12 : decode b_BN_order 12 = .ok (.ifCond .ne 11, 3) := by decide +kernel
theorem d_BN_order_15 : decode b_BN_order 15 = .ok (.new 73, 3) := by decide +kernel
theorem d_BN_order_18 : decode b_BN_order 18 = .ok (.dup, 1) := by decide +kernel
theorem d_BN_order_19 : decode b_BN_order 19 = .ok (.invokespecial 75, 3) := by decide +kernel
theorem d_BN_order_22 : decode b_BN_order 22 = .ok (.athrow, 1) := by decide +kernel
theorem d_BN_order_23 : decode b_BN_order 23 = .ok (.aload_n 0, 1) := by decide +kernel
theorem d_BN_order_24 : decode b_BN_order 24 = .ok (.getfield 341, 3) := by decide +kernel
theorem d_BN_order_27 : decode b_BN_order 27 = .ok (.bipush 100, 2) := by decide +kernel
theorem d_BN_order_29 : decode b_BN_order 29 = .ok (.if_icmp .lt 11, 3) := by decide +kernel
theorem d_BN_order_32 : decode b_BN_order 32 = .ok (.new 79, 3) := by decide +kernel
theorem d_BN_order_35 : decode b_BN_order 35 = .ok (.dup, 1) := by decide +kernel
theorem d_BN_order_36 : decode b_BN_order 36 = .ok (.invokespecial 81, 3) := by decide +kernel
theorem d_BN_order_39 : decode b_BN_order 39 = .ok (.athrow, 1) := by decide +kernel
theorem d_BN_order_40 : decode b_BN_order 40 = .ok (.aload_n 0, 1) := by decide +kernel
theorem d_BN_order_41 : decode b_BN_order 41 = .ok (.getfield 341, 3) := by decide +kernel
theorem d_BN_order_44 : decode b_BN_order 44 = .ok (.istore 5, 2) := by decide +kernel
theorem d_BN_order_46 : decode b_BN_order 46 = .ok (.aload_n 0, 1) := by decide +kernel
theorem d_BN_order_47 : decode b_BN_order 47 = .ok (.getfield 27, 3) := by decide +kernel
theorem d_BN_order_50 : decode b_BN_order 50 = .ok (.iload 5, 2) := by decide +kernel
theorem d_BN_order_52 : decode b_BN_order 52 = .ok (.aaload, 1) := by decide +kernel
theorem d_BN_order_53 : decode b_BN_order 53 = .ok (.iload_n 1, 1) := by decide +kernel
theorem d_BN_order_54 : decode b_BN_order 54 = .ok (.iload_n 3, 1) := by decide +kernel
theorem d_BN_order_55 : decode b_BN_order 55 = .ok (.iload 4, 2) := by decide +kernel
theorem d_BN_order_57 : decode b_BN_order 57 = .ok (.invokevirtual 344, 3) := by decide +kernel
theorem d_BN_order_60 : decode b_BN_order 60 = .ok (.aload_n 0, 1) := by decide +kernel
theorem d_BN_order_61 : decode b_BN_order 61 = .ok (.iload 5, 2) := by decide +kernel
theorem d_BN_order_63 : decode b_BN_order 63 = .ok (.iconst 1, 1) := by decide +kernel
theorem d_BN_order_64 : decode b_BN_order 64 = .ok (.iadd, 1) := by decide +kernel
theorem d_BN_order_65 : decode b_BN_order 65 = .ok (.putfield 341, 3) := by decide +kernel
theorem d_BN_order_68 : decode b_BN_order 68 = .ok (.aload_n 0, 1) := by decide +kernel
theorem d_BN_order_69 : decode b_BN_order 69 = .ok (.iconst 5, 1) := by decide +kernel
theorem d_BN_order_70 : decode b_BN_order 70 = .ok (.iload_n 2, 1) := by decide +kernel
theorem d_BN_order_71 : decode b_BN_order 71 = .ok (.iload 5, 2) := by decide +kernel
theorem d_BN_order_73 : decode b_BN_order 73 = .ok (.iconst 0, 1) := by decide +kernel
theorem d_BN_order_74 : decode b_BN_order 74 = .ok (.invokevirtual 174, 3) := by decide +kernel
theorem d_BN_order_77 : decode b_BN_order 77 = .ok (.iload 5, 2) := by decide +kernel
theorem d_BN_order_79 : decode b_BN_order 79 = .ok (.ireturn, 1) := by decide +kernel
theorem d_BN_local_0 : decode b_BN_local 0 = .ok (.aload_n 0, 1) := by decide +kernel
theorem d_BN_local_1 : decode b_BN_local 1 = .ok (.iload_n 1, 1) := by decide +kernel
theorem d_BN_local_2 : decode b_BN_local 2 = .ok (.invokevirtual 334, 3) := by decide +kernel
theorem d_BN_local_5 : decode b_BN_local 5 = .ok (.ifCond .ne 5, 3) := by decide +kernel
theorem d_BN_local_8 : decode b_BN_local 8 = .ok (.iconst 0, 1) := by decide +kernel
theorem d_BN_local_9 : decode b_BN_local 9 = .ok (.ireturn, 1) := by decide +kernel
theorem d_BN_local_10 : decode b_BN_local 10 = .ok (.aload_n 0, 1) := by decide +kernel
theorem d_BN_local_11 : decode b_BN_local 11 = .ok (.getfield 11, 3) := by decide +kernel
theorem d_BN_local_14 : decode b_BN_local 14 = .ok (.iload_n 1, 1) := by decide +kernel
theorem d_BN_local_15 : decode b_BN_local 15 = .ok (.aaload, 1) := by decide +kernel
theorem d_BN_local_16 : decode b_BN_local 16 = .ok (.getfield 110, 3) := by decide +kernel
theorem d_BN_local_19 : decode b_BN_local 19 = .ok (.astore 4, 2) := by decide +kernel
theorem d_BN_local_21 : decode b_BN_local 21 = .ok (.iload_n 2, 1) := by decide +kernel
theorem d_BN_local_22 : decode b_BN_local 22 = .ok (.iconst (-1), 1) := by decide +kernel
theorem d_BN_local_23 : decode b_BN_local 23 = .ok (.if_icmp .ne 11, 3) := by decide +kernel
theorem d_BN_local_26 : decode b_BN_local 26 = .ok (.aload 4, 2) := by decide +kernel
theorem d_BN_local_28 : decode b_BN_local 28 = .ok (.iload_n 3, 1) := by decide +kernel
theorem d_BN_local_29 : decode b_BN_local 29 = .ok (.putfield 293, 3) := by decide +kernel
theorem d_BN_local_32 : decode b_BN_local 32 = .ok (.iconst 1, 1) := by decide +kernel
theorem d_BN_local_33 : decode b_BN_local 33 = .ok (.ireturn, 1) := by decide +kernel
theorem d_BN_local_34 : decode b_BN_local 34 = .ok (.aload 4, 2) := by decide +kernel
theorem d_BN_local_36 : decode b_BN_local 36 = .ok (.getfield 293, 3) := by decide +kernel
theorem d_BN_local_39 : decode b_BN_local 39 = .ok (.ifCond .ne 15, 3) := by decide +kernel
theorem d_BN_local_42 : decode b_BN_local 42 = .ok (.aload 4, 2) := by decide +kernel
theorem d_BN_local_44 : decode b_BN_local 44 = .ok (.getfield 296, 3) := by decide +kernel
theorem d_BN_local_47 : decode b_BN_local 47 = .ok (.iload_n 2, 1) := by decide +kernel
theorem d_BN_local_48 : decode b_BN_local 48 = .ok (.invokevirtual 133, 3) := by decide +kernel
theorem d_BN_local_51 : decode b_BN_local 51 = .ok (.ifCond .ne 5, 3) := by decide +kernel
theorem d_BN_local_54 : decode b_BN_local 54 = .ok (.iconst 0, 1) := by decide +kernel
theorem d_BN_local_55 : decode b_BN_local 55 = .ok (.ireturn, 1) := by decide +kernel
theorem d_BN_local_56 : decode b_BN_local 56 = .ok (.aload 4, 2) := by decide +kernel
theorem d_BN_local_58 : decode b_BN_local 58 = .ok (.iload_n 2, 1) := by decide +kernel
theorem d_BN_local_59 : decode b_BN_local 59 = .ok (.putfield 286, 3) := by decide +kernel
theorem d_BN_local_62 : decode b_BN_local 62 = .ok (.iconst 1, 1) := by decide +kernel
theorem d_BN_local_63 : decode b_BN_local 63 = .ok (.ireturn, 1) := by decide +kernel
theorem d_BN_restart_0 : decode b_BN_restart 0 = .ok (.aload_n 0, 1) := by decide +kernel
theorem d_BN_restart_1 : decode b_BN_restart 1 = .ok (.iload_n 1, 1) := by decide +kernel
theorem d_BN_restart_2 : decode b_BN_restart 2 = .ok (.invokevirtual 117, 3) := by decide +kernel
theorem d_BN_restart_5 : decode b_BN_restart 5 = .ok (.ifCond .ne 5, 3) := by decide +kernel
theorem d_BN_restart_8 : decode b_BN_restart 8 = .ok (.iconst 0, 1) := by decide +kernel
theorem d_BN_restart_9 : decode b_BN_restart 9 = .ok (.ireturn, 1) := by decide +kernel
theorem d_BN_restart_10 : decode b_BN_restart 10 = .ok (.aload_n 0, 1) := by decide +kernel
theorem d_BN_restart_11 : decode b_BN_restart 11 = .ok (.getfield 11, 3) := by decide +kernel
theorem d_BN_restart_14 : decode b_BN_restart 14 = .ok (.iload_n 1, 1) := by decide +kernel
theorem d_BN_restart_15 : decode b_BN_restart 15 = .ok (.aaload, 1) := by decide +kernel
theorem d_BN_restart_16 : decode b_BN_restart 16 = .ok (.invokevirtual 347, 3) := by decide +kernel
theorem d_BN_restart_19 : decode b_BN_restart 19 = .ok (.iconst 1, 1) := by decide +kernel
theorem d_BN_restart_20 : decode b_BN_restart 20 = .ok (.ireturn, 1) := by decide +kernel
theorem d_BN_look_0 : decode b_BN_look 0 = .ok (.iload_n 1, 1) := by decide +kernel
theorem d_BN_look_1 : decode b_BN_look 1 = .ok (.invokestatic 48, 3) := by decide +kernel
theorem d_BN_look_4 : decode b_BN_look 4 = .ok (.ifCond .eq 7, 3) := by decide +kernel
theorem d_BN_look_7 : decode b_BN_look 7 = .ok (.iload_n 2, 1) := by decide +kernel
theorem d_BN_look_8 : decode b_BN_look 8 = .ok (.ifCond .ge 11, 3) := by decide +kernel
theorem d_BN_look_11 : decode b_BN_look 11 = .ok (.new 208, 3) := by decide +kernel
theorem d_BN_look_14 : decode b_BN_look 14 = .ok (.dup, 1) := by decide +kernel
theorem d_BN_look_15 : decode b_BN_look 15 = .ok (.invokespecial 210, 3) := by decide +kernel
theorem d_BN_look_18 : decode b_BN_look 18 = .ok (.athrow, 1) := by decide +kernel
theorem d_BN_look_19 : decode b_BN_look 19 = .ok (.iload_n 2, 1) := by decide +kernel
theorem d_BN_look_20 : decode b_BN_look 20 = .ok (.bipush 10, 2) := by decide +kernel
theorem d_BN_look_22 : decode b_BN_look 22 = .ok (.if_icmp .ge 15, 3) := by decide +kernel
theorem d_BN_look_25 : decode b_BN_look 25 = .ok (.aload_n 0, 1) := by decide +kernel
theorem d_BN_look_26 : decode b_BN_look 26 = .ok (.aload_n 0, 1) := by decide +kernel
theorem d_BN_look_27 : decode b_BN_look 27 = .ok (.getfield 11, 3) := by decide +kernel
theorem d_BN_look_30 : decode b_BN_look 30 = .ok (.iload_n 1, 1) := by decide +kernel
theorem d_BN_look_31 : decode b_BN_look 31 = .ok (.aaload, 1) := by decide +kernel
theorem d_BN_look_32 : decode b_BN_look 32 = .ok (.iload_n 2, 1) := by decide +kernel
theorem d_BN_look_33 : decode b_BN_look 33 = .ok (.invokevirtual 350, 3) := by decide +kernel
theorem d_BN_look_36 : decode b_BN_look 36 = .ok (.ireturn, 1) := by decide +kernel
theorem d_BN_look_37 : decode b_BN_look 37 = .ok (.iload_n 2, 1) := by decide +kernel
theorem d_BN_look_38 : decode b_BN_look 38 = .ok (.bipush 10, 2) := by decide +kernel
theorem d_BN_look_40 : decode b_BN_look 40 = .ok (.isub, 1) := by decide +kernel
theorem d_BN_look_41 : decode b_BN_look 41 = .ok (.bipush 8, 2) := by decide +kernel
theorem d_BN_look_43 : decode b_BN_look 43 = .ok (.idiv, 1) := by decide +kernel
theorem d_BN_look_44 : decode b_BN_look 44 = .ok (.istore_n 3, 1) := by decide +kernel
theorem d_BN_look_45 : decode b_BN_look 45 = .ok (.iload_n 2, 1) := by decide +kernel
theorem d_BN_look_46 : decode b_BN_look 46 = .ok (.bipush 10, 2) := by decide +kernel
theorem d_BN_look_48 : decode b_BN_look 48 = .ok (.isub, 1) := by decide +kernel
theorem d_BN_look_49 : decode b_BN_look 49 = .ok (.bipush 8, 2) := by decide +kernel
theorem d_BN_look_51 : decode b_BN_look 51 = .ok (.irem, 1) := by decide +kernel
theorem d_BN_look_52 : decode b_BN_look 52 = .ok (.istore 4, 2) := by decide +kernel
theorem d_BN_look_54 : decode b_BN_look 54 = .ok (.iload_n 3, 1) := by decide +kernel
theorem d_BN_look_55 : decode b_BN_look 55 = .ok (.iconst 4, 1) := by decide +kernel
theorem d_BN_look_56 : decode b_BN_look 56 = .ok (.if_icmp .ge 9, 3) := by decide +kernel
theorem d_BN_look_59 : decode b_BN_look 59 = .ok (.iload 4, 2) := by decide +kernel
theorem d_BN_look_61 : decode b_BN_look 61 = .ok (.iconst 5, 1) := by decide +kernel
theorem d_BN_look_62 : decode b_BN_look 62 = .ok (.if_icmp .lt 11, 3) := by decide +kernel
theorem d_BN_look_65 : decode b_BN_look 65 = .ok (.new 208, 3) := by decide +kernel
theorem d_BN_look_68 : decode b_BN_look 68 = .ok (.dup, 1) := by decide +kernel
theorem d_BN_look_69 : decode b_BN_look 69 = .ok (.invokespecial 210, 3) := by decide +kernel
theorem d_BN_look_72 : decode b_BN_look 72 = .ok (.athrow, 1) := by decide +kernel
theorem d_BN_look_73 : decode b_BN_look 73 = .ok (.aload_n 0, 1) := by decide +kernel
theorem d_BN_look_74 : decode b_BN_look 74 = .ok (.getfield 11, 3) := by decide +kernel
theorem d_BN_look_77 : decode b_BN_look 77 = .ok (.iload_n 1, 1) := by decide +kernel
theorem d_BN_look_78 : decode b_BN_look 78 = .ok (.aaload, 1) := by decide +kernel
theorem d_BN_look_79 : decode b_BN_look 79 = .ok (.iload_n 3, 1) := by decide +kernel
theorem d_BN_look_80 : decode b_BN_look 80 = .ok (.invokevirtual 91, 3) := by decide +kernel
theorem d_BN_look_83 : decode b_BN_look 83 = .ok (.ifCond .ne 5, 3) := by decide +kernel
theorem d_BN_look_86 : decode b_BN_look 86 = .ok (.iconst (-1), 1) := by decide +kernel
theorem d_BN_look_87 : decode b_BN_look 87 = .ok (.ireturn, 1) := by decide +kernel
theorem d_BN_look_88 : decode b_BN_look 88 = .ok (.aload_n 0, 1) := by decide +kernel
theorem d_BN_look_89 : decode b_BN_look 89 = .ok (.aload_n 0, 1) := by decide +kernel
theorem d_BN_look_90 : decode b_BN_look 90 = .ok (.getfield 11, 3) := by decide +kernel
theorem d_BN_look_93 : decode b_BN_look 93 = .ok (.iload_n 1, 1) := by decide +kernel
theorem d_BN_look_94 : decode b_BN_look 94 = .ok (.aaload, 1) := by decide +kernel
theorem d_BN_look_95 : decode b_BN_look 95 = .ok (.getfield 82, 3) := by decide +kernel
theorem d_BN_look_98 : decode b_BN_look 98 = .ok (.iload_n 3, 1) := by decide +kernel
theorem d_BN_look_99 : decode b_BN_look 99 = .ok (.aaload, 1) := by decide +kernel
theorem d_BN_look_100 : decode b_BN_look 100 = .ok (.iload 4, 2) := by decide +kernel
theorem d_BN_look_102 : decode b_BN_look 102 = .ok (.invokevirtual 354, 3) := by decide +kernel
theorem d_BN_look_105 : decode b_BN_look 105 = .ok (.ireturn, 1) := by decide +kernel
theorem d_BN_deviceFact_0 : decode b_BN_deviceFact 0 = .ok (.iload_n 2, 1) := by decide +kernel
theorem d_BN_deviceFact_1 : decode b_BN_deviceFact 1 = .ok (.tableswitch 143 0 8 #[51, 56, 61, 66, 71, 76, 93, 115, 127], 51) := by decide +kernel
theorem d_BN_deviceFact_52 : decode b_BN_deviceFact 52 = .ok (.aload_n 1, 1) := by decide +kernel
theorem d_BN_deviceFact_53 : decode b_BN_deviceFact 53 = .ok (.getfield 55, 3) := by decide +kernel
theorem d_BN_deviceFact_56 : decode b_BN_deviceFact 56 = .ok (.ireturn, 1) := by decide +kernel
theorem d_BN_deviceFact_57 : decode b_BN_deviceFact 57 = .ok (.aload_n 1, 1) := by decide +kernel
theorem d_BN_deviceFact_58 : decode b_BN_deviceFact 58 = .ok (.getfield 120, 3) := by decide +kernel
theorem d_BN_deviceFact_61 : decode b_BN_deviceFact 61 = .ok (.ireturn, 1) := by decide +kernel
theorem d_BN_deviceFact_62 : decode b_BN_deviceFact 62 = .ok (.aload_n 1, 1) := by decide +kernel
theorem d_BN_deviceFact_63 : decode b_BN_deviceFact 63 = .ok (.getfield 214, 3) := by decide +kernel
theorem d_BN_deviceFact_66 : decode b_BN_deviceFact 66 = .ok (.ireturn, 1) := by decide +kernel
theorem d_BN_deviceFact_67 : decode b_BN_deviceFact 67 = .ok (.aload_n 1, 1) := by decide +kernel
theorem d_BN_deviceFact_68 : decode b_BN_deviceFact 68 = .ok (.getfield 76, 3) := by decide +kernel
theorem d_BN_deviceFact_71 : decode b_BN_deviceFact 71 = .ok (.ireturn, 1) := by decide +kernel
theorem d_BN_deviceFact_72 : decode b_BN_deviceFact 72 = .ok (.aload_n 1, 1) := by decide +kernel
theorem d_BN_deviceFact_73 : decode b_BN_deviceFact 73 = .ok (.getfield 123, 3) := by decide +kernel
theorem d_BN_deviceFact_76 : decode b_BN_deviceFact 76 = .ok (.ireturn, 1) := by decide +kernel
theorem d_BN_deviceFact_77 : decode b_BN_deviceFact 77 = .ok (.aload_n 1, 1) := by decide +kernel
theorem d_BN_deviceFact_78 : decode b_BN_deviceFact 78 = .ok (.aload_n 0, 1) := by decide +kernel
theorem d_BN_deviceFact_79 : decode b_BN_deviceFact 79 = .ok (.getfield 138, 3) := by decide +kernel
theorem d_BN_deviceFact_82 : decode b_BN_deviceFact 82 = .ok (.invokevirtual 358, 3) := by decide +kernel
theorem d_BN_deviceFact_85 : decode b_BN_deviceFact 85 = .ok (.ifCond .eq 7, 3) := by decide +kernel
theorem d_BN_deviceFact_88 : decode b_BN_deviceFact 88 = .ok (.iconst 1, 1) := by decide +kernel
theorem d_BN_deviceFact_89 : decode b_BN_deviceFact 89 = .ok (.goto 4, 3) := by decide +kernel
theorem d_BN_deviceFact_92 : decode b_BN_deviceFact 92 = .ok (.iconst 0, 1) := by decide +kernel
theorem d_BN_deviceFact_93 : decode b_BN_deviceFact 93 = .ok (.ireturn, 1) := by decide +kernel
theorem d_BN_deviceFact_94 : decode b_BN_deviceFact 94 = .ok (.aload_n 1, 1) := by decide +kernel
theorem d_BN_deviceFact_95 : decode b_BN_deviceFact 95 = .ok (.getfield 110, 3) := by decide +kernel
theorem d_BN_deviceFact_98 : decode b_BN_deviceFact 98 = .ok (.getfield 361, 3) := by decide +kernel
theorem d_BN_deviceFact_101 : decode b_BN_deviceFact 101 = .ok (.ifCond .eq 13, 3) := by decide +kernel
theorem d_BN_deviceFact_104 : decode b_BN_deviceFact 104 = .ok (.aload_n 1, 1) := by decide +kernel
theorem d_BN_deviceFact_105 : decode b_BN_deviceFact 105 = .ok (.getfield 110, 3) := by decide +kernel
theorem d_BN_deviceFact_108 : decode b_BN_deviceFact 108 = .ok (.getfield 286, 3) := by decide +kernel
theorem d_BN_deviceFact_111 : decode b_BN_deviceFact 111 = .ok (.goto 4, 3) := by decide +kernel
theorem d_BN_deviceFact_114 : decode b_BN_deviceFact 114 = .ok (.iconst (-1), 1) := by decide +kernel
theorem d_BN_deviceFact_115 : decode b_BN_deviceFact 115 = .ok (.ireturn, 1) := by decide +kernel
theorem d_BN_deviceFact_116 : decode b_BN_deviceFact 116 = .ok (.aload_n 1, 1) := by decide +kernel
theorem d_BN_deviceFact_117 : decode b_BN_deviceFact 117 = .ok (.getfield 110, 3) := by decide +kernel
theorem d_BN_deviceFact_120 : decode b_BN_deviceFact 120 = .ok (.aload_n 0, 1) := by decide +kernel
theorem d_BN_deviceFact_121 : decode b_BN_deviceFact 121 = .ok (.getfield 138, 3) := by decide +kernel
theorem d_BN_deviceFact_124 : decode b_BN_deviceFact 124 = .ok (.invokevirtual 287, 3) := by decide +kernel
theorem d_BN_deviceFact_127 : decode b_BN_deviceFact 127 = .ok (.ireturn, 1) := by decide +kernel
theorem d_BN_deviceFact_128 : decode b_BN_deviceFact 128 = .ok (.aload_n 1, 1) := by decide +kernel
theorem d_BN_deviceFact_129 : decode b_BN_deviceFact 129 = .ok (.getfield 110, 3) := by decide +kernel
theorem d_BN_deviceFact_132 : decode b_BN_deviceFact 132 = .ok (.getfield 293, 3) := by decide +kernel
theorem d_BN_deviceFact_135 : decode b_BN_deviceFact 135 = .ok (.ifCond .eq 7, 3) := by decide +kernel
theorem d_BN_deviceFact_138 : decode b_BN_deviceFact 138 = .ok (.iconst 1, 1) := by decide +kernel
theorem d_BN_deviceFact_139 : decode b_BN_deviceFact 139 = .ok (.goto 4, 3) := by decide +kernel
theorem d_BN_deviceFact_142 : decode b_BN_deviceFact 142 = .ok (.iconst 0, 1) := by decide +kernel
theorem d_BN_deviceFact_143 : decode b_BN_deviceFact 143 = .ok (.ireturn, 1) := by decide +kernel
theorem d_BN_deviceFact_144 : decode b_BN_deviceFact 144 = .ok (.aload_n 1, 1) := by decide +kernel
theorem d_BN_deviceFact_145 : decode b_BN_deviceFact 145 = .ok (.getfield 110, 3) := by decide +kernel
theorem d_BN_deviceFact_148 : decode b_BN_deviceFact 148 = .ok (.getfield 361, 3) := by decide +kernel
theorem d_BN_deviceFact_151 : decode b_BN_deviceFact 151 = .ok (.ifCond .eq 7, 3) := by decide +kernel
theorem d_BN_deviceFact_154 : decode b_BN_deviceFact 154 = .ok (.iconst 1, 1) := by decide +kernel
theorem d_BN_deviceFact_155 : decode b_BN_deviceFact 155 = .ok (.goto 4, 3) := by decide +kernel
theorem d_BN_deviceFact_158 : decode b_BN_deviceFact 158 = .ok (.iconst 0, 1) := by decide +kernel
theorem d_BN_deviceFact_159 : decode b_BN_deviceFact 159 = .ok (.ireturn, 1) := by decide +kernel
theorem d_BN_channelFact_0 : decode b_BN_channelFact 0 = .ok (.iload_n 2, 1) := by decide +kernel
theorem d_BN_channelFact_1 : decode b_BN_channelFact 1 = .ok (.tableswitch 80 0 3 #[31, 39, 51, 64], 31) := by decide +kernel
theorem d_BN_channelFact_32 : decode b_BN_channelFact 32 = .ok (.aload_n 1, 1) := by decide +kernel
theorem d_BN_channelFact_33 : decode b_BN_channelFact 33 = .ok (.getfield 100, 3) := by decide +kernel
theorem d_BN_channelFact_36 : decode b_BN_channelFact 36 = .ok (.invokevirtual 362, 3) := by decide +kernel
theorem d_BN_channelFact_39 : decode b_BN_channelFact 39 = .ok (.ireturn, 1) := by decide +kernel
theorem d_BN_channelFact_40 : decode b_BN_channelFact 40 = .ok (.aload_n 1, 1) := by decide +kernel
theorem d_BN_channelFact_41 : decode b_BN_channelFact 41 = .ok (.getfield 100, 3) := by decide +kernel
theorem d_BN_channelFact_44 : decode b_BN_channelFact 44 = .ok (.aload_n 0, 1) := by decide +kernel
theorem d_BN_channelFact_45 : decode b_BN_channelFact 45 = .ok (.getfield 138, 3) := by decide +kernel
theorem d_BN_channelFact_48 : decode b_BN_channelFact 48 = .ok (.invokevirtual 366, 3) := by decide +kernel
theorem d_BN_channelFact_51 : decode b_BN_channelFact 51 = .ok (.ireturn, 1) := by decide +kernel
theorem d_BN_channelFact_52 : decode b_BN_channelFact 52 = .ok (.aload_n 1, 1) := by decide +kernel
theorem d_BN_channelFact_53 : decode b_BN_channelFact 53 = .ok (.getfield 369, 3) := by decide +kernel
theorem d_BN_channelFact_56 : decode b_BN_channelFact 56 = .ok (.ifCond .eq 7, 3) := by decide +kernel
theorem d_BN_channelFact_59 : decode b_BN_channelFact 59 = .ok (.iconst 1, 1) := by decide +kernel
theorem d_BN_channelFact_60 : decode b_BN_channelFact 60 = .ok (.goto 4, 3) := by decide +kernel
theorem d_BN_channelFact_63 : decode b_BN_channelFact 63 = .ok (.iconst 0, 1) := by decide +kernel
theorem d_BN_channelFact_64 : decode b_BN_channelFact 64 = .ok (.ireturn, 1) := by decide +kernel
theorem d_BN_channelFact_65 : decode b_BN_channelFact 65 = .ok (.aload_n 1, 1) := by decide +kernel
theorem d_BN_channelFact_66 : decode b_BN_channelFact 66 = .ok (.getfield 369, 3) := by decide +kernel
theorem d_BN_channelFact_69 : decode b_BN_channelFact 69 = .ok (.ifCond .eq 10, 3) := by decide +kernel
theorem d_BN_channelFact_72 : decode b_BN_channelFact 72 = .ok (.aload_n 1, 1) := by decide +kernel
theorem d_BN_channelFact_73 : decode b_BN_channelFact 73 = .ok (.getfield 220, 3) := by decide +kernel
theorem d_BN_channelFact_76 : decode b_BN_channelFact 76 = .ok (.goto 4, 3) := by decide +kernel
theorem d_BN_channelFact_79 : decode b_BN_channelFact 79 = .ok (.iconst (-1), 1) := by decide +kernel
theorem d_BN_channelFact_80 : decode b_BN_channelFact 80 = .ok (.ireturn, 1) := by decide +kernel
theorem d_BN_channelFact_81 : decode b_BN_channelFact 81 = .ok (.aload_n 1, 1) := by decide +kernel
theorem d_BN_channelFact_82 : decode b_BN_channelFact 82 = .ok (.getfield 254, 3) := by decide +kernel
theorem d_BN_channelFact_85 : decode b_BN_channelFact 85 = .ok (.invokevirtual 372, 3) := by decide +kernel
theorem d_BN_channelFact_88 : decode b_BN_channelFact 88 = .ok (.ireturn, 1) := by decide +kernel
theorem d_BN_count_0 : decode b_BN_count 0 = .ok (.iload_n 1, 1) := by decide +kernel
theorem d_BN_count_1 : decode b_BN_count 1 = .ok (.sipush 300, 3) := by decide +kernel
theorem d_BN_count_4 : decode b_BN_count 4 = .ok (.if_icmp .lt 29, 3) := by decide +kernel
theorem d_BN_count_7 : decode b_BN_count 7 = .ok (.iload_n 1, 1) := by decide +kernel
theorem d_BN_count_8 : decode b_BN_count 8 = .ok (.sipush 300, 3) := by decide +kernel
theorem d_BN_count_11 : decode b_BN_count 11 = .ok (.isub, 1) := by decide +kernel
theorem d_BN_count_12 : decode b_BN_count 12 = .ok (.invokestatic 52, 3) := by decide +kernel
theorem d_BN_count_15 : decode b_BN_count 15 = .ok (.ifCond .eq 16, 3) := by decide +kernel
theorem d_BN_count_18 : decode b_BN_count 18 = .ok (.aload_n 0, 1) := by decide +kernel
theorem d_BN_count_19 : decode b_BN_count 19 = .ok (.getfield 15, 3) := by decide +kernel
theorem d_BN_count_22 : decode b_BN_count 22 = .ok (.iload_n 1, 1) := by decide +kernel
theorem d_BN_count_23 : decode b_BN_count 23 = .ok (.sipush 300, 3) := by decide +kernel
theorem d_BN_count_26 : decode b_BN_count 26 = .ok (.isub, 1) := by decide +kernel
theorem d_BN_count_27 : decode b_BN_count 27 = .ok (.iaload, 1) := by decide +kernel
theorem d_BN_count_28 : decode b_BN_count 28 = .ok (.goto 4, 3) := by decide +kernel
theorem d_BN_count_31 : decode b_BN_count 31 = .ok (.iconst (-1), 1) := by decide +kernel
theorem d_BN_count_32 : decode b_BN_count 32 = .ok (.ireturn, 1) := by decide +kernel
theorem d_BN_count_33 : decode b_BN_count 33 = .ok (.iload_n 1, 1) := by decide +kernel
theorem d_BN_count_34 : decode b_BN_count 34 = .ok (.sipush 200, 3) := by decide +kernel
theorem d_BN_count_37 : decode b_BN_count 37 = .ok (.if_icmp .lt 39, 3) := by decide +kernel
theorem d_BN_count_40 : decode b_BN_count 40 = .ok (.iload_n 1, 1) := by decide +kernel
theorem d_BN_count_41 : decode b_BN_count 41 = .ok (.sipush 200, 3) := by decide +kernel
theorem d_BN_count_44 : decode b_BN_count 44 = .ok (.isub, 1) := by decide +kernel
theorem d_BN_count_45 : decode b_BN_count 45 = .ok (.aload_n 0, 1) := by decide +kernel
theorem d_BN_count_46 : decode b_BN_count 46 = .ok (.getfield 34, 3) := by decide +kernel
theorem d_BN_count_49 : decode b_BN_count 49 = .ok (.getfield 373, 3) := by decide +kernel
theorem d_BN_count_52 : decode b_BN_count 52 = .ok (.if_icmp .ge 22, 3) := by decide +kernel
theorem d_BN_count_55 : decode b_BN_count 55 = .ok (.aload_n 0, 1) := by decide +kernel
theorem d_BN_count_56 : decode b_BN_count 56 = .ok (.getfield 34, 3) := by decide +kernel
theorem d_BN_count_59 : decode b_BN_count 59 = .ok (.getfield 191, 3) := by decide +kernel
theorem d_BN_count_62 : decode b_BN_count 62 = .ok (.iload_n 1, 1) := by decide +kernel
theorem d_BN_count_63 : decode b_BN_count 63 = .ok (.sipush 200, 3) := by decide +kernel
theorem d_BN_count_66 : decode b_BN_count 66 = .ok (.isub, 1) := by decide +kernel
theorem d_BN_count_67 : decode b_BN_count 67 = .ok (.aaload, 1) := by decide +kernel
theorem d_BN_count_68 : decode b_BN_count 68 = .ok (.getfield 267, 3) := by decide +kernel
theorem d_BN_count_71 : decode b_BN_count 71 = .ok (.goto 4, 3) := by decide +kernel
theorem d_BN_count_74 : decode b_BN_count 74 = .ok (.iconst (-1), 1) := by decide +kernel
theorem d_BN_count_75 : decode b_BN_count 75 = .ok (.ireturn, 1) := by decide +kernel
theorem d_BN_count_76 : decode b_BN_count 76 = .ok (.iload_n 1, 1) := by decide +kernel
theorem d_BN_count_77 : decode b_BN_count 77 = .ok (.bipush 100, 2) := by decide +kernel
theorem d_BN_count_79 : decode b_BN_count 79 = .ok (.if_icmp .lt 31, 3) := by decide +kernel
theorem d_BN_count_82 : decode b_BN_count 82 = .ok (.iload_n 1, 1) := by decide +kernel
theorem d_BN_count_83 : decode b_BN_count 83 = .ok (.bipush 100, 2) := by decide +kernel
theorem d_BN_count_85 : decode b_BN_count 85 = .ok (.isub, 1) := by decide +kernel
theorem d_BN_count_86 : decode b_BN_count 86 = .ok (.aload_n 0, 1) := by decide +kernel
theorem d_BN_count_87 : decode b_BN_count 87 = .ok (.getfield 341, 3) := by decide +kernel
theorem d_BN_count_90 : decode b_BN_count 90 = .ok (.if_icmp .ge 18, 3) := by decide +kernel
theorem d_BN_count_93 : decode b_BN_count 93 = .ok (.aload_n 0, 1) := by decide +kernel
theorem d_BN_count_94 : decode b_BN_count 94 = .ok (.getfield 27, 3) := by decide +kernel
theorem d_BN_count_97 : decode b_BN_count 97 = .ok (.iload_n 1, 1) := by decide +kernel
theorem d_BN_count_98 : decode b_BN_count 98 = .ok (.bipush 100, 2) := by decide +kernel
theorem d_BN_count_100 : decode b_BN_count 100 = .ok (.isub, 1) := by decide +kernel
theorem d_BN_count_101 : decode b_BN_count 101 = .ok (.aaload, 1) := by decide +kernel
theorem d_BN_count_102 : decode b_BN_count 102 = .ok (.getfield 240, 3) := by decide +kernel
theorem d_BN_count_105 : decode b_BN_count 105 = .ok (.goto 4, 3) := by decide +kernel
theorem d_BN_count_108 : decode b_BN_count 108 = .ok (.iconst (-1), 1) := by decide +kernel
theorem d_BN_count_109 : decode b_BN_count 109 = .ok (.ireturn, 1) := by decide +kernel
theorem d_BN_count_110 : decode b_BN_count 110 = .ok (.iload_n 1, 1) := by decide +kernel
theorem d_BN_count_111 : decode b_BN_count 111 = .ok (.tableswitch 93 0 6 #[41, 46, 54, 62, 70, 75, 80], 41) := by decide +kernel
theorem d_BN_count_152 : decode b_BN_count 152 = .ok (.aload_n 0, 1) := by decide +kernel
theorem d_BN_count_153 : decode b_BN_count 153 = .ok (.getfield 138, 3) := by decide +kernel
theorem d_BN_count_156 : decode b_BN_count 156 = .ok (.ireturn, 1) := by decide +kernel
theorem d_BN_count_157 : decode b_BN_count 157 = .ok (.aload_n 0, 1) := by decide +kernel
theorem d_BN_count_158 : decode b_BN_count 158 = .ok (.getfield 34, 3) := by decide +kernel
theorem d_BN_count_161 : decode b_BN_count 161 = .ok (.getfield 152, 3) := by decide +kernel
theorem d_BN_count_164 : decode b_BN_count 164 = .ok (.ireturn, 1) := by decide +kernel
theorem d_BN_count_165 : decode b_BN_count 165 = .ok (.aload_n 0, 1) := by decide +kernel
theorem d_BN_count_166 : decode b_BN_count 166 = .ok (.getfield 34, 3) := by decide +kernel
theorem d_BN_count_169 : decode b_BN_count 169 = .ok (.getfield 373, 3) := by decide +kernel
theorem d_BN_count_172 : decode b_BN_count 172 = .ok (.ireturn, 1) := by decide +kernel
theorem d_BN_count_173 : decode b_BN_count 173 = .ok (.aload_n 0, 1) := by decide +kernel
theorem d_BN_count_174 : decode b_BN_count 174 = .ok (.getfield 34, 3) := by decide +kernel
theorem d_BN_count_177 : decode b_BN_count 177 = .ok (.getfield 376, 3) := by decide +kernel
theorem d_BN_count_180 : decode b_BN_count 180 = .ok (.ireturn, 1) := by decide +kernel
theorem d_BN_count_181 : decode b_BN_count 181 = .ok (.aload_n 0, 1) := by decide +kernel
theorem d_BN_count_182 : decode b_BN_count 182 = .ok (.getfield 247, 3) := by decide +kernel
theorem d_BN_count_185 : decode b_BN_count 185 = .ok (.ireturn, 1) := by decide +kernel
theorem d_BN_count_186 : decode b_BN_count 186 = .ok (.aload_n 0, 1) := by decide +kernel
theorem d_BN_count_187 : decode b_BN_count 187 = .ok (.getfield 341, 3) := by decide +kernel
theorem d_BN_count_190 : decode b_BN_count 190 = .ok (.ireturn, 1) := by decide +kernel
theorem d_BN_count_191 : decode b_BN_count 191 = .ok (.aload_n 0, 1) := by decide +kernel
theorem d_BN_count_192 : decode b_BN_count 192 = .ok (.invokevirtual 379, 3) := by decide +kernel
theorem d_BN_count_195 : decode b_BN_count 195 = .ok (.ifCond .eq 7, 3) := by decide +kernel
theorem d_BN_count_198 : decode b_BN_count 198 = .ok (.iconst 1, 1) := by decide +kernel
theorem d_BN_count_199 : decode b_BN_count 199 = .ok (.goto 4, 3) := by decide +kernel
theorem d_BN_count_202 : decode b_BN_count 202 = .ok (.iconst 0, 1) := by decide +kernel
theorem d_BN_count_203 : decode b_BN_count 203 = .ok (.ireturn, 1) := by decide +kernel
theorem d_BN_count_204 : decode b_BN_count 204 = .ok (.iconst (-1), 1) := by decide +kernel
theorem d_BN_count_205 : decode b_BN_count 205 = .ok (.ireturn, 1) := by decide +kernel
theorem d_BN_stationSounds_0 : decode b_BN_stationSounds 0 = .ok (.iconst 0, 1) := by decide +kernel
theorem d_BN_stationSounds_1 : decode b_BN_stationSounds 1 = .ok (.istore_n 1, 1) := by decide +kernel
theorem d_BN_stationSounds_2 : decode b_BN_stationSounds 2 = .ok (.iload_n 1, 1) := by decide +kernel
theorem d_BN_stationSounds_3 : decode b_BN_stationSounds 3 = .ok (.bipush 8, 2) := by decide +kernel
theorem d_BN_stationSounds_5 : decode b_BN_stationSounds 5 = .ok (.if_icmp .ge 23, 3) := by decide +kernel
theorem d_BN_stationSounds_8 : decode b_BN_stationSounds 8 = .ok (.aload_n 0, 1) := by decide +kernel
theorem d_BN_stationSounds_9 : decode b_BN_stationSounds 9 = .ok (.getfield 11, 3) := by decide +kernel
theorem d_BN_stationSounds_12 : decode b_BN_stationSounds 12 = .ok (.iload_n 1, 1) := by decide +kernel
theorem d_BN_stationSounds_13 : decode b_BN_stationSounds 13 = .ok (.aaload, 1) := by decide +kernel
theorem d_BN_stationSounds_14 : decode b_BN_stationSounds 14 = .ok (.invokevirtual 177, 3) := by decide +kernel
theorem d_BN_stationSounds_17 : decode b_BN_stationSounds 17 = .ok (.ifCond .eq 5, 3) := by decide +kernel
theorem d_BN_stationSounds_20 : decode b_BN_stationSounds 20 = .ok (.iconst 1, 1) := by decide +kernel
theorem d_BN_stationSounds_21 : decode b_BN_stationSounds 21 = .ok (.ireturn, 1) := by decide +kernel
theorem d_BN_stationSounds_22 : decode b_BN_stationSounds 22 = .ok (.iinc 1 1, 3) := by decide +kernel
theorem d_BN_stationSounds_25 : decode b_BN_stationSounds 25 = .ok (.goto (-23), 3) := by decide +kernel
theorem d_BN_stationSounds_28 : decode b_BN_stationSounds 28 = .ok (.iconst 0, 1) := by decide +kernel
theorem d_BN_stationSounds_29 : decode b_BN_stationSounds 29 = .ok (.ireturn, 1) := by decide +kernel
theorem d_BN_isDevice_0 : decode b_BN_isDevice 0 = .ok (.iload_n 0, 1) := by decide +kernel
theorem d_BN_isDevice_1 : decode b_BN_isDevice 1 = .ok (.ifCond .lt 13, 3) := by decide +kernel
theorem d_BN_isDevice_4 : decode b_BN_isDevice 4 = .ok (.iload_n 0, 1) := by decide +kernel
theorem d_BN_isDevice_5 : decode b_BN_isDevice 5 = .ok (.bipush 8, 2) := by decide +kernel
theorem d_BN_isDevice_7 : decode b_BN_isDevice 7 = .ok (.if_icmp .ge 7, 3) := by decide +kernel
theorem d_BN_isDevice_10 : decode b_BN_isDevice 10 = .ok (.iconst 1, 1) := by decide +kernel
theorem d_BN_isDevice_11 : decode b_BN_isDevice 11 = .ok (.goto 4, 3) := by decide +kernel
theorem d_BN_isDevice_14 : decode b_BN_isDevice 14 = .ok (.iconst 0, 1) := by decide +kernel
theorem d_BN_isDevice_15 : decode b_BN_isDevice 15 = .ok (.ireturn, 1) := by decide +kernel
theorem d_BN_isBed_0 : decode b_BN_isBed 0 = .ok (.iload_n 0, 1) := by decide +kernel
theorem d_BN_isBed_1 : decode b_BN_isBed 1 = .ok (.ifCond .lt 12, 3) := by decide +kernel
theorem d_BN_isBed_4 : decode b_BN_isBed 4 = .ok (.iload_n 0, 1) := by decide +kernel
theorem d_BN_isBed_5 : decode b_BN_isBed 5 = .ok (.iconst 4, 1) := by decide +kernel
theorem d_BN_isBed_6 : decode b_BN_isBed 6 = .ok (.if_icmp .ge 7, 3) := by decide +kernel
theorem d_BN_isBed_9 : decode b_BN_isBed 9 = .ok (.iconst 1, 1) := by decide +kernel
theorem d_BN_isBed_10 : decode b_BN_isBed 10 = .ok (.goto 4, 3) := by decide +kernel
theorem d_BN_isBed_13 : decode b_BN_isBed 13 = .ok (.iconst 0, 1) := by decide +kernel
theorem d_BN_isBed_14 : decode b_BN_isBed 14 = .ok (.ireturn, 1) := by decide +kernel
theorem d_BN_isUnit_0 : decode b_BN_isUnit 0 = .ok (.iload_n 0, 1) := by decide +kernel
theorem d_BN_isUnit_1 : decode b_BN_isUnit 1 = .ok (.ifCond .lt 13, 3) := by decide +kernel
theorem d_BN_isUnit_4 : decode b_BN_isUnit 4 = .ok (.iload_n 0, 1) := by decide +kernel
theorem d_BN_isUnit_5 : decode b_BN_isUnit 5 = .ok (.bipush 16, 2) := by decide +kernel
theorem d_BN_isUnit_7 : decode b_BN_isUnit 7 = .ok (.if_icmp .ge 7, 3) := by decide +kernel
theorem d_BN_isUnit_10 : decode b_BN_isUnit 10 = .ok (.iconst 1, 1) := by decide +kernel
theorem d_BN_isUnit_11 : decode b_BN_isUnit 11 = .ok (.goto 4, 3) := by decide +kernel
theorem d_BN_isUnit_14 : decode b_BN_isUnit 14 = .ok (.iconst 0, 1) := by decide +kernel
theorem d_BN_isUnit_15 : decode b_BN_isUnit 15 = .ok (.ireturn, 1) := by decide +kernel
theorem d_BN_isController_0 : decode b_BN_isController 0 = .ok (.iload_n 0, 1) := by decide +kernel
theorem d_BN_isController_1 : decode b_BN_isController 1 = .ok (.ifCond .lt 12, 3) := by decide +kernel
theorem d_BN_isController_4 : decode b_BN_isController 4 = .ok (.iload_n 0, 1) := by decide +kernel
theorem d_BN_isController_5 : decode b_BN_isController 5 = .ok (.iconst 4, 1) := by decide +kernel
theorem d_BN_isController_6 : decode b_BN_isController 6 = .ok (.if_icmp .ge 7, 3) := by decide +kernel
theorem d_BN_isController_9 : decode b_BN_isController 9 = .ok (.iconst 1, 1) := by decide +kernel
theorem d_BN_isController_10 : decode b_BN_isController 10 = .ok (.goto 4, 3) := by decide +kernel
theorem d_BN_isController_13 : decode b_BN_isController 13 = .ok (.iconst 0, 1) := by decide +kernel
theorem d_BN_isController_14 : decode b_BN_isController 14 = .ok (.ireturn, 1) := by decide +kernel
theorem d_BN_isNumber_0 : decode b_BN_isNumber 0 = .ok (.iload_n 0, 1) := by decide +kernel
theorem d_BN_isNumber_1 : decode b_BN_isNumber 1 = .ok (.ldc_w 382, 3) := by decide +kernel
theorem d_BN_isNumber_4 : decode b_BN_isNumber 4 = .ok (.if_icmp .lt 14, 3) := by decide +kernel
theorem d_BN_isNumber_7 : decode b_BN_isNumber 7 = .ok (.iload_n 0, 1) := by decide +kernel
theorem d_BN_isNumber_8 : decode b_BN_isNumber 8 = .ok (.ldc_w 383, 3) := by decide +kernel
theorem d_BN_isNumber_11 : decode b_BN_isNumber 11 = .ok (.if_icmp .gt 7, 3) := by decide +kernel
theorem d_BN_isNumber_14 : decode b_BN_isNumber 14 = .ok (.iconst 1, 1) := by decide +kernel
theorem d_BN_isNumber_15 : decode b_BN_isNumber 15 = .ok (.goto 4, 3) := by decide +kernel
theorem d_BN_isNumber_18 : decode b_BN_isNumber 18 = .ok (.iconst 0, 1) := by decide +kernel
theorem d_BN_isNumber_19 : decode b_BN_isNumber 19 = .ok (.ireturn, 1) := by decide +kernel
theorem d_BN_isSpan_0 : decode b_BN_isSpan 0 = .ok (.iload_n 0, 1) := by decide +kernel
theorem d_BN_isSpan_1 : decode b_BN_isSpan 1 = .ok (.ifCond .lt 14, 3) := by decide +kernel
theorem d_BN_isSpan_4 : decode b_BN_isSpan 4 = .ok (.iload_n 0, 1) := by decide +kernel
theorem d_BN_isSpan_5 : decode b_BN_isSpan 5 = .ok (.ldc_w 383, 3) := by decide +kernel
theorem d_BN_isSpan_8 : decode b_BN_isSpan 8 = .ok (.if_icmp .gt 7, 3) := by decide +kernel
theorem d_BN_isSpan_11 : decode b_BN_isSpan 11 = .ok (.iconst 1, 1) := by decide +kernel
theorem d_BN_isSpan_12 : decode b_BN_isSpan 12 = .ok (.goto 4, 3) := by decide +kernel
theorem d_BN_isSpan_15 : decode b_BN_isSpan 15 = .ok (.iconst 0, 1) := by decide +kernel
theorem d_BN_isSpan_16 : decode b_BN_isSpan 16 = .ok (.ireturn, 1) := by decide +kernel
theorem d_BN_isRange_0 : decode b_BN_isRange 0 = .ok (.iload_n 0, 1) := by decide +kernel
theorem d_BN_isRange_1 : decode b_BN_isRange 1 = .ok (.invokestatic 94, 3) := by decide +kernel
theorem d_BN_isRange_4 : decode b_BN_isRange 4 = .ok (.ifCond .eq 31, 3) := by decide +kernel
theorem d_BN_isRange_7 : decode b_BN_isRange 7 = .ok (.iload_n 1, 1) := by decide +kernel
theorem d_BN_isRange_8 : decode b_BN_isRange 8 = .ok (.invokestatic 94, 3) := by decide +kernel
theorem d_BN_isRange_11 : decode b_BN_isRange 11 = .ok (.ifCond .eq 24, 3) := by decide +kernel
theorem d_BN_isRange_14 : decode b_BN_isRange 14 = .ok (.iload_n 0, 1) := by decide +kernel
theorem d_BN_isRange_15 : decode b_BN_isRange 15 = .ok (.iload_n 1, 1) := by decide +kernel
theorem d_BN_isRange_16 : decode b_BN_isRange 16 = .ok (.if_icmp .gt 19, 3) := by decide +kernel
theorem d_BN_isRange_19 : decode b_BN_isRange 19 = .ok (.iload_n 2, 1) := by decide +kernel
theorem d_BN_isRange_20 : decode b_BN_isRange 20 = .ok (.iconst 1, 1) := by decide +kernel
theorem d_BN_isRange_21 : decode b_BN_isRange 21 = .ok (.if_icmp .lt 14, 3) := by decide +kernel
theorem d_BN_isRange_24 : decode b_BN_isRange 24 = .ok (.iload_n 2, 1) := by decide +kernel
theorem d_BN_isRange_25 : decode b_BN_isRange 25 = .ok (.ldc_w 383, 3) := by decide +kernel
theorem d_BN_isRange_28 : decode b_BN_isRange 28 = .ok (.if_icmp .gt 7, 3) := by decide +kernel
theorem d_BN_isRange_31 : decode b_BN_isRange 31 = .ok (.iconst 1, 1) := by decide +kernel
theorem d_BN_isRange_32 : decode b_BN_isRange 32 = .ok (.goto 4, 3) := by decide +kernel
theorem d_BN_isRange_35 : decode b_BN_isRange 35 = .ok (.iconst 0, 1) := by decide +kernel
theorem d_BN_isRange_36 : decode b_BN_isRange 36 = .ok (.ireturn, 1) := by decide +kernel
theorem d_BN_isOpen_0 : decode b_BN_isOpen 0 = .ok (.iload_n 1, 1) := by decide +kernel
theorem d_BN_isOpen_1 : decode b_BN_isOpen 1 = .ok (.invokestatic 48, 3) := by decide +kernel
theorem d_BN_isOpen_4 : decode b_BN_isOpen 4 = .ok (.ifCond .eq 20, 3) := by decide +kernel
theorem d_BN_isOpen_7 : decode b_BN_isOpen 7 = .ok (.aload_n 0, 1) := by decide +kernel
theorem d_BN_isOpen_8 : decode b_BN_isOpen 8 = .ok (.getfield 11, 3) := by decide +kernel
theorem d_BN_isOpen_11 : decode b_BN_isOpen 11 = .ok (.iload_n 1, 1) := by decide +kernel
theorem d_BN_isOpen_12 : decode b_BN_isOpen 12 = .ok (.aaload, 1) := by decide +kernel
theorem d_BN_isOpen_13 : decode b_BN_isOpen 13 = .ok (.getfield 55, 3) := by decide +kernel
theorem d_BN_isOpen_16 : decode b_BN_isOpen 16 = .ok (.iconst 1, 1) := by decide +kernel
theorem d_BN_isOpen_17 : decode b_BN_isOpen 17 = .ok (.if_icmp .ne 7, 3) := by decide +kernel
theorem d_BN_isOpen_20 : decode b_BN_isOpen 20 = .ok (.iconst 1, 1) := by decide +kernel
theorem d_BN_isOpen_21 : decode b_BN_isOpen 21 = .ok (.goto 4, 3) := by decide +kernel
theorem d_BN_isOpen_24 : decode b_BN_isOpen 24 = .ok (.iconst 0, 1) := by decide +kernel
theorem d_BN_isOpen_25 : decode b_BN_isOpen 25 = .ok (.ireturn, 1) := by decide +kernel
theorem d_BN_isSealed_0 : decode b_BN_isSealed 0 = .ok (.iload_n 1, 1) := by decide +kernel
theorem d_BN_isSealed_1 : decode b_BN_isSealed 1 = .ok (.invokestatic 48, 3) := by decide +kernel
theorem d_BN_isSealed_4 : decode b_BN_isSealed 4 = .ok (.ifCond .eq 20, 3) := by decide +kernel
theorem d_BN_isSealed_7 : decode b_BN_isSealed 7 = .ok (.aload_n 0, 1) := by decide +kernel
theorem d_BN_isSealed_8 : decode b_BN_isSealed 8 = .ok (.getfield 11, 3) := by decide +kernel
theorem d_BN_isSealed_11 : decode b_BN_isSealed 11 = .ok (.iload_n 1, 1) := by decide +kernel
theorem d_BN_isSealed_12 : decode b_BN_isSealed 12 = .ok (.aaload, 1) := by decide +kernel
theorem d_BN_isSealed_13 : decode b_BN_isSealed 13 = .ok (.getfield 55, 3) := by decide +kernel
theorem d_BN_isSealed_16 : decode b_BN_isSealed 16 = .ok (.iconst 2, 1) := by decide +kernel
theorem d_BN_isSealed_17 : decode b_BN_isSealed 17 = .ok (.if_icmp .ne 7, 3) := by decide +kernel
theorem d_BN_isSealed_20 : decode b_BN_isSealed 20 = .ok (.iconst 1, 1) := by decide +kernel
theorem d_BN_isSealed_21 : decode b_BN_isSealed 21 = .ok (.goto 4, 3) := by decide +kernel
theorem d_BN_isSealed_24 : decode b_BN_isSealed 24 = .ok (.iconst 0, 1) := by decide +kernel
theorem d_BN_isSealed_25 : decode b_BN_isSealed 25 = .ok (.ireturn, 1) := by decide +kernel
theorem d_BN_isSettable_0 : decode b_BN_isSettable 0 = .ok (.aload_n 0, 1) := by decide +kernel
theorem d_BN_isSettable_1 : decode b_BN_isSettable 1 = .ok (.iload_n 1, 1) := by decide +kernel
theorem d_BN_isSettable_2 : decode b_BN_isSettable 2 = .ok (.invokevirtual 117, 3) := by decide +kernel
theorem d_BN_isSettable_5 : decode b_BN_isSettable 5 = .ok (.ifCond .eq 22, 3) := by decide +kernel
theorem d_BN_isSettable_8 : decode b_BN_isSettable 8 = .ok (.aload_n 0, 1) := by decide +kernel
theorem d_BN_isSettable_9 : decode b_BN_isSettable 9 = .ok (.getfield 11, 3) := by decide +kernel
theorem d_BN_isSettable_12 : decode b_BN_isSettable 12 = .ok (.iload_n 1, 1) := by decide +kernel
theorem d_BN_isSettable_13 : decode b_BN_isSettable 13 = .ok (.aaload, 1) := by decide +kernel
theorem d_BN_isSettable_14 : decode b_BN_isSettable 14 = .ok (.getfield 110, 3) := by decide +kernel
theorem d_BN_isSettable_17 : decode b_BN_isSettable 17 = .ok (.getfield 361, 3) := by decide +kernel
theorem d_BN_isSettable_20 : decode b_BN_isSettable 20 = .ok (.ifCond .eq 7, 3) := by decide +kernel
theorem d_BN_isSettable_23 : decode b_BN_isSettable 23 = .ok (.iconst 1, 1) := by decide +kernel
theorem d_BN_isSettable_24 : decode b_BN_isSettable 24 = .ok (.goto 4, 3) := by decide +kernel
theorem d_BN_isSettable_27 : decode b_BN_isSettable 27 = .ok (.iconst 0, 1) := by decide +kernel
theorem d_BN_isSettable_28 : decode b_BN_isSettable 28 = .ok (.ireturn, 1) := by decide +kernel
theorem d_AL_init_0 : decode b_AL_init 0 = .ok (.aload_n 0, 1) := by decide +kernel
theorem d_AL_init_1 : decode b_AL_init 1 = .ok (.invokespecial 3, 3) := by decide +kernel
theorem d_AL_init_4 : decode b_AL_init 4 = .ok (.return_, 1) := by decide +kernel
theorem d_AL_describe_0 : decode b_AL_describe 0 = .ok (.aload_n 0, 1) := by decide +kernel
theorem d_AL_describe_1 : decode b_AL_describe 1 = .ok (.iconst 1, 1) := by decide +kernel
theorem d_AL_describe_2 : decode b_AL_describe 2 = .ok (.putfield 9, 3) := by decide +kernel
theorem d_AL_describe_5 : decode b_AL_describe 5 = .ok (.aload_n 0, 1) := by decide +kernel
theorem d_AL_describe_6 : decode b_AL_describe 6 = .ok (.iload_n 1, 1) := by decide +kernel
theorem d_AL_describe_7 : decode b_AL_describe 7 = .ok (.putfield 15, 3) := by decide +kernel
theorem d_AL_describe_10 : decode b_AL_describe 10 = .ok (.aload_n 0, 1) := by decide +kernel
theorem d_AL_describe_11 : decode b_AL_describe 11 = .ok (.iload_n 2, 1) := by decide +kernel
theorem d_AL_describe_12 : decode b_AL_describe 12 = .ok (.putfield 19, 3) := by decide +kernel
theorem d_AL_describe_15 : decode b_AL_describe 15 = .ok (.aload_n 0, 1) := by decide +kernel
theorem d_AL_describe_16 : decode b_AL_describe 16 = .ok (.iload_n 3, 1) := by decide +kernel
theorem d_AL_describe_17 : decode b_AL_describe 17 = .ok (.putfield 22, 3) := by decide +kernel
theorem d_AL_describe_20 : decode b_AL_describe 20 = .ok (.return_, 1) := by decide +kernel
theorem d_AL_watch_0 : decode b_AL_watch 0 = .ok (.aload_n 0, 1) := by decide +kernel
theorem d_AL_watch_1 : decode b_AL_watch 1 = .ok (.getfield 9, 3) := by decide +kernel
theorem d_AL_watch_4 : decode b_AL_watch 4 = .ok (.ifCond .eq 15, 3) := by decide +kernel
theorem d_AL_watch_7 : decode b_AL_watch 7 = .ok (.iload_n 1, 1) := by decide +kernel
theorem d_AL_watch_8 : decode b_AL_watch 8 = .ok (.aload_n 0, 1) := by decide +kernel
theorem d_AL_watch_9 : decode b_AL_watch 9 = .ok (.getfield 19, 3) := by decide +kernel
theorem d_AL_watch_12 : decode b_AL_watch 12 = .ok (.if_icmp .le 7, 3) := by decide +kernel
theorem d_AL_watch_15 : decode b_AL_watch 15 = .ok (.iconst 1, 1) := by decide +kernel
theorem d_AL_watch_16 : decode b_AL_watch 16 = .ok (.goto 4, 3) := by decide +kernel
theorem d_AL_watch_19 : decode b_AL_watch 19 = .ok (.iconst 0, 1) := by decide +kernel
theorem d_AL_watch_20 : decode b_AL_watch 20 = .ok (.istore_n 3, 1) := by decide +kernel
theorem d_AL_watch_21 : decode b_AL_watch 21 = .ok (.iload_n 3, 1) := by decide +kernel
theorem d_AL_watch_22 : decode b_AL_watch 22 = .ok (.ifCond .eq 15, 3) := by decide +kernel
theorem d_AL_watch_25 : decode b_AL_watch 25 = .ok (.aload_n 0, 1) := by decide +kernel
theorem d_AL_watch_26 : decode b_AL_watch 26 = .ok (.getfield 25, 3) := by decide +kernel
theorem d_AL_watch_29 : decode b_AL_watch 29 = .ok (.ifCond .ne 8, 3) := by decide +kernel
theorem d_AL_watch_32 : decode b_AL_watch 32 = .ok (.aload_n 0, 1) := by decide +kernel
theorem d_AL_watch_33 : decode b_AL_watch 33 = .ok (.iload_n 2, 1) := by decide +kernel
theorem d_AL_watch_34 : decode b_AL_watch 34 = .ok (.putfield 28, 3) := by decide +kernel
theorem d_AL_watch_37 : decode b_AL_watch 37 = .ok (.aload_n 0, 1) := by decide +kernel
theorem d_AL_watch_38 : decode b_AL_watch 38 = .ok (.iload_n 3, 1) := by decide +kernel
theorem d_AL_watch_39 : decode b_AL_watch 39 = .ok (.putfield 25, 3) := by decide +kernel
theorem d_AL_watch_42 : decode b_AL_watch 42 = .ok (.return_, 1) := by decide +kernel
theorem d_AL_forget_0 : decode b_AL_forget 0 = .ok (.aload_n 0, 1) := by decide +kernel
theorem d_AL_forget_1 : decode b_AL_forget 1 = .ok (.iconst 0, 1) := by decide +kernel
theorem d_AL_forget_2 : decode b_AL_forget 2 = .ok (.putfield 25, 3) := by decide +kernel
theorem d_AL_forget_5 : decode b_AL_forget 5 = .ok (.aload_n 0, 1) := by decide +kernel
theorem d_AL_forget_6 : decode b_AL_forget 6 = .ok (.iconst 0, 1) := by decide +kernel
theorem d_AL_forget_7 : decode b_AL_forget 7 = .ok (.putfield 31, 3) := by decide +kernel
theorem d_AL_forget_10 : decode b_AL_forget 10 = .ok (.aload_n 0, 1) := by decide +kernel
theorem d_AL_forget_11 : decode b_AL_forget 11 = .ok (.iconst 0, 1) := by decide +kernel
theorem d_AL_forget_12 : decode b_AL_forget 12 = .ok (.putfield 34, 3) := by decide +kernel
theorem d_AL_forget_15 : decode b_AL_forget 15 = .ok (.aload_n 0, 1) := by decide +kernel
theorem d_AL_forget_16 : decode b_AL_forget 16 = .ok (.iconst 0, 1) := by decide +kernel
theorem d_AL_forget_17 : decode b_AL_forget 17 = .ok (.putfield 37, 3) := by decide +kernel
theorem d_AL_forget_20 : decode b_AL_forget 20 = .ok (.return_, 1) := by decide +kernel
theorem d_AL_settle_0 : decode b_AL_settle 0 = .ok (.aload_n 0, 1) := by decide +kernel
theorem d_AL_settle_1 : decode b_AL_settle 1 = .ok (.getfield 25, 3) := by decide +kernel
theorem d_AL_settle_4 : decode b_AL_settle 4 = .ok (.ifCond .eq 15, 3) := by decide +kernel
theorem d_AL_settle_7 : decode b_AL_settle 7 = .ok (.iload_n 1, 1) := by decide +kernel
theorem d_AL_settle_8 : decode b_AL_settle 8 = .ok (.aload_n 0, 1) := by decide +kernel
theorem d_AL_settle_9 : decode b_AL_settle 9 = .ok (.getfield 31, 3) := by decide +kernel
theorem d_AL_settle_12 : decode b_AL_settle 12 = .ok (.if_icmp .lt 7, 3) := by decide +kernel
theorem d_AL_settle_15 : decode b_AL_settle 15 = .ok (.iconst 1, 1) := by decide +kernel
theorem d_AL_settle_16 : decode b_AL_settle 16 = .ok (.goto 4, 3) := by decide +kernel
theorem d_AL_settle_19 : decode b_AL_settle 19 = .ok (.iconst 0, 1) := by decide +kernel
theorem d_AL_settle_20 : decode b_AL_settle 20 = .ok (.istore_n 2, 1) := by decide +kernel
theorem d_AL_settle_21 : decode b_AL_settle 21 = .ok (.aload_n 0, 1) := by decide +kernel
theorem d_AL_settle_22 : decode b_AL_settle 22 = .ok (.getfield 34, 3) := by decide +kernel
theorem d_AL_settle_25 : decode b_AL_settle 25 = .ok (.ifCond .eq 36, 3) := by decide +kernel
theorem d_AL_settle_28 : decode b_AL_settle 28 = .ok (.iload_n 2, 1) := by decide +kernel
theorem d_AL_settle_29 : decode b_AL_settle 29 = .ok (.ifCond .ne 18, 3) := by decide +kernel
theorem d_AL_settle_32 : decode b_AL_settle 32 = .ok (.aload_n 0, 1) := by decide +kernel
theorem d_AL_settle_33 : decode b_AL_settle 33 = .ok (.getfield 15, 3) := by decide +kernel
theorem d_AL_settle_36 : decode b_AL_settle 36 = .ok (.iconst 1, 1) := by decide +kernel
theorem d_AL_settle_37 : decode b_AL_settle 37 = .ok (.if_icmp .ne 12, 3) := by decide +kernel
theorem d_AL_settle_40 : decode b_AL_settle 40 = .ok (.aload_n 0, 1) := by decide +kernel
theorem d_AL_settle_41 : decode b_AL_settle 41 = .ok (.getfield 37, 3) := by decide +kernel
theorem d_AL_settle_44 : decode b_AL_settle 44 = .ok (.ifCond .ne 5, 3) := by decide +kernel
theorem d_AL_settle_47 : decode b_AL_settle 47 = .ok (.iconst 0, 1) := by decide +kernel
theorem d_AL_settle_48 : decode b_AL_settle 48 = .ok (.ireturn, 1) := by decide +kernel
theorem d_AL_settle_49 : decode b_AL_settle 49 = .ok (.aload_n 0, 1) := by decide +kernel
theorem d_AL_settle_50 : decode b_AL_settle 50 = .ok (.iconst 0, 1) := by decide +kernel
theorem d_AL_settle_51 : decode b_AL_settle 51 = .ok (.putfield 34, 3) := by decide +kernel
theorem d_AL_settle_54 : decode b_AL_settle 54 = .ok (.aload_n 0, 1) := by decide +kernel
theorem d_AL_settle_55 : decode b_AL_settle 55 = .ok (.iconst 0, 1) := by decide +kernel
theorem d_AL_settle_56 : decode b_AL_settle 56 = .ok (.putfield 37, 3) := by decide +kernel
theorem d_AL_settle_59 : decode b_AL_settle 59 = .ok (.iconst 1, 1) := by decide +kernel
theorem d_AL_settle_60 : decode b_AL_settle 60 = .ok (.ireturn, 1) := by decide +kernel
theorem d_AL_settle_61 : decode b_AL_settle 61 = .ok (.iload_n 2, 1) := by decide +kernel
theorem d_AL_settle_62 : decode b_AL_settle 62 = .ok (.ifCond .eq 23, 3) := by decide +kernel
theorem d_AL_settle_65 : decode b_AL_settle 65 = .ok (.iload_n 1, 1) := by decide +kernel
theorem d_AL_settle_66 : decode b_AL_settle 66 = .ok (.aload_n 0, 1) := by decide +kernel
theorem d_AL_settle_67 : decode b_AL_settle 67 = .ok (.getfield 28, 3) := by decide +kernel
theorem d_AL_settle_70 : decode b_AL_settle 70 = .ok (.aload_n 0, 1) := by decide +kernel
theorem d_AL_settle_71 : decode b_AL_settle 71 = .ok (.getfield 31, 3) := by decide +kernel
theorem d_AL_settle_74 : decode b_AL_settle 74 = .ok (.invokestatic 40, 3) := by decide +kernel
theorem d_AL_settle_77 : decode b_AL_settle 77 = .ok (.isub, 1) := by decide +kernel
theorem d_AL_settle_78 : decode b_AL_settle 78 = .ok (.aload_n 0, 1) := by decide +kernel
theorem d_AL_settle_79 : decode b_AL_settle 79 = .ok (.getfield 22, 3) := by decide +kernel
theorem d_AL_settle_82 : decode b_AL_settle 82 = .ok (.if_icmp .ge 5, 3) := by decide +kernel
theorem d_AL_settle_85 : decode b_AL_settle 85 = .ok (.iconst 0, 1) := by decide +kernel
theorem d_AL_settle_86 : decode b_AL_settle 86 = .ok (.ireturn, 1) := by decide +kernel
theorem d_AL_settle_87 : decode b_AL_settle 87 = .ok (.aload_n 0, 1) := by decide +kernel
theorem d_AL_settle_88 : decode b_AL_settle 88 = .ok (.iconst 1, 1) := by decide +kernel
theorem d_AL_settle_89 : decode b_AL_settle 89 = .ok (.putfield 34, 3) := by decide +kernel
theorem d_AL_settle_92 : decode b_AL_settle 92 = .ok (.aload_n 0, 1) := by decide +kernel
theorem d_AL_settle_93 : decode b_AL_settle 93 = .ok (.iload_n 1, 1) := by decide +kernel
theorem d_AL_settle_94 : decode b_AL_settle 94 = .ok (.putfield 46, 3) := by decide +kernel
theorem d_AL_settle_97 : decode b_AL_settle 97 = .ok (.iconst 1, 1) := by decide +kernel
theorem d_AL_settle_98 : decode b_AL_settle 98 = .ok (.ireturn, 1) := by decide +kernel
theorem d_AL_hush_0 : decode b_AL_hush 0 = .ok (.aload_n 0, 1) := by decide +kernel
theorem d_AL_hush_1 : decode b_AL_hush 1 = .ok (.aload_n 0, 1) := by decide +kernel
theorem d_AL_hush_2 : decode b_AL_hush 2 = .ok (.getfield 34, 3) := by decide +kernel
theorem d_AL_hush_5 : decode b_AL_hush 5 = .ok (.putfield 37, 3) := by decide +kernel
theorem d_AL_hush_8 : decode b_AL_hush 8 = .ok (.return_, 1) := by decide +kernel
theorem d_AL_isLoud_0 : decode b_AL_isLoud 0 = .ok (.aload_n 0, 1) := by decide +kernel
theorem d_AL_isLoud_1 : decode b_AL_isLoud 1 = .ok (.getfield 34, 3) := by decide +kernel
theorem d_AL_isLoud_4 : decode b_AL_isLoud 4 = .ok (.ifCond .eq 14, 3) := by decide +kernel
theorem d_AL_isLoud_7 : decode b_AL_isLoud 7 = .ok (.aload_n 0, 1) := by decide +kernel
theorem d_AL_isLoud_8 : decode b_AL_isLoud 8 = .ok (.getfield 37, 3) := by decide +kernel
theorem d_AL_isLoud_11 : decode b_AL_isLoud 11 = .ok (.ifCond .ne 7, 3) := by decide +kernel
theorem d_AL_isLoud_14 : decode b_AL_isLoud 14 = .ok (.iconst 1, 1) := by decide +kernel
theorem d_AL_isLoud_15 : decode b_AL_isLoud 15 = .ok (.goto 4, 3) := by decide +kernel
theorem d_AL_isLoud_18 : decode b_AL_isLoud 18 = .ok (.iconst 0, 1) := by decide +kernel
theorem d_AL_isLoud_19 : decode b_AL_isLoud 19 = .ok (.ireturn, 1) := by decide +kernel
theorem d_AL_standing_0 : decode b_AL_standing 0 = .ok (.aload_n 0, 1) := by decide +kernel
theorem d_AL_standing_1 : decode b_AL_standing 1 = .ok (.getfield 9, 3) := by decide +kernel
theorem d_AL_standing_4 : decode b_AL_standing 4 = .ok (.ifCond .ne 5, 3) := by decide +kernel
theorem d_AL_standing_7 : decode b_AL_standing 7 = .ok (.iconst 0, 1) := by decide +kernel
theorem d_AL_standing_8 : decode b_AL_standing 8 = .ok (.ireturn, 1) := by decide +kernel
theorem d_AL_standing_9 : decode b_AL_standing 9 = .ok (.aload_n 0, 1) := by decide +kernel
theorem d_AL_standing_10 : decode b_AL_standing 10 = .ok (.getfield 34, 3) := by decide +kernel
theorem d_AL_standing_13 : decode b_AL_standing 13 = .ok (.ifCond .ne 5, 3) := by decide +kernel
theorem d_AL_standing_16 : decode b_AL_standing 16 = .ok (.iconst 1, 1) := by decide +kernel
theorem d_AL_standing_17 : decode b_AL_standing 17 = .ok (.ireturn, 1) := by decide +kernel
theorem d_AL_standing_18 : decode b_AL_standing 18 = .ok (.aload_n 0, 1) := by decide +kernel
theorem d_AL_standing_19 : decode b_AL_standing 19 = .ok (.getfield 37, 3) := by decide +kernel
theorem d_AL_standing_22 : decode b_AL_standing 22 = .ok (.ifCond .eq 7, 3) := by decide +kernel
theorem d_AL_standing_25 : decode b_AL_standing 25 = .ok (.iconst 3, 1) := by decide +kernel
theorem d_AL_standing_26 : decode b_AL_standing 26 = .ok (.goto 4, 3) := by decide +kernel
theorem d_AL_standing_29 : decode b_AL_standing 29 = .ok (.iconst 2, 1) := by decide +kernel
theorem d_AL_standing_30 : decode b_AL_standing 30 = .ok (.ireturn, 1) := by decide +kernel
theorem d_AL_levelAt_0 : decode b_AL_levelAt 0 = .ok (.aload_n 0, 1) := by decide +kernel
theorem d_AL_levelAt_1 : decode b_AL_levelAt 1 = .ok (.invokevirtual 49, 3) := by decide +kernel
theorem d_AL_levelAt_4 : decode b_AL_levelAt 4 = .ok (.ifCond .ne 5, 3) := by decide +kernel
theorem d_AL_levelAt_7 : decode b_AL_levelAt 7 = .ok (.iconst (-1), 1) := by decide +kernel
theorem d_AL_levelAt_8 : decode b_AL_levelAt 8 = .ok (.ireturn, 1) := by decide +kernel
theorem d_AL_levelAt_9 : decode b_AL_levelAt 9 = .ok (.sipush 2000, 3) := by decide +kernel
theorem d_AL_levelAt_12 : decode b_AL_levelAt 12 = .ok (.aload_n 0, 1) := by decide +kernel
theorem d_AL_levelAt_13 : decode b_AL_levelAt 13 = .ok (.getfield 15, 3) := by decide +kernel
theorem d_AL_levelAt_16 : decode b_AL_levelAt 16 = .ok (.imul, 1) := by decide +kernel
theorem d_AL_levelAt_17 : decode b_AL_levelAt 17 = .ok (.istore_n 2, 1) := by decide +kernel
theorem d_AL_levelAt_18 : decode b_AL_levelAt 18 = .ok (.iload_n 1, 1) := by decide +kernel
theorem d_AL_levelAt_19 : decode b_AL_levelAt 19 = .ok (.aload_n 0, 1) := by decide +kernel
theorem d_AL_levelAt_20 : decode b_AL_levelAt 20 = .ok (.getfield 46, 3) := by decide +kernel
theorem d_AL_levelAt_23 : decode b_AL_levelAt 23 = .ok (.isub, 1) := by decide +kernel
theorem d_AL_levelAt_24 : decode b_AL_levelAt 24 = .ok (.istore_n 3, 1) := by decide +kernel
theorem d_AL_levelAt_25 : decode b_AL_levelAt 25 = .ok (.iload_n 3, 1) := by decide +kernel
theorem d_AL_levelAt_26 : decode b_AL_levelAt 26 = .ok (.iload_n 2, 1) := by decide +kernel
theorem d_AL_levelAt_27 : decode b_AL_levelAt 27 = .ok (.if_icmp .ge 5, 3) := by decide +kernel
theorem d_AL_levelAt_30 : decode b_AL_levelAt 30 = .ok (.iconst 0, 1) := by decide +kernel
theorem d_AL_levelAt_31 : decode b_AL_levelAt 31 = .ok (.ireturn, 1) := by decide +kernel
theorem d_AL_levelAt_32 : decode b_AL_levelAt 32 = .ok (.iload_n 3, 1) := by decide +kernel
theorem d_AL_levelAt_33 : decode b_AL_levelAt 33 = .ok (.iconst 2, 1) := by decide +kernel
theorem d_AL_levelAt_34 : decode b_AL_levelAt 34 = .ok (.iload_n 2, 1) := by decide +kernel
theorem d_AL_levelAt_35 : decode b_AL_levelAt 35 = .ok (.imul, 1) := by decide +kernel
theorem d_AL_levelAt_36 : decode b_AL_levelAt 36 = .ok (.if_icmp .ge 5, 3) := by decide +kernel
theorem d_AL_levelAt_39 : decode b_AL_levelAt 39 = .ok (.iconst 1, 1) := by decide +kernel
theorem d_AL_levelAt_40 : decode b_AL_levelAt 40 = .ok (.ireturn, 1) := by decide +kernel
theorem d_AL_levelAt_41 : decode b_AL_levelAt 41 = .ok (.iload_n 3, 1) := by decide +kernel
theorem d_AL_levelAt_42 : decode b_AL_levelAt 42 = .ok (.iconst 4, 1) := by decide +kernel
theorem d_AL_levelAt_43 : decode b_AL_levelAt 43 = .ok (.iload_n 2, 1) := by decide +kernel
theorem d_AL_levelAt_44 : decode b_AL_levelAt 44 = .ok (.imul, 1) := by decide +kernel
theorem d_AL_levelAt_45 : decode b_AL_levelAt 45 = .ok (.if_icmp .ge 7, 3) := by decide +kernel
theorem d_AL_levelAt_48 : decode b_AL_levelAt 48 = .ok (.iconst 2, 1) := by decide +kernel
theorem d_AL_levelAt_49 : decode b_AL_levelAt 49 = .ok (.goto 4, 3) := by decide +kernel
theorem d_AL_levelAt_52 : decode b_AL_levelAt 52 = .ok (.iconst 3, 1) := by decide +kernel
theorem d_AL_levelAt_53 : decode b_AL_levelAt 53 = .ok (.ireturn, 1) := by decide +kernel
theorem d_CH_init_0 : decode b_CH_init 0 = .ok (.aload_n 0, 1) := by decide +kernel
theorem d_CH_init_1 : decode b_CH_init 1 = .ok (.invokespecial 3, 3) := by decide +kernel
theorem d_CH_init_4 : decode b_CH_init 4 = .ok (.aload_n 0, 1) := by decide +kernel
theorem d_CH_init_5 : decode b_CH_init 5 = .ok (.new 9, 3) := by decide +kernel
theorem d_CH_init_8 : decode b_CH_init 8 = .ok (.dup, 1) := by decide +kernel
theorem d_CH_init_9 : decode b_CH_init 9 = .ok (.invokespecial 11, 3) := by decide +kernel
theorem d_CH_init_12 : decode b_CH_init 12 = .ok (.putfield 12, 3) := by decide +kernel
theorem d_CH_init_15 : decode b_CH_init 15 = .ok (.aload_n 0, 1) := by decide +kernel
theorem d_CH_init_16 : decode b_CH_init 16 = .ok (.new 18, 3) := by decide +kernel
theorem d_CH_init_19 : decode b_CH_init 19 = .ok (.dup, 1) := by decide +kernel
theorem d_CH_init_20 : decode b_CH_init 20 = .ok (.invokespecial 20, 3) := by decide +kernel
theorem d_CH_init_23 : decode b_CH_init 23 = .ok (.putfield 21, 3) := by decide +kernel
theorem d_CH_init_26 : decode b_CH_init 26 = .ok (.aload_n 0, 1) := by decide +kernel
theorem d_CH_init_27 : decode b_CH_init 27 = .ok (.new 25, 3) := by decide +kernel
theorem d_CH_init_30 : decode b_CH_init 30 = .ok (.dup, 1) := by decide +kernel
theorem d_CH_init_31 : decode b_CH_init 31 = .ok (.invokespecial 27, 3) := by decide +kernel
theorem d_CH_init_34 : decode b_CH_init 34 = .ok (.putfield 28, 3) := by decide +kernel
theorem d_CH_init_37 : decode b_CH_init 37 = .ok (.aload_n 0, 1) := by decide +kernel
theorem d_CH_init_38 : decode b_CH_init 38 = .ok (.ldc 32, 2) := by decide +kernel
theorem d_CH_init_40 : decode b_CH_init 40 = .ok (.putfield 33, 3) := by decide +kernel
theorem d_CH_init_43 : decode b_CH_init 43 = .ok (.return_, 1) := by decide +kernel
theorem d_CH_begin_0 : decode b_CH_begin 0 = .ok (.aload_n 0, 1) := by decide +kernel
theorem d_CH_begin_1 : decode b_CH_begin 1 = .ok (.iload_n 1, 1) := by decide +kernel
theorem d_CH_begin_2 : decode b_CH_begin 2 = .ok (.putfield 37, 3) := by decide +kernel
theorem d_CH_begin_5 : decode b_CH_begin 5 = .ok (.aload_n 0, 1) := by decide +kernel
theorem d_CH_begin_6 : decode b_CH_begin 6 = .ok (.getfield 12, 3) := by decide +kernel
theorem d_CH_begin_9 : decode b_CH_begin 9 = .ok (.iload_n 2, 1) := by decide +kernel
theorem d_CH_begin_10 : decode b_CH_begin 10 = .ok (.iload_n 3, 1) := by decide +kernel
theorem d_CH_begin_11 : decode b_CH_begin 11 = .ok (.iload 4, 2) := by decide +kernel
theorem d_CH_begin_13 : decode b_CH_begin 13 = .ok (.invokevirtual 40, 3) := by decide +kernel
theorem d_CH_begin_16 : decode b_CH_begin 16 = .ok (.aload_n 0, 1) := by decide +kernel
theorem d_CH_begin_17 : decode b_CH_begin 17 = .ok (.getfield 21, 3) := by decide +kernel
theorem d_CH_begin_20 : decode b_CH_begin 20 = .ok (.iconst 0, 1) := by decide +kernel
theorem d_CH_begin_21 : decode b_CH_begin 21 = .ok (.putfield 44, 3) := by decide +kernel
theorem d_CH_begin_24 : decode b_CH_begin 24 = .ok (.return_, 1) := by decide +kernel
theorem d_CH_measure_0 : decode b_CH_measure 0 = .ok (.aload_n 0, 1) := by decide +kernel
theorem d_CH_measure_1 : decode b_CH_measure 1 = .ok (.iconst 1, 1) := by decide +kernel
theorem d_CH_measure_2 : decode b_CH_measure 2 = .ok (.putfield 48, 3) := by decide +kernel
theorem d_CH_measure_5 : decode b_CH_measure 5 = .ok (.aload_n 0, 1) := by decide +kernel
theorem d_CH_measure_6 : decode b_CH_measure 6 = .ok (.iload_n 1, 1) := by decide +kernel
theorem d_CH_measure_7 : decode b_CH_measure 7 = .ok (.putfield 51, 3) := by decide +kernel
theorem d_CH_measure_10 : decode b_CH_measure 10 = .ok (.aload_n 0, 1) := by decide +kernel
theorem d_CH_measure_11 : decode b_CH_measure 11 = .ok (.iload_n 2, 1) := by decide +kernel
theorem d_CH_measure_12 : decode b_CH_measure 12 = .ok (.putfield 54, 3) := by decide +kernel
theorem d_CH_measure_15 : decode b_CH_measure 15 = .ok (.aload_n 0, 1) := by decide +kernel
theorem d_CH_measure_16 : decode b_CH_measure 16 = .ok (.iconst 1, 1) := by decide +kernel
theorem d_CH_measure_17 : decode b_CH_measure 17 = .ok (.putfield 57, 3) := by decide +kernel
theorem d_CH_measure_20 : decode b_CH_measure 20 = .ok (.aload_n 0, 1) := by decide +kernel
theorem d_CH_measure_21 : decode b_CH_measure 21 = .ok (.getfield 21, 3) := by decide +kernel
theorem d_CH_measure_24 : decode b_CH_measure 24 = .ok (.iload_n 1, 1) := by decide +kernel
theorem d_CH_measure_25 : decode b_CH_measure 25 = .ok (.iload_n 2, 1) := by decide +kernel
theorem d_CH_measure_26 : decode b_CH_measure 26 = .ok (.invokevirtual 60, 3) := by decide +kernel
theorem d_CH_measure_29 : decode b_CH_measure 29 = .ok (.return_, 1) := by decide +kernel
theorem d_CH_forget_0 : decode b_CH_forget 0 = .ok (.aload_n 0, 1) := by decide +kernel
theorem d_CH_forget_1 : decode b_CH_forget 1 = .ok (.iconst 0, 1) := by decide +kernel
theorem d_CH_forget_2 : decode b_CH_forget 2 = .ok (.putfield 48, 3) := by decide +kernel
theorem d_CH_forget_5 : decode b_CH_forget 5 = .ok (.aload_n 0, 1) := by decide +kernel
theorem d_CH_forget_6 : decode b_CH_forget 6 = .ok (.getfield 21, 3) := by decide +kernel
theorem d_CH_forget_9 : decode b_CH_forget 9 = .ok (.invokevirtual 64, 3) := by decide +kernel
theorem d_CH_forget_12 : decode b_CH_forget 12 = .ok (.return_, 1) := by decide +kernel
theorem d_DE_init_0 : decode b_DE_init 0 = .ok (.aload_n 0, 1) := by decide +kernel
theorem d_DE_init_1 : decode b_DE_init 1 = .ok (.invokespecial 3, 3) := by decide +kernel
theorem d_DE_init_4 : decode b_DE_init 4 = .ok (.aload_n 0, 1) := by decide +kernel
theorem d_DE_init_5 : decode b_DE_init 5 = .ok (.iconst 4, 1) := by decide +kernel
theorem d_DE_init_6 : decode b_DE_init 6 = .ok (.anewarray 9, 3) := by decide +kernel
theorem d_DE_init_9 : decode b_DE_init 9 = .ok (.putfield 11, 3) := by decide +kernel
theorem d_DE_init_12 : decode b_DE_init 12 = .ok (.aload_n 0, 1) := by decide +kernel
theorem d_DE_init_13 : decode b_DE_init 13 = .ok (.new 17, 3) := by decide +kernel
theorem d_DE_init_16 : decode b_DE_init 16 = .ok (.dup, 1) := by decide +kernel
theorem d_DE_init_17 : decode b_DE_init 17 = .ok (.invokespecial 19, 3) := by decide +kernel
theorem d_DE_init_20 : decode b_DE_init 20 = .ok (.putfield 20, 3) := by decide +kernel
theorem d_DE_init_23 : decode b_DE_init 23 = .ok (.aload_n 0, 1) := by decide +kernel
theorem d_DE_init_24 : decode b_DE_init 24 = .ok (.iconst 0, 1) := by decide +kernel
theorem d_DE_init_25 : decode b_DE_init 25 = .ok (.putfield 24, 3) := by decide +kernel
theorem d_DE_init_28 : decode b_DE_init 28 = .ok (.aload_n 0, 1) := by decide +kernel
theorem d_DE_init_29 : decode b_DE_init 29 = .ok (.iconst (-1), 1) := by decide +kernel
theorem d_DE_init_30 : decode b_DE_init 30 = .ok (.putfield 28, 3) := by decide +kernel
theorem d_DE_init_33 : decode b_DE_init 33 = .ok (.aload_n 0, 1) := by decide +kernel
theorem d_DE_init_34 : decode b_DE_init 34 = .ok (.iconst 1, 1) := by decide +kernel
theorem d_DE_init_35 : decode b_DE_init 35 = .ok (.putfield 31, 3) := by decide +kernel
theorem d_DE_init_38 : decode b_DE_init 38 = .ok (.aload_n 0, 1) := by decide +kernel
theorem d_DE_init_39 : decode b_DE_init 39 = .ok (.ldc 34, 2) := by decide +kernel
theorem d_DE_init_41 : decode b_DE_init 41 = .ok (.putfield 35, 3) := by decide +kernel
theorem d_DE_init_44 : decode b_DE_init 44 = .ok (.aload_n 0, 1) := by decide +kernel
theorem d_DE_init_45 : decode b_DE_init 45 = .ok (.ldc 34, 2) := by decide +kernel
theorem d_DE_init_47 : decode b_DE_init 47 = .ok (.putfield 38, 3) := by decide +kernel
theorem d_DE_init_50 : decode b_DE_init 50 = .ok (.iconst 0, 1) := by decide +kernel
theorem d_DE_init_51 : decode b_DE_init 51 = .ok (.istore_n 1, 1) := by decide +kernel
theorem d_DE_init_52 : decode b_DE_init 52 = .ok (.iload_n 1, 1) := by decide +kernel
theorem d_DE_init_53 : decode b_DE_init 53 = .ok (.iconst 4, 1) := by decide +kernel
theorem d_DE_init_54 : decode b_DE_init 54 = .ok (.if_icmp .ge 22, 3) := by decide +kernel
theorem d_DE_init_57 : decode b_DE_init 57 = .ok (.aload_n 0, 1) := by decide +kernel
theorem d_DE_init_58 : decode b_DE_init 58 = .ok (.getfield 11, 3) := by decide +kernel
theorem d_DE_init_61 : decode b_DE_init 61 = .ok (.iload_n 1, 1) := by decide +kernel
theorem d_DE_init_62 : decode b_DE_init 62 = .ok (.new 9, 3) := by decide +kernel
theorem d_DE_init_65 : decode b_DE_init 65 = .ok (.dup, 1) := by decide +kernel
theorem d_DE_init_66 : decode b_DE_init 66 = .ok (.invokespecial 41, 3) := by decide +kernel
theorem d_DE_init_69 : decode b_DE_init 69 = .ok (.aastore, 1) := by decide +kernel
theorem d_DE_init_70 : decode b_DE_init 70 = .ok (.iinc 1 1, 3) := by decide +kernel
theorem d_DE_init_73 : decode b_DE_init 73 = .ok (.goto (-21), 3) := by decide +kernel
theorem d_DE_init_76 : decode b_DE_init 76 = .ok (.return_, 1) := by decide +kernel
theorem d_DE_begin_0 : decode b_DE_begin 0 = .ok (.aload_n 0, 1) := by decide +kernel
theorem d_DE_begin_1 : decode b_DE_begin 1 = .ok (.iconst 1, 1) := by decide +kernel
theorem d_DE_begin_2 : decode b_DE_begin 2 = .ok (.putfield 24, 3) := by decide +kernel
theorem d_DE_begin_5 : decode b_DE_begin 5 = .ok (.aload_n 0, 1) := by decide +kernel
theorem d_DE_begin_6 : decode b_DE_begin 6 = .ok (.iload_n 1, 1) := by decide +kernel
theorem d_DE_begin_7 : decode b_DE_begin 7 = .ok (.putfield 28, 3) := by decide +kernel
theorem d_DE_begin_10 : decode b_DE_begin 10 = .ok (.aload_n 0, 1) := by decide +kernel
theorem d_DE_begin_11 : decode b_DE_begin 11 = .ok (.iconst 0, 1) := by decide +kernel
theorem d_DE_begin_12 : decode b_DE_begin 12 = .ok (.putfield 42, 3) := by decide +kernel
theorem d_DE_begin_15 : decode b_DE_begin 15 = .ok (.aload_n 0, 1) := by decide +kernel
theorem d_DE_begin_16 : decode b_DE_begin 16 = .ok (.getfield 20, 3) := by decide +kernel
theorem d_DE_begin_19 : decode b_DE_begin 19 = .ok (.iconst 0, 1) := by decide +kernel
theorem d_DE_begin_20 : decode b_DE_begin 20 = .ok (.putfield 45, 3) := by decide +kernel
theorem d_DE_begin_23 : decode b_DE_begin 23 = .ok (.return_, 1) := by decide +kernel
theorem d_DE_beginLife_0 : decode b_DE_beginLife 0 = .ok (.aload_n 0, 1) := by decide +kernel
theorem d_DE_beginLife_1 : decode b_DE_beginLife 1 = .ok (.dup, 1) := by decide +kernel
theorem d_DE_beginLife_2 : decode b_DE_beginLife 2 = .ok (.getfield 31, 3) := by decide +kernel
theorem d_DE_beginLife_5 : decode b_DE_beginLife 5 = .ok (.iconst 1, 1) := by decide +kernel
theorem d_DE_beginLife_6 : decode b_DE_beginLife 6 = .ok (.iadd, 1) := by decide +kernel
theorem d_DE_beginLife_7 : decode b_DE_beginLife 7 = .ok (.putfield 31, 3) := by decide +kernel
theorem d_DE_beginLife_10 : decode b_DE_beginLife 10 = .ok (.aload_n 0, 1) := by decide +kernel
theorem d_DE_beginLife_11 : decode b_DE_beginLife 11 = .ok (.iconst 0, 1) := by decide +kernel
theorem d_DE_beginLife_12 : decode b_DE_beginLife 12 = .ok (.putfield 49, 3) := by decide +kernel
theorem d_DE_beginLife_15 : decode b_DE_beginLife 15 = .ok (.aload_n 0, 1) := by decide +kernel
theorem d_DE_beginLife_16 : decode b_DE_beginLife 16 = .ok (.ldc 34, 2) := by decide +kernel
theorem d_DE_beginLife_18 : decode b_DE_beginLife 18 = .ok (.putfield 35, 3) := by decide +kernel
theorem d_DE_beginLife_21 : decode b_DE_beginLife 21 = .ok (.aload_n 0, 1) := by decide +kernel
theorem d_DE_beginLife_22 : decode b_DE_beginLife 22 = .ok (.getfield 20, 3) := by decide +kernel
theorem d_DE_beginLife_25 : decode b_DE_beginLife 25 = .ok (.ldc 34, 2) := by decide +kernel
theorem d_DE_beginLife_27 : decode b_DE_beginLife 27 = .ok (.putfield 52, 3) := by decide +kernel
theorem d_DE_beginLife_30 : decode b_DE_beginLife 30 = .ok (.aload_n 0, 1) := by decide +kernel
theorem d_DE_beginLife_31 : decode b_DE_beginLife 31 = .ok (.getfield 20, 3) := by decide +kernel
theorem d_DE_beginLife_34 : decode b_DE_beginLife 34 = .ok (.iconst 0, 1) := by decide +kernel
theorem d_DE_beginLife_35 : decode b_DE_beginLife 35 = .ok (.putfield 55, 3) := by decide +kernel
theorem d_DE_beginLife_38 : decode b_DE_beginLife 38 = .ok (.iconst 0, 1) := by decide +kernel
theorem d_DE_beginLife_39 : decode b_DE_beginLife 39 = .ok (.istore_n 1, 1) := by decide +kernel
theorem d_DE_beginLife_40 : decode b_DE_beginLife 40 = .ok (.iload_n 1, 1) := by decide +kernel
theorem d_DE_beginLife_41 : decode b_DE_beginLife 41 = .ok (.aload_n 0, 1) := by decide +kernel
theorem d_DE_beginLife_42 : decode b_DE_beginLife 42 = .ok (.getfield 42, 3) := by decide +kernel
theorem d_DE_beginLife_45 : decode b_DE_beginLife 45 = .ok (.if_icmp .ge 18, 3) := by decide +kernel
theorem d_DE_beginLife_48 : decode b_DE_beginLife 48 = .ok (.aload_n 0, 1) := by decide +kernel
theorem d_DE_beginLife_49 : decode b_DE_beginLife 49 = .ok (.getfield 11, 3) := by decide +kernel
theorem d_DE_beginLife_52 : decode b_DE_beginLife 52 = .ok (.iload_n 1, 1) := by decide +kernel
theorem d_DE_beginLife_53 : decode b_DE_beginLife 53 = .ok (.aaload, 1) := by decide +kernel
theorem d_DE_beginLife_54 : decode b_DE_beginLife 54 = .ok (.invokevirtual 58, 3) := by decide +kernel
theorem d_DE_beginLife_57 : decode b_DE_beginLife 57 = .ok (.iinc 1 1, 3) := by decide +kernel
theorem d_DE_beginLife_60 : decode b_DE_beginLife 60 = .ok (.goto (-20), 3) := by decide +kernel
theorem d_DE_beginLife_63 : decode b_DE_beginLife 63 = .ok (.return_, 1) := by decide +kernel
theorem d_DE_tie_0 : decode b_DE_tie 0 = .ok (.aload_n 0, 1) := by decide +kernel
theorem d_DE_tie_1 : decode b_DE_tie 1 = .ok (.iload_n 1, 1) := by decide +kernel
theorem d_DE_tie_2 : decode b_DE_tie 2 = .ok (.putfield 49, 3) := by decide +kernel
theorem d_DE_tie_5 : decode b_DE_tie 5 = .ok (.iconst 0, 1) := by decide +kernel
theorem d_DE_tie_6 : decode b_DE_tie 6 = .ok (.istore_n 2, 1) := by decide +kernel
theorem d_DE_tie_7 : decode b_DE_tie 7 = .ok (.iload_n 2, 1) := by decide +kernel
theorem d_DE_tie_8 : decode b_DE_tie 8 = .ok (.aload_n 0, 1) := by decide +kernel
theorem d_DE_tie_9 : decode b_DE_tie 9 = .ok (.getfield 42, 3) := by decide +kernel
theorem d_DE_tie_12 : decode b_DE_tie 12 = .ok (.if_icmp .ge 19, 3) := by decide +kernel
theorem d_DE_tie_15 : decode b_DE_tie 15 = .ok (.aload_n 0, 1) := by decide +kernel
theorem d_DE_tie_16 : decode b_DE_tie 16 = .ok (.getfield 11, 3) := by decide +kernel
theorem d_DE_tie_19 : decode b_DE_tie 19 = .ok (.iload_n 2, 1) := by decide +kernel
theorem d_DE_tie_20 : decode b_DE_tie 20 = .ok (.aaload, 1) := by decide +kernel
theorem d_DE_tie_21 : decode b_DE_tie 21 = .ok (.iconst 0, 1) := by decide +kernel
theorem d_DE_tie_22 : decode b_DE_tie 22 = .ok (.putfield 61, 3) := by decide +kernel
theorem d_DE_tie_25 : decode b_DE_tie 25 = .ok (.iinc 2 1, 3) := by decide +kernel
theorem d_DE_tie_28 : decode b_DE_tie 28 = .ok (.goto (-21), 3) := by decide +kernel
theorem d_DE_tie_31 : decode b_DE_tie 31 = .ok (.return_, 1) := by decide +kernel
theorem d_DE_hasChannel_0 : decode b_DE_hasChannel 0 = .ok (.iload_n 1, 1) := by decide +kernel
theorem d_DE_hasChannel_1 : decode b_DE_hasChannel 1 = .ok (.ifCond .lt 15, 3) := by decide +kernel
theorem d_DE_hasChannel_4 : decode b_DE_hasChannel 4 = .ok (.iload_n 1, 1) := by decide +kernel
theorem d_DE_hasChannel_5 : decode b_DE_hasChannel 5 = .ok (.aload_n 0, 1) := by decide +kernel
theorem d_DE_hasChannel_6 : decode b_DE_hasChannel 6 = .ok (.getfield 42, 3) := by decide +kernel
theorem d_DE_hasChannel_9 : decode b_DE_hasChannel 9 = .ok (.if_icmp .ge 7, 3) := by decide +kernel
theorem d_DE_hasChannel_12 : decode b_DE_hasChannel 12 = .ok (.iconst 1, 1) := by decide +kernel
theorem d_DE_hasChannel_13 : decode b_DE_hasChannel 13 = .ok (.goto 4, 3) := by decide +kernel
theorem d_DE_hasChannel_16 : decode b_DE_hasChannel 16 = .ok (.iconst 0, 1) := by decide +kernel
theorem d_DE_hasChannel_17 : decode b_DE_hasChannel 17 = .ok (.ireturn, 1) := by decide +kernel
theorem d_DE_leastChannelWith_0 : decode b_DE_leastChannelWith 0 = .ok (.iconst 0, 1) := by decide +kernel
theorem d_DE_leastChannelWith_1 : decode b_DE_leastChannelWith 1 = .ok (.istore_n 2, 1) := by decide +kernel
theorem d_DE_leastChannelWith_2 : decode b_DE_leastChannelWith 2 = .ok (.iload_n 2, 1) := by decide +kernel
theorem d_DE_leastChannelWith_3 : decode b_DE_leastChannelWith 3 = .ok (.aload_n 0, 1) := by decide +kernel
theorem d_DE_leastChannelWith_4 : decode b_DE_leastChannelWith 4 = .ok (.getfield 42, 3) := by decide +kernel
theorem d_DE_leastChannelWith_7 : decode b_DE_leastChannelWith 7 = .ok (.if_icmp .ge 24, 3) := by decide +kernel
theorem d_DE_leastChannelWith_10 : decode b_DE_leastChannelWith 10 = .ok (.aload_n 0, 1) := by decide +kernel
theorem d_DE_leastChannelWith_11 : decode b_DE_leastChannelWith 11 = .ok (.getfield 11, 3) := by decide +kernel
theorem d_DE_leastChannelWith_14 : decode b_DE_leastChannelWith 14 = .ok (.iload_n 2, 1) := by decide +kernel
theorem d_DE_leastChannelWith_15 : decode b_DE_leastChannelWith 15 = .ok (.aaload, 1) := by decide +kernel
theorem d_DE_leastChannelWith_16 : decode b_DE_leastChannelWith 16 = .ok (.getfield 64, 3) := by decide +kernel
theorem d_DE_leastChannelWith_19 : decode b_DE_leastChannelWith 19 = .ok (.iload_n 1, 1) := by decide +kernel
theorem d_DE_leastChannelWith_20 : decode b_DE_leastChannelWith 20 = .ok (.if_icmp .ne 5, 3) := by decide +kernel
theorem d_DE_leastChannelWith_23 : decode b_DE_leastChannelWith 23 = .ok (.iload_n 2, 1) := by decide +kernel
theorem d_DE_leastChannelWith_24 : decode b_DE_leastChannelWith 24 = .ok (.ireturn, 1) := by decide +kernel
theorem d_DE_leastChannelWith_25 : decode b_DE_leastChannelWith 25 = .ok (.iinc 2 1, 3) := by decide +kernel
theorem d_DE_leastChannelWith_28 : decode b_DE_leastChannelWith 28 = .ok (.goto (-26), 3) := by decide +kernel
theorem d_DE_leastChannelWith_31 : decode b_DE_leastChannelWith 31 = .ok (.iconst (-1), 1) := by decide +kernel
theorem d_DE_leastChannelWith_32 : decode b_DE_leastChannelWith 32 = .ok (.ireturn, 1) := by decide +kernel
theorem d_DE_soundsAt_0 : decode b_DE_soundsAt 0 = .ok (.iload_n 1, 1) := by decide +kernel
theorem d_DE_soundsAt_1 : decode b_DE_soundsAt 1 = .ok (.aload_n 0, 1) := by decide +kernel
theorem d_DE_soundsAt_2 : decode b_DE_soundsAt 2 = .ok (.getfield 35, 3) := by decide +kernel
theorem d_DE_soundsAt_5 : decode b_DE_soundsAt 5 = .ok (.isub, 1) := by decide +kernel
theorem d_DE_soundsAt_6 : decode b_DE_soundsAt 6 = .ok (.sipush 3000, 3) := by decide +kernel
theorem d_DE_soundsAt_9 : decode b_DE_soundsAt 9 = .ok (.if_icmp .ge 5, 3) := by decide +kernel
theorem d_DE_soundsAt_12 : decode b_DE_soundsAt 12 = .ok (.iconst 0, 1) := by decide +kernel
theorem d_DE_soundsAt_13 : decode b_DE_soundsAt 13 = .ok (.ireturn, 1) := by decide +kernel
theorem d_DE_soundsAt_14 : decode b_DE_soundsAt 14 = .ok (.iconst 0, 1) := by decide +kernel
theorem d_DE_soundsAt_15 : decode b_DE_soundsAt 15 = .ok (.istore_n 2, 1) := by decide +kernel
theorem d_DE_soundsAt_16 : decode b_DE_soundsAt 16 = .ok (.iload_n 2, 1) := by decide +kernel
theorem d_DE_soundsAt_17 : decode b_DE_soundsAt 17 = .ok (.aload_n 0, 1) := by decide +kernel
theorem d_DE_soundsAt_18 : decode b_DE_soundsAt 18 = .ok (.getfield 42, 3) := by decide +kernel
theorem d_DE_soundsAt_21 : decode b_DE_soundsAt 21 = .ok (.if_icmp .ge 26, 3) := by decide +kernel
theorem d_DE_soundsAt_24 : decode b_DE_soundsAt 24 = .ok (.aload_n 0, 1) := by decide +kernel
theorem d_DE_soundsAt_25 : decode b_DE_soundsAt 25 = .ok (.getfield 11, 3) := by decide +kernel
theorem d_DE_soundsAt_28 : decode b_DE_soundsAt 28 = .ok (.iload_n 2, 1) := by decide +kernel
theorem d_DE_soundsAt_29 : decode b_DE_soundsAt 29 = .ok (.aaload, 1) := by decide +kernel
theorem d_DE_soundsAt_30 : decode b_DE_soundsAt 30 = .ok (.getfield 67, 3) := by decide +kernel
theorem d_DE_soundsAt_33 : decode b_DE_soundsAt 33 = .ok (.invokevirtual 71, 3) := by decide +kernel
theorem d_DE_soundsAt_36 : decode b_DE_soundsAt 36 = .ok (.ifCond .eq 5, 3) := by decide +kernel
theorem d_DE_soundsAt_39 : decode b_DE_soundsAt 39 = .ok (.iconst 1, 1) := by decide +kernel
theorem d_DE_soundsAt_40 : decode b_DE_soundsAt 40 = .ok (.ireturn, 1) := by decide +kernel
theorem d_DE_soundsAt_41 : decode b_DE_soundsAt 41 = .ok (.iinc 2 1, 3) := by decide +kernel
theorem d_DE_soundsAt_44 : decode b_DE_soundsAt 44 = .ok (.goto (-28), 3) := by decide +kernel
theorem d_DE_soundsAt_47 : decode b_DE_soundsAt 47 = .ok (.iconst 0, 1) := by decide +kernel
theorem d_DE_soundsAt_48 : decode b_DE_soundsAt 48 = .ok (.ireturn, 1) := by decide +kernel
theorem d_DE_soundsAtStation_0 : decode b_DE_soundsAtStation 0 = .ok (.iconst 0, 1) := by decide +kernel
theorem d_DE_soundsAtStation_1 : decode b_DE_soundsAtStation 1 = .ok (.istore_n 1, 1) := by decide +kernel
theorem d_DE_soundsAtStation_2 : decode b_DE_soundsAtStation 2 = .ok (.iload_n 1, 1) := by decide +kernel
theorem d_DE_soundsAtStation_3 : decode b_DE_soundsAtStation 3 = .ok (.aload_n 0, 1) := by decide +kernel
theorem d_DE_soundsAtStation_4 : decode b_DE_soundsAtStation 4 = .ok (.getfield 42, 3) := by decide +kernel
theorem d_DE_soundsAtStation_7 : decode b_DE_soundsAtStation 7 = .ok (.if_icmp .ge 26, 3) := by decide +kernel
theorem d_DE_soundsAtStation_10 : decode b_DE_soundsAtStation 10 = .ok (.aload_n 0, 1) := by decide +kernel
theorem d_DE_soundsAtStation_11 : decode b_DE_soundsAtStation 11 = .ok (.getfield 11, 3) := by decide +kernel
theorem d_DE_soundsAtStation_14 : decode b_DE_soundsAtStation 14 = .ok (.iload_n 1, 1) := by decide +kernel
theorem d_DE_soundsAtStation_15 : decode b_DE_soundsAtStation 15 = .ok (.aaload, 1) := by decide +kernel
theorem d_DE_soundsAtStation_16 : decode b_DE_soundsAtStation 16 = .ok (.getfield 77, 3) := by decide +kernel
theorem d_DE_soundsAtStation_19 : decode b_DE_soundsAtStation 19 = .ok (.invokevirtual 81, 3) := by decide +kernel
theorem d_DE_soundsAtStation_22 : decode b_DE_soundsAtStation 22 = .ok (.ifCond .eq 5, 3) := by decide +kernel
theorem d_DE_soundsAtStation_25 : decode b_DE_soundsAtStation 25 = .ok (.iconst 1, 1) := by decide +kernel
theorem d_DE_soundsAtStation_26 : decode b_DE_soundsAtStation 26 = .ok (.ireturn, 1) := by decide +kernel
theorem d_DE_soundsAtStation_27 : decode b_DE_soundsAtStation 27 = .ok (.iinc 1 1, 3) := by decide +kernel
theorem d_DE_soundsAtStation_30 : decode b_DE_soundsAtStation 30 = .ok (.goto (-28), 3) := by decide +kernel
theorem d_DE_soundsAtStation_33 : decode b_DE_soundsAtStation 33 = .ok (.iconst 0, 1) := by decide +kernel
theorem d_DE_soundsAtStation_34 : decode b_DE_soundsAtStation 34 = .ok (.ireturn, 1) := by decide +kernel
theorem d_DI_init_0 : decode b_DI_init 0 = .ok (.aload_n 0, 1) := by decide +kernel
theorem d_DI_init_1 : decode b_DI_init 1 = .ok (.invokespecial 3, 3) := by decide +kernel
theorem d_DI_init_4 : decode b_DI_init 4 = .ok (.aload_n 0, 1) := by decide +kernel
theorem d_DI_init_5 : decode b_DI_init 5 = .ok (.iconst (-1), 1) := by decide +kernel
theorem d_DI_init_6 : decode b_DI_init 6 = .ok (.putfield 9, 3) := by decide +kernel
theorem d_DI_init_9 : decode b_DI_init 9 = .ok (.aload_n 0, 1) := by decide +kernel
theorem d_DI_init_10 : decode b_DI_init 10 = .ok (.ldc 15, 2) := by decide +kernel
theorem d_DI_init_12 : decode b_DI_init 12 = .ok (.putfield 16, 3) := by decide +kernel
theorem d_DI_init_15 : decode b_DI_init 15 = .ok (.return_, 1) := by decide +kernel
theorem d_DI_attach_0 : decode b_DI_attach 0 = .ok (.aload_n 0, 1) := by decide +kernel
theorem d_DI_attach_1 : decode b_DI_attach 1 = .ok (.iload_n 1, 1) := by decide +kernel
theorem d_DI_attach_2 : decode b_DI_attach 2 = .ok (.putfield 19, 3) := by decide +kernel
theorem d_DI_attach_5 : decode b_DI_attach 5 = .ok (.aload_n 0, 1) := by decide +kernel
theorem d_DI_attach_6 : decode b_DI_attach 6 = .ok (.iload_n 2, 1) := by decide +kernel
theorem d_DI_attach_7 : decode b_DI_attach 7 = .ok (.putfield 22, 3) := by decide +kernel
theorem d_DI_attach_10 : decode b_DI_attach 10 = .ok (.aload_n 0, 1) := by decide +kernel
theorem d_DI_attach_11 : decode b_DI_attach 11 = .ok (.iload_n 3, 1) := by decide +kernel
theorem d_DI_attach_12 : decode b_DI_attach 12 = .ok (.putfield 25, 3) := by decide +kernel
theorem d_DI_attach_15 : decode b_DI_attach 15 = .ok (.aload_n 0, 1) := by decide +kernel
theorem d_DI_attach_16 : decode b_DI_attach 16 = .ok (.iload 4, 2) := by decide +kernel
theorem d_DI_attach_18 : decode b_DI_attach 18 = .ok (.putfield 28, 3) := by decide +kernel
theorem d_DI_attach_21 : decode b_DI_attach 21 = .ok (.return_, 1) := by decide +kernel
theorem d_DI_hear_0 : decode b_DI_hear 0 = .ok (.aload_n 1, 1) := by decide +kernel
theorem d_DI_hear_1 : decode b_DI_hear 1 = .ok (.getfield 31, 3) := by decide +kernel
theorem d_DI_hear_4 : decode b_DI_hear 4 = .ok (.aload_n 0, 1) := by decide +kernel
theorem d_DI_hear_5 : decode b_DI_hear 5 = .ok (.getfield 19, 3) := by decide +kernel
theorem d_DI_hear_8 : decode b_DI_hear 8 = .ok (.if_icmp .ne 40, 3) := by decide +kernel
theorem d_DI_hear_11 : decode b_DI_hear 11 = .ok (.aload_n 1, 1) := by decide +kernel
theorem d_DI_hear_12 : decode b_DI_hear 12 = .ok (.getfield 34, 3) := by decide +kernel
theorem d_DI_hear_15 : decode b_DI_hear 15 = .ok (.aload_n 0, 1) := by decide +kernel
theorem d_DI_hear_16 : decode b_DI_hear 16 = .ok (.getfield 22, 3) := by decide +kernel
theorem d_DI_hear_19 : decode b_DI_hear 19 = .ok (.if_icmp .ne 29, 3) := by decide +kernel
theorem d_DI_hear_22 : decode b_DI_hear 22 = .ok (.aload_n 1, 1) := by decide +kernel
theorem d_DI_hear_23 : decode b_DI_hear 23 = .ok (.getfield 37, 3) := by decide +kernel
theorem d_DI_hear_26 : decode b_DI_hear 26 = .ok (.aload_n 0, 1) := by decide +kernel
theorem d_DI_hear_27 : decode b_DI_hear 27 = .ok (.getfield 25, 3) := by decide +kernel
theorem d_DI_hear_30 : decode b_DI_hear 30 = .ok (.if_icmp .ne 18, 3) := by decide +kernel
theorem d_DI_hear_33 : decode b_DI_hear 33 = .ok (.aload_n 1, 1) := by decide +kernel
theorem d_DI_hear_34 : decode b_DI_hear 34 = .ok (.getfield 38, 3) := by decide +kernel
theorem d_DI_hear_37 : decode b_DI_hear 37 = .ok (.aload_n 0, 1) := by decide +kernel
theorem d_DI_hear_38 : decode b_DI_hear 38 = .ok (.getfield 28, 3) := by decide +kernel
theorem d_DI_hear_41 : decode b_DI_hear 41 = .ok (.if_icmp .ne 7, 3) := by decide +kernel
theorem d_DI_hear_44 : decode b_DI_hear 44 = .ok (.iconst 1, 1) := by decide +kernel
theorem d_DI_hear_45 : decode b_DI_hear 45 = .ok (.goto 4, 3) := by decide +kernel
theorem d_DI_hear_48 : decode b_DI_hear 48 = .ok (.iconst 0, 1) := by decide +kernel
theorem d_DI_hear_49 : decode b_DI_hear 49 = .ok (.istore_n 3, 1) := by decide +kernel
theorem d_DI_hear_50 : decode b_DI_hear 50 = .ok (.iload_n 3, 1) := by decide +kernel
theorem d_DI_hear_51 : decode b_DI_hear 51 = .ok (.ifCond .eq 43, 3) := by decide +kernel
theorem d_DI_hear_54 : decode b_DI_hear 54 = .ok (.aload_n 1, 1) := by decide +kernel
theorem d_DI_hear_55 : decode b_DI_hear 55 = .ok (.getfield 39, 3) := by decide +kernel
theorem d_DI_hear_58 : decode b_DI_hear 58 = .ok (.aload_n 0, 1) := by decide +kernel
theorem d_DI_hear_59 : decode b_DI_hear 59 = .ok (.getfield 9, 3) := by decide +kernel
theorem d_DI_hear_62 : decode b_DI_hear 62 = .ok (.if_icmp .le 32, 3) := by decide +kernel
theorem d_DI_hear_65 : decode b_DI_hear 65 = .ok (.aload_n 0, 1) := by decide +kernel
theorem d_DI_hear_66 : decode b_DI_hear 66 = .ok (.aload_n 1, 1) := by decide +kernel
theorem d_DI_hear_67 : decode b_DI_hear 67 = .ok (.getfield 39, 3) := by decide +kernel
theorem d_DI_hear_70 : decode b_DI_hear 70 = .ok (.putfield 9, 3) := by decide +kernel
theorem d_DI_hear_73 : decode b_DI_hear 73 = .ok (.aload_n 0, 1) := by decide +kernel
theorem d_DI_hear_74 : decode b_DI_hear 74 = .ok (.aload_n 1, 1) := by decide +kernel
theorem d_DI_hear_75 : decode b_DI_hear 75 = .ok (.getfield 40, 3) := by decide +kernel
theorem d_DI_hear_78 : decode b_DI_hear 78 = .ok (.putfield 43, 3) := by decide +kernel
theorem d_DI_hear_81 : decode b_DI_hear 81 = .ok (.aload_n 0, 1) := by decide +kernel
theorem d_DI_hear_82 : decode b_DI_hear 82 = .ok (.aload_n 1, 1) := by decide +kernel
theorem d_DI_hear_83 : decode b_DI_hear 83 = .ok (.getfield 44, 3) := by decide +kernel
theorem d_DI_hear_86 : decode b_DI_hear 86 = .ok (.putfield 47, 3) := by decide +kernel
theorem d_DI_hear_89 : decode b_DI_hear 89 = .ok (.aload_n 0, 1) := by decide +kernel
theorem d_DI_hear_90 : decode b_DI_hear 90 = .ok (.iload_n 2, 1) := by decide +kernel
theorem d_DI_hear_91 : decode b_DI_hear 91 = .ok (.putfield 16, 3) := by decide +kernel
theorem d_DI_hear_94 : decode b_DI_hear 94 = .ok (.return_, 1) := by decide +kernel
theorem d_KN_init_0 : decode b_KN_init 0 = .ok (.aload_n 0, 1) := by decide +kernel
theorem d_KN_init_1 : decode b_KN_init 1 = .ok (.invokespecial 3, 3) := by decide +kernel
theorem d_KN_init_4 : decode b_KN_init 4 = .ok (.aload_n 0, 1) := by decide +kernel
theorem d_KN_init_5 : decode b_KN_init 5 = .ok (.iconst (-1), 1) := by decide +kernel
theorem d_KN_init_6 : decode b_KN_init 6 = .ok (.putfield 9, 3) := by decide +kernel
theorem d_KN_init_9 : decode b_KN_init 9 = .ok (.return_, 1) := by decide +kernel
theorem d_KN_learn_0 : decode b_KN_learn 0 = .ok (.aload_n 0, 1) := by decide +kernel
theorem d_KN_learn_1 : decode b_KN_learn 1 = .ok (.iload_n 1, 1) := by decide +kernel
theorem d_KN_learn_2 : decode b_KN_learn 2 = .ok (.putfield 9, 3) := by decide +kernel
theorem d_KN_learn_5 : decode b_KN_learn 5 = .ok (.aload_n 0, 1) := by decide +kernel
theorem d_KN_learn_6 : decode b_KN_learn 6 = .ok (.iload_n 2, 1) := by decide +kernel
theorem d_KN_learn_7 : decode b_KN_learn 7 = .ok (.putfield 15, 3) := by decide +kernel
theorem d_KN_learn_10 : decode b_KN_learn 10 = .ok (.aload_n 0, 1) := by decide +kernel
theorem d_KN_learn_11 : decode b_KN_learn 11 = .ok (.iconst 0, 1) := by decide +kernel
theorem d_KN_learn_12 : decode b_KN_learn 12 = .ok (.putfield 19, 3) := by decide +kernel
theorem d_KN_learn_15 : decode b_KN_learn 15 = .ok (.return_, 1) := by decide +kernel
theorem d_KN_sounds_0 : decode b_KN_sounds 0 = .ok (.aload_n 0, 1) := by decide +kernel
theorem d_KN_sounds_1 : decode b_KN_sounds 1 = .ok (.getfield 15, 3) := by decide +kernel
theorem d_KN_sounds_4 : decode b_KN_sounds 4 = .ok (.ifCond .eq 14, 3) := by decide +kernel
theorem d_KN_sounds_7 : decode b_KN_sounds 7 = .ok (.aload_n 0, 1) := by decide +kernel
theorem d_KN_sounds_8 : decode b_KN_sounds 8 = .ok (.getfield 19, 3) := by decide +kernel
theorem d_KN_sounds_11 : decode b_KN_sounds 11 = .ok (.ifCond .ne 7, 3) := by decide +kernel
theorem d_KN_sounds_14 : decode b_KN_sounds 14 = .ok (.iconst 1, 1) := by decide +kernel
theorem d_KN_sounds_15 : decode b_KN_sounds 15 = .ok (.goto 4, 3) := by decide +kernel
theorem d_KN_sounds_18 : decode b_KN_sounds 18 = .ok (.iconst 0, 1) := by decide +kernel
theorem d_KN_sounds_19 : decode b_KN_sounds 19 = .ok (.ireturn, 1) := by decide +kernel
theorem d_KN_standing_0 : decode b_KN_standing 0 = .ok (.aload_n 0, 1) := by decide +kernel
theorem d_KN_standing_1 : decode b_KN_standing 1 = .ok (.getfield 9, 3) := by decide +kernel
theorem d_KN_standing_4 : decode b_KN_standing 4 = .ok (.iconst (-1), 1) := by decide +kernel
theorem d_KN_standing_5 : decode b_KN_standing 5 = .ok (.if_icmp .ne 5, 3) := by decide +kernel
theorem d_KN_standing_8 : decode b_KN_standing 8 = .ok (.iconst 0, 1) := by decide +kernel
theorem d_KN_standing_9 : decode b_KN_standing 9 = .ok (.ireturn, 1) := by decide +kernel
theorem d_KN_standing_10 : decode b_KN_standing 10 = .ok (.aload_n 0, 1) := by decide +kernel
theorem d_KN_standing_11 : decode b_KN_standing 11 = .ok (.getfield 15, 3) := by decide +kernel
theorem d_KN_standing_14 : decode b_KN_standing 14 = .ok (.ifCond .ne 5, 3) := by decide +kernel
theorem d_KN_standing_17 : decode b_KN_standing 17 = .ok (.iconst 1, 1) := by decide +kernel
theorem d_KN_standing_18 : decode b_KN_standing 18 = .ok (.ireturn, 1) := by decide +kernel
theorem d_KN_standing_19 : decode b_KN_standing 19 = .ok (.aload_n 0, 1) := by decide +kernel
theorem d_KN_standing_20 : decode b_KN_standing 20 = .ok (.getfield 19, 3) := by decide +kernel
theorem d_KN_standing_23 : decode b_KN_standing 23 = .ok (.ifCond .eq 7, 3) := by decide +kernel
theorem d_KN_standing_26 : decode b_KN_standing 26 = .ok (.iconst 3, 1) := by decide +kernel
theorem d_KN_standing_27 : decode b_KN_standing 27 = .ok (.goto 4, 3) := by decide +kernel
theorem d_KN_standing_30 : decode b_KN_standing 30 = .ok (.iconst 2, 1) := by decide +kernel
theorem d_KN_standing_31 : decode b_KN_standing 31 = .ok (.ireturn, 1) := by decide +kernel
theorem d_ME_init_0 : decode b_ME_init 0 = .ok (.aload_n 0, 1) := by decide +kernel
theorem d_ME_init_1 : decode b_ME_init 1 = .ok (.invokespecial 1, 3) := by decide +kernel
theorem d_ME_init_4 : decode b_ME_init 4 = .ok (.return_, 1) := by decide +kernel
theorem d_ME_copy_0 : decode b_ME_copy 0 = .ok (.aload_n 0, 1) := by decide +kernel
theorem d_ME_copy_1 : decode b_ME_copy 1 = .ok (.aload_n 1, 1) := by decide +kernel
theorem d_ME_copy_2 : decode b_ME_copy 2 = .ok (.getfield 7, 3) := by decide +kernel
theorem d_ME_copy_5 : decode b_ME_copy 5 = .ok (.putfield 7, 3) := by decide +kernel
theorem d_ME_copy_8 : decode b_ME_copy 8 = .ok (.aload_n 0, 1) := by decide +kernel
theorem d_ME_copy_9 : decode b_ME_copy 9 = .ok (.aload_n 1, 1) := by decide +kernel
theorem d_ME_copy_10 : decode b_ME_copy 10 = .ok (.getfield 13, 3) := by decide +kernel
theorem d_ME_copy_13 : decode b_ME_copy 13 = .ok (.putfield 13, 3) := by decide +kernel
theorem d_ME_copy_16 : decode b_ME_copy 16 = .ok (.aload_n 0, 1) := by decide +kernel
theorem d_ME_copy_17 : decode b_ME_copy 17 = .ok (.aload_n 1, 1) := by decide +kernel
theorem d_ME_copy_18 : decode b_ME_copy 18 = .ok (.getfield 16, 3) := by decide +kernel
theorem d_ME_copy_21 : decode b_ME_copy 21 = .ok (.putfield 16, 3) := by decide +kernel
theorem d_ME_copy_24 : decode b_ME_copy 24 = .ok (.aload_n 0, 1) := by decide +kernel
theorem d_ME_copy_25 : decode b_ME_copy 25 = .ok (.aload_n 1, 1) := by decide +kernel
theorem d_ME_copy_26 : decode b_ME_copy 26 = .ok (.getfield 19, 3) := by decide +kernel
theorem d_ME_copy_29 : decode b_ME_copy 29 = .ok (.putfield 19, 3) := by decide +kernel
theorem d_ME_copy_32 : decode b_ME_copy 32 = .ok (.aload_n 0, 1) := by decide +kernel
theorem d_ME_copy_33 : decode b_ME_copy 33 = .ok (.aload_n 1, 1) := by decide +kernel
theorem d_ME_copy_34 : decode b_ME_copy 34 = .ok (.getfield 22, 3) := by decide +kernel
theorem d_ME_copy_37 : decode b_ME_copy 37 = .ok (.putfield 22, 3) := by decide +kernel
theorem d_ME_copy_40 : decode b_ME_copy 40 = .ok (.aload_n 0, 1) := by decide +kernel
theorem d_ME_copy_41 : decode b_ME_copy 41 = .ok (.aload_n 1, 1) := by decide +kernel
theorem d_ME_copy_42 : decode b_ME_copy 42 = .ok (.getfield 25, 3) := by decide +kernel
theorem d_ME_copy_45 : decode b_ME_copy 45 = .ok (.putfield 25, 3) := by decide +kernel
theorem d_ME_copy_48 : decode b_ME_copy 48 = .ok (.aload_n 0, 1) := by decide +kernel
theorem d_ME_copy_49 : decode b_ME_copy 49 = .ok (.aload_n 1, 1) := by decide +kernel
theorem d_ME_copy_50 : decode b_ME_copy 50 = .ok (.getfield 28, 3) := by decide +kernel
theorem d_ME_copy_53 : decode b_ME_copy 53 = .ok (.putfield 28, 3) := by decide +kernel
theorem d_ME_copy_56 : decode b_ME_copy 56 = .ok (.aload_n 0, 1) := by decide +kernel
theorem d_ME_copy_57 : decode b_ME_copy 57 = .ok (.aload_n 1, 1) := by decide +kernel
theorem d_ME_copy_58 : decode b_ME_copy 58 = .ok (.getfield 31, 3) := by decide +kernel
theorem d_ME_copy_61 : decode b_ME_copy 61 = .ok (.putfield 31, 3) := by decide +kernel
theorem d_ME_copy_64 : decode b_ME_copy 64 = .ok (.return_, 1) := by decide +kernel
theorem d_ME_fact_0 : decode b_ME_fact 0 = .ok (.iload_n 1, 1) := by decide +kernel
theorem d_ME_fact_1 : decode b_ME_fact 1 = .ok (.tableswitch 51 0 3 #[31, 36, 41, 46], 31) := by decide +kernel
theorem d_ME_fact_32 : decode b_ME_fact 32 = .ok (.aload_n 0, 1) := by decide +kernel
theorem d_ME_fact_33 : decode b_ME_fact 33 = .ok (.getfield 13, 3) := by decide +kernel
theorem d_ME_fact_36 : decode b_ME_fact 36 = .ok (.ireturn, 1) := by decide +kernel
theorem d_ME_fact_37 : decode b_ME_fact 37 = .ok (.aload_n 0, 1) := by decide +kernel
theorem d_ME_fact_38 : decode b_ME_fact 38 = .ok (.getfield 16, 3) := by decide +kernel
theorem d_ME_fact_41 : decode b_ME_fact 41 = .ok (.ireturn, 1) := by decide +kernel
theorem d_ME_fact_42 : decode b_ME_fact 42 = .ok (.aload_n 0, 1) := by decide +kernel
theorem d_ME_fact_43 : decode b_ME_fact 43 = .ok (.getfield 19, 3) := by decide +kernel
theorem d_ME_fact_46 : decode b_ME_fact 46 = .ok (.ireturn, 1) := by decide +kernel
theorem d_ME_fact_47 : decode b_ME_fact 47 = .ok (.aload_n 0, 1) := by decide +kernel
theorem d_ME_fact_48 : decode b_ME_fact 48 = .ok (.getfield 22, 3) := by decide +kernel
theorem d_ME_fact_51 : decode b_ME_fact 51 = .ok (.ireturn, 1) := by decide +kernel
theorem d_ME_fact_52 : decode b_ME_fact 52 = .ok (.aload_n 0, 1) := by decide +kernel
theorem d_ME_fact_53 : decode b_ME_fact 53 = .ok (.getfield 25, 3) := by decide +kernel
theorem d_ME_fact_56 : decode b_ME_fact 56 = .ok (.ireturn, 1) := by decide +kernel
theorem d_OR_init_0 : decode b_OR_init 0 = .ok (.aload_n 0, 1) := by decide +kernel
theorem d_OR_init_1 : decode b_OR_init 1 = .ok (.invokespecial 3, 3) := by decide +kernel
theorem d_OR_init_4 : decode b_OR_init 4 = .ok (.aload_n 0, 1) := by decide +kernel
theorem d_OR_init_5 : decode b_OR_init 5 = .ok (.iconst (-1), 1) := by decide +kernel
theorem d_OR_init_6 : decode b_OR_init 6 = .ok (.putfield 9, 3) := by decide +kernel
theorem d_OR_init_9 : decode b_OR_init 9 = .ok (.return_, 1) := by decide +kernel
theorem d_OR_write_0 : decode b_OR_write 0 = .ok (.aload_n 0, 1) := by decide +kernel
theorem d_OR_write_1 : decode b_OR_write 1 = .ok (.iload_n 1, 1) := by decide +kernel
theorem d_OR_write_2 : decode b_OR_write 2 = .ok (.putfield 15, 3) := by decide +kernel
theorem d_OR_write_5 : decode b_OR_write 5 = .ok (.aload_n 0, 1) := by decide +kernel
theorem d_OR_write_6 : decode b_OR_write 6 = .ok (.iload_n 2, 1) := by decide +kernel
theorem d_OR_write_7 : decode b_OR_write 7 = .ok (.putfield 18, 3) := by decide +kernel
theorem d_OR_write_10 : decode b_OR_write 10 = .ok (.aload_n 0, 1) := by decide +kernel
theorem d_OR_write_11 : decode b_OR_write 11 = .ok (.iload_n 3, 1) := by decide +kernel
theorem d_OR_write_12 : decode b_OR_write 12 = .ok (.putfield 21, 3) := by decide +kernel
theorem d_OR_write_15 : decode b_OR_write 15 = .ok (.return_, 1) := by decide +kernel
theorem d_PO_init_0 : decode b_PO_init 0 = .ok (.aload_n 0, 1) := by decide +kernel
theorem d_PO_init_1 : decode b_PO_init 1 = .ok (.invokespecial 3, 3) := by decide +kernel
theorem d_PO_init_4 : decode b_PO_init 4 = .ok (.aload_n 0, 1) := by decide +kernel
theorem d_PO_init_5 : decode b_PO_init 5 = .ok (.bipush 65, 2) := by decide +kernel
theorem d_PO_init_7 : decode b_PO_init 7 = .ok (.anewarray 9, 3) := by decide +kernel
theorem d_PO_init_10 : decode b_PO_init 10 = .ok (.putfield 11, 3) := by decide +kernel
theorem d_PO_init_13 : decode b_PO_init 13 = .ok (.iconst 0, 1) := by decide +kernel
theorem d_PO_init_14 : decode b_PO_init 14 = .ok (.istore_n 1, 1) := by decide +kernel
theorem d_PO_init_15 : decode b_PO_init 15 = .ok (.iload_n 1, 1) := by decide +kernel
theorem d_PO_init_16 : decode b_PO_init 16 = .ok (.bipush 64, 2) := by decide +kernel
theorem d_PO_init_18 : decode b_PO_init 18 = .ok (.if_icmp .gt 22, 3) := by decide +kernel
theorem d_PO_init_21 : decode b_PO_init 21 = .ok (.aload_n 0, 1) := by decide +kernel
theorem d_PO_init_22 : decode b_PO_init 22 = .ok (.getfield 11, 3) := by decide +kernel
theorem d_PO_init_25 : decode b_PO_init 25 = .ok (.iload_n 1, 1) := by decide +kernel
theorem d_PO_init_26 : decode b_PO_init 26 = .ok (.new 9, 3) := by decide +kernel
theorem d_PO_init_29 : decode b_PO_init 29 = .ok (.dup, 1) := by decide +kernel
theorem d_PO_init_30 : decode b_PO_init 30 = .ok (.invokespecial 17, 3) := by decide +kernel
theorem d_PO_init_33 : decode b_PO_init 33 = .ok (.aastore, 1) := by decide +kernel
theorem d_PO_init_34 : decode b_PO_init 34 = .ok (.iinc 1 1, 3) := by decide +kernel
theorem d_PO_init_37 : decode b_PO_init 37 = .ok (.goto (-22), 3) := by decide +kernel
theorem d_PO_init_40 : decode b_PO_init 40 = .ok (.return_, 1) := by decide +kernel
theorem d_PO_send_0 : decode b_PO_send 0 = .ok (.aload_n 0, 1) := by decide +kernel
theorem d_PO_send_1 : decode b_PO_send 1 = .ok (.getfield 11, 3) := by decide +kernel
theorem d_PO_send_4 : decode b_PO_send 4 = .ok (.aload_n 0, 1) := by decide +kernel
theorem d_PO_send_5 : decode b_PO_send 5 = .ok (.getfield 18, 3) := by decide +kernel
theorem d_PO_send_8 : decode b_PO_send 8 = .ok (.aaload, 1) := by decide +kernel
theorem d_PO_send_9 : decode b_PO_send 9 = .ok (.astore 8, 2) := by decide +kernel
theorem d_PO_send_11 : decode b_PO_send 11 = .ok (.aload 8, 2) := by decide +kernel
theorem d_PO_send_13 : decode b_PO_send 13 = .ok (.aload_n 0, 1) := by decide +kernel
theorem d_PO_send_14 : decode b_PO_send 14 = .ok (.getfield 22, 3) := by decide +kernel
theorem d_PO_send_17 : decode b_PO_send 17 = .ok (.putfield 25, 3) := by decide +kernel
theorem d_PO_send_20 : decode b_PO_send 20 = .ok (.aload 8, 2) := by decide +kernel
theorem d_PO_send_22 : decode b_PO_send 22 = .ok (.iload_n 1, 1) := by decide +kernel
theorem d_PO_send_23 : decode b_PO_send 23 = .ok (.putfield 28, 3) := by decide +kernel
theorem d_PO_send_26 : decode b_PO_send 26 = .ok (.aload 8, 2) := by decide +kernel
theorem d_PO_send_28 : decode b_PO_send 28 = .ok (.iload_n 2, 1) := by decide +kernel
theorem d_PO_send_29 : decode b_PO_send 29 = .ok (.putfield 31, 3) := by decide +kernel
theorem d_PO_send_32 : decode b_PO_send 32 = .ok (.aload 8, 2) := by decide +kernel
theorem d_PO_send_34 : decode b_PO_send 34 = .ok (.iload_n 3, 1) := by decide +kernel
theorem d_PO_send_35 : decode b_PO_send 35 = .ok (.putfield 34, 3) := by decide +kernel
theorem d_PO_send_38 : decode b_PO_send 38 = .ok (.aload 8, 2) := by decide +kernel
theorem d_PO_send_40 : decode b_PO_send 40 = .ok (.iload 4, 2) := by decide +kernel
theorem d_PO_send_42 : decode b_PO_send 42 = .ok (.putfield 37, 3) := by decide +kernel
theorem d_PO_send_45 : decode b_PO_send 45 = .ok (.aload 8, 2) := by decide +kernel
theorem d_PO_send_47 : decode b_PO_send 47 = .ok (.iload 5, 2) := by decide +kernel
theorem d_PO_send_49 : decode b_PO_send 49 = .ok (.putfield 40, 3) := by decide +kernel
theorem d_PO_send_52 : decode b_PO_send 52 = .ok (.aload 8, 2) := by decide +kernel
theorem d_PO_send_54 : decode b_PO_send 54 = .ok (.iload 6, 2) := by decide +kernel
theorem d_PO_send_56 : decode b_PO_send 56 = .ok (.putfield 43, 3) := by decide +kernel
theorem d_PO_send_59 : decode b_PO_send 59 = .ok (.aload 8, 2) := by decide +kernel
theorem d_PO_send_61 : decode b_PO_send 61 = .ok (.iload 7, 2) := by decide +kernel
theorem d_PO_send_63 : decode b_PO_send 63 = .ok (.putfield 46, 3) := by decide +kernel
theorem d_PO_send_66 : decode b_PO_send 66 = .ok (.aload_n 0, 1) := by decide +kernel
theorem d_PO_send_67 : decode b_PO_send 67 = .ok (.dup, 1) := by decide +kernel
theorem d_PO_send_68 : decode b_PO_send 68 = .ok (.getfield 22, 3) := by decide +kernel
theorem d_PO_send_71 : decode b_PO_send 71 = .ok (.iconst 1, 1) := by decide +kernel
theorem d_PO_send_72 : decode b_PO_send 72 = .ok (.iadd, 1) := by decide +kernel
theorem d_PO_send_73 : decode b_PO_send 73 = .ok (.putfield 22, 3) := by decide +kernel
theorem d_PO_send_76 : decode b_PO_send 76 = .ok (.aload_n 0, 1) := by decide +kernel
theorem d_PO_send_77 : decode b_PO_send 77 = .ok (.getfield 18, 3) := by decide +kernel
theorem d_PO_send_80 : decode b_PO_send 80 = .ok (.bipush 64, 2) := by decide +kernel
theorem d_PO_send_82 : decode b_PO_send 82 = .ok (.if_icmp .ge 16, 3) := by decide +kernel
theorem d_PO_send_85 : decode b_PO_send 85 = .ok (.aload_n 0, 1) := by decide +kernel
theorem d_PO_send_86 : decode b_PO_send 86 = .ok (.dup, 1) := by decide +kernel
theorem d_PO_send_87 : decode b_PO_send 87 = .ok (.getfield 18, 3) := by decide +kernel
theorem d_PO_send_90 : decode b_PO_send 90 = .ok (.iconst 1, 1) := by decide +kernel
theorem d_PO_send_91 : decode b_PO_send 91 = .ok (.iadd, 1) := by decide +kernel
theorem d_PO_send_92 : decode b_PO_send 92 = .ok (.putfield 18, 3) := by decide +kernel
theorem d_PO_send_95 : decode b_PO_send 95 = .ok (.goto 13, 3) := by decide +kernel
theorem d_PO_send_98 : decode b_PO_send 98 = .ok (.aload_n 0, 1) := by decide +kernel
theorem d_PO_send_99 : decode b_PO_send 99 = .ok (.dup, 1) := by decide +kernel
theorem d_PO_send_100 : decode b_PO_send 100 = .ok (.getfield 49, 3) := by decide +kernel
theorem d_PO_send_103 : decode b_PO_send 103 = .ok (.iconst 1, 1) := by decide +kernel
theorem d_PO_send_104 : decode b_PO_send 104 = .ok (.iadd, 1) := by decide +kernel
theorem d_PO_send_105 : decode b_PO_send 105 = .ok (.putfield 49, 3) := by decide +kernel
theorem d_PO_send_108 : decode b_PO_send 108 = .ok (.return_, 1) := by decide +kernel
theorem d_PO_indexOf_0 : decode b_PO_indexOf 0 = .ok (.iconst 0, 1) := by decide +kernel
theorem d_PO_indexOf_1 : decode b_PO_indexOf 1 = .ok (.istore_n 2, 1) := by decide +kernel
theorem d_PO_indexOf_2 : decode b_PO_indexOf 2 = .ok (.iload_n 2, 1) := by decide +kernel
theorem d_PO_indexOf_3 : decode b_PO_indexOf 3 = .ok (.aload_n 0, 1) := by decide +kernel
theorem d_PO_indexOf_4 : decode b_PO_indexOf 4 = .ok (.getfield 18, 3) := by decide +kernel
theorem d_PO_indexOf_7 : decode b_PO_indexOf 7 = .ok (.if_icmp .ge 24, 3) := by decide +kernel
theorem d_PO_indexOf_10 : decode b_PO_indexOf 10 = .ok (.aload_n 0, 1) := by decide +kernel
theorem d_PO_indexOf_11 : decode b_PO_indexOf 11 = .ok (.getfield 11, 3) := by decide +kernel
theorem d_PO_indexOf_14 : decode b_PO_indexOf 14 = .ok (.iload_n 2, 1) := by decide +kernel
theorem d_PO_indexOf_15 : decode b_PO_indexOf 15 = .ok (.aaload, 1) := by decide +kernel
theorem d_PO_indexOf_16 : decode b_PO_indexOf 16 = .ok (.getfield 25, 3) := by decide +kernel
theorem d_PO_indexOf_19 : decode b_PO_indexOf 19 = .ok (.iload_n 1, 1) := by decide +kernel
theorem d_PO_indexOf_20 : decode b_PO_indexOf 20 = .ok (.if_icmp .ne 5, 3) := by decide +kernel
theorem d_PO_indexOf_23 : decode b_PO_indexOf 23 = .ok (.iload_n 2, 1) := by decide +kernel
theorem d_PO_indexOf_24 : decode b_PO_indexOf 24 = .ok (.ireturn, 1) := by decide +kernel
theorem d_PO_indexOf_25 : decode b_PO_indexOf 25 = .ok (.iinc 2 1, 3) := by decide +kernel
theorem d_PO_indexOf_28 : decode b_PO_indexOf 28 = .ok (.goto (-26), 3) := by decide +kernel
theorem d_PO_indexOf_31 : decode b_PO_indexOf 31 = .ok (.iconst (-1), 1) := by decide +kernel
theorem d_PO_indexOf_32 : decode b_PO_indexOf 32 = .ok (.ireturn, 1) := by decide +kernel
theorem d_PO_remove_0 : decode b_PO_remove 0 = .ok (.aload_n 0, 1) := by decide +kernel
theorem d_PO_remove_1 : decode b_PO_remove 1 = .ok (.getfield 11, 3) := by decide +kernel
theorem d_PO_remove_4 : decode b_PO_remove 4 = .ok (.iload_n 1, 1) := by decide +kernel
theorem d_PO_remove_5 : decode b_PO_remove 5 = .ok (.aaload, 1) := by decide +kernel
theorem d_PO_remove_6 : decode b_PO_remove 6 = .ok (.astore_n 2, 1) := by decide +kernel
theorem d_PO_remove_7 : decode b_PO_remove 7 = .ok (.iload_n 1, 1) := by decide +kernel
theorem d_PO_remove_8 : decode b_PO_remove 8 = .ok (.iconst 1, 1) := by decide +kernel
theorem d_PO_remove_9 : decode b_PO_remove 9 = .ok (.iadd, 1) := by decide +kernel
theorem d_PO_remove_10 : decode b_PO_remove 10 = .ok (.istore_n 3, 1) := by decide +kernel
theorem d_PO_remove_11 : decode b_PO_remove 11 = .ok (.iload_n 3, 1) := by decide +kernel
theorem d_PO_remove_12 : decode b_PO_remove 12 = .ok (.aload_n 0, 1) := by decide +kernel
theorem d_PO_remove_13 : decode b_PO_remove 13 = .ok (.getfield 18, 3) := by decide +kernel
theorem d_PO_remove_16 : decode b_PO_remove 16 = .ok (.if_icmp .ge 23, 3) := by decide +kernel
theorem d_PO_remove_19 : decode b_PO_remove 19 = .ok (.aload_n 0, 1) := by decide +kernel
theorem d_PO_remove_20 : decode b_PO_remove 20 = .ok (.getfield 11, 3) := by decide +kernel
theorem d_PO_remove_23 : decode b_PO_remove 23 = .ok (.iload_n 3, 1) := by decide +kernel
theorem d_PO_remove_24 : decode b_PO_remove 24 = .ok (.iconst 1, 1) := by decide +kernel
theorem d_PO_remove_25 : decode b_PO_remove 25 = .ok (.isub, 1) := by decide +kernel
theorem d_PO_remove_26 : decode b_PO_remove 26 = .ok (.aload_n 0, 1) := by decide +kernel
theorem d_PO_remove_27 : decode b_PO_remove 27 = .ok (.getfield 11, 3) := by decide +kernel
theorem d_PO_remove_30 : decode b_PO_remove 30 = .ok (.iload_n 3, 1) := by decide +kernel
theorem d_PO_remove_31 : decode b_PO_remove 31 = .ok (.aaload, 1) := by decide +kernel
theorem d_PO_remove_32 : decode b_PO_remove 32 = .ok (.aastore, 1) := by decide +kernel
theorem d_PO_remove_33 : decode b_PO_remove 33 = .ok (.iinc 3 1, 3) := by decide +kernel
theorem d_PO_remove_36 : decode b_PO_remove 36 = .ok (.goto (-25), 3) := by decide +kernel
theorem d_PO_remove_39 : decode b_PO_remove 39 = .ok (.aload_n 0, 1) := by decide +kernel
theorem d_PO_remove_40 : decode b_PO_remove 40 = .ok (.dup, 1) := by decide +kernel
theorem d_PO_remove_41 : decode b_PO_remove 41 = .ok (.getfield 18, 3) := by decide +kernel
theorem d_PO_remove_44 : decode b_PO_remove 44 = .ok (.iconst 1, 1) := by decide +kernel
theorem d_PO_remove_45 : decode b_PO_remove 45 = .ok (.isub, 1) := by decide +kernel
theorem d_PO_remove_46 : decode b_PO_remove 46 = .ok (.putfield 18, 3) := by decide +kernel
theorem d_PO_remove_49 : decode b_PO_remove 49 = .ok (.aload_n 0, 1) := by decide +kernel
theorem d_PO_remove_50 : decode b_PO_remove 50 = .ok (.getfield 11, 3) := by decide +kernel
theorem d_PO_remove_53 : decode b_PO_remove 53 = .ok (.aload_n 0, 1) := by decide +kernel
theorem d_PO_remove_54 : decode b_PO_remove 54 = .ok (.getfield 18, 3) := by decide +kernel
theorem d_PO_remove_57 : decode b_PO_remove 57 = .ok (.aload_n 2, 1) := by decide +kernel
theorem d_PO_remove_58 : decode b_PO_remove 58 = .ok (.aastore, 1) := by decide +kernel
theorem d_PO_remove_59 : decode b_PO_remove 59 = .ok (.return_, 1) := by decide +kernel
theorem d_RA_init_0 : decode b_RA_init 0 = .ok (.aload_n 0, 1) := by decide +kernel
theorem d_RA_init_1 : decode b_RA_init 1 = .ok (.invokespecial 1, 3) := by decide +kernel
theorem d_RA_init_4 : decode b_RA_init 4 = .ok (.aload_n 0, 1) := by decide +kernel
theorem d_RA_init_5 : decode b_RA_init 5 = .ok (.iconst 1, 1) := by decide +kernel
theorem d_RA_init_6 : decode b_RA_init 6 = .ok (.putfield 7, 3) := by decide +kernel
theorem d_RA_init_9 : decode b_RA_init 9 = .ok (.return_, 1) := by decide +kernel
theorem d_RA_set_0 : decode b_RA_set 0 = .ok (.aload_n 0, 1) := by decide +kernel
theorem d_RA_set_1 : decode b_RA_set 1 = .ok (.iload_n 1, 1) := by decide +kernel
theorem d_RA_set_2 : decode b_RA_set 2 = .ok (.putfield 13, 3) := by decide +kernel
theorem d_RA_set_5 : decode b_RA_set 5 = .ok (.aload_n 0, 1) := by decide +kernel
theorem d_RA_set_6 : decode b_RA_set 6 = .ok (.iload_n 2, 1) := by decide +kernel
theorem d_RA_set_7 : decode b_RA_set 7 = .ok (.putfield 16, 3) := by decide +kernel
theorem d_RA_set_10 : decode b_RA_set 10 = .ok (.aload_n 0, 1) := by decide +kernel
theorem d_RA_set_11 : decode b_RA_set 11 = .ok (.iload_n 3, 1) := by decide +kernel
theorem d_RA_set_12 : decode b_RA_set 12 = .ok (.putfield 7, 3) := by decide +kernel
theorem d_RA_set_15 : decode b_RA_set 15 = .ok (.return_, 1) := by decide +kernel
theorem d_RA_fits_0 : decode b_RA_fits 0 = .ok (.iload_n 1, 1) := by decide +kernel
theorem d_RA_fits_1 : decode b_RA_fits 1 = .ok (.aload_n 0, 1) := by decide +kernel
theorem d_RA_fits_2 : decode b_RA_fits 2 = .ok (.getfield 13, 3) := by decide +kernel
theorem d_RA_fits_5 : decode b_RA_fits 5 = .ok (.if_icmp .lt 37, 3) := by decide +kernel
theorem d_RA_fits_8 : decode b_RA_fits 8 = .ok (.iload_n 1, 1) := by decide +kernel
theorem d_RA_fits_9 : decode b_RA_fits 9 = .ok (.aload_n 0, 1) := by decide +kernel
theorem d_RA_fits_10 : decode b_RA_fits 10 = .ok (.getfield 16, 3) := by decide +kernel
theorem d_RA_fits_13 : decode b_RA_fits 13 = .ok (.if_icmp .gt 29, 3) := by decide +kernel
theorem d_RA_fits_16 : decode b_RA_fits 16 = .ok (.aload_n 0, 1) := by decide +kernel
theorem d_RA_fits_17 : decode b_RA_fits 17 = .ok (.getfield 7, 3) := by decide +kernel
theorem d_RA_fits_20 : decode b_RA_fits 20 = .ok (.iconst 1, 1) := by decide +kernel
theorem d_RA_fits_21 : decode b_RA_fits 21 = .ok (.if_icmp .lt 21, 3) := by decide +kernel
theorem d_RA_fits_24 : decode b_RA_fits 24 = .ok (.iload_n 1, 1) := by decide +kernel
theorem d_RA_fits_25 : decode b_RA_fits 25 = .ok (.aload_n 0, 1) := by decide +kernel
theorem d_RA_fits_26 : decode b_RA_fits 26 = .ok (.getfield 13, 3) := by decide +kernel
theorem d_RA_fits_29 : decode b_RA_fits 29 = .ok (.isub, 1) := by decide +kernel
theorem d_RA_fits_30 : decode b_RA_fits 30 = .ok (.aload_n 0, 1) := by decide +kernel
theorem d_RA_fits_31 : decode b_RA_fits 31 = .ok (.getfield 7, 3) := by decide +kernel
theorem d_RA_fits_34 : decode b_RA_fits 34 = .ok (.irem, 1) := by decide +kernel
theorem d_RA_fits_35 : decode b_RA_fits 35 = .ok (.ifCond .ne 7, 3) := by decide +kernel
theorem d_RA_fits_38 : decode b_RA_fits 38 = .ok (.iconst 1, 1) := by decide +kernel
theorem d_RA_fits_39 : decode b_RA_fits 39 = .ok (.goto 4, 3) := by decide +kernel
theorem d_RA_fits_42 : decode b_RA_fits 42 = .ok (.iconst 0, 1) := by decide +kernel
theorem d_RA_fits_43 : decode b_RA_fits 43 = .ok (.ireturn, 1) := by decide +kernel
theorem d_SE_init_0 : decode b_SE_init 0 = .ok (.aload_n 0, 1) := by decide +kernel
theorem d_SE_init_1 : decode b_SE_init 1 = .ok (.invokespecial 3, 3) := by decide +kernel
theorem d_SE_init_4 : decode b_SE_init 4 = .ok (.aload_n 0, 1) := by decide +kernel
theorem d_SE_init_5 : decode b_SE_init 5 = .ok (.new 9, 3) := by decide +kernel
theorem d_SE_init_8 : decode b_SE_init 8 = .ok (.dup, 1) := by decide +kernel
theorem d_SE_init_9 : decode b_SE_init 9 = .ok (.invokespecial 11, 3) := by decide +kernel
theorem d_SE_init_12 : decode b_SE_init 12 = .ok (.putfield 12, 3) := by decide +kernel
theorem d_SE_init_15 : decode b_SE_init 15 = .ok (.aload_n 0, 1) := by decide +kernel
theorem d_SE_init_16 : decode b_SE_init 16 = .ok (.iconst (-1), 1) := by decide +kernel
theorem d_SE_init_17 : decode b_SE_init 17 = .ok (.putfield 18, 3) := by decide +kernel
theorem d_SE_init_20 : decode b_SE_init 20 = .ok (.aload_n 0, 1) := by decide +kernel
theorem d_SE_init_21 : decode b_SE_init 21 = .ok (.ldc 22, 2) := by decide +kernel
theorem d_SE_init_23 : decode b_SE_init 23 = .ok (.putfield 23, 3) := by decide +kernel
theorem d_SE_init_26 : decode b_SE_init 26 = .ok (.return_, 1) := by decide +kernel
theorem d_SE_describe_0 : decode b_SE_describe 0 = .ok (.aload_n 0, 1) := by decide +kernel
theorem d_SE_describe_1 : decode b_SE_describe 1 = .ok (.iconst 1, 1) := by decide +kernel
theorem d_SE_describe_2 : decode b_SE_describe 2 = .ok (.putfield 26, 3) := by decide +kernel
theorem d_SE_describe_5 : decode b_SE_describe 5 = .ok (.aload_n 0, 1) := by decide +kernel
theorem d_SE_describe_6 : decode b_SE_describe 6 = .ok (.getfield 12, 3) := by decide +kernel
theorem d_SE_describe_9 : decode b_SE_describe 9 = .ok (.iload_n 1, 1) := by decide +kernel
theorem d_SE_describe_10 : decode b_SE_describe 10 = .ok (.iload_n 2, 1) := by decide +kernel
theorem d_SE_describe_11 : decode b_SE_describe 11 = .ok (.iload_n 3, 1) := by decide +kernel
theorem d_SE_describe_12 : decode b_SE_describe 12 = .ok (.invokevirtual 30, 3) := by decide +kernel
theorem d_SE_describe_15 : decode b_SE_describe 15 = .ok (.aload_n 0, 1) := by decide +kernel
theorem d_SE_describe_16 : decode b_SE_describe 16 = .ok (.iload_n 1, 1) := by decide +kernel
theorem d_SE_describe_17 : decode b_SE_describe 17 = .ok (.putfield 34, 3) := by decide +kernel
theorem d_SE_describe_20 : decode b_SE_describe 20 = .ok (.return_, 1) := by decide +kernel
theorem d_SE_holderAt_0 : decode b_SE_holderAt 0 = .ok (.iload_n 1, 1) := by decide +kernel
theorem d_SE_holderAt_1 : decode b_SE_holderAt 1 = .ok (.aload_n 0, 1) := by decide +kernel
theorem d_SE_holderAt_2 : decode b_SE_holderAt 2 = .ok (.getfield 23, 3) := by decide +kernel
theorem d_SE_holderAt_5 : decode b_SE_holderAt 5 = .ok (.isub, 1) := by decide +kernel
theorem d_SE_holderAt_6 : decode b_SE_holderAt 6 = .ok (.sipush 10000, 3) := by decide +kernel
theorem d_SE_holderAt_9 : decode b_SE_holderAt 9 = .ok (.if_icmp .ge 10, 3) := by decide +kernel
theorem d_SE_holderAt_12 : decode b_SE_holderAt 12 = .ok (.aload_n 0, 1) := by decide +kernel
theorem d_SE_holderAt_13 : decode b_SE_holderAt 13 = .ok (.getfield 18, 3) := by decide +kernel
theorem d_SE_holderAt_16 : decode b_SE_holderAt 16 = .ok (.goto 4, 3) := by decide +kernel
theorem d_SE_holderAt_19 : decode b_SE_holderAt 19 = .ok (.iconst (-1), 1) := by decide +kernel
theorem d_SE_holderAt_20 : decode b_SE_holderAt 20 = .ok (.ireturn, 1) := by decide +kernel
