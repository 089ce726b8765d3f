theorem d_Model_extent_24 : decode b_Model_extent 24 = .ok (.iconst 1, 1) := by decide +kernel
theorem d_Model_extent_25 : decode b_Model_extent 25 = .ok (.if_icmp .ne 5, 3) := by decide +kernel
theorem d_Model_extent_28 : decode b_Model_extent 28 = .ok (.iconst 1, 1) := by decide +kernel
theorem d_Model_extent_29 : decode b_Model_extent 29 = .ok (.ireturn, 1) := by decide +kernel
theorem d_Model_extent_30 : decode b_Model_extent 30 = .ok (.aload_n 0, 1) := by decide +kernel
theorem d_Model_extent_31 : decode b_Model_extent 31 = .ok (.getfield 37, 3) := by decide +kernel
theorem d_Model_extent_34 : decode b_Model_extent 34 = .ok (.iload_n 1, 1) := by decide +kernel
theorem d_Model_extent_35 : decode b_Model_extent 35 = .ok (.iaload, 1) := by decide +kernel
theorem d_Model_extent_36 : decode b_Model_extent 36 = .ok (.iconst 3, 1) := by decide +kernel
theorem d_Model_extent_37 : decode b_Model_extent 37 = .ok (.if_icmp .ne 40, 3) := by decide +kernel
theorem d_Model_extent_40 : decode b_Model_extent 40 = .ok (.aload_n 0, 1) := by decide +kernel
theorem d_Model_extent_41 : decode b_Model_extent 41 = .ok (.getfield 40, 3) := by decide +kernel
theorem d_Model_extent_44 : decode b_Model_extent 44 = .ok (.iload_n 1, 1) := by decide +kernel
theorem d_Model_extent_45 : decode b_Model_extent 45 = .ok (.laload, 1) := by decide +kernel
theorem d_Model_extent_46 : decode b_Model_extent 46 = .ok (.ldc2_w 222, 3) := by decide +kernel
theorem d_Model_extent_49 : decode b_Model_extent 49 = .ok (.lcmp, 1) := by decide +kernel
theorem d_Model_extent_50 : decode b_Model_extent 50 = .ok (.ifCond .eq 16, 3) := by decide +kernel
theorem d_Model_extent_53 : decode b_Model_extent 53 = .ok (.aload_n 0, 1) := by decide +kernel
theorem d_Model_extent_54 : decode b_Model_extent 54 = .ok (.getfield 40, 3) := by decide +kernel
theorem d_Model_extent_57 : decode b_Model_extent 57 = .ok (.iload_n 1, 1) := by decide +kernel
theorem d_Model_extent_58 : decode b_Model_extent 58 = .ok (.laload, 1) := by decide +kernel
theorem d_Model_extent_59 : decode b_Model_extent 59 = .ok (.ldc2_w 224, 3) := by decide +kernel
theorem d_Model_extent_62 : decode b_Model_extent 62 = .ok (.lcmp, 1) := by decide +kernel
theorem d_Model_extent_63 : decode b_Model_extent 63 = .ok (.ifCond .ne 14, 3) := by decide +kernel
theorem d_Model_extent_66 : decode b_Model_extent 66 = .ok (.aload_n 0, 1) := by decide +kernel
theorem d_Model_extent_67 : decode b_Model_extent 67 = .ok (.getfield 49, 3) := by decide +kernel
theorem d_Model_extent_70 : decode b_Model_extent 70 = .ok (.iload_n 1, 1) := by decide +kernel
theorem d_Model_extent_71 : decode b_Model_extent 71 = .ok (.iaload, 1) := by decide +kernel
theorem d_Model_extent_72 : decode b_Model_extent 72 = .ok (.iload_n 1, 1) := by decide +kernel
theorem d_Model_extent_73 : decode b_Model_extent 73 = .ok (.isub, 1) := by decide +kernel
theorem d_Model_extent_74 : decode b_Model_extent 74 = .ok (.iconst 1, 1) := by decide +kernel
theorem d_Model_extent_75 : decode b_Model_extent 75 = .ok (.iadd, 1) := by decide +kernel
theorem d_Model_extent_76 : decode b_Model_extent 76 = .ok (.ireturn, 1) := by decide +kernel
theorem d_Model_extent_77 : decode b_Model_extent 77 = .ok (.aload_n 0, 1) := by decide +kernel
theorem d_Model_extent_78 : decode b_Model_extent 78 = .ok (.getfield 37, 3) := by decide +kernel
theorem d_Model_extent_81 : decode b_Model_extent 81 = .ok (.iload_n 1, 1) := by decide +kernel
theorem d_Model_extent_82 : decode b_Model_extent 82 = .ok (.iaload, 1) := by decide +kernel
theorem d_Model_extent_83 : decode b_Model_extent 83 = .ok (.iconst 2, 1) := by decide +kernel
theorem d_Model_extent_84 : decode b_Model_extent 84 = .ok (.if_icmp .ne 21, 3) := by decide +kernel
theorem d_Model_extent_87 : decode b_Model_extent 87 = .ok (.aload_n 0, 1) := by decide +kernel
theorem d_Model_extent_88 : decode b_Model_extent 88 = .ok (.getfield 40, 3) := by decide +kernel
theorem d_Model_extent_91 : decode b_Model_extent 91 = .ok (.iload_n 1, 1) := by decide +kernel
theorem d_Model_extent_92 : decode b_Model_extent 92 = .ok (.laload, 1) := by decide +kernel
theorem d_Model_extent_93 : decode b_Model_extent 93 = .ok (.invokestatic 287, 3) := by decide +kernel
theorem d_Model_extent_96 : decode b_Model_extent 96 = .ok (.ifCond .eq 7, 3) := by decide +kernel
theorem d_Model_extent_99 : decode b_Model_extent 99 = .ok (.iconst 0, 1) := by decide +kernel
theorem d_Model_extent_100 : decode b_Model_extent 100 = .ok (.goto 4, 3) := by decide +kernel
theorem d_Model_extent_103 : decode b_Model_extent 103 = .ok (.iconst 1, 1) := by decide +kernel
theorem d_Model_extent_104 : decode b_Model_extent 104 = .ok (.ireturn, 1) := by decide +kernel
theorem d_Model_extent_105 : decode b_Model_extent 105 = .ok (.aload_n 0, 1) := by decide +kernel
theorem d_Model_extent_106 : decode b_Model_extent 106 = .ok (.iload_n 1, 1) := by decide +kernel
theorem d_Model_extent_107 : decode b_Model_extent 107 = .ok (.invokevirtual 290, 3) := by decide +kernel
theorem d_Model_extent_110 : decode b_Model_extent 110 = .ok (.ifCond .eq 27, 3) := by decide +kernel
theorem d_Model_extent_113 : decode b_Model_extent 113 = .ok (.aload_n 0, 1) := by decide +kernel
theorem d_Model_extent_114 : decode b_Model_extent 114 = .ok (.iload_n 1, 1) := by decide +kernel
theorem d_Model_extent_115 : decode b_Model_extent 115 = .ok (.iconst 1, 1) := by decide +kernel
theorem d_Model_extent_116 : decode b_Model_extent 116 = .ok (.iadd, 1) := by decide +kernel
theorem d_Model_extent_117 : decode b_Model_extent 117 = .ok (.invokevirtual 284, 3) := by decide +kernel
theorem d_Model_extent_120 : decode b_Model_extent 120 = .ok (.ifCond .eq 17, 3) := by decide +kernel
theorem d_Model_extent_123 : decode b_Model_extent 123 = .ok (.aload_n 0, 1) := by decide +kernel
theorem d_Model_extent_124 : decode b_Model_extent 124 = .ok (.iload_n 1, 1) := by decide +kernel
theorem d_Model_extent_125 : decode b_Model_extent 125 = .ok (.iconst 2, 1) := by decide +kernel
theorem d_Model_extent_126 : decode b_Model_extent 126 = .ok (.iadd, 1) := by decide +kernel
theorem d_Model_extent_127 : decode b_Model_extent 127 = .ok (.invokevirtual 290, 3) := by decide +kernel
theorem d_Model_extent_130 : decode b_Model_extent 130 = .ok (.ifCond .eq 7, 3) := by decide +kernel
theorem d_Model_extent_133 : decode b_Model_extent 133 = .ok (.iconst 3, 1) := by decide +kernel
theorem d_Model_extent_134 : decode b_Model_extent 134 = .ok (.goto 4, 3) := by decide +kernel
theorem d_Model_extent_137 : decode b_Model_extent 137 = .ok (.iconst 0, 1) := by decide +kernel
theorem d_Model_extent_138 : decode b_Model_extent 138 = .ok (.ireturn, 1) := by decide +kernel
theorem d_Model_operation_0 : decode b_Model_operation 0 = .ok (.aload_n 0, 1) := by decide +kernel
theorem d_Model_operation_1 : decode b_Model_operation 1 = .ok (.getfield 37, 3) := by decide +kernel
theorem d_Model_operation_4 : decode b_Model_operation 4 = .ok (.iload_n 1, 1) := by decide +kernel
theorem d_Model_operation_5 : decode b_Model_operation 5 = .ok (.iaload, 1) := by decide +kernel
theorem d_Model_operation_6 : decode b_Model_operation 6 = .ok (.iconst 2, 1) := by decide +kernel
theorem d_Model_operation_7 : decode b_Model_operation 7 = .ok (.if_icmp .eq 11, 3) := by decide +kernel
theorem d_Model_operation_10 : decode b_Model_operation 10 = .ok (.aload_n 0, 1) := by decide +kernel
theorem d_Model_operation_11 : decode b_Model_operation 11 = .ok (.iload_n 1, 1) := by decide +kernel
theorem d_Model_operation_12 : decode b_Model_operation 12 = .ok (.invokevirtual 290, 3) := by decide +kernel
theorem d_Model_operation_15 : decode b_Model_operation 15 = .ok (.ifCond .eq 7, 3) := by decide +kernel
theorem d_Model_operation_18 : decode b_Model_operation 18 = .ok (.iconst 1, 1) := by decide +kernel
theorem d_Model_operation_19 : decode b_Model_operation 19 = .ok (.goto 4, 3) := by decide +kernel
theorem d_Model_operation_22 : decode b_Model_operation 22 = .ok (.iconst 0, 1) := by decide +kernel
theorem d_Model_operation_23 : decode b_Model_operation 23 = .ok (.ireturn, 1) := by decide +kernel
theorem d_Model_core_0 : decode b_Model_core 0 = .ok (.aload_n 0, 1) := by decide +kernel
theorem d_Model_core_1 : decode b_Model_core 1 = .ok (.iload_n 1, 1) := by decide +kernel
theorem d_Model_core_2 : decode b_Model_core 2 = .ok (.invokevirtual 290, 3) := by decide +kernel
theorem d_Model_core_5 : decode b_Model_core 5 = .ok (.ifCond .eq 9, 3) := by decide +kernel
theorem d_Model_core_8 : decode b_Model_core 8 = .ok (.iload_n 1, 1) := by decide +kernel
theorem d_Model_core_9 : decode b_Model_core 9 = .ok (.iconst 1, 1) := by decide +kernel
theorem d_Model_core_10 : decode b_Model_core 10 = .ok (.iadd, 1) := by decide +kernel
theorem d_Model_core_11 : decode b_Model_core 11 = .ok (.goto 4, 3) := by decide +kernel
theorem d_Model_core_14 : decode b_Model_core 14 = .ok (.iload_n 1, 1) := by decide +kernel
theorem d_Model_core_15 : decode b_Model_core 15 = .ok (.ireturn, 1) := by decide +kernel
theorem d_Model_dash_0 : decode b_Model_dash 0 = .ok (.aload_n 0, 1) := by decide +kernel
theorem d_Model_dash_1 : decode b_Model_dash 1 = .ok (.getfield 37, 3) := by decide +kernel
theorem d_Model_dash_4 : decode b_Model_dash 4 = .ok (.aload_n 0, 1) := by decide +kernel
theorem d_Model_dash_5 : decode b_Model_dash 5 = .ok (.getfield 70, 3) := by decide +kernel
theorem d_Model_dash_8 : decode b_Model_dash 8 = .ok (.iload_n 1, 1) := by decide +kernel
theorem d_Model_dash_9 : decode b_Model_dash 9 = .ok (.iaload, 1) := by decide +kernel
theorem d_Model_dash_10 : decode b_Model_dash 10 = .ok (.iaload, 1) := by decide +kernel
theorem d_Model_dash_11 : decode b_Model_dash 11 = .ok (.iconst 2, 1) := by decide +kernel
theorem d_Model_dash_12 : decode b_Model_dash 12 = .ok (.if_icmp .ne 25, 3) := by decide +kernel
theorem d_Model_dash_15 : decode b_Model_dash 15 = .ok (.aload_n 0, 1) := by decide +kernel
theorem d_Model_dash_16 : decode b_Model_dash 16 = .ok (.getfield 40, 3) := by decide +kernel
theorem d_Model_dash_19 : decode b_Model_dash 19 = .ok (.aload_n 0, 1) := by decide +kernel
theorem d_Model_dash_20 : decode b_Model_dash 20 = .ok (.getfield 70, 3) := by decide +kernel
theorem d_Model_dash_23 : decode b_Model_dash 23 = .ok (.iload_n 1, 1) := by decide +kernel
theorem d_Model_dash_24 : decode b_Model_dash 24 = .ok (.iaload, 1) := by decide +kernel
theorem d_Model_dash_25 : decode b_Model_dash 25 = .ok (.laload, 1) := by decide +kernel
theorem d_Model_dash_26 : decode b_Model_dash 26 = .ok (.ldc2_w 293, 3) := by decide +kernel
theorem d_Model_dash_29 : decode b_Model_dash 29 = .ok (.lcmp, 1) := by decide +kernel
theorem d_Model_dash_30 : decode b_Model_dash 30 = .ok (.ifCond .ne 7, 3) := by decide +kernel
theorem d_Model_dash_33 : decode b_Model_dash 33 = .ok (.iconst 1, 1) := by decide +kernel
theorem d_Model_dash_34 : decode b_Model_dash 34 = .ok (.goto 4, 3) := by decide +kernel
theorem d_Model_dash_37 : decode b_Model_dash 37 = .ok (.iconst 0, 1) := by decide +kernel
theorem d_Model_dash_38 : decode b_Model_dash 38 = .ok (.ireturn, 1) := by decide +kernel
theorem d_Model_collect_0 : decode b_Model_collect 0 = .ok (.aload_n 0, 1) := by decide +kernel
theorem d_Model_collect_1 : decode b_Model_collect 1 = .ok (.iconst 0, 1) := by decide +kernel
theorem d_Model_collect_2 : decode b_Model_collect 2 = .ok (.putfield 295, 3) := by decide +kernel
theorem d_Model_collect_5 : decode b_Model_collect 5 = .ok (.iload_n 1, 1) := by decide +kernel
theorem d_Model_collect_6 : decode b_Model_collect 6 = .ok (.istore_n 2, 1) := by decide +kernel
theorem d_Model_collect_7 : decode b_Model_collect 7 = .ok (.aload_n 0, 1) := by decide +kernel
theorem d_Model_collect_8 : decode b_Model_collect 8 = .ok (.iload_n 2, 1) := by decide +kernel
theorem d_Model_collect_9 : decode b_Model_collect 9 = .ok (.invokevirtual 298, 3) := by decide +kernel
theorem d_Model_collect_12 : decode b_Model_collect 12 = .ok (.istore_n 3, 1) := by decide +kernel
theorem d_Model_collect_13 : decode b_Model_collect 13 = .ok (.iload_n 3, 1) := by decide +kernel
theorem d_Model_collect_14 : decode b_Model_collect 14 = .ok (.ifCond .le 170, 3) := by decide +kernel
theorem d_Model_collect_17 : decode b_Model_collect 17 = .ok (.aload_n 0, 1) := by decide +kernel
theorem d_Model_collect_18 : decode b_Model_collect 18 = .ok (.iload_n 2, 1) := by decide +kernel
theorem d_Model_collect_19 : decode b_Model_collect 19 = .ok (.invokevirtual 301, 3) := by decide +kernel
theorem d_Model_collect_22 : decode b_Model_collect 22 = .ok (.istore 4, 2) := by decide +kernel
theorem d_Model_collect_24 : decode b_Model_collect 24 = .ok (.aload_n 0, 1) := by decide +kernel
theorem d_Model_collect_25 : decode b_Model_collect 25 = .ok (.getfield 52, 3) := by decide +kernel
theorem d_Model_collect_28 : decode b_Model_collect 28 = .ok (.iload_n 2, 1) := by decide +kernel
theorem d_Model_collect_29 : decode b_Model_collect 29 = .ok (.iconst 1, 1) := by decide +kernel
theorem d_Model_collect_30 : decode b_Model_collect 30 = .ok (.bastore, 1) := by decide +kernel
theorem d_Model_collect_31 : decode b_Model_collect 31 = .ok (.aload_n 0, 1) := by decide +kernel
theorem d_Model_collect_32 : decode b_Model_collect 32 = .ok (.getfield 52, 3) := by decide +kernel
theorem d_Model_collect_35 : decode b_Model_collect 35 = .ok (.iload_n 2, 1) := by decide +kernel
theorem d_Model_collect_36 : decode b_Model_collect 36 = .ok (.iload_n 3, 1) := by decide +kernel
theorem d_Model_collect_37 : decode b_Model_collect 37 = .ok (.iadd, 1) := by decide +kernel
theorem d_Model_collect_38 : decode b_Model_collect 38 = .ok (.iconst 1, 1) := by decide +kernel
theorem d_Model_collect_39 : decode b_Model_collect 39 = .ok (.isub, 1) := by decide +kernel
theorem d_Model_collect_40 : decode b_Model_collect 40 = .ok (.iconst 1, 1) := by decide +kernel
theorem d_Model_collect_41 : decode b_Model_collect 41 = .ok (.bastore, 1) := by decide +kernel
theorem d_Model_collect_42 : decode b_Model_collect 42 = .ok (.iload 4, 2) := by decide +kernel
theorem d_Model_collect_44 : decode b_Model_collect 44 = .ok (.ifCond .eq 17, 3) := by decide +kernel
theorem d_Model_collect_47 : decode b_Model_collect 47 = .ok (.iload_n 3, 1) := by decide +kernel
theorem d_Model_collect_48 : decode b_Model_collect 48 = .ok (.iconst 3, 1) := by decide +kernel
theorem d_Model_collect_49 : decode b_Model_collect 49 = .ok (.if_icmp .ne 12, 3) := by decide +kernel
theorem d_Model_collect_52 : decode b_Model_collect 52 = .ok (.aload_n 0, 1) := by decide +kernel
theorem d_Model_collect_53 : decode b_Model_collect 53 = .ok (.getfield 52, 3) := by decide +kernel
theorem d_Model_collect_56 : decode b_Model_collect 56 = .ok (.iload_n 2, 1) := by decide +kernel
theorem d_Model_collect_57 : decode b_Model_collect 57 = .ok (.iconst 1, 1) := by decide +kernel
theorem d_Model_collect_58 : decode b_Model_collect 58 = .ok (.iadd, 1) := by decide +kernel
theorem d_Model_collect_59 : decode b_Model_collect 59 = .ok (.iconst 1, 1) := by decide +kernel
theorem d_Model_collect_60 : decode b_Model_collect 60 = .ok (.bastore, 1) := by decide +kernel
theorem d_Model_collect_61 : decode b_Model_collect 61 = .ok (.iload 4, 2) := by decide +kernel
theorem d_Model_collect_63 : decode b_Model_collect 63 = .ok (.ifCond .ne 28, 3) := by decide +kernel
theorem d_Model_collect_66 : decode b_Model_collect 66 = .ok (.aload_n 0, 1) := by decide +kernel
theorem d_Model_collect_67 : decode b_Model_collect 67 = .ok (.getfield 295, 3) := by decide +kernel
theorem d_Model_collect_70 : decode b_Model_collect 70 = .ok (.ifCond .le 21, 3) := by decide +kernel
theorem d_Model_collect_73 : decode b_Model_collect 73 = .ok (.aload_n 0, 1) := by decide +kernel
theorem d_Model_collect_74 : decode b_Model_collect 74 = .ok (.getfield 76, 3) := by decide +kernel
theorem d_Model_collect_77 : decode b_Model_collect 77 = .ok (.aload_n 0, 1) := by decide +kernel
theorem d_Model_collect_78 : decode b_Model_collect 78 = .ok (.getfield 295, 3) := by decide +kernel
theorem d_Model_collect_81 : decode b_Model_collect 81 = .ok (.iconst 1, 1) := by decide +kernel
theorem d_Model_collect_82 : decode b_Model_collect 82 = .ok (.isub, 1) := by decide +kernel
theorem d_Model_collect_83 : decode b_Model_collect 83 = .ok (.iaload, 1) := by decide +kernel
theorem d_Model_collect_84 : decode b_Model_collect 84 = .ok (.ifCond .ne 7, 3) := by decide +kernel
theorem d_Model_collect_87 : decode b_Model_collect 87 = .ok (.iconst 1, 1) := by decide +kernel
theorem d_Model_collect_88 : decode b_Model_collect 88 = .ok (.goto 4, 3) := by decide +kernel
theorem d_Model_collect_91 : decode b_Model_collect 91 = .ok (.iconst 0, 1) := by decide +kernel
theorem d_Model_collect_92 : decode b_Model_collect 92 = .ok (.istore 5, 2) := by decide +kernel
theorem d_Model_collect_94 : decode b_Model_collect 94 = .ok (.iload 5, 2) := by decide +kernel
theorem d_Model_collect_96 : decode b_Model_collect 96 = .ok (.ifCond .eq 22, 3) := by decide +kernel
theorem d_Model_collect_99 : decode b_Model_collect 99 = .ok (.aload_n 0, 1) := by decide +kernel
theorem d_Model_collect_100 : decode b_Model_collect 100 = .ok (.getfield 73, 3) := by decide +kernel
theorem d_Model_collect_103 : decode b_Model_collect 103 = .ok (.aload_n 0, 1) := by decide +kernel
theorem d_Model_collect_104 : decode b_Model_collect 104 = .ok (.getfield 295, 3) := by decide +kernel
theorem d_Model_collect_107 : decode b_Model_collect 107 = .ok (.iconst 1, 1) := by decide +kernel
theorem d_Model_collect_108 : decode b_Model_collect 108 = .ok (.isub, 1) := by decide +kernel
theorem d_Model_collect_109 : decode b_Model_collect 109 = .ok (.iload_n 2, 1) := by decide +kernel
theorem d_Model_collect_110 : decode b_Model_collect 110 = .ok (.iload_n 3, 1) := by decide +kernel
theorem d_Model_collect_111 : decode b_Model_collect 111 = .ok (.iadd, 1) := by decide +kernel
theorem d_Model_collect_112 : decode b_Model_collect 112 = .ok (.iconst 1, 1) := by decide +kernel
theorem d_Model_collect_113 : decode b_Model_collect 113 = .ok (.isub, 1) := by decide +kernel
theorem d_Model_collect_114 : decode b_Model_collect 114 = .ok (.iastore, 1) := by decide +kernel
theorem d_Model_collect_115 : decode b_Model_collect 115 = .ok (.goto 56, 3) := by decide +kernel
theorem d_Model_collect_118 : decode b_Model_collect 118 = .ok (.aload_n 0, 1) := by decide +kernel
theorem d_Model_collect_119 : decode b_Model_collect 119 = .ok (.getfield 70, 3) := by decide +kernel
theorem d_Model_collect_122 : decode b_Model_collect 122 = .ok (.aload_n 0, 1) := by decide +kernel
theorem d_Model_collect_123 : decode b_Model_collect 123 = .ok (.getfield 295, 3) := by decide +kernel
theorem d_Model_collect_126 : decode b_Model_collect 126 = .ok (.iload_n 2, 1) := by decide +kernel
theorem d_Model_collect_127 : decode b_Model_collect 127 = .ok (.iastore, 1) := by decide +kernel
theorem d_Model_collect_128 : decode b_Model_collect 128 = .ok (.aload_n 0, 1) := by decide +kernel
theorem d_Model_collect_129 : decode b_Model_collect 129 = .ok (.getfield 73, 3) := by decide +kernel
theorem d_Model_collect_132 : decode b_Model_collect 132 = .ok (.aload_n 0, 1) := by decide +kernel
theorem d_Model_collect_133 : decode b_Model_collect 133 = .ok (.getfield 295, 3) := by decide +kernel
theorem d_Model_collect_136 : decode b_Model_collect 136 = .ok (.iload_n 2, 1) := by decide +kernel
theorem d_Model_collect_137 : decode b_Model_collect 137 = .ok (.iload_n 3, 1) := by decide +kernel
theorem d_Model_collect_138 : decode b_Model_collect 138 = .ok (.iadd, 1) := by decide +kernel
theorem d_Model_collect_139 : decode b_Model_collect 139 = .ok (.iconst 1, 1) := by decide +kernel
theorem d_Model_collect_140 : decode b_Model_collect 140 = .ok (.isub, 1) := by decide +kernel
theorem d_Model_collect_141 : decode b_Model_collect 141 = .ok (.iastore, 1) := by decide +kernel
theorem d_Model_collect_142 : decode b_Model_collect 142 = .ok (.aload_n 0, 1) := by decide +kernel
theorem d_Model_collect_143 : decode b_Model_collect 143 = .ok (.getfield 76, 3) := by decide +kernel
theorem d_Model_collect_146 : decode b_Model_collect 146 = .ok (.aload_n 0, 1) := by decide +kernel
theorem d_Model_collect_147 : decode b_Model_collect 147 = .ok (.getfield 295, 3) := by decide +kernel
theorem d_Model_collect_150 : decode b_Model_collect 150 = .ok (.iload 4, 2) := by decide +kernel
theorem d_Model_collect_152 : decode b_Model_collect 152 = .ok (.ifCond .eq 7, 3) := by decide +kernel
theorem d_Model_collect_155 : decode b_Model_collect 155 = .ok (.iconst 1, 1) := by decide +kernel
theorem d_Model_collect_156 : decode b_Model_collect 156 = .ok (.goto 4, 3) := by decide +kernel
theorem d_Model_collect_159 : decode b_Model_collect 159 = .ok (.iconst 0, 1) := by decide +kernel
theorem d_Model_collect_160 : decode b_Model_collect 160 = .ok (.iastore, 1) := by decide +kernel
theorem d_Model_collect_161 : decode b_Model_collect 161 = .ok (.aload_n 0, 1) := by decide +kernel
theorem d_Model_collect_162 : decode b_Model_collect 162 = .ok (.dup, 1) := by decide +kernel
theorem d_Model_collect_163 : decode b_Model_collect 163 = .ok (.getfield 295, 3) := by decide +kernel
theorem d_Model_collect_166 : decode b_Model_collect 166 = .ok (.iconst 1, 1) := by decide +kernel
theorem d_Model_collect_167 : decode b_Model_collect 167 = .ok (.iadd, 1) := by decide +kernel
theorem d_Model_collect_168 : decode b_Model_collect 168 = .ok (.putfield 295, 3) := by decide +kernel
theorem d_Model_collect_171 : decode b_Model_collect 171 = .ok (.iload_n 2, 1) := by decide +kernel
theorem d_Model_collect_172 : decode b_Model_collect 172 = .ok (.iload_n 3, 1) := by decide +kernel
theorem d_Model_collect_173 : decode b_Model_collect 173 = .ok (.iadd, 1) := by decide +kernel
theorem d_Model_collect_174 : decode b_Model_collect 174 = .ok (.istore_n 2, 1) := by decide +kernel
theorem d_Model_collect_175 : decode b_Model_collect 175 = .ok (.aload_n 0, 1) := by decide +kernel
theorem d_Model_collect_176 : decode b_Model_collect 176 = .ok (.iload_n 2, 1) := by decide +kernel
theorem d_Model_collect_177 : decode b_Model_collect 177 = .ok (.invokevirtual 298, 3) := by decide +kernel
theorem d_Model_collect_180 : decode b_Model_collect 180 = .ok (.istore_n 3, 1) := by decide +kernel
theorem d_Model_collect_181 : decode b_Model_collect 181 = .ok (.goto (-168), 3) := by decide +kernel
theorem d_Model_collect_184 : decode b_Model_collect 184 = .ok (.return_, 1) := by decide +kernel
theorem d_Model_regular_0 : decode b_Model_regular 0 = .ok (.iconst 0, 1) := by decide +kernel
theorem d_Model_regular_1 : decode b_Model_regular 1 = .ok (.istore_n 1, 1) := by decide +kernel
theorem d_Model_regular_2 : decode b_Model_regular 2 = .ok (.aload_n 0, 1) := by decide +kernel
theorem d_Model_regular_3 : decode b_Model_regular 3 = .ok (.getfield 76, 3) := by decide +kernel
theorem d_Model_regular_6 : decode b_Model_regular 6 = .ok (.aload_n 0, 1) := by decide +kernel
theorem d_Model_regular_7 : decode b_Model_regular 7 = .ok (.getfield 295, 3) := by decide +kernel
theorem d_Model_regular_10 : decode b_Model_regular 10 = .ok (.iconst 1, 1) := by decide +kernel
theorem d_Model_regular_11 : decode b_Model_regular 11 = .ok (.isub, 1) := by decide +kernel
theorem d_Model_regular_12 : decode b_Model_regular 12 = .ok (.iaload, 1) := by decide +kernel
theorem d_Model_regular_13 : decode b_Model_regular 13 = .ok (.ifCond .ne 7, 3) := by decide +kernel
theorem d_Model_regular_16 : decode b_Model_regular 16 = .ok (.iconst 1, 1) := by decide +kernel
theorem d_Model_regular_17 : decode b_Model_regular 17 = .ok (.goto 4, 3) := by decide +kernel
theorem d_Model_regular_20 : decode b_Model_regular 20 = .ok (.iconst 0, 1) := by decide +kernel
theorem d_Model_regular_21 : decode b_Model_regular 21 = .ok (.istore_n 2, 1) := by decide +kernel
theorem d_Model_regular_22 : decode b_Model_regular 22 = .ok (.iconst 0, 1) := by decide +kernel
theorem d_Model_regular_23 : decode b_Model_regular 23 = .ok (.istore_n 3, 1) := by decide +kernel
theorem d_Model_regular_24 : decode b_Model_regular 24 = .ok (.iload_n 3, 1) := by decide +kernel
theorem d_Model_regular_25 : decode b_Model_regular 25 = .ok (.aload_n 0, 1) := by decide +kernel
theorem d_Model_regular_26 : decode b_Model_regular 26 = .ok (.getfield 295, 3) := by decide +kernel
