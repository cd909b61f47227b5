theorem dX5_readDigits_29 : decode cX5_readDigits 29 = .ok (.bipush 6, 2) := by decide +kernel
theorem dX5_readDigits_31 : decode cX5_readDigits 31 = .ok (.idiv, 1) := by decide +kernel
theorem dX5_readDigits_32 : decode cX5_readDigits 32 = .ok (.istore_n 2, 1) := by decide +kernel
theorem dX5_readDigits_33 : decode cX5_readDigits 33 = .ok (.aload_n 0, 1) := by decide +kernel
theorem dX5_readDigits_34 : decode cX5_readDigits 34 = .ok (.getfield 25, 3) := by decide +kernel
theorem dX5_readDigits_37 : decode cX5_readDigits 37 = .ok (.iload 4, 2) := by decide +kernel
theorem dX5_readDigits_39 : decode cX5_readDigits 39 = .ok (.iaload, 1) := by decide +kernel
theorem dX5_readDigits_40 : decode cX5_readDigits 40 = .ok (.iconst 4, 1) := by decide +kernel
theorem dX5_readDigits_41 : decode cX5_readDigits 41 = .ok (.if_icmp .ne 6, 3) := by decide +kernel
theorem dX5_readDigits_44 : decode cX5_readDigits 44 = .ok (.iinc 3 1, 3) := by decide +kernel
theorem dX5_readDigits_47 : decode cX5_readDigits 47 = .ok (.iinc 4 1, 3) := by decide +kernel
theorem dX5_readDigits_50 : decode cX5_readDigits 50 = .ok (.goto (-39), 3) := by decide +kernel
theorem dX5_readDigits_53 : decode cX5_readDigits 53 = .ok (.iload_n 3, 1) := by decide +kernel
theorem dX5_readDigits_54 : decode cX5_readDigits 54 = .ok (.ireturn, 1) := by decide +kernel
theorem dX5_offer_0 : decode cX5_offer 0 = .ok (.iload_n 1, 1) := by decide +kernel
theorem dX5_offer_1 : decode cX5_offer 1 = .ok (.ifCond .lt 21, 3) := by decide +kernel
theorem dX5_offer_4 : decode cX5_offer 4 = .ok (.iload_n 1, 1) := by decide +kernel
theorem dX5_offer_5 : decode cX5_offer 5 = .ok (.sipush 6480, 3) := by decide +kernel
theorem dX5_offer_8 : decode cX5_offer 8 = .ok (.if_icmp .ge 14, 3) := by decide +kernel
theorem dX5_offer_11 : decode cX5_offer 11 = .ok (.iload_n 2, 1) := by decide +kernel
theorem dX5_offer_12 : decode cX5_offer 12 = .ok (.ifCond .lt 10, 3) := by decide +kernel
theorem dX5_offer_15 : decode cX5_offer 15 = .ok (.iload_n 2, 1) := by decide +kernel
theorem dX5_offer_16 : decode cX5_offer 16 = .ok (.sipush 256, 3) := by decide +kernel
theorem dX5_offer_19 : decode cX5_offer 19 = .ok (.if_icmp .lt 4, 3) := by decide +kernel
theorem dX5_offer_22 : decode cX5_offer 22 = .ok (.return_, 1) := by decide +kernel
theorem dX5_offer_23 : decode cX5_offer 23 = .ok (.aload_n 0, 1) := by decide +kernel
theorem dX5_offer_24 : decode cX5_offer 24 = .ok (.iload_n 1, 1) := by decide +kernel
theorem dX5_offer_25 : decode cX5_offer 25 = .ok (.aload_n 0, 1) := by decide +kernel
theorem dX5_offer_26 : decode cX5_offer 26 = .ok (.getfield 32, 3) := by decide +kernel
theorem dX5_offer_29 : decode cX5_offer 29 = .ok (.invokevirtual 43, 3) := by decide +kernel
theorem dX5_offer_32 : decode cX5_offer 32 = .ok (.istore_n 3, 1) := by decide +kernel
theorem dX5_offer_33 : decode cX5_offer 33 = .ok (.iload_n 2, 1) := by decide +kernel
theorem dX5_offer_34 : decode cX5_offer 34 = .ok (.iload_n 3, 1) := by decide +kernel
theorem dX5_offer_35 : decode cX5_offer 35 = .ok (.if_icmp .lt 4, 3) := by decide +kernel
theorem dX5_offer_38 : decode cX5_offer 38 = .ok (.return_, 1) := by decide +kernel
theorem dX5_offer_39 : decode cX5_offer 39 = .ok (.iload_n 3, 1) := by decide +kernel
theorem dX5_offer_40 : decode cX5_offer 40 = .ok (.sipush 256, 3) := by decide +kernel
theorem dX5_offer_43 : decode cX5_offer 43 = .ok (.if_icmp .ge 9, 3) := by decide +kernel
theorem dX5_offer_46 : decode cX5_offer 46 = .ok (.aload_n 0, 1) := by decide +kernel
theorem dX5_offer_47 : decode cX5_offer 47 = .ok (.iload_n 1, 1) := by decide +kernel
theorem dX5_offer_48 : decode cX5_offer 48 = .ok (.iload_n 3, 1) := by decide +kernel
theorem dX5_offer_49 : decode cX5_offer 49 = .ok (.invokevirtual 108, 3) := by decide +kernel
theorem dX5_offer_52 : decode cX5_offer 52 = .ok (.aload_n 0, 1) := by decide +kernel
theorem dX5_offer_53 : decode cX5_offer 53 = .ok (.iload_n 1, 1) := by decide +kernel
theorem dX5_offer_54 : decode cX5_offer 54 = .ok (.aload_n 0, 1) := by decide +kernel
theorem dX5_offer_55 : decode cX5_offer 55 = .ok (.getfield 32, 3) := by decide +kernel
theorem dX5_offer_58 : decode cX5_offer 58 = .ok (.iload_n 2, 1) := by decide +kernel
theorem dX5_offer_59 : decode cX5_offer 59 = .ok (.invokevirtual 100, 3) := by decide +kernel
theorem dX5_offer_62 : decode cX5_offer 62 = .ok (.aload_n 0, 1) := by decide +kernel
theorem dX5_offer_63 : decode cX5_offer 63 = .ok (.iload_n 1, 1) := by decide +kernel
theorem dX5_offer_64 : decode cX5_offer 64 = .ok (.iload_n 2, 1) := by decide +kernel
theorem dX5_offer_65 : decode cX5_offer 65 = .ok (.invokevirtual 134, 3) := by decide +kernel
theorem dX5_offer_68 : decode cX5_offer 68 = .ok (.return_, 1) := by decide +kernel
theorem dX5_chain_0 : decode cX5_chain 0 = .ok (.aload_n 0, 1) := by decide +kernel
theorem dX5_chain_1 : decode cX5_chain 1 = .ok (.getfield 15, 3) := by decide +kernel
theorem dX5_chain_4 : decode cX5_chain 4 = .ok (.iload_n 2, 1) := by decide +kernel
theorem dX5_chain_5 : decode cX5_chain 5 = .ok (.iaload, 1) := by decide +kernel
theorem dX5_chain_6 : decode cX5_chain 6 = .ok (.istore_n 3, 1) := by decide +kernel
theorem dX5_chain_7 : decode cX5_chain 7 = .ok (.aload_n 0, 1) := by decide +kernel
theorem dX5_chain_8 : decode cX5_chain 8 = .ok (.getfield 19, 3) := by decide +kernel
theorem dX5_chain_11 : decode cX5_chain 11 = .ok (.iload_n 1, 1) := by decide +kernel
theorem dX5_chain_12 : decode cX5_chain 12 = .ok (.iload_n 3, 1) := by decide +kernel
theorem dX5_chain_13 : decode cX5_chain 13 = .ok (.iastore, 1) := by decide +kernel
theorem dX5_chain_14 : decode cX5_chain 14 = .ok (.aload_n 0, 1) := by decide +kernel
theorem dX5_chain_15 : decode cX5_chain 15 = .ok (.getfield 22, 3) := by decide +kernel
theorem dX5_chain_18 : decode cX5_chain 18 = .ok (.iload_n 1, 1) := by decide +kernel
theorem dX5_chain_19 : decode cX5_chain 19 = .ok (.bipush (-9), 2) := by decide +kernel
theorem dX5_chain_21 : decode cX5_chain 21 = .ok (.iastore, 1) := by decide +kernel
theorem dX5_chain_22 : decode cX5_chain 22 = .ok (.iload_n 3, 1) := by decide +kernel
theorem dX5_chain_23 : decode cX5_chain 23 = .ok (.ifCond .lt 17, 3) := by decide +kernel
theorem dX5_chain_26 : decode cX5_chain 26 = .ok (.iload_n 3, 1) := by decide +kernel
theorem dX5_chain_27 : decode cX5_chain 27 = .ok (.sipush 6480, 3) := by decide +kernel
theorem dX5_chain_30 : decode cX5_chain 30 = .ok (.if_icmp .ge 10, 3) := by decide +kernel
theorem dX5_chain_33 : decode cX5_chain 33 = .ok (.aload_n 0, 1) := by decide +kernel
theorem dX5_chain_34 : decode cX5_chain 34 = .ok (.getfield 22, 3) := by decide +kernel
theorem dX5_chain_37 : decode cX5_chain 37 = .ok (.iload_n 3, 1) := by decide +kernel
theorem dX5_chain_38 : decode cX5_chain 38 = .ok (.iload_n 1, 1) := by decide +kernel
theorem dX5_chain_39 : decode cX5_chain 39 = .ok (.iastore, 1) := by decide +kernel
theorem dX5_chain_40 : decode cX5_chain 40 = .ok (.aload_n 0, 1) := by decide +kernel
theorem dX5_chain_41 : decode cX5_chain 41 = .ok (.getfield 15, 3) := by decide +kernel
theorem dX5_chain_44 : decode cX5_chain 44 = .ok (.iload_n 2, 1) := by decide +kernel
theorem dX5_chain_45 : decode cX5_chain 45 = .ok (.iload_n 1, 1) := by decide +kernel
theorem dX5_chain_46 : decode cX5_chain 46 = .ok (.iastore, 1) := by decide +kernel
theorem dX5_chain_47 : decode cX5_chain 47 = .ok (.return_, 1) := by decide +kernel
theorem dX5_unchain_0 : decode cX5_unchain 0 = .ok (.aload_n 0, 1) := by decide +kernel
theorem dX5_unchain_1 : decode cX5_unchain 1 = .ok (.getfield 22, 3) := by decide +kernel
theorem dX5_unchain_4 : decode cX5_unchain 4 = .ok (.iload_n 1, 1) := by decide +kernel
theorem dX5_unchain_5 : decode cX5_unchain 5 = .ok (.iaload, 1) := by decide +kernel
theorem dX5_unchain_6 : decode cX5_unchain 6 = .ok (.istore_n 3, 1) := by decide +kernel
theorem dX5_unchain_7 : decode cX5_unchain 7 = .ok (.aload_n 0, 1) := by decide +kernel
theorem dX5_unchain_8 : decode cX5_unchain 8 = .ok (.getfield 19, 3) := by decide +kernel
theorem dX5_unchain_11 : decode cX5_unchain 11 = .ok (.iload_n 1, 1) := by decide +kernel
theorem dX5_unchain_12 : decode cX5_unchain 12 = .ok (.iaload, 1) := by decide +kernel
theorem dX5_unchain_13 : decode cX5_unchain 13 = .ok (.istore 4, 2) := by decide +kernel
theorem dX5_unchain_15 : decode cX5_unchain 15 = .ok (.iload_n 3, 1) := by decide +kernel
theorem dX5_unchain_16 : decode cX5_unchain 16 = .ok (.ifCond .lt 21, 3) := by decide +kernel
theorem dX5_unchain_19 : decode cX5_unchain 19 = .ok (.iload_n 3, 1) := by decide +kernel
theorem dX5_unchain_20 : decode cX5_unchain 20 = .ok (.sipush 6480, 3) := by decide +kernel
theorem dX5_unchain_23 : decode cX5_unchain 23 = .ok (.if_icmp .ge 14, 3) := by decide +kernel
theorem dX5_unchain_26 : decode cX5_unchain 26 = .ok (.aload_n 0, 1) := by decide +kernel
theorem dX5_unchain_27 : decode cX5_unchain 27 = .ok (.getfield 19, 3) := by decide +kernel
theorem dX5_unchain_30 : decode cX5_unchain 30 = .ok (.iload_n 3, 1) := by decide +kernel
theorem dX5_unchain_31 : decode cX5_unchain 31 = .ok (.iload 4, 2) := by decide +kernel
theorem dX5_unchain_33 : decode cX5_unchain 33 = .ok (.iastore, 1) := by decide +kernel
theorem dX5_unchain_34 : decode cX5_unchain 34 = .ok (.goto 11, 3) := by decide +kernel
theorem dX5_unchain_37 : decode cX5_unchain 37 = .ok (.aload_n 0, 1) := by decide +kernel
theorem dX5_unchain_38 : decode cX5_unchain 38 = .ok (.getfield 15, 3) := by decide +kernel
theorem dX5_unchain_41 : decode cX5_unchain 41 = .ok (.iload_n 2, 1) := by decide +kernel
theorem dX5_unchain_42 : decode cX5_unchain 42 = .ok (.iload 4, 2) := by decide +kernel
theorem dX5_unchain_44 : decode cX5_unchain 44 = .ok (.iastore, 1) := by decide +kernel
theorem dX5_unchain_45 : decode cX5_unchain 45 = .ok (.iload 4, 2) := by decide +kernel
theorem dX5_unchain_47 : decode cX5_unchain 47 = .ok (.ifCond .lt 19, 3) := by decide +kernel
theorem dX5_unchain_50 : decode cX5_unchain 50 = .ok (.iload 4, 2) := by decide +kernel
theorem dX5_unchain_52 : decode cX5_unchain 52 = .ok (.sipush 6480, 3) := by decide +kernel
theorem dX5_unchain_55 : decode cX5_unchain 55 = .ok (.if_icmp .ge 11, 3) := by decide +kernel
theorem dX5_unchain_58 : decode cX5_unchain 58 = .ok (.aload_n 0, 1) := by decide +kernel
theorem dX5_unchain_59 : decode cX5_unchain 59 = .ok (.getfield 22, 3) := by decide +kernel
theorem dX5_unchain_62 : decode cX5_unchain 62 = .ok (.iload 4, 2) := by decide +kernel
theorem dX5_unchain_64 : decode cX5_unchain 64 = .ok (.iload_n 3, 1) := by decide +kernel
theorem dX5_unchain_65 : decode cX5_unchain 65 = .ok (.iastore, 1) := by decide +kernel
theorem dX5_unchain_66 : decode cX5_unchain 66 = .ok (.return_, 1) := by decide +kernel
theorem dX6_init_0 : decode cX6_init 0 = .ok (.aload_n 0, 1) := by decide +kernel
theorem dX6_init_1 : decode cX6_init 1 = .ok (.invokespecial 3, 3) := by decide +kernel
theorem dX6_init_4 : decode cX6_init 4 = .ok (.aload_n 0, 1) := by decide +kernel
theorem dX6_init_5 : decode cX6_init 5 = .ok (.new 9, 3) := by decide +kernel
theorem dX6_init_8 : decode cX6_init 8 = .ok (.dup, 1) := by decide +kernel
theorem dX6_init_9 : decode cX6_init 9 = .ok (.invokespecial 11, 3) := by decide +kernel
theorem dX6_init_12 : decode cX6_init 12 = .ok (.putfield 12, 3) := by decide +kernel
theorem dX6_init_15 : decode cX6_init 15 = .ok (.aload_n 0, 1) := by decide +kernel
theorem dX6_init_16 : decode cX6_init 16 = .ok (.new 16, 3) := by decide +kernel
theorem dX6_init_19 : decode cX6_init 19 = .ok (.dup, 1) := by decide +kernel
theorem dX6_init_20 : decode cX6_init 20 = .ok (.invokespecial 18, 3) := by decide +kernel
theorem dX6_init_23 : decode cX6_init 23 = .ok (.putfield 19, 3) := by decide +kernel
theorem dX6_init_26 : decode cX6_init 26 = .ok (.aload_n 0, 1) := by decide +kernel
theorem dX6_init_27 : decode cX6_init 27 = .ok (.new 16, 3) := by decide +kernel
theorem dX6_init_30 : decode cX6_init 30 = .ok (.dup, 1) := by decide +kernel
theorem dX6_init_31 : decode cX6_init 31 = .ok (.invokespecial 18, 3) := by decide +kernel
theorem dX6_init_34 : decode cX6_init 34 = .ok (.putfield 23, 3) := by decide +kernel
theorem dX6_init_37 : decode cX6_init 37 = .ok (.aload_n 0, 1) := by decide +kernel
theorem dX6_init_38 : decode cX6_init 38 = .ok (.new 26, 3) := by decide +kernel
theorem dX6_init_41 : decode cX6_init 41 = .ok (.dup, 1) := by decide +kernel
theorem dX6_init_42 : decode cX6_init 42 = .ok (.invokespecial 28, 3) := by decide +kernel
theorem dX6_init_45 : decode cX6_init 45 = .ok (.putfield 29, 3) := by decide +kernel
theorem dX6_init_48 : decode cX6_init 48 = .ok (.aload_n 0, 1) := by decide +kernel
theorem dX6_init_49 : decode cX6_init 49 = .ok (.new 33, 3) := by decide +kernel
theorem dX6_init_52 : decode cX6_init 52 = .ok (.dup, 1) := by decide +kernel
theorem dX6_init_53 : decode cX6_init 53 = .ok (.invokespecial 35, 3) := by decide +kernel
theorem dX6_init_56 : decode cX6_init 56 = .ok (.putfield 36, 3) := by decide +kernel
theorem dX6_init_59 : decode cX6_init 59 = .ok (.aload_n 0, 1) := by decide +kernel
theorem dX6_init_60 : decode cX6_init 60 = .ok (.iconst 2, 1) := by decide +kernel
theorem dX6_init_61 : decode cX6_init 61 = .ok (.anewarray 26, 3) := by decide +kernel
theorem dX6_init_64 : decode cX6_init 64 = .ok (.putfield 40, 3) := by decide +kernel
theorem dX6_init_67 : decode cX6_init 67 = .ok (.aload_n 0, 1) := by decide +kernel
theorem dX6_init_68 : decode cX6_init 68 = .ok (.iconst 2, 1) := by decide +kernel
theorem dX6_init_69 : decode cX6_init 69 = .ok (.newarray .boolean, 2) := by decide +kernel
theorem dX6_init_71 : decode cX6_init 71 = .ok (.putfield 44, 3) := by decide +kernel
theorem dX6_init_74 : decode cX6_init 74 = .ok (.aload_n 0, 1) := by decide +kernel
theorem dX6_init_75 : decode cX6_init 75 = .ok (.new 48, 3) := by decide +kernel
theorem dX6_init_78 : decode cX6_init 78 = .ok (.dup, 1) := by decide +kernel
theorem dX6_init_79 : decode cX6_init 79 = .ok (.invokespecial 50, 3) := by decide +kernel
theorem dX6_init_82 : decode cX6_init 82 = .ok (.putfield 51, 3) := by decide +kernel
theorem dX6_init_85 : decode cX6_init 85 = .ok (.aload_n 0, 1) := by decide +kernel
theorem dX6_init_86 : decode cX6_init 86 = .ok (.new 55, 3) := by decide +kernel
theorem dX6_init_89 : decode cX6_init 89 = .ok (.dup, 1) := by decide +kernel
theorem dX6_init_90 : decode cX6_init 90 = .ok (.invokespecial 57, 3) := by decide +kernel
theorem dX6_init_93 : decode cX6_init 93 = .ok (.putfield 58, 3) := by decide +kernel
theorem dX6_init_96 : decode cX6_init 96 = .ok (.aload_n 0, 1) := by decide +kernel
theorem dX6_init_97 : decode cX6_init 97 = .ok (.bipush 6, 2) := by decide +kernel
theorem dX6_init_99 : decode cX6_init 99 = .ok (.newarray .int, 2) := by decide +kernel
theorem dX6_init_101 : decode cX6_init 101 = .ok (.putfield 62, 3) := by decide +kernel
theorem dX6_init_104 : decode cX6_init 104 = .ok (.aload_n 0, 1) := by decide +kernel
theorem dX6_init_105 : decode cX6_init 105 = .ok (.iconst 5, 1) := by decide +kernel
theorem dX6_init_106 : decode cX6_init 106 = .ok (.newarray .int, 2) := by decide +kernel
theorem dX6_init_108 : decode cX6_init 108 = .ok (.putfield 66, 3) := by decide +kernel
theorem dX6_init_111 : decode cX6_init 111 = .ok (.aload_n 0, 1) := by decide +kernel
theorem dX6_init_112 : decode cX6_init 112 = .ok (.lconst 0, 1) := by decide +kernel
theorem dX6_init_113 : decode cX6_init 113 = .ok (.putfield 69, 3) := by decide +kernel
theorem dX6_init_116 : decode cX6_init 116 = .ok (.iconst 0, 1) := by decide +kernel
theorem dX6_init_117 : decode cX6_init 117 = .ok (.istore_n 1, 1) := by decide +kernel
theorem dX6_init_118 : decode cX6_init 118 = .ok (.iload_n 1, 1) := by decide +kernel
theorem dX6_init_119 : decode cX6_init 119 = .ok (.iconst 2, 1) := by decide +kernel
theorem dX6_init_120 : decode cX6_init 120 = .ok (.if_icmp .ge 22, 3) := by decide +kernel
theorem dX6_init_123 : decode cX6_init 123 = .ok (.aload_n 0, 1) := by decide +kernel
theorem dX6_init_124 : decode cX6_init 124 = .ok (.getfield 40, 3) := by decide +kernel
theorem dX6_init_127 : decode cX6_init 127 = .ok (.iload_n 1, 1) := by decide +kernel
theorem dX6_init_128 : decode cX6_init 128 = .ok (.new 26, 3) := by decide +kernel
theorem dX6_init_131 : decode cX6_init 131 = .ok (.dup, 1) := by decide +kernel
theorem dX6_init_132 : decode cX6_init 132 = .ok (.invokespecial 28, 3) := by decide +kernel
theorem dX6_init_135 : decode cX6_init 135 = .ok (.aastore, 1) := by decide +kernel
theorem dX6_init_136 : decode cX6_init 136 = .ok (.iinc 1 1, 3) := by decide +kernel
theorem dX6_init_139 : decode cX6_init 139 = .ok (.goto (-21), 3) := by decide +kernel
theorem dX6_init_142 : decode cX6_init 142 = .ok (.return_, 1) := by decide +kernel
theorem dX6_type_0 : decode cX6_type 0 = .ok (.iload_n 1, 1) := by decide +kernel
theorem dX6_type_1 : decode cX6_type 1 = .ok (.ifCond .lt 10, 3) := by decide +kernel
theorem dX6_type_4 : decode cX6_type 4 = .ok (.iload_n 1, 1) := by decide +kernel
theorem dX6_type_5 : decode cX6_type 5 = .ok (.sipush 255, 3) := by decide +kernel
theorem dX6_type_8 : decode cX6_type 8 = .ok (.if_icmp .le 5, 3) := by decide +kernel
theorem dX6_type_11 : decode cX6_type 11 = .ok (.iconst (-1), 1) := by decide +kernel
theorem dX6_type_12 : decode cX6_type 12 = .ok (.ireturn, 1) := by decide +kernel
theorem dX6_type_13 : decode cX6_type 13 = .ok (.aload_n 0, 1) := by decide +kernel
theorem dX6_type_14 : decode cX6_type 14 = .ok (.getfield 12, 3) := by decide +kernel
theorem dX6_type_17 : decode cX6_type 17 = .ok (.iload_n 1, 1) := by decide +kernel
theorem dX6_type_18 : decode cX6_type 18 = .ok (.i2c, 1) := by decide +kernel
theorem dX6_type_19 : decode cX6_type 19 = .ok (.invokevirtual 73, 3) := by decide +kernel
theorem dX6_type_22 : decode cX6_type 22 = .ok (.ifCond .eq 13, 3) := by decide +kernel
theorem dX6_type_25 : decode cX6_type 25 = .ok (.aload_n 0, 1) := by decide +kernel
theorem dX6_type_26 : decode cX6_type 26 = .ok (.getfield 12, 3) := by decide +kernel
theorem dX6_type_29 : decode cX6_type 29 = .ok (.getfield 77, 3) := by decide +kernel
theorem dX6_type_32 : decode cX6_type 32 = .ok (.goto 5, 3) := by decide +kernel
theorem dX6_type_35 : decode cX6_type 35 = .ok (.bipush (-3), 2) := by decide +kernel
theorem dX6_type_37 : decode cX6_type 37 = .ok (.ireturn, 1) := by decide +kernel
theorem dX6_clear_0 : decode cX6_clear 0 = .ok (.aload_n 0, 1) := by decide +kernel
theorem dX6_clear_1 : decode cX6_clear 1 = .ok (.getfield 12, 3) := by decide +kernel
theorem dX6_clear_4 : decode cX6_clear 4 = .ok (.getfield 77, 3) := by decide +kernel
theorem dX6_clear_7 : decode cX6_clear 7 = .ok (.istore_n 1, 1) := by decide +kernel
theorem dX6_clear_8 : decode cX6_clear 8 = .ok (.aload_n 0, 1) := by decide +kernel
theorem dX6_clear_9 : decode cX6_clear 9 = .ok (.getfield 12, 3) := by decide +kernel
theorem dX6_clear_12 : decode cX6_clear 12 = .ok (.iconst 0, 1) := by decide +kernel
theorem dX6_clear_13 : decode cX6_clear 13 = .ok (.putfield 77, 3) := by decide +kernel
theorem dX6_clear_16 : decode cX6_clear 16 = .ok (.iload_n 1, 1) := by decide +kernel
theorem dX6_clear_17 : decode cX6_clear 17 = .ok (.ireturn, 1) := by decide +kernel
theorem dX6_hall_0 : decode cX6_hall 0 = .ok (.aload_n 0, 1) := by decide +kernel
theorem dX6_hall_1 : decode cX6_hall 1 = .ok (.getfield 12, 3) := by decide +kernel
theorem dX6_hall_4 : decode cX6_hall 4 = .ok (.aload_n 0, 1) := by decide +kernel
theorem dX6_hall_5 : decode cX6_hall 5 = .ok (.getfield 23, 3) := by decide +kernel
theorem dX6_hall_8 : decode cX6_hall 8 = .ok (.invokevirtual 81, 3) := by decide +kernel
theorem dX6_hall_11 : decode cX6_hall 11 = .ok (.istore_n 1, 1) := by decide +kernel
theorem dX6_hall_12 : decode cX6_hall 12 = .ok (.aload_n 0, 1) := by decide +kernel
theorem dX6_hall_13 : decode cX6_hall 13 = .ok (.getfield 12, 3) := by decide +kernel
theorem dX6_hall_16 : decode cX6_hall 16 = .ok (.getfield 85, 3) := by decide +kernel
theorem dX6_hall_19 : decode cX6_hall 19 = .ok (.ifCond .lt 14, 3) := by decide +kernel
theorem dX6_hall_22 : decode cX6_hall 22 = .ok (.bipush (-10), 2) := by decide +kernel
theorem dX6_hall_24 : decode cX6_hall 24 = .ok (.aload_n 0, 1) := by decide +kernel
theorem dX6_hall_25 : decode cX6_hall 25 = .ok (.getfield 12, 3) := by decide +kernel
theorem dX6_hall_28 : decode cX6_hall 28 = .ok (.getfield 85, 3) := by decide +kernel
theorem dX6_hall_31 : decode cX6_hall 31 = .ok (.isub, 1) := by decide +kernel
theorem dX6_hall_32 : decode cX6_hall 32 = .ok (.ireturn, 1) := by decide +kernel
theorem dX6_hall_33 : decode cX6_hall 33 = .ok (.aload_n 0, 1) := by decide +kernel
theorem dX6_hall_34 : decode cX6_hall 34 = .ok (.getfield 23, 3) := by decide +kernel
theorem dX6_hall_37 : decode cX6_hall 37 = .ok (.astore_n 2, 1) := by decide +kernel
theorem dX6_hall_38 : decode cX6_hall 38 = .ok (.aload_n 0, 1) := by decide +kernel
theorem dX6_hall_39 : decode cX6_hall 39 = .ok (.aload_n 0, 1) := by decide +kernel
theorem dX6_hall_40 : decode cX6_hall 40 = .ok (.getfield 19, 3) := by decide +kernel
theorem dX6_hall_43 : decode cX6_hall 43 = .ok (.putfield 23, 3) := by decide +kernel
theorem dX6_hall_46 : decode cX6_hall 46 = .ok (.aload_n 0, 1) := by decide +kernel
theorem dX6_hall_47 : decode cX6_hall 47 = .ok (.aload_n 2, 1) := by decide +kernel
theorem dX6_hall_48 : decode cX6_hall 48 = .ok (.putfield 19, 3) := by decide +kernel
theorem dX6_hall_51 : decode cX6_hall 51 = .ok (.aload_n 0, 1) := by decide +kernel
theorem dX6_hall_52 : decode cX6_hall 52 = .ok (.invokevirtual 88, 3) := by decide +kernel
theorem dX6_hall_55 : decode cX6_hall 55 = .ok (.iload_n 1, 1) := by decide +kernel
theorem dX6_hall_56 : decode cX6_hall 56 = .ok (.ireturn, 1) := by decide +kernel
theorem dX6_beginAnew_0 : decode cX6_beginAnew 0 = .ok (.aload_n 0, 1) := by decide +kernel
theorem dX6_beginAnew_1 : decode cX6_beginAnew 1 = .ok (.getfield 12, 3) := by decide +kernel
theorem dX6_beginAnew_4 : decode cX6_beginAnew 4 = .ok (.iconst 0, 1) := by decide +kernel
theorem dX6_beginAnew_5 : decode cX6_beginAnew 5 = .ok (.putfield 77, 3) := by decide +kernel
theorem dX6_beginAnew_8 : decode cX6_beginAnew 8 = .ok (.aload_n 0, 1) := by decide +kernel
theorem dX6_beginAnew_9 : decode cX6_beginAnew 9 = .ok (.getfield 29, 3) := by decide +kernel
theorem dX6_beginAnew_12 : decode cX6_beginAnew 12 = .ok (.aload_n 0, 1) := by decide +kernel
theorem dX6_beginAnew_13 : decode cX6_beginAnew 13 = .ok (.getfield 19, 3) := by decide +kernel
theorem dX6_beginAnew_16 : decode cX6_beginAnew 16 = .ok (.invokevirtual 91, 3) := by decide +kernel
theorem dX6_beginAnew_19 : decode cX6_beginAnew 19 = .ok (.aload_n 0, 1) := by decide +kernel
theorem dX6_beginAnew_20 : decode cX6_beginAnew 20 = .ok (.getfield 36, 3) := by decide +kernel
theorem dX6_beginAnew_23 : decode cX6_beginAnew 23 = .ok (.iconst 0, 1) := by decide +kernel
theorem dX6_beginAnew_24 : decode cX6_beginAnew 24 = .ok (.putfield 95, 3) := by decide +kernel
theorem dX6_beginAnew_27 : decode cX6_beginAnew 27 = .ok (.iconst 0, 1) := by decide +kernel
theorem dX6_beginAnew_28 : decode cX6_beginAnew 28 = .ok (.istore_n 1, 1) := by decide +kernel
theorem dX6_beginAnew_29 : decode cX6_beginAnew 29 = .ok (.iload_n 1, 1) := by decide +kernel
theorem dX6_beginAnew_30 : decode cX6_beginAnew 30 = .ok (.iconst 2, 1) := by decide +kernel
theorem dX6_beginAnew_31 : decode cX6_beginAnew 31 = .ok (.if_icmp .ge 16, 3) := by decide +kernel
theorem dX6_beginAnew_34 : decode cX6_beginAnew 34 = .ok (.aload_n 0, 1) := by decide +kernel
theorem dX6_beginAnew_35 : decode cX6_beginAnew 35 = .ok (.getfield 44, 3) := by decide +kernel
theorem dX6_beginAnew_38 : decode cX6_beginAnew 38 = .ok (.iload_n 1, 1) := by decide +kernel
theorem dX6_beginAnew_39 : decode cX6_beginAnew 39 = .ok (.iconst 0, 1) := by decide +kernel
theorem dX6_beginAnew_40 : decode cX6_beginAnew 40 = .ok (.bastore, 1) := by decide +kernel
theorem dX6_beginAnew_41 : decode cX6_beginAnew 41 = .ok (.iinc 1 1, 3) := by decide +kernel
theorem dX6_beginAnew_44 : decode cX6_beginAnew 44 = .ok (.goto (-15), 3) := by decide +kernel
theorem dX6_beginAnew_47 : decode cX6_beginAnew 47 = .ok (.aload_n 0, 1) := by decide +kernel
theorem dX6_beginAnew_48 : decode cX6_beginAnew 48 = .ok (.getfield 51, 3) := by decide +kernel
theorem dX6_beginAnew_51 : decode cX6_beginAnew 51 = .ok (.invokevirtual 98, 3) := by decide +kernel
theorem dX6_beginAnew_54 : decode cX6_beginAnew 54 = .ok (.aload_n 0, 1) := by decide +kernel
theorem dX6_beginAnew_55 : decode cX6_beginAnew 55 = .ok (.getfield 58, 3) := by decide +kernel
theorem dX6_beginAnew_58 : decode cX6_beginAnew 58 = .ok (.invokevirtual 101, 3) := by decide +kernel
theorem dX6_beginAnew_61 : decode cX6_beginAnew 61 = .ok (.return_, 1) := by decide +kernel
theorem dX6_seat_0 : decode cX6_seat 0 = .ok (.aload_n 0, 1) := by decide +kernel
theorem dX6_seat_1 : decode cX6_seat 1 = .ok (.getfield 19, 3) := by decide +kernel
theorem dX6_seat_4 : decode cX6_seat 4 = .ok (.iload_n 1, 1) := by decide +kernel
theorem dX6_seat_5 : decode cX6_seat 5 = .ok (.invokevirtual 102, 3) := by decide +kernel
theorem dX6_seat_8 : decode cX6_seat 8 = .ok (.ifCond .ne 5, 3) := by decide +kernel
theorem dX6_seat_11 : decode cX6_seat 11 = .ok (.iconst (-1), 1) := by decide +kernel
theorem dX6_seat_12 : decode cX6_seat 12 = .ok (.ireturn, 1) := by decide +kernel
theorem dX6_seat_13 : decode cX6_seat 13 = .ok (.iload_n 2, 1) := by decide +kernel
theorem dX6_seat_14 : decode cX6_seat 14 = .ok (.tableswitch 79 0 3 #[30, 40, 50, 63], 30) := by decide +kernel
theorem dX6_seat_44 : decode cX6_seat 44 = .ok (.aload_n 0, 1) := by decide +kernel
theorem dX6_seat_45 : decode cX6_seat 45 = .ok (.getfield 19, 3) := by decide +kernel
theorem dX6_seat_48 : decode cX6_seat 48 = .ok (.getfield 106, 3) := by decide +kernel
theorem dX6_seat_51 : decode cX6_seat 51 = .ok (.iload_n 1, 1) := by decide +kernel
theorem dX6_seat_52 : decode cX6_seat 52 = .ok (.iaload, 1) := by decide +kernel
theorem dX6_seat_53 : decode cX6_seat 53 = .ok (.ireturn, 1) := by decide +kernel
theorem dX6_seat_54 : decode cX6_seat 54 = .ok (.aload_n 0, 1) := by decide +kernel
theorem dX6_seat_55 : decode cX6_seat 55 = .ok (.getfield 19, 3) := by decide +kernel
theorem dX6_seat_58 : decode cX6_seat 58 = .ok (.getfield 109, 3) := by decide +kernel
theorem dX6_seat_61 : decode cX6_seat 61 = .ok (.iload_n 1, 1) := by decide +kernel
theorem dX6_seat_62 : decode cX6_seat 62 = .ok (.iaload, 1) := by decide +kernel
theorem dX6_seat_63 : decode cX6_seat 63 = .ok (.ireturn, 1) := by decide +kernel
theorem dX6_seat_64 : decode cX6_seat 64 = .ok (.aload_n 0, 1) := by decide +kernel
theorem dX6_seat_65 : decode cX6_seat 65 = .ok (.getfield 29, 3) := by decide +kernel
theorem dX6_seat_68 : decode cX6_seat 68 = .ok (.iload_n 1, 1) := by decide +kernel
theorem dX6_seat_69 : decode cX6_seat 69 = .ok (.aload_n 0, 1) := by decide +kernel
theorem dX6_seat_70 : decode cX6_seat 70 = .ok (.getfield 19, 3) := by decide +kernel
theorem dX6_seat_73 : decode cX6_seat 73 = .ok (.invokevirtual 112, 3) := by decide +kernel
theorem dX6_seat_76 : decode cX6_seat 76 = .ok (.ireturn, 1) := by decide +kernel
theorem dX6_seat_77 : decode cX6_seat 77 = .ok (.aload_n 0, 1) := by decide +kernel
theorem dX6_seat_78 : decode cX6_seat 78 = .ok (.getfield 19, 3) := by decide +kernel
theorem dX6_seat_81 : decode cX6_seat 81 = .ok (.aload_n 0, 1) := by decide +kernel
theorem dX6_seat_82 : decode cX6_seat 82 = .ok (.getfield 29, 3) := by decide +kernel
theorem dX6_seat_85 : decode cX6_seat 85 = .ok (.getfield 116, 3) := by decide +kernel
theorem dX6_seat_88 : decode cX6_seat 88 = .ok (.iload_n 1, 1) := by decide +kernel
theorem dX6_seat_89 : decode cX6_seat 89 = .ok (.invokevirtual 119, 3) := by decide +kernel
theorem dX6_seat_92 : decode cX6_seat 92 = .ok (.ireturn, 1) := by decide +kernel
theorem dX6_seat_93 : decode cX6_seat 93 = .ok (.iconst (-1), 1) := by decide +kernel
theorem dX6_seat_94 : decode cX6_seat 94 = .ok (.ireturn, 1) := by decide +kernel
theorem dX6_thing_0 : decode cX6_thing 0 = .ok (.aload_n 0, 1) := by decide +kernel
theorem dX6_thing_1 : decode cX6_thing 1 = .ok (.getfield 19, 3) := by decide +kernel
theorem dX6_thing_4 : decode cX6_thing 4 = .ok (.iload_n 1, 1) := by decide +kernel
theorem dX6_thing_5 : decode cX6_thing 5 = .ok (.invokevirtual 123, 3) := by decide +kernel
theorem dX6_thing_8 : decode cX6_thing 8 = .ok (.ifCond .ne 5, 3) := by decide +kernel
theorem dX6_thing_11 : decode cX6_thing 11 = .ok (.iconst (-1), 1) := by decide +kernel
theorem dX6_thing_12 : decode cX6_thing 12 = .ok (.ireturn, 1) := by decide +kernel
theorem dX6_thing_13 : decode cX6_thing 13 = .ok (.iload_n 2, 1) := by decide +kernel
theorem dX6_thing_14 : decode cX6_thing 14 = .ok (.tableswitch 123 0 5 #[38, 48, 58, 68, 78, 106], 38) := by decide +kernel
theorem dX6_thing_52 : decode cX6_thing 52 = .ok (.aload_n 0, 1) := by decide +kernel
theorem dX6_thing_53 : decode cX6_thing 53 = .ok (.getfield 19, 3) := by decide +kernel
theorem dX6_thing_56 : decode cX6_thing 56 = .ok (.getfield 126, 3) := by decide +kernel
theorem dX6_thing_59 : decode cX6_thing 59 = .ok (.iload_n 1, 1) := by decide +kernel
theorem dX6_thing_60 : decode cX6_thing 60 = .ok (.iaload, 1) := by decide +kernel
theorem dX6_thing_61 : decode cX6_thing 61 = .ok (.ireturn, 1) := by decide +kernel
theorem dX6_thing_62 : decode cX6_thing 62 = .ok (.aload_n 0, 1) := by decide +kernel
theorem dX6_thing_63 : decode cX6_thing 63 = .ok (.getfield 19, 3) := by decide +kernel
theorem dX6_thing_66 : decode cX6_thing 66 = .ok (.getfield 129, 3) := by decide +kernel
theorem dX6_thing_69 : decode cX6_thing 69 = .ok (.iload_n 1, 1) := by decide +kernel
theorem dX6_thing_70 : decode cX6_thing 70 = .ok (.iaload, 1) := by decide +kernel
theorem dX6_thing_71 : decode cX6_thing 71 = .ok (.ireturn, 1) := by decide +kernel
theorem dX6_thing_72 : decode cX6_thing 72 = .ok (.aload_n 0, 1) := by decide +kernel
theorem dX6_thing_73 : decode cX6_thing 73 = .ok (.getfield 19, 3) := by decide +kernel
theorem dX6_thing_76 : decode cX6_thing 76 = .ok (.getfield 132, 3) := by decide +kernel
theorem dX6_thing_79 : decode cX6_thing 79 = .ok (.iload_n 1, 1) := by decide +kernel
theorem dX6_thing_80 : decode cX6_thing 80 = .ok (.iaload, 1) := by decide +kernel
theorem dX6_thing_81 : decode cX6_thing 81 = .ok (.ireturn, 1) := by decide +kernel
theorem dX6_thing_82 : decode cX6_thing 82 = .ok (.aload_n 0, 1) := by decide +kernel
theorem dX6_thing_83 : decode cX6_thing 83 = .ok (.getfield 19, 3) := by decide +kernel
theorem dX6_thing_86 : decode cX6_thing 86 = .ok (.getfield 135, 3) := by decide +kernel
theorem dX6_thing_89 : decode cX6_thing 89 = .ok (.iload_n 1, 1) := by decide +kernel
theorem dX6_thing_90 : decode cX6_thing 90 = .ok (.iaload, 1) := by decide +kernel
theorem dX6_thing_91 : decode cX6_thing 91 = .ok (.ireturn, 1) := by decide +kernel
theorem dX6_thing_92 : decode cX6_thing 92 = .ok (.aload_n 0, 1) := by decide +kernel
theorem dX6_thing_93 : decode cX6_thing 93 = .ok (.getfield 29, 3) := by decide +kernel
theorem dX6_thing_96 : decode cX6_thing 96 = .ok (.getfield 138, 3) := by decide +kernel
theorem dX6_thing_99 : decode cX6_thing 99 = .ok (.iload_n 1, 1) := by decide +kernel
theorem dX6_thing_100 : decode cX6_thing 100 = .ok (.iaload, 1) := by decide +kernel
theorem dX6_thing_101 : decode cX6_thing 101 = .ok (.iconst 4, 1) := by decide +kernel
theorem dX6_thing_102 : decode cX6_thing 102 = .ok (.if_icmp .ne 8, 3) := by decide +kernel
theorem dX6_thing_105 : decode cX6_thing 105 = .ok (.bipush (-9), 2) := by decide +kernel
theorem dX6_thing_107 : decode cX6_thing 107 = .ok (.goto 12, 3) := by decide +kernel
theorem dX6_thing_110 : decode cX6_thing 110 = .ok (.aload_n 0, 1) := by decide +kernel
theorem dX6_thing_111 : decode cX6_thing 111 = .ok (.getfield 29, 3) := by decide +kernel
theorem dX6_thing_114 : decode cX6_thing 114 = .ok (.getfield 138, 3) := by decide +kernel
theorem dX6_thing_117 : decode cX6_thing 117 = .ok (.iload_n 1, 1) := by decide +kernel
theorem dX6_thing_118 : decode cX6_thing 118 = .ok (.iaload, 1) := by decide +kernel
theorem dX6_thing_119 : decode cX6_thing 119 = .ok (.ireturn, 1) := by decide +kernel
theorem dX6_thing_120 : decode cX6_thing 120 = .ok (.aload_n 0, 1) := by decide +kernel
theorem dX6_thing_121 : decode cX6_thing 121 = .ok (.getfield 29, 3) := by decide +kernel
theorem dX6_thing_124 : decode cX6_thing 124 = .ok (.iload_n 1, 1) := by decide +kernel
theorem dX6_thing_125 : decode cX6_thing 125 = .ok (.invokevirtual 141, 3) := by decide +kernel
theorem dX6_thing_128 : decode cX6_thing 128 = .ok (.ifCond .eq 7, 3) := by decide +kernel
theorem dX6_thing_131 : decode cX6_thing 131 = .ok (.iconst 1, 1) := by decide +kernel
theorem dX6_thing_132 : decode cX6_thing 132 = .ok (.goto 4, 3) := by decide +kernel
theorem dX6_thing_135 : decode cX6_thing 135 = .ok (.iconst 0, 1) := by decide +kernel
theorem dX6_thing_136 : decode cX6_thing 136 = .ok (.ireturn, 1) := by decide +kernel
theorem dX6_thing_137 : decode cX6_thing 137 = .ok (.iconst (-1), 1) := by decide +kernel
theorem dX6_thing_138 : decode cX6_thing 138 = .ok (.ireturn, 1) := by decide +kernel
theorem dX6_now_0 : decode cX6_now 0 = .ok (.iload_n 1, 1) := by decide +kernel
theorem dX6_now_1 : decode cX6_now 1 = .ok (.tableswitch 112 0 5 #[39, 47, 71, 84, 96, 104], 39) := by decide +kernel
theorem dX6_now_40 : decode cX6_now 40 = .ok (.aload_n 0, 1) := by decide +kernel
theorem dX6_now_41 : decode cX6_now 41 = .ok (.getfield 29, 3) := by decide +kernel
theorem dX6_now_44 : decode cX6_now 44 = .ok (.getfield 144, 3) := by decide +kernel
theorem dX6_now_47 : decode cX6_now 47 = .ok (.ireturn, 1) := by decide +kernel
theorem dX6_now_48 : decode cX6_now 48 = .ok (.aload_n 0, 1) := by decide +kernel
theorem dX6_now_49 : decode cX6_now 49 = .ok (.getfield 29, 3) := by decide +kernel
theorem dX6_now_52 : decode cX6_now 52 = .ok (.getfield 116, 3) := by decide +kernel
theorem dX6_now_55 : decode cX6_now 55 = .ok (.iconst 4, 1) := by decide +kernel
theorem dX6_now_56 : decode cX6_now 56 = .ok (.if_icmp .ne 8, 3) := by decide +kernel
theorem dX6_now_59 : decode cX6_now 59 = .ok (.bipush (-9), 2) := by decide +kernel
theorem dX6_now_61 : decode cX6_now 61 = .ok (.goto 10, 3) := by decide +kernel
theorem dX6_now_64 : decode cX6_now 64 = .ok (.aload_n 0, 1) := by decide +kernel
theorem dX6_now_65 : decode cX6_now 65 = .ok (.getfield 29, 3) := by decide +kernel
theorem dX6_now_68 : decode cX6_now 68 = .ok (.getfield 116, 3) := by decide +kernel
theorem dX6_now_71 : decode cX6_now 71 = .ok (.ireturn, 1) := by decide +kernel
theorem dX6_now_72 : decode cX6_now 72 = .ok (.aload_n 0, 1) := by decide +kernel
theorem dX6_now_73 : decode cX6_now 73 = .ok (.getfield 29, 3) := by decide +kernel
theorem dX6_now_76 : decode cX6_now 76 = .ok (.iconst 4, 1) := by decide +kernel
theorem dX6_now_77 : decode cX6_now 77 = .ok (.aload_n 0, 1) := by decide +kernel
theorem dX6_now_78 : decode cX6_now 78 = .ok (.getfield 19, 3) := by decide +kernel
theorem dX6_now_81 : decode cX6_now 81 = .ok (.invokevirtual 112, 3) := by decide +kernel
theorem dX6_now_84 : decode cX6_now 84 = .ok (.ireturn, 1) := by decide +kernel
theorem dX6_now_85 : decode cX6_now 85 = .ok (.aload_n 0, 1) := by decide +kernel
theorem dX6_now_86 : decode cX6_now 86 = .ok (.getfield 29, 3) := by decide +kernel
theorem dX6_now_89 : decode cX6_now 89 = .ok (.aload_n 0, 1) := by decide +kernel
theorem dX6_now_90 : decode cX6_now 90 = .ok (.getfield 19, 3) := by decide +kernel
theorem dX6_now_93 : decode cX6_now 93 = .ok (.invokevirtual 147, 3) := by decide +kernel
theorem dX6_now_96 : decode cX6_now 96 = .ok (.ireturn, 1) := by decide +kernel
theorem dX6_now_97 : decode cX6_now 97 = .ok (.aload_n 0, 1) := by decide +kernel
theorem dX6_now_98 : decode cX6_now 98 = .ok (.getfield 29, 3) := by decide +kernel
theorem dX6_now_101 : decode cX6_now 101 = .ok (.getfield 150, 3) := by decide +kernel
theorem dX6_now_104 : decode cX6_now 104 = .ok (.ireturn, 1) := by decide +kernel
theorem dX6_now_105 : decode cX6_now 105 = .ok (.aload_n 0, 1) := by decide +kernel
theorem dX6_now_106 : decode cX6_now 106 = .ok (.getfield 36, 3) := by decide +kernel
theorem dX6_now_109 : decode cX6_now 109 = .ok (.getfield 95, 3) := by decide +kernel
theorem dX6_now_112 : decode cX6_now 112 = .ok (.ireturn, 1) := by decide +kernel
theorem dX6_now_113 : decode cX6_now 113 = .ok (.iconst (-1), 1) := by decide +kernel
theorem dX6_now_114 : decode cX6_now 114 = .ok (.ireturn, 1) := by decide +kernel
theorem dX6_goes_0 : decode cX6_goes 0 = .ok (.aload_n 0, 1) := by decide +kernel
theorem dX6_goes_1 : decode cX6_goes 1 = .ok (.getfield 19, 3) := by decide +kernel
theorem dX6_goes_4 : decode cX6_goes 4 = .ok (.iload_n 1, 1) := by decide +kernel
theorem dX6_goes_5 : decode cX6_goes 5 = .ok (.invokevirtual 102, 3) := by decide +kernel
theorem dX6_goes_8 : decode cX6_goes 8 = .ok (.ifCond .ne 5, 3) := by decide +kernel
theorem dX6_goes_11 : decode cX6_goes 11 = .ok (.iconst (-1), 1) := by decide +kernel
theorem dX6_goes_12 : decode cX6_goes 12 = .ok (.ireturn, 1) := by decide +kernel
theorem dX6_goes_13 : decode cX6_goes 13 = .ok (.aload_n 0, 1) := by decide +kernel
theorem dX6_goes_14 : decode cX6_goes 14 = .ok (.getfield 19, 3) := by decide +kernel
theorem dX6_goes_17 : decode cX6_goes 17 = .ok (.aload_n 0, 1) := by decide +kernel
theorem dX6_goes_18 : decode cX6_goes 18 = .ok (.getfield 29, 3) := by decide +kernel
theorem dX6_goes_21 : decode cX6_goes 21 = .ok (.getfield 116, 3) := by decide +kernel
theorem dX6_goes_24 : decode cX6_goes 24 = .ok (.iload_n 1, 1) := by decide +kernel
theorem dX6_goes_25 : decode cX6_goes 25 = .ok (.invokevirtual 119, 3) := by decide +kernel
theorem dX6_goes_28 : decode cX6_goes 28 = .ok (.istore_n 2, 1) := by decide +kernel
theorem dX6_goes_29 : decode cX6_goes 29 = .ok (.aload_n 0, 1) := by decide +kernel
theorem dX6_goes_30 : decode cX6_goes 30 = .ok (.getfield 29, 3) := by decide +kernel
theorem dX6_goes_33 : decode cX6_goes 33 = .ok (.getfield 116, 3) := by decide +kernel
theorem dX6_goes_36 : decode cX6_goes 36 = .ok (.iload_n 1, 1) := by decide +kernel
theorem dX6_goes_37 : decode cX6_goes 37 = .ok (.if_icmp .eq 18, 3) := by decide +kernel
theorem dX6_goes_40 : decode cX6_goes 40 = .ok (.aload_n 0, 1) := by decide +kernel
theorem dX6_goes_41 : decode cX6_goes 41 = .ok (.getfield 29, 3) := by decide +kernel
theorem dX6_goes_44 : decode cX6_goes 44 = .ok (.getfield 144, 3) := by decide +kernel
theorem dX6_goes_47 : decode cX6_goes 47 = .ok (.iload_n 2, 1) := by decide +kernel
theorem dX6_goes_48 : decode cX6_goes 48 = .ok (.iadd, 1) := by decide +kernel
theorem dX6_goes_49 : decode cX6_goes 49 = .ok (.sipush 999, 3) := by decide +kernel
theorem dX6_goes_52 : decode cX6_goes 52 = .ok (.if_icmp .le 6, 3) := by decide +kernel
theorem dX6_goes_55 : decode cX6_goes 55 = .ok (.bipush (-2), 2) := by decide +kernel
theorem dX6_goes_57 : decode cX6_goes 57 = .ok (.ireturn, 1) := by decide +kernel
theorem dX6_goes_58 : decode cX6_goes 58 = .ok (.aload_n 0, 1) := by decide +kernel
theorem dX6_goes_59 : decode cX6_goes 59 = .ok (.getfield 36, 3) := by decide +kernel
theorem dX6_goes_62 : decode cX6_goes 62 = .ok (.aload_n 0, 1) := by decide +kernel
theorem dX6_goes_63 : decode cX6_goes 63 = .ok (.getfield 29, 3) := by decide +kernel
theorem dX6_goes_66 : decode cX6_goes 66 = .ok (.invokevirtual 153, 3) := by decide +kernel
theorem dX6_goes_69 : decode cX6_goes 69 = .ok (.aload_n 0, 1) := by decide +kernel
theorem dX6_goes_70 : decode cX6_goes 70 = .ok (.getfield 29, 3) := by decide +kernel
theorem dX6_goes_73 : decode cX6_goes 73 = .ok (.iload_n 1, 1) := by decide +kernel
theorem dX6_goes_74 : decode cX6_goes 74 = .ok (.putfield 116, 3) := by decide +kernel
theorem dX6_goes_77 : decode cX6_goes 77 = .ok (.aload_n 0, 1) := by decide +kernel
theorem dX6_goes_78 : decode cX6_goes 78 = .ok (.getfield 29, 3) := by decide +kernel
theorem dX6_goes_81 : decode cX6_goes 81 = .ok (.dup, 1) := by decide +kernel
theorem dX6_goes_82 : decode cX6_goes 82 = .ok (.getfield 144, 3) := by decide +kernel
theorem dX6_goes_85 : decode cX6_goes 85 = .ok (.iload_n 2, 1) := by decide +kernel
theorem dX6_goes_86 : decode cX6_goes 86 = .ok (.iadd, 1) := by decide +kernel
theorem dX6_goes_87 : decode cX6_goes 87 = .ok (.putfield 144, 3) := by decide +kernel
theorem dX6_goes_90 : decode cX6_goes 90 = .ok (.iload_n 2, 1) := by decide +kernel
theorem dX6_goes_91 : decode cX6_goes 91 = .ok (.ireturn, 1) := by decide +kernel
theorem dX6_takes_0 : decode cX6_takes 0 = .ok (.aload_n 0, 1) := by decide +kernel
theorem dX6_takes_1 : decode cX6_takes 1 = .ok (.getfield 19, 3) := by decide +kernel
theorem dX6_takes_4 : decode cX6_takes 4 = .ok (.iload_n 1, 1) := by decide +kernel
theorem dX6_takes_5 : decode cX6_takes 5 = .ok (.invokevirtual 123, 3) := by decide +kernel
theorem dX6_takes_8 : decode cX6_takes 8 = .ok (.ifCond .ne 5, 3) := by decide +kernel
theorem dX6_takes_11 : decode cX6_takes 11 = .ok (.iconst (-1), 1) := by decide +kernel
theorem dX6_takes_12 : decode cX6_takes 12 = .ok (.ireturn, 1) := by decide +kernel
theorem dX6_takes_13 : decode cX6_takes 13 = .ok (.aload_n 0, 1) := by decide +kernel
theorem dX6_takes_14 : decode cX6_takes 14 = .ok (.getfield 29, 3) := by decide +kernel
theorem dX6_takes_17 : decode cX6_takes 17 = .ok (.iload_n 1, 1) := by decide +kernel
theorem dX6_takes_18 : decode cX6_takes 18 = .ok (.aload_n 0, 1) := by decide +kernel
theorem dX6_takes_19 : decode cX6_takes 19 = .ok (.getfield 19, 3) := by decide +kernel
theorem dX6_takes_22 : decode cX6_takes 22 = .ok (.invokevirtual 157, 3) := by decide +kernel
theorem dX6_takes_25 : decode cX6_takes 25 = .ok (.ifCond .eq 16, 3) := by decide +kernel
theorem dX6_takes_28 : decode cX6_takes 28 = .ok (.aload_n 0, 1) := by decide +kernel
theorem dX6_takes_29 : decode cX6_takes 29 = .ok (.getfield 29, 3) := by decide +kernel
theorem dX6_takes_32 : decode cX6_takes 32 = .ok (.getfield 144, 3) := by decide +kernel
theorem dX6_takes_35 : decode cX6_takes 35 = .ok (.sipush 999, 3) := by decide +kernel
theorem dX6_takes_38 : decode cX6_takes 38 = .ok (.if_icmp .lt 6, 3) := by decide +kernel
theorem dX6_takes_41 : decode cX6_takes 41 = .ok (.bipush (-2), 2) := by decide +kernel
theorem dX6_takes_43 : decode cX6_takes 43 = .ok (.ireturn, 1) := by decide +kernel
theorem dX6_takes_44 : decode cX6_takes 44 = .ok (.aload_n 0, 1) := by decide +kernel
theorem dX6_takes_45 : decode cX6_takes 45 = .ok (.getfield 36, 3) := by decide +kernel
theorem dX6_takes_48 : decode cX6_takes 48 = .ok (.aload_n 0, 1) := by decide +kernel
theorem dX6_takes_49 : decode cX6_takes 49 = .ok (.getfield 29, 3) := by decide +kernel
theorem dX6_takes_52 : decode cX6_takes 52 = .ok (.invokevirtual 153, 3) := by decide +kernel
theorem dX6_takes_55 : decode cX6_takes 55 = .ok (.aload_n 0, 1) := by decide +kernel
theorem dX6_takes_56 : decode cX6_takes 56 = .ok (.getfield 29, 3) := by decide +kernel
theorem dX6_takes_59 : decode cX6_takes 59 = .ok (.getfield 138, 3) := by decide +kernel
theorem dX6_takes_62 : decode cX6_takes 62 = .ok (.iload_n 1, 1) := by decide +kernel
theorem dX6_takes_63 : decode cX6_takes 63 = .ok (.iconst 4, 1) := by decide +kernel
theorem dX6_takes_64 : decode cX6_takes 64 = .ok (.iastore, 1) := by decide +kernel
theorem dX6_takes_65 : decode cX6_takes 65 = .ok (.aload_n 0, 1) := by decide +kernel
theorem dX6_takes_66 : decode cX6_takes 66 = .ok (.getfield 29, 3) := by decide +kernel
theorem dX6_takes_69 : decode cX6_takes 69 = .ok (.dup, 1) := by decide +kernel
theorem dX6_takes_70 : decode cX6_takes 70 = .ok (.getfield 150, 3) := by decide +kernel
theorem dX6_takes_73 : decode cX6_takes 73 = .ok (.iconst 1, 1) := by decide +kernel
theorem dX6_takes_74 : decode cX6_takes 74 = .ok (.iload_n 1, 1) := by decide +kernel
theorem dX6_takes_75 : decode cX6_takes 75 = .ok (.ishl, 1) := by decide +kernel
theorem dX6_takes_76 : decode cX6_takes 76 = .ok (.ior, 1) := by decide +kernel
theorem dX6_takes_77 : decode cX6_takes 77 = .ok (.putfield 150, 3) := by decide +kernel
theorem dX6_takes_80 : decode cX6_takes 80 = .ok (.aload_n 0, 1) := by decide +kernel
theorem dX6_takes_81 : decode cX6_takes 81 = .ok (.getfield 29, 3) := by decide +kernel
theorem dX6_takes_84 : decode cX6_takes 84 = .ok (.dup, 1) := by decide +kernel
theorem dX6_takes_85 : decode cX6_takes 85 = .ok (.getfield 144, 3) := by decide +kernel
theorem dX6_takes_88 : decode cX6_takes 88 = .ok (.iconst 1, 1) := by decide +kernel
theorem dX6_takes_89 : decode cX6_takes 89 = .ok (.iadd, 1) := by decide +kernel
theorem dX6_takes_90 : decode cX6_takes 90 = .ok (.putfield 144, 3) := by decide +kernel
theorem dX6_takes_93 : decode cX6_takes 93 = .ok (.aload_n 0, 1) := by decide +kernel
theorem dX6_takes_94 : decode cX6_takes 94 = .ok (.getfield 29, 3) := by decide +kernel
theorem dX6_takes_97 : decode cX6_takes 97 = .ok (.aload_n 0, 1) := by decide +kernel
theorem dX6_takes_98 : decode cX6_takes 98 = .ok (.getfield 19, 3) := by decide +kernel
theorem dX6_takes_101 : decode cX6_takes 101 = .ok (.invokevirtual 161, 3) := by decide +kernel
theorem dX6_takes_104 : decode cX6_takes 104 = .ok (.ireturn, 1) := by decide +kernel
theorem dX6_leaves_0 : decode cX6_leaves 0 = .ok (.aload_n 0, 1) := by decide +kernel
theorem dX6_leaves_1 : decode cX6_leaves 1 = .ok (.getfield 19, 3) := by decide +kernel
theorem dX6_leaves_4 : decode cX6_leaves 4 = .ok (.iload_n 1, 1) := by decide +kernel
theorem dX6_leaves_5 : decode cX6_leaves 5 = .ok (.invokevirtual 123, 3) := by decide +kernel
theorem dX6_leaves_8 : decode cX6_leaves 8 = .ok (.ifCond .ne 5, 3) := by decide +kernel
theorem dX6_leaves_11 : decode cX6_leaves 11 = .ok (.iconst (-1), 1) := by decide +kernel
theorem dX6_leaves_12 : decode cX6_leaves 12 = .ok (.ireturn, 1) := by decide +kernel
theorem dX6_leaves_13 : decode cX6_leaves 13 = .ok (.aload_n 0, 1) := by decide +kernel
theorem dX6_leaves_14 : decode cX6_leaves 14 = .ok (.getfield 29, 3) := by decide +kernel
theorem dX6_leaves_17 : decode cX6_leaves 17 = .ok (.iload_n 1, 1) := by decide +kernel
theorem dX6_leaves_18 : decode cX6_leaves 18 = .ok (.invokevirtual 164, 3) := by decide +kernel
theorem dX6_leaves_21 : decode cX6_leaves 21 = .ok (.ifCond .eq 16, 3) := by decide +kernel
theorem dX6_leaves_24 : decode cX6_leaves 24 = .ok (.aload_n 0, 1) := by decide +kernel
theorem dX6_leaves_25 : decode cX6_leaves 25 = .ok (.getfield 29, 3) := by decide +kernel
theorem dX6_leaves_28 : decode cX6_leaves 28 = .ok (.getfield 144, 3) := by decide +kernel
theorem dX6_leaves_31 : decode cX6_leaves 31 = .ok (.sipush 999, 3) := by decide +kernel
theorem dX6_leaves_34 : decode cX6_leaves 34 = .ok (.if_icmp .lt 6, 3) := by decide +kernel
theorem dX6_leaves_37 : decode cX6_leaves 37 = .ok (.bipush (-2), 2) := by decide +kernel
theorem dX6_leaves_39 : decode cX6_leaves 39 = .ok (.ireturn, 1) := by decide +kernel
theorem dX6_leaves_40 : decode cX6_leaves 40 = .ok (.aload_n 0, 1) := by decide +kernel
theorem dX6_leaves_41 : decode cX6_leaves 41 = .ok (.getfield 36, 3) := by decide +kernel
theorem dX6_leaves_44 : decode cX6_leaves 44 = .ok (.aload_n 0, 1) := by decide +kernel
theorem dX6_leaves_45 : decode cX6_leaves 45 = .ok (.getfield 29, 3) := by decide +kernel
theorem dX6_leaves_48 : decode cX6_leaves 48 = .ok (.invokevirtual 153, 3) := by decide +kernel
theorem dX6_leaves_51 : decode cX6_leaves 51 = .ok (.aload_n 0, 1) := by decide +kernel
theorem dX6_leaves_52 : decode cX6_leaves 52 = .ok (.getfield 29, 3) := by decide +kernel
theorem dX6_leaves_55 : decode cX6_leaves 55 = .ok (.getfield 138, 3) := by decide +kernel
theorem dX6_leaves_58 : decode cX6_leaves 58 = .ok (.iload_n 1, 1) := by decide +kernel
theorem dX6_leaves_59 : decode cX6_leaves 59 = .ok (.aload_n 0, 1) := by decide +kernel
theorem dX6_leaves_60 : decode cX6_leaves 60 = .ok (.getfield 29, 3) := by decide +kernel
theorem dX6_leaves_63 : decode cX6_leaves 63 = .ok (.getfield 116, 3) := by decide +kernel
theorem dX6_leaves_66 : decode cX6_leaves 66 = .ok (.iastore, 1) := by decide +kernel
theorem dX6_leaves_67 : decode cX6_leaves 67 = .ok (.aload_n 0, 1) := by decide +kernel
theorem dX6_leaves_68 : decode cX6_leaves 68 = .ok (.getfield 29, 3) := by decide +kernel
theorem dX6_leaves_71 : decode cX6_leaves 71 = .ok (.dup, 1) := by decide +kernel
theorem dX6_leaves_72 : decode cX6_leaves 72 = .ok (.getfield 144, 3) := by decide +kernel
theorem dX6_leaves_75 : decode cX6_leaves 75 = .ok (.iconst 1, 1) := by decide +kernel
theorem dX6_leaves_76 : decode cX6_leaves 76 = .ok (.iadd, 1) := by decide +kernel
theorem dX6_leaves_77 : decode cX6_leaves 77 = .ok (.putfield 144, 3) := by decide +kernel
theorem dX6_leaves_80 : decode cX6_leaves 80 = .ok (.aload_n 0, 1) := by decide +kernel
theorem dX6_leaves_81 : decode cX6_leaves 81 = .ok (.getfield 29, 3) := by decide +kernel
theorem dX6_leaves_84 : decode cX6_leaves 84 = .ok (.aload_n 0, 1) := by decide +kernel
theorem dX6_leaves_85 : decode cX6_leaves 85 = .ok (.getfield 19, 3) := by decide +kernel
theorem dX6_leaves_88 : decode cX6_leaves 88 = .ok (.invokevirtual 161, 3) := by decide +kernel
theorem dX6_leaves_91 : decode cX6_leaves 91 = .ok (.ireturn, 1) := by decide +kernel
theorem dX6_encores_0 : decode cX6_encores 0 = .ok (.iload_n 1, 1) := by decide +kernel
theorem dX6_encores_1 : decode cX6_encores 1 = .ok (.iconst 1, 1) := by decide +kernel
theorem dX6_encores_2 : decode cX6_encores 2 = .ok (.if_icmp .lt 9, 3) := by decide +kernel
theorem dX6_encores_5 : decode cX6_encores 5 = .ok (.iload_n 1, 1) := by decide +kernel
theorem dX6_encores_6 : decode cX6_encores 6 = .ok (.bipush 30, 2) := by decide +kernel
theorem dX6_encores_8 : decode cX6_encores 8 = .ok (.if_icmp .le 5, 3) := by decide +kernel
theorem dX6_encores_11 : decode cX6_encores 11 = .ok (.iconst (-1), 1) := by decide +kernel
theorem dX6_encores_12 : decode cX6_encores 12 = .ok (.ireturn, 1) := by decide +kernel
theorem dX6_encores_13 : decode cX6_encores 13 = .ok (.aload_n 0, 1) := by decide +kernel
theorem dX6_encores_14 : decode cX6_encores 14 = .ok (.getfield 29, 3) := by decide +kernel
theorem dX6_encores_17 : decode cX6_encores 17 = .ok (.getfield 144, 3) := by decide +kernel
theorem dX6_encores_20 : decode cX6_encores 20 = .ok (.iload_n 1, 1) := by decide +kernel
theorem dX6_encores_21 : decode cX6_encores 21 = .ok (.iadd, 1) := by decide +kernel
theorem dX6_encores_22 : decode cX6_encores 22 = .ok (.sipush 999, 3) := by decide +kernel
theorem dX6_encores_25 : decode cX6_encores 25 = .ok (.if_icmp .le 6, 3) := by decide +kernel
theorem dX6_encores_28 : decode cX6_encores 28 = .ok (.bipush (-2), 2) := by decide +kernel
theorem dX6_encores_30 : decode cX6_encores 30 = .ok (.ireturn, 1) := by decide +kernel
theorem dX6_encores_31 : decode cX6_encores 31 = .ok (.aload_n 0, 1) := by decide +kernel
theorem dX6_encores_32 : decode cX6_encores 32 = .ok (.getfield 36, 3) := by decide +kernel
theorem dX6_encores_35 : decode cX6_encores 35 = .ok (.aload_n 0, 1) := by decide +kernel
theorem dX6_encores_36 : decode cX6_encores 36 = .ok (.getfield 29, 3) := by decide +kernel
theorem dX6_encores_39 : decode cX6_encores 39 = .ok (.invokevirtual 153, 3) := by decide +kernel
theorem dX6_encores_42 : decode cX6_encores 42 = .ok (.aload_n 0, 1) := by decide +kernel
theorem dX6_encores_43 : decode cX6_encores 43 = .ok (.getfield 29, 3) := by decide +kernel
theorem dX6_encores_46 : decode cX6_encores 46 = .ok (.dup, 1) := by decide +kernel
theorem dX6_encores_47 : decode cX6_encores 47 = .ok (.getfield 144, 3) := by decide +kernel
theorem dX6_encores_50 : decode cX6_encores 50 = .ok (.iload_n 1, 1) := by decide +kernel
theorem dX6_encores_51 : decode cX6_encores 51 = .ok (.iadd, 1) := by decide +kernel
theorem dX6_encores_52 : decode cX6_encores 52 = .ok (.putfield 144, 3) := by decide +kernel
theorem dX6_encores_55 : decode cX6_encores 55 = .ok (.aload_n 0, 1) := by decide +kernel
theorem dX6_encores_56 : decode cX6_encores 56 = .ok (.getfield 29, 3) := by decide +kernel
theorem dX6_encores_59 : decode cX6_encores 59 = .ok (.getfield 144, 3) := by decide +kernel
theorem dX6_encores_62 : decode cX6_encores 62 = .ok (.ireturn, 1) := by decide +kernel
theorem dX6_undo_0 : decode cX6_undo 0 = .ok (.aload_n 0, 1) := by decide +kernel
theorem dX6_undo_1 : decode cX6_undo 1 = .ok (.getfield 36, 3) := by decide +kernel
theorem dX6_undo_4 : decode cX6_undo 4 = .ok (.aload_n 0, 1) := by decide +kernel
theorem dX6_undo_5 : decode cX6_undo 5 = .ok (.getfield 29, 3) := by decide +kernel
theorem dX6_undo_8 : decode cX6_undo 8 = .ok (.invokevirtual 167, 3) := by decide +kernel
theorem dX6_undo_11 : decode cX6_undo 11 = .ok (.ifCond .ne 6, 3) := by decide +kernel
theorem dX6_undo_14 : decode cX6_undo 14 = .ok (.bipush (-2), 2) := by decide +kernel
theorem dX6_undo_16 : decode cX6_undo 16 = .ok (.ireturn, 1) := by decide +kernel
theorem dX6_undo_17 : decode cX6_undo 17 = .ok (.aload_n 0, 1) := by decide +kernel
theorem dX6_undo_18 : decode cX6_undo 18 = .ok (.getfield 36, 3) := by decide +kernel
theorem dX6_undo_21 : decode cX6_undo 21 = .ok (.getfield 95, 3) := by decide +kernel
theorem dX6_undo_24 : decode cX6_undo 24 = .ok (.ireturn, 1) := by decide +kernel
theorem dX6_back_0 : decode cX6_back 0 = .ok (.iload_n 1, 1) := by decide +kernel
theorem dX6_back_1 : decode cX6_back 1 = .ok (.lookupswitch 60 #[(0, 27), (1, 44)], 27) := by decide +kernel
theorem dX6_back_28 : decode cX6_back 28 = .ok (.aload_n 0, 1) := by decide +kernel
theorem dX6_back_29 : decode cX6_back 29 = .ok (.getfield 58, 3) := by decide +kernel
theorem dX6_back_32 : decode cX6_back 32 = .ok (.aload_n 0, 1) := by decide +kernel
theorem dX6_back_33 : decode cX6_back 33 = .ok (.getfield 19, 3) := by decide +kernel
theorem dX6_back_36 : decode cX6_back 36 = .ok (.aload_n 0, 1) := by decide +kernel
theorem dX6_back_37 : decode cX6_back 37 = .ok (.getfield 29, 3) := by decide +kernel
theorem dX6_back_40 : decode cX6_back 40 = .ok (.iconst 0, 1) := by decide +kernel
theorem dX6_back_41 : decode cX6_back 41 = .ok (.invokevirtual 171, 3) := by decide +kernel
theorem dX6_back_44 : decode cX6_back 44 = .ok (.ireturn, 1) := by decide +kernel
theorem dX6_back_45 : decode cX6_back 45 = .ok (.aload_n 0, 1) := by decide +kernel
theorem dX6_back_46 : decode cX6_back 46 = .ok (.getfield 58, 3) := by decide +kernel
theorem dX6_back_49 : decode cX6_back 49 = .ok (.aload_n 0, 1) := by decide +kernel
theorem dX6_back_50 : decode cX6_back 50 = .ok (.getfield 19, 3) := by decide +kernel
theorem dX6_back_53 : decode cX6_back 53 = .ok (.aload_n 0, 1) := by decide +kernel
theorem dX6_back_54 : decode cX6_back 54 = .ok (.getfield 29, 3) := by decide +kernel
theorem dX6_back_57 : decode cX6_back 57 = .ok (.invokevirtual 175, 3) := by decide +kernel
theorem dX6_back_60 : decode cX6_back 60 = .ok (.ireturn, 1) := by decide +kernel
theorem dX6_back_61 : decode cX6_back 61 = .ok (.iconst (-1), 1) := by decide +kernel
theorem dX6_back_62 : decode cX6_back 62 = .ok (.ireturn, 1) := by decide +kernel
theorem dX6_left_0 : decode cX6_left 0 = .ok (.aload_n 0, 1) := by decide +kernel
theorem dX6_left_1 : decode cX6_left 1 = .ok (.getfield 19, 3) := by decide +kernel
theorem dX6_left_4 : decode cX6_left 4 = .ok (.getfield 179, 3) := by decide +kernel
theorem dX6_left_7 : decode cX6_left 7 = .ok (.aload_n 0, 1) := by decide +kernel
theorem dX6_left_8 : decode cX6_left 8 = .ok (.getfield 29, 3) := by decide +kernel
theorem dX6_left_11 : decode cX6_left 11 = .ok (.getfield 144, 3) := by decide +kernel
theorem dX6_left_14 : decode cX6_left 14 = .ok (.isub, 1) := by decide +kernel
theorem dX6_left_15 : decode cX6_left 15 = .ok (.aload_n 0, 1) := by decide +kernel
theorem dX6_left_16 : decode cX6_left 16 = .ok (.getfield 58, 3) := by decide +kernel
theorem dX6_left_19 : decode cX6_left 19 = .ok (.aload_n 0, 1) := by decide +kernel
theorem dX6_left_20 : decode cX6_left 20 = .ok (.getfield 19, 3) := by decide +kernel
theorem dX6_left_23 : decode cX6_left 23 = .ok (.aload_n 0, 1) := by decide +kernel
theorem dX6_left_24 : decode cX6_left 24 = .ok (.getfield 29, 3) := by decide +kernel
theorem dX6_left_27 : decode cX6_left 27 = .ok (.iconst 0, 1) := by decide +kernel
theorem dX6_left_28 : decode cX6_left 28 = .ok (.invokevirtual 171, 3) := by decide +kernel
theorem dX6_left_31 : decode cX6_left 31 = .ok (.isub, 1) := by decide +kernel
theorem dX6_left_32 : decode cX6_left 32 = .ok (.ireturn, 1) := by decide +kernel
theorem dX6_see_0 : decode cX6_see 0 = .ok (.aload_n 0, 1) := by decide +kernel
theorem dX6_see_1 : decode cX6_see 1 = .ok (.getfield 19, 3) := by decide +kernel
theorem dX6_see_4 : decode cX6_see 4 = .ok (.getfield 182, 3) := by decide +kernel
theorem dX6_see_7 : decode cX6_see 7 = .ok (.istore_n 1, 1) := by decide +kernel
theorem dX6_see_8 : decode cX6_see 8 = .ok (.iload_n 1, 1) := by decide +kernel
theorem dX6_see_9 : decode cX6_see 9 = .ok (.ifCond .lt 45, 3) := by decide +kernel
theorem dX6_see_12 : decode cX6_see 12 = .ok (.aload_n 0, 1) := by decide +kernel
theorem dX6_see_13 : decode cX6_see 13 = .ok (.getfield 29, 3) := by decide +kernel
theorem dX6_see_16 : decode cX6_see 16 = .ok (.getfield 144, 3) := by decide +kernel
theorem dX6_see_19 : decode cX6_see 19 = .ok (.aload_n 0, 1) := by decide +kernel
theorem dX6_see_20 : decode cX6_see 20 = .ok (.getfield 58, 3) := by decide +kernel
theorem dX6_see_23 : decode cX6_see 23 = .ok (.aload_n 0, 1) := by decide +kernel
theorem dX6_see_24 : decode cX6_see 24 = .ok (.getfield 19, 3) := by decide +kernel
theorem dX6_see_27 : decode cX6_see 27 = .ok (.aload_n 0, 1) := by decide +kernel
theorem dX6_see_28 : decode cX6_see 28 = .ok (.getfield 29, 3) := by decide +kernel
theorem dX6_see_31 : decode cX6_see 31 = .ok (.iload_n 1, 1) := by decide +kernel
theorem dX6_see_32 : decode cX6_see 32 = .ok (.invokevirtual 171, 3) := by decide +kernel
theorem dX6_see_35 : decode cX6_see 35 = .ok (.iadd, 1) := by decide +kernel
theorem dX6_see_36 : decode cX6_see 36 = .ok (.aload_n 0, 1) := by decide +kernel
theorem dX6_see_37 : decode cX6_see 37 = .ok (.getfield 19, 3) := by decide +kernel
theorem dX6_see_40 : decode cX6_see 40 = .ok (.getfield 179, 3) := by decide +kernel
theorem dX6_see_43 : decode cX6_see 43 = .ok (.if_icmp .gt 5, 3) := by decide +kernel
theorem dX6_see_46 : decode cX6_see 46 = .ok (.iload_n 1, 1) := by decide +kernel
theorem dX6_see_47 : decode cX6_see 47 = .ok (.ireturn, 1) := by decide +kernel
theorem dX6_see_48 : decode cX6_see 48 = .ok (.iinc 1 (-1), 3) := by decide +kernel
theorem dX6_see_51 : decode cX6_see 51 = .ok (.goto (-43), 3) := by decide +kernel
theorem dX6_see_54 : decode cX6_see 54 = .ok (.bipush (-9), 2) := by decide +kernel
theorem dX6_see_56 : decode cX6_see 56 = .ok (.ireturn, 1) := by decide +kernel
theorem dX6_seenBy_0 : decode cX6_seenBy 0 = .ok (.iload_n 1, 1) := by decide +kernel
theorem dX6_seenBy_1 : decode cX6_seenBy 1 = .ok (.ifCond .lt 8, 3) := by decide +kernel
theorem dX6_seenBy_4 : decode cX6_seenBy 4 = .ok (.iload_n 1, 1) := by decide +kernel
theorem dX6_seenBy_5 : decode cX6_seenBy 5 = .ok (.iconst 4, 1) := by decide +kernel
theorem dX6_seenBy_6 : decode cX6_seenBy 6 = .ok (.if_icmp .le 5, 3) := by decide +kernel
theorem dX6_seenBy_9 : decode cX6_seenBy 9 = .ok (.iconst (-1), 1) := by decide +kernel
theorem dX6_seenBy_10 : decode cX6_seenBy 10 = .ok (.ireturn, 1) := by decide +kernel
theorem dX6_seenBy_11 : decode cX6_seenBy 11 = .ok (.iload_n 1, 1) := by decide +kernel
theorem dX6_seenBy_12 : decode cX6_seenBy 12 = .ok (.aload_n 0, 1) := by decide +kernel
theorem dX6_seenBy_13 : decode cX6_seenBy 13 = .ok (.getfield 19, 3) := by decide +kernel
theorem dX6_seenBy_16 : decode cX6_seenBy 16 = .ok (.getfield 182, 3) := by decide +kernel
theorem dX6_seenBy_19 : decode cX6_seenBy 19 = .ok (.if_icmp .le 8, 3) := by decide +kernel
theorem dX6_seenBy_22 : decode cX6_seenBy 22 = .ok (.bipush (-9), 2) := by decide +kernel
theorem dX6_seenBy_24 : decode cX6_seenBy 24 = .ok (.goto 19, 3) := by decide +kernel
theorem dX6_seenBy_27 : decode cX6_seenBy 27 = .ok (.aload_n 0, 1) := by decide +kernel
theorem dX6_seenBy_28 : decode cX6_seenBy 28 = .ok (.getfield 58, 3) := by decide +kernel
theorem dX6_seenBy_31 : decode cX6_seenBy 31 = .ok (.aload_n 0, 1) := by decide +kernel
theorem dX6_seenBy_32 : decode cX6_seenBy 32 = .ok (.getfield 19, 3) := by decide +kernel
theorem dX6_seenBy_35 : decode cX6_seenBy 35 = .ok (.aload_n 0, 1) := by decide +kernel
theorem dX6_seenBy_36 : decode cX6_seenBy 36 = .ok (.getfield 29, 3) := by decide +kernel
theorem dX6_seenBy_39 : decode cX6_seenBy 39 = .ok (.iload_n 1, 1) := by decide +kernel
theorem dX6_seenBy_40 : decode cX6_seenBy 40 = .ok (.invokevirtual 171, 3) := by decide +kernel
theorem dX6_seenBy_43 : decode cX6_seenBy 43 = .ok (.ireturn, 1) := by decide +kernel
theorem dX6_odds_0 : decode cX6_odds 0 = .ok (.iload_n 1, 1) := by decide +kernel
theorem dX6_odds_1 : decode cX6_odds 1 = .ok (.ifCond .lt 27, 3) := by decide +kernel
theorem dX6_odds_4 : decode cX6_odds 4 = .ok (.iload_n 1, 1) := by decide +kernel
theorem dX6_odds_5 : decode cX6_odds 5 = .ok (.bipush 10, 2) := by decide +kernel
theorem dX6_odds_7 : decode cX6_odds 7 = .ok (.if_icmp .gt 21, 3) := by decide +kernel
theorem dX6_odds_10 : decode cX6_odds 10 = .ok (.iload_n 2, 1) := by decide +kernel
theorem dX6_odds_11 : decode cX6_odds 11 = .ok (.ifCond .lt 17, 3) := by decide +kernel
theorem dX6_odds_14 : decode cX6_odds 14 = .ok (.iload_n 2, 1) := by decide +kernel
theorem dX6_odds_15 : decode cX6_odds 15 = .ok (.iconst 4, 1) := by decide +kernel
theorem dX6_odds_16 : decode cX6_odds 16 = .ok (.if_icmp .gt 12, 3) := by decide +kernel
theorem dX6_odds_19 : decode cX6_odds 19 = .ok (.iload_n 3, 1) := by decide +kernel
theorem dX6_odds_20 : decode cX6_odds 20 = .ok (.ifCond .lt 8, 3) := by decide +kernel
theorem dX6_odds_23 : decode cX6_odds 23 = .ok (.iload_n 3, 1) := by decide +kernel
theorem dX6_odds_24 : decode cX6_odds 24 = .ok (.iconst 1, 1) := by decide +kernel
theorem dX6_odds_25 : decode cX6_odds 25 = .ok (.if_icmp .le 5, 3) := by decide +kernel
theorem dX6_odds_28 : decode cX6_odds 28 = .ok (.iconst (-1), 1) := by decide +kernel
theorem dX6_odds_29 : decode cX6_odds 29 = .ok (.ireturn, 1) := by decide +kernel
theorem dX6_odds_30 : decode cX6_odds 30 = .ok (.aload_n 0, 1) := by decide +kernel
theorem dX6_odds_31 : decode cX6_odds 31 = .ok (.getfield 29, 3) := by decide +kernel
theorem dX6_odds_34 : decode cX6_odds 34 = .ok (.aload_n 0, 1) := by decide +kernel
theorem dX6_odds_35 : decode cX6_odds 35 = .ok (.getfield 19, 3) := by decide +kernel
theorem dX6_odds_38 : decode cX6_odds 38 = .ok (.invokevirtual 147, 3) := by decide +kernel
theorem dX6_odds_41 : decode cX6_odds 41 = .ok (.invokestatic 185, 3) := by decide +kernel
theorem dX6_odds_44 : decode cX6_odds 44 = .ok (.istore 4, 2) := by decide +kernel
theorem dX6_odds_46 : decode cX6_odds 46 = .ok (.aload_n 0, 1) := by decide +kernel
theorem dX6_odds_47 : decode cX6_odds 47 = .ok (.iload 4, 2) := by decide +kernel
theorem dX6_odds_49 : decode cX6_odds 49 = .ok (.iload_n 1, 1) := by decide +kernel
theorem dX6_odds_50 : decode cX6_odds 50 = .ok (.invokevirtual 191, 3) := by decide +kernel
theorem dX6_odds_53 : decode cX6_odds 53 = .ok (.istore 5, 2) := by decide +kernel
theorem dX6_odds_55 : decode cX6_odds 55 = .ok (.iconst 0, 1) := by decide +kernel
theorem dX6_odds_56 : decode cX6_odds 56 = .ok (.istore 6, 2) := by decide +kernel
theorem dX6_odds_58 : decode cX6_odds 58 = .ok (.iconst 0, 1) := by decide +kernel
theorem dX6_odds_59 : decode cX6_odds 59 = .ok (.istore 7, 2) := by decide +kernel
theorem dX6_odds_61 : decode cX6_odds 61 = .ok (.iload 7, 2) := by decide +kernel
theorem dX6_odds_63 : decode cX6_odds 63 = .ok (.iload_n 2, 1) := by decide +kernel
theorem dX6_odds_64 : decode cX6_odds 64 = .ok (.if_icmp .gt 31, 3) := by decide +kernel
theorem dX6_odds_67 : decode cX6_odds 67 = .ok (.iload 7, 2) := by decide +kernel
theorem dX6_odds_69 : decode cX6_odds 69 = .ok (.aload_n 0, 1) := by decide +kernel
theorem dX6_odds_70 : decode cX6_odds 70 = .ok (.getfield 66, 3) := by decide +kernel
theorem dX6_odds_73 : decode cX6_odds 73 = .ok (.arraylength, 1) := by decide +kernel
theorem dX6_odds_74 : decode cX6_odds 74 = .ok (.if_icmp .ge 21, 3) := by decide +kernel
theorem dX6_odds_77 : decode cX6_odds 77 = .ok (.iload 6, 2) := by decide +kernel
theorem dX6_odds_79 : decode cX6_odds 79 = .ok (.aload_n 0, 1) := by decide +kernel
theorem dX6_odds_80 : decode cX6_odds 80 = .ok (.getfield 66, 3) := by decide +kernel
theorem dX6_odds_83 : decode cX6_odds 83 = .ok (.iload 7, 2) := by decide +kernel
theorem dX6_odds_85 : decode cX6_odds 85 = .ok (.iaload, 1) := by decide +kernel
theorem dX6_odds_86 : decode cX6_odds 86 = .ok (.iadd, 1) := by decide +kernel
theorem dX6_odds_87 : decode cX6_odds 87 = .ok (.istore 6, 2) := by decide +kernel
theorem dX6_odds_89 : decode cX6_odds 89 = .ok (.iinc 7 1, 3) := by decide +kernel
theorem dX6_odds_92 : decode cX6_odds 92 = .ok (.goto (-31), 3) := by decide +kernel
theorem dX6_odds_95 : decode cX6_odds 95 = .ok (.iload 5, 2) := by decide +kernel
theorem dX6_odds_97 : decode cX6_odds 97 = .ok (.iload 6, 2) := by decide +kernel
theorem dX6_odds_99 : decode cX6_odds 99 = .ok (.invokestatic 194, 3) := by decide +kernel
theorem dX6_odds_102 : decode cX6_odds 102 = .ok (.istore 7, 2) := by decide +kernel
theorem dX6_odds_104 : decode cX6_odds 104 = .ok (.iload 7, 2) := by decide +kernel
theorem dX6_odds_106 : decode cX6_odds 106 = .ok (.ifCond .gt 5, 3) := by decide +kernel
theorem dX6_odds_109 : decode cX6_odds 109 = .ok (.iconst (-1), 1) := by decide +kernel
theorem dX6_odds_110 : decode cX6_odds 110 = .ok (.ireturn, 1) := by decide +kernel
theorem dX6_odds_111 : decode cX6_odds 111 = .ok (.iload_n 3, 1) := by decide +kernel
theorem dX6_odds_112 : decode cX6_odds 112 = .ok (.ifCond .ne 8, 3) := by decide +kernel
theorem dX6_odds_115 : decode cX6_odds 115 = .ok (.iload 6, 2) := by decide +kernel
theorem dX6_odds_117 : decode cX6_odds 117 = .ok (.goto 5, 3) := by decide +kernel
theorem dX6_odds_120 : decode cX6_odds 120 = .ok (.iload 5, 2) := by decide +kernel
theorem dX6_odds_122 : decode cX6_odds 122 = .ok (.iload 7, 2) := by decide +kernel
theorem dX6_odds_124 : decode cX6_odds 124 = .ok (.idiv, 1) := by decide +kernel
theorem dX6_odds_125 : decode cX6_odds 125 = .ok (.ireturn, 1) := by decide +kernel
theorem dX6_countOutcomes_0 : decode cX6_countOutcomes 0 = .ok (.aload_n 0, 1) := by decide +kernel
theorem dX6_countOutcomes_1 : decode cX6_countOutcomes 1 = .ok (.getfield 66, 3) := by decide +kernel
theorem dX6_countOutcomes_4 : decode cX6_countOutcomes 4 = .ok (.iconst 0, 1) := by decide +kernel
theorem dX6_countOutcomes_5 : decode cX6_countOutcomes 5 = .ok (.invokestatic 197, 3) := by decide +kernel
theorem dX6_countOutcomes_8 : decode cX6_countOutcomes 8 = .ok (.aload_n 0, 1) := by decide +kernel
theorem dX6_countOutcomes_9 : decode cX6_countOutcomes 9 = .ok (.getfield 66, 3) := by decide +kernel
theorem dX6_countOutcomes_12 : decode cX6_countOutcomes 12 = .ok (.iconst 0, 1) := by decide +kernel
theorem dX6_countOutcomes_13 : decode cX6_countOutcomes 13 = .ok (.iconst 1, 1) := by decide +kernel
theorem dX6_countOutcomes_14 : decode cX6_countOutcomes 14 = .ok (.iastore, 1) := by decide +kernel
theorem dX6_countOutcomes_15 : decode cX6_countOutcomes 15 = .ok (.iconst 1, 1) := by decide +kernel
theorem dX6_countOutcomes_16 : decode cX6_countOutcomes 16 = .ok (.istore_n 3, 1) := by decide +kernel
theorem dX6_countOutcomes_17 : decode cX6_countOutcomes 17 = .ok (.iconst 0, 1) := by decide +kernel
theorem dX6_countOutcomes_18 : decode cX6_countOutcomes 18 = .ok (.istore 4, 2) := by decide +kernel
theorem dX6_countOutcomes_20 : decode cX6_countOutcomes 20 = .ok (.iload 4, 2) := by decide +kernel
theorem dX6_countOutcomes_22 : decode cX6_countOutcomes 22 = .ok (.iload_n 1, 1) := by decide +kernel
theorem dX6_countOutcomes_23 : decode cX6_countOutcomes 23 = .ok (.if_icmp .ge 78, 3) := by decide +kernel
theorem dX6_countOutcomes_26 : decode cX6_countOutcomes 26 = .ok (.aload_n 0, 1) := by decide +kernel
theorem dX6_countOutcomes_27 : decode cX6_countOutcomes 27 = .ok (.getfield 66, 3) := by decide +kernel
theorem dX6_countOutcomes_30 : decode cX6_countOutcomes 30 = .ok (.arraylength, 1) := by decide +kernel
theorem dX6_countOutcomes_31 : decode cX6_countOutcomes 31 = .ok (.iconst 1, 1) := by decide +kernel
theorem dX6_countOutcomes_32 : decode cX6_countOutcomes 32 = .ok (.isub, 1) := by decide +kernel
theorem dX6_countOutcomes_33 : decode cX6_countOutcomes 33 = .ok (.istore 5, 2) := by decide +kernel
theorem dX6_countOutcomes_35 : decode cX6_countOutcomes 35 = .ok (.iload 5, 2) := by decide +kernel
theorem dX6_countOutcomes_37 : decode cX6_countOutcomes 37 = .ok (.ifCond .le 40, 3) := by decide +kernel
theorem dX6_countOutcomes_40 : decode cX6_countOutcomes 40 = .ok (.aload_n 0, 1) := by decide +kernel
theorem dX6_countOutcomes_41 : decode cX6_countOutcomes 41 = .ok (.getfield 66, 3) := by decide +kernel
theorem dX6_countOutcomes_44 : decode cX6_countOutcomes 44 = .ok (.iload 5, 2) := by decide +kernel
theorem dX6_countOutcomes_46 : decode cX6_countOutcomes 46 = .ok (.aload_n 0, 1) := by decide +kernel
theorem dX6_countOutcomes_47 : decode cX6_countOutcomes 47 = .ok (.getfield 66, 3) := by decide +kernel
theorem dX6_countOutcomes_50 : decode cX6_countOutcomes 50 = .ok (.iload 5, 2) := by decide +kernel
theorem dX6_countOutcomes_52 : decode cX6_countOutcomes 52 = .ok (.iaload, 1) := by decide +kernel
theorem dX6_countOutcomes_53 : decode cX6_countOutcomes 53 = .ok (.bipush 10, 2) := by decide +kernel
theorem dX6_countOutcomes_55 : decode cX6_countOutcomes 55 = .ok (.iload_n 2, 1) := by decide +kernel
theorem dX6_countOutcomes_56 : decode cX6_countOutcomes 56 = .ok (.isub, 1) := by decide +kernel
theorem dX6_countOutcomes_57 : decode cX6_countOutcomes 57 = .ok (.imul, 1) := by decide +kernel
theorem dX6_countOutcomes_58 : decode cX6_countOutcomes 58 = .ok (.aload_n 0, 1) := by decide +kernel
theorem dX6_countOutcomes_59 : decode cX6_countOutcomes 59 = .ok (.getfield 66, 3) := by decide +kernel
theorem dX6_countOutcomes_62 : decode cX6_countOutcomes 62 = .ok (.iload 5, 2) := by decide +kernel
theorem dX6_countOutcomes_64 : decode cX6_countOutcomes 64 = .ok (.iconst 1, 1) := by decide +kernel
theorem dX6_countOutcomes_65 : decode cX6_countOutcomes 65 = .ok (.isub, 1) := by decide +kernel
theorem dX6_countOutcomes_66 : decode cX6_countOutcomes 66 = .ok (.iaload, 1) := by decide +kernel
theorem dX6_countOutcomes_67 : decode cX6_countOutcomes 67 = .ok (.iload_n 2, 1) := by decide +kernel
theorem dX6_countOutcomes_68 : decode cX6_countOutcomes 68 = .ok (.imul, 1) := by decide +kernel
theorem dX6_countOutcomes_69 : decode cX6_countOutcomes 69 = .ok (.iadd, 1) := by decide +kernel
theorem dX6_countOutcomes_70 : decode cX6_countOutcomes 70 = .ok (.iastore, 1) := by decide +kernel
theorem dX6_countOutcomes_71 : decode cX6_countOutcomes 71 = .ok (.iinc 5 (-1), 3) := by decide +kernel
theorem dX6_countOutcomes_74 : decode cX6_countOutcomes 74 = .ok (.goto (-39), 3) := by decide +kernel
theorem dX6_countOutcomes_77 : decode cX6_countOutcomes 77 = .ok (.aload_n 0, 1) := by decide +kernel
theorem dX6_countOutcomes_78 : decode cX6_countOutcomes 78 = .ok (.getfield 66, 3) := by decide +kernel
theorem dX6_countOutcomes_81 : decode cX6_countOutcomes 81 = .ok (.iconst 0, 1) := by decide +kernel
theorem dX6_countOutcomes_82 : decode cX6_countOutcomes 82 = .ok (.dup2, 1) := by decide +kernel
theorem dX6_countOutcomes_83 : decode cX6_countOutcomes 83 = .ok (.iaload, 1) := by decide +kernel
theorem dX6_countOutcomes_84 : decode cX6_countOutcomes 84 = .ok (.bipush 10, 2) := by decide +kernel
theorem dX6_countOutcomes_86 : decode cX6_countOutcomes 86 = .ok (.iload_n 2, 1) := by decide +kernel
theorem dX6_countOutcomes_87 : decode cX6_countOutcomes 87 = .ok (.isub, 1) := by decide +kernel
theorem dX6_countOutcomes_88 : decode cX6_countOutcomes 88 = .ok (.imul, 1) := by decide +kernel
theorem dX6_countOutcomes_89 : decode cX6_countOutcomes 89 = .ok (.iastore, 1) := by decide +kernel
theorem dX6_countOutcomes_90 : decode cX6_countOutcomes 90 = .ok (.iload_n 3, 1) := by decide +kernel
theorem dX6_countOutcomes_91 : decode cX6_countOutcomes 91 = .ok (.bipush 10, 2) := by decide +kernel
theorem dX6_countOutcomes_93 : decode cX6_countOutcomes 93 = .ok (.imul, 1) := by decide +kernel
theorem dX6_countOutcomes_94 : decode cX6_countOutcomes 94 = .ok (.istore_n 3, 1) := by decide +kernel
theorem dX6_countOutcomes_95 : decode cX6_countOutcomes 95 = .ok (.iinc 4 1, 3) := by decide +kernel
theorem dX6_countOutcomes_98 : decode cX6_countOutcomes 98 = .ok (.goto (-78), 3) := by decide +kernel
theorem dX6_countOutcomes_101 : decode cX6_countOutcomes 101 = .ok (.iload_n 3, 1) := by decide +kernel
theorem dX6_countOutcomes_102 : decode cX6_countOutcomes 102 = .ok (.ireturn, 1) := by decide +kernel
theorem dX6_commonDivisor_0 : decode cX6_commonDivisor 0 = .ok (.iconst 0, 1) := by decide +kernel
theorem dX6_commonDivisor_1 : decode cX6_commonDivisor 1 = .ok (.istore_n 2, 1) := by decide +kernel
theorem dX6_commonDivisor_2 : decode cX6_commonDivisor 2 = .ok (.iload_n 2, 1) := by decide +kernel
theorem dX6_commonDivisor_3 : decode cX6_commonDivisor 3 = .ok (.bipush 64, 2) := by decide +kernel
theorem dX6_commonDivisor_5 : decode cX6_commonDivisor 5 = .ok (.if_icmp .ge 21, 3) := by decide +kernel
theorem dX6_commonDivisor_8 : decode cX6_commonDivisor 8 = .ok (.iload_n 1, 1) := by decide +kernel
theorem dX6_commonDivisor_9 : decode cX6_commonDivisor 9 = .ok (.ifCond .le 17, 3) := by decide +kernel
theorem dX6_commonDivisor_12 : decode cX6_commonDivisor 12 = .ok (.iload_n 0, 1) := by decide +kernel
theorem dX6_commonDivisor_13 : decode cX6_commonDivisor 13 = .ok (.iload_n 1, 1) := by decide +kernel
theorem dX6_commonDivisor_14 : decode cX6_commonDivisor 14 = .ok (.irem, 1) := by decide +kernel
theorem dX6_commonDivisor_15 : decode cX6_commonDivisor 15 = .ok (.istore_n 3, 1) := by decide +kernel
theorem dX6_commonDivisor_16 : decode cX6_commonDivisor 16 = .ok (.iload_n 1, 1) := by decide +kernel
theorem dX6_commonDivisor_17 : decode cX6_commonDivisor 17 = .ok (.istore_n 0, 1) := by decide +kernel
theorem dX6_commonDivisor_18 : decode cX6_commonDivisor 18 = .ok (.iload_n 3, 1) := by decide +kernel
theorem dX6_commonDivisor_19 : decode cX6_commonDivisor 19 = .ok (.istore_n 1, 1) := by decide +kernel
theorem dX6_commonDivisor_20 : decode cX6_commonDivisor 20 = .ok (.iinc 2 1, 3) := by decide +kernel
theorem dX6_commonDivisor_23 : decode cX6_commonDivisor 23 = .ok (.goto (-21), 3) := by decide +kernel
theorem dX6_commonDivisor_26 : decode cX6_commonDivisor 26 = .ok (.iload_n 0, 1) := by decide +kernel
theorem dX6_commonDivisor_27 : decode cX6_commonDivisor 27 = .ok (.ireturn, 1) := by decide +kernel
theorem dX6_knows_0 : decode cX6_knows 0 = .ok (.iload_n 1, 1) := by decide +kernel
theorem dX6_knows_1 : decode cX6_knows 1 = .ok (.ifCond .lt 8, 3) := by decide +kernel
theorem dX6_knows_4 : decode cX6_knows 4 = .ok (.iload_n 1, 1) := by decide +kernel
theorem dX6_knows_5 : decode cX6_knows 5 = .ok (.iconst 2, 1) := by decide +kernel
theorem dX6_knows_6 : decode cX6_knows 6 = .ok (.if_icmp .le 5, 3) := by decide +kernel
theorem dX6_knows_9 : decode cX6_knows 9 = .ok (.iconst (-1), 1) := by decide +kernel
theorem dX6_knows_10 : decode cX6_knows 10 = .ok (.ireturn, 1) := by decide +kernel
theorem dX6_knows_11 : decode cX6_knows 11 = .ok (.aload_n 0, 1) := by decide +kernel
theorem dX6_knows_12 : decode cX6_knows 12 = .ok (.invokevirtual 203, 3) := by decide +kernel
theorem dX6_knows_15 : decode cX6_knows 15 = .ok (.lstore_n 2, 1) := by decide +kernel
theorem dX6_knows_16 : decode cX6_knows 16 = .ok (.iconst 1, 1) := by decide +kernel
theorem dX6_knows_17 : decode cX6_knows 17 = .ok (.istore 4, 2) := by decide +kernel
theorem dX6_knows_19 : decode cX6_knows 19 = .ok (.iconst 0, 1) := by decide +kernel
theorem dX6_knows_20 : decode cX6_knows 20 = .ok (.istore 5, 2) := by decide +kernel
theorem dX6_knows_22 : decode cX6_knows 22 = .ok (.iconst 0, 1) := by decide +kernel
theorem dX6_knows_23 : decode cX6_knows 23 = .ok (.istore 6, 2) := by decide +kernel
theorem dX6_knows_25 : decode cX6_knows 25 = .ok (.iload 6, 2) := by decide +kernel
theorem dX6_knows_27 : decode cX6_knows 27 = .ok (.bipush 6, 2) := by decide +kernel
theorem dX6_knows_29 : decode cX6_knows 29 = .ok (.if_icmp .ge 39, 3) := by decide +kernel
theorem dX6_knows_32 : decode cX6_knows 32 = .ok (.aload_n 0, 1) := by decide +kernel
theorem dX6_knows_33 : decode cX6_knows 33 = .ok (.getfield 62, 3) := by decide +kernel
theorem dX6_knows_36 : decode cX6_knows 36 = .ok (.iload 6, 2) := by decide +kernel
theorem dX6_knows_38 : decode cX6_knows 38 = .ok (.iaload, 1) := by decide +kernel
theorem dX6_knows_39 : decode cX6_knows 39 = .ok (.invokestatic 185, 3) := by decide +kernel
theorem dX6_knows_42 : decode cX6_knows 42 = .ok (.istore 7, 2) := by decide +kernel
theorem dX6_knows_44 : decode cX6_knows 44 = .ok (.iload 4, 2) := by decide +kernel
theorem dX6_knows_46 : decode cX6_knows 46 = .ok (.iload 7, 2) := by decide +kernel
theorem dX6_knows_48 : decode cX6_knows 48 = .ok (.invokestatic 207, 3) := by decide +kernel
theorem dX6_knows_51 : decode cX6_knows 51 = .ok (.istore 4, 2) := by decide +kernel
theorem dX6_knows_53 : decode cX6_knows 53 = .ok (.iload 5, 2) := by decide +kernel
theorem dX6_knows_55 : decode cX6_knows 55 = .ok (.iload 7, 2) := by decide +kernel
theorem dX6_knows_57 : decode cX6_knows 57 = .ok (.iconst 1, 1) := by decide +kernel
theorem dX6_knows_58 : decode cX6_knows 58 = .ok (.isub, 1) := by decide +kernel
theorem dX6_knows_59 : decode cX6_knows 59 = .ok (.iadd, 1) := by decide +kernel
theorem dX6_knows_60 : decode cX6_knows 60 = .ok (.istore 5, 2) := by decide +kernel
theorem dX6_knows_62 : decode cX6_knows 62 = .ok (.iinc 6 1, 3) := by decide +kernel
theorem dX6_knows_65 : decode cX6_knows 65 = .ok (.goto (-40), 3) := by decide +kernel
theorem dX6_knows_68 : decode cX6_knows 68 = .ok (.iload_n 1, 1) := by decide +kernel
theorem dX6_knows_69 : decode cX6_knows 69 = .ok (.iconst 2, 1) := by decide +kernel
theorem dX6_knows_70 : decode cX6_knows 70 = .ok (.if_icmp .ne 6, 3) := by decide +kernel
theorem dX6_knows_73 : decode cX6_knows 73 = .ok (.iload 4, 2) := by decide +kernel
theorem dX6_knows_75 : decode cX6_knows 75 = .ok (.ireturn, 1) := by decide +kernel
theorem dX6_knows_76 : decode cX6_knows 76 = .ok (.iload_n 1, 1) := by decide +kernel
theorem dX6_knows_77 : decode cX6_knows 77 = .ok (.ifCond .ne 10, 3) := by decide +kernel
theorem dX6_knows_80 : decode cX6_knows 80 = .ok (.iload 5, 2) := by decide +kernel
theorem dX6_knows_82 : decode cX6_knows 82 = .ok (.iconst 2, 1) := by decide +kernel
theorem dX6_knows_83 : decode cX6_knows 83 = .ok (.idiv, 1) := by decide +kernel
theorem dX6_knows_84 : decode cX6_knows 84 = .ok (.goto 12, 3) := by decide +kernel
theorem dX6_knows_87 : decode cX6_knows 87 = .ok (.iload 5, 2) := by decide +kernel
theorem dX6_knows_89 : decode cX6_knows 89 = .ok (.iconst 2, 1) := by decide +kernel
theorem dX6_knows_90 : decode cX6_knows 90 = .ok (.idiv, 1) := by decide +kernel
theorem dX6_knows_91 : decode cX6_knows 91 = .ok (.lload_n 2, 1) := by decide +kernel
theorem dX6_knows_92 : decode cX6_knows 92 = .ok (.invokestatic 212, 3) := by decide +kernel
theorem dX6_knows_95 : decode cX6_knows 95 = .ok (.isub, 1) := by decide +kernel
theorem dX6_knows_96 : decode cX6_knows 96 = .ok (.ireturn, 1) := by decide +kernel
theorem dX6_joinTopics_0 : decode cX6_joinTopics 0 = .ok (.iconst 0, 1) := by decide +kernel
theorem dX6_joinTopics_1 : decode cX6_joinTopics 1 = .ok (.istore_n 1, 1) := by decide +kernel
theorem dX6_joinTopics_2 : decode cX6_joinTopics 2 = .ok (.iload_n 1, 1) := by decide +kernel
theorem dX6_joinTopics_3 : decode cX6_joinTopics 3 = .ok (.bipush 6, 2) := by decide +kernel
theorem dX6_joinTopics_5 : decode cX6_joinTopics 5 = .ok (.if_icmp .ge 18, 3) := by decide +kernel
theorem dX6_joinTopics_8 : decode cX6_joinTopics 8 = .ok (.aload_n 0, 1) := by decide +kernel
theorem dX6_joinTopics_9 : decode cX6_joinTopics 9 = .ok (.getfield 62, 3) := by decide +kernel
theorem dX6_joinTopics_12 : decode cX6_joinTopics 12 = .ok (.iload_n 1, 1) := by decide +kernel
theorem dX6_joinTopics_13 : decode cX6_joinTopics 13 = .ok (.iconst 1, 1) := by decide +kernel
theorem dX6_joinTopics_14 : decode cX6_joinTopics 14 = .ok (.iload_n 1, 1) := by decide +kernel
theorem dX6_joinTopics_15 : decode cX6_joinTopics 15 = .ok (.ishl, 1) := by decide +kernel
theorem dX6_joinTopics_16 : decode cX6_joinTopics 16 = .ok (.iastore, 1) := by decide +kernel
theorem dX6_joinTopics_17 : decode cX6_joinTopics 17 = .ok (.iinc 1 1, 3) := by decide +kernel
theorem dX6_joinTopics_20 : decode cX6_joinTopics 20 = .ok (.goto (-18), 3) := by decide +kernel
theorem dX6_joinTopics_23 : decode cX6_joinTopics 23 = .ok (.lconst 0, 1) := by decide +kernel
theorem dX6_joinTopics_24 : decode cX6_joinTopics 24 = .ok (.lstore_n 1, 1) := by decide +kernel
theorem dX6_joinTopics_25 : decode cX6_joinTopics 25 = .ok (.iconst 0, 1) := by decide +kernel
theorem dX6_joinTopics_26 : decode cX6_joinTopics 26 = .ok (.istore_n 3, 1) := by decide +kernel
theorem dX6_joinTopics_27 : decode cX6_joinTopics 27 = .ok (.iload_n 3, 1) := by decide +kernel
theorem dX6_joinTopics_28 : decode cX6_joinTopics 28 = .ok (.aload_n 0, 1) := by decide +kernel
theorem dX6_joinTopics_29 : decode cX6_joinTopics 29 = .ok (.getfield 19, 3) := by decide +kernel
theorem dX6_joinTopics_32 : decode cX6_joinTopics 32 = .ok (.getfield 182, 3) := by decide +kernel
theorem dX6_joinTopics_35 : decode cX6_joinTopics 35 = .ok (.if_icmp .ge 98, 3) := by decide +kernel
theorem dX6_joinTopics_38 : decode cX6_joinTopics 38 = .ok (.aload_n 0, 1) := by decide +kernel
theorem dX6_joinTopics_39 : decode cX6_joinTopics 39 = .ok (.getfield 29, 3) := by decide +kernel
theorem dX6_joinTopics_42 : decode cX6_joinTopics 42 = .ok (.iload_n 3, 1) := by decide +kernel
theorem dX6_joinTopics_43 : decode cX6_joinTopics 43 = .ok (.invokevirtual 141, 3) := by decide +kernel
theorem dX6_joinTopics_46 : decode cX6_joinTopics 46 = .ok (.ifCond .eq 81, 3) := by decide +kernel
theorem dX6_joinTopics_49 : decode cX6_joinTopics 49 = .ok (.aload_n 0, 1) := by decide +kernel
theorem dX6_joinTopics_50 : decode cX6_joinTopics 50 = .ok (.getfield 19, 3) := by decide +kernel
theorem dX6_joinTopics_53 : decode cX6_joinTopics 53 = .ok (.getfield 132, 3) := by decide +kernel
theorem dX6_joinTopics_56 : decode cX6_joinTopics 56 = .ok (.iload_n 3, 1) := by decide +kernel
theorem dX6_joinTopics_57 : decode cX6_joinTopics 57 = .ok (.iaload, 1) := by decide +kernel
theorem dX6_joinTopics_58 : decode cX6_joinTopics 58 = .ok (.aload_n 0, 1) := by decide +kernel
theorem dX6_joinTopics_59 : decode cX6_joinTopics 59 = .ok (.getfield 19, 3) := by decide +kernel
theorem dX6_joinTopics_62 : decode cX6_joinTopics 62 = .ok (.getfield 135, 3) := by decide +kernel
theorem dX6_joinTopics_65 : decode cX6_joinTopics 65 = .ok (.iload_n 3, 1) := by decide +kernel
theorem dX6_joinTopics_66 : decode cX6_joinTopics 66 = .ok (.iaload, 1) := by decide +kernel
theorem dX6_joinTopics_67 : decode cX6_joinTopics 67 = .ok (.invokestatic 217, 3) := by decide +kernel
theorem dX6_joinTopics_70 : decode cX6_joinTopics 70 = .ok (.istore 4, 2) := by decide +kernel
theorem dX6_joinTopics_72 : decode cX6_joinTopics 72 = .ok (.aload_n 0, 1) := by decide +kernel
theorem dX6_joinTopics_73 : decode cX6_joinTopics 73 = .ok (.getfield 19, 3) := by decide +kernel
theorem dX6_joinTopics_76 : decode cX6_joinTopics 76 = .ok (.getfield 132, 3) := by decide +kernel
theorem dX6_joinTopics_79 : decode cX6_joinTopics 79 = .ok (.iload_n 3, 1) := by decide +kernel
theorem dX6_joinTopics_80 : decode cX6_joinTopics 80 = .ok (.iaload, 1) := by decide +kernel
theorem dX6_joinTopics_81 : decode cX6_joinTopics 81 = .ok (.aload_n 0, 1) := by decide +kernel
theorem dX6_joinTopics_82 : decode cX6_joinTopics 82 = .ok (.getfield 19, 3) := by decide +kernel
theorem dX6_joinTopics_85 : decode cX6_joinTopics 85 = .ok (.getfield 135, 3) := by decide +kernel
theorem dX6_joinTopics_88 : decode cX6_joinTopics 88 = .ok (.iload_n 3, 1) := by decide +kernel
theorem dX6_joinTopics_89 : decode cX6_joinTopics 89 = .ok (.iaload, 1) := by decide +kernel
theorem dX6_joinTopics_90 : decode cX6_joinTopics 90 = .ok (.invokestatic 207, 3) := by decide +kernel
theorem dX6_joinTopics_93 : decode cX6_joinTopics 93 = .ok (.istore 5, 2) := by decide +kernel
theorem dX6_joinTopics_95 : decode cX6_joinTopics 95 = .ok (.lload_n 1, 1) := by decide +kernel
theorem dX6_joinTopics_96 : decode cX6_joinTopics 96 = .ok (.lconst 1, 1) := by decide +kernel
theorem dX6_joinTopics_97 : decode cX6_joinTopics 97 = .ok (.iload 4, 2) := by decide +kernel
theorem dX6_joinTopics_99 : decode cX6_joinTopics 99 = .ok (.bipush 6, 2) := by decide +kernel
theorem dX6_joinTopics_101 : decode cX6_joinTopics 101 = .ok (.imul, 1) := by decide +kernel
theorem dX6_joinTopics_102 : decode cX6_joinTopics 102 = .ok (.iload 5, 2) := by decide +kernel
theorem dX6_joinTopics_104 : decode cX6_joinTopics 104 = .ok (.iadd, 1) := by decide +kernel
theorem dX6_joinTopics_105 : decode cX6_joinTopics 105 = .ok (.lshl, 1) := by decide +kernel
theorem dX6_joinTopics_106 : decode cX6_joinTopics 106 = .ok (.lor, 1) := by decide +kernel
theorem dX6_joinTopics_107 : decode cX6_joinTopics 107 = .ok (.lstore_n 1, 1) := by decide +kernel
theorem dX6_joinTopics_108 : decode cX6_joinTopics 108 = .ok (.aload_n 0, 1) := by decide +kernel
theorem dX6_joinTopics_109 : decode cX6_joinTopics 109 = .ok (.aload_n 0, 1) := by decide +kernel
theorem dX6_joinTopics_110 : decode cX6_joinTopics 110 = .ok (.getfield 62, 3) := by decide +kernel
theorem dX6_joinTopics_113 : decode cX6_joinTopics 113 = .ok (.iload 4, 2) := by decide +kernel
theorem dX6_joinTopics_115 : decode cX6_joinTopics 115 = .ok (.iaload, 1) := by decide +kernel
theorem dX6_joinTopics_116 : decode cX6_joinTopics 116 = .ok (.aload_n 0, 1) := by decide +kernel
theorem dX6_joinTopics_117 : decode cX6_joinTopics 117 = .ok (.getfield 62, 3) := by decide +kernel
theorem dX6_joinTopics_120 : decode cX6_joinTopics 120 = .ok (.iload 5, 2) := by decide +kernel
theorem dX6_joinTopics_122 : decode cX6_joinTopics 122 = .ok (.iaload, 1) := by decide +kernel
theorem dX6_joinTopics_123 : decode cX6_joinTopics 123 = .ok (.ior, 1) := by decide +kernel
theorem dX6_joinTopics_124 : decode cX6_joinTopics 124 = .ok (.invokevirtual 220, 3) := by decide +kernel
theorem dX6_joinTopics_127 : decode cX6_joinTopics 127 = .ok (.iinc 3 1, 3) := by decide +kernel
theorem dX6_joinTopics_130 : decode cX6_joinTopics 130 = .ok (.goto (-103), 3) := by decide +kernel
theorem dX6_joinTopics_133 : decode cX6_joinTopics 133 = .ok (.lload_n 1, 1) := by decide +kernel
theorem dX6_joinTopics_134 : decode cX6_joinTopics 134 = .ok (.lreturn, 1) := by decide +kernel
theorem dX6_joinGroups_0 : decode cX6_joinGroups 0 = .ok (.iconst 0, 1) := by decide +kernel
theorem dX6_joinGroups_1 : decode cX6_joinGroups 1 = .ok (.istore_n 2, 1) := by decide +kernel
theorem dX6_joinGroups_2 : decode cX6_joinGroups 2 = .ok (.iload_n 2, 1) := by decide +kernel
theorem dX6_joinGroups_3 : decode cX6_joinGroups 3 = .ok (.bipush 6, 2) := by decide +kernel
theorem dX6_joinGroups_5 : decode cX6_joinGroups 5 = .ok (.if_icmp .ge 25, 3) := by decide +kernel
theorem dX6_joinGroups_8 : decode cX6_joinGroups 8 = .ok (.iload_n 1, 1) := by decide +kernel
theorem dX6_joinGroups_9 : decode cX6_joinGroups 9 = .ok (.iload_n 2, 1) := by decide +kernel
theorem dX6_joinGroups_10 : decode cX6_joinGroups 10 = .ok (.ishr, 1) := by decide +kernel
theorem dX6_joinGroups_11 : decode cX6_joinGroups 11 = .ok (.iconst 1, 1) := by decide +kernel
theorem dX6_joinGroups_12 : decode cX6_joinGroups 12 = .ok (.iand, 1) := by decide +kernel
theorem dX6_joinGroups_13 : decode cX6_joinGroups 13 = .ok (.iconst 1, 1) := by decide +kernel
theorem dX6_joinGroups_14 : decode cX6_joinGroups 14 = .ok (.if_icmp .ne 10, 3) := by decide +kernel
theorem dX6_joinGroups_17 : decode cX6_joinGroups 17 = .ok (.aload_n 0, 1) := by decide +kernel
theorem dX6_joinGroups_18 : decode cX6_joinGroups 18 = .ok (.getfield 62, 3) := by decide +kernel
theorem dX6_joinGroups_21 : decode cX6_joinGroups 21 = .ok (.iload_n 2, 1) := by decide +kernel
theorem dX6_joinGroups_22 : decode cX6_joinGroups 22 = .ok (.iload_n 1, 1) := by decide +kernel
theorem dX6_joinGroups_23 : decode cX6_joinGroups 23 = .ok (.iastore, 1) := by decide +kernel
theorem dX6_joinGroups_24 : decode cX6_joinGroups 24 = .ok (.iinc 2 1, 3) := by decide +kernel
theorem dX6_joinGroups_27 : decode cX6_joinGroups 27 = .ok (.goto (-25), 3) := by decide +kernel
theorem dX6_joinGroups_30 : decode cX6_joinGroups 30 = .ok (.return_, 1) := by decide +kernel
theorem dX6_felt_0 : decode cX6_felt 0 = .ok (.iload_n 1, 1) := by decide +kernel
theorem dX6_felt_1 : decode cX6_felt 1 = .ok (.ifCond .lt 9, 3) := by decide +kernel
theorem dX6_felt_4 : decode cX6_felt 4 = .ok (.iload_n 1, 1) := by decide +kernel
theorem dX6_felt_5 : decode cX6_felt 5 = .ok (.bipush 31, 2) := by decide +kernel
theorem dX6_felt_7 : decode cX6_felt 7 = .ok (.if_icmp .le 5, 3) := by decide +kernel
theorem dX6_felt_10 : decode cX6_felt 10 = .ok (.iconst (-1), 1) := by decide +kernel
theorem dX6_felt_11 : decode cX6_felt 11 = .ok (.ireturn, 1) := by decide +kernel
theorem dX6_felt_12 : decode cX6_felt 12 = .ok (.aload_n 0, 1) := by decide +kernel
theorem dX6_felt_13 : decode cX6_felt 13 = .ok (.getfield 51, 3) := by decide +kernel
theorem dX6_felt_16 : decode cX6_felt 16 = .ok (.iload_n 1, 1) := by decide +kernel
theorem dX6_felt_17 : decode cX6_felt 17 = .ok (.invokevirtual 224, 3) := by decide +kernel
theorem dX6_felt_20 : decode cX6_felt 20 = .ok (.ifCond .eq 13, 3) := by decide +kernel
theorem dX6_felt_23 : decode cX6_felt 23 = .ok (.aload_n 0, 1) := by decide +kernel
theorem dX6_felt_24 : decode cX6_felt 24 = .ok (.getfield 51, 3) := by decide +kernel
theorem dX6_felt_27 : decode cX6_felt 27 = .ok (.getfield 227, 3) := by decide +kernel
theorem dX6_felt_30 : decode cX6_felt 30 = .ok (.goto 5, 3) := by decide +kernel
theorem dX6_felt_33 : decode cX6_felt 33 = .ok (.bipush (-3), 2) := by decide +kernel
theorem dX6_felt_35 : decode cX6_felt 35 = .ok (.ireturn, 1) := by decide +kernel
theorem dX6_whose_0 : decode cX6_whose 0 = .ok (.iload_n 1, 1) := by decide +kernel
theorem dX6_whose_1 : decode cX6_whose 1 = .ok (.iconst (-1), 1) := by decide +kernel
theorem dX6_whose_2 : decode cX6_whose 2 = .ok (.if_icmp .lt 14, 3) := by decide +kernel
theorem dX6_whose_5 : decode cX6_whose 5 = .ok (.iload_n 1, 1) := by decide +kernel
theorem dX6_whose_6 : decode cX6_whose 6 = .ok (.aload_n 0, 1) := by decide +kernel
theorem dX6_whose_7 : decode cX6_whose 7 = .ok (.getfield 51, 3) := by decide +kernel
theorem dX6_whose_10 : decode cX6_whose 10 = .ok (.getfield 227, 3) := by decide +kernel
theorem dX6_whose_13 : decode cX6_whose 13 = .ok (.if_icmp .lt 5, 3) := by decide +kernel
theorem dX6_whose_16 : decode cX6_whose 16 = .ok (.iconst (-1), 1) := by decide +kernel
theorem dX6_whose_17 : decode cX6_whose 17 = .ok (.ireturn, 1) := by decide +kernel
theorem dX6_whose_18 : decode cX6_whose 18 = .ok (.iload_n 1, 1) := by decide +kernel
theorem dX6_whose_19 : decode cX6_whose 19 = .ok (.iconst (-1), 1) := by decide +kernel
theorem dX6_whose_20 : decode cX6_whose 20 = .ok (.if_icmp .ne 15, 3) := by decide +kernel
theorem dX6_whose_23 : decode cX6_whose 23 = .ok (.aload_n 0, 1) := by decide +kernel
theorem dX6_whose_24 : decode cX6_whose 24 = .ok (.getfield 51, 3) := by decide +kernel
theorem dX6_whose_27 : decode cX6_whose 27 = .ok (.aload_n 0, 1) := by decide +kernel
theorem dX6_whose_28 : decode cX6_whose 28 = .ok (.getfield 19, 3) := by decide +kernel
theorem dX6_whose_31 : decode cX6_whose 31 = .ok (.invokevirtual 230, 3) := by decide +kernel
theorem dX6_whose_34 : decode cX6_whose 34 = .ok (.ireturn, 1) := by decide +kernel
theorem dX6_whose_35 : decode cX6_whose 35 = .ok (.aload_n 0, 1) := by decide +kernel
theorem dX6_whose_36 : decode cX6_whose 36 = .ok (.getfield 51, 3) := by decide +kernel
theorem dX6_whose_39 : decode cX6_whose 39 = .ok (.aload_n 0, 1) := by decide +kernel
theorem dX6_whose_40 : decode cX6_whose 40 = .ok (.getfield 19, 3) := by decide +kernel
theorem dX6_whose_43 : decode cX6_whose 43 = .ok (.iload_n 1, 1) := by decide +kernel
theorem dX6_whose_44 : decode cX6_whose 44 = .ok (.invokevirtual 233, 3) := by decide +kernel
theorem dX6_whose_47 : decode cX6_whose 47 = .ok (.istore_n 2, 1) := by decide +kernel
theorem dX6_whose_48 : decode cX6_whose 48 = .ok (.iconst 0, 1) := by decide +kernel
theorem dX6_whose_49 : decode cX6_whose 49 = .ok (.istore_n 3, 1) := by decide +kernel
theorem dX6_whose_50 : decode cX6_whose 50 = .ok (.iload_n 3, 1) := by decide +kernel
theorem dX6_whose_51 : decode cX6_whose 51 = .ok (.aload_n 0, 1) := by decide +kernel
theorem dX6_whose_52 : decode cX6_whose 52 = .ok (.getfield 19, 3) := by decide +kernel
theorem dX6_whose_55 : decode cX6_whose 55 = .ok (.getfield 182, 3) := by decide +kernel
theorem dX6_whose_58 : decode cX6_whose 58 = .ok (.if_icmp .ge 18, 3) := by decide +kernel
theorem dX6_whose_61 : decode cX6_whose 61 = .ok (.iload_n 2, 1) := by decide +kernel
theorem dX6_whose_62 : decode cX6_whose 62 = .ok (.iconst 1, 1) := by decide +kernel
theorem dX6_whose_63 : decode cX6_whose 63 = .ok (.iload_n 3, 1) := by decide +kernel
theorem dX6_whose_64 : decode cX6_whose 64 = .ok (.ishl, 1) := by decide +kernel
theorem dX6_whose_65 : decode cX6_whose 65 = .ok (.if_icmp .ne 5, 3) := by decide +kernel
theorem dX6_whose_68 : decode cX6_whose 68 = .ok (.iload_n 3, 1) := by decide +kernel
theorem dX6_whose_69 : decode cX6_whose 69 = .ok (.ireturn, 1) := by decide +kernel
theorem dX6_whose_70 : decode cX6_whose 70 = .ok (.iinc 3 1, 3) := by decide +kernel
theorem dX6_whose_73 : decode cX6_whose 73 = .ok (.goto (-23), 3) := by decide +kernel
theorem dX6_whose_76 : decode cX6_whose 76 = .ok (.bipush (-9), 2) := by decide +kernel
theorem dX6_whose_78 : decode cX6_whose 78 = .ok (.ireturn, 1) := by decide +kernel
theorem dX6_tells_0 : decode cX6_tells 0 = .ok (.aload_n 0, 1) := by decide +kernel
theorem dX6_tells_1 : decode cX6_tells 1 = .ok (.getfield 19, 3) := by decide +kernel
theorem dX6_tells_4 : decode cX6_tells 4 = .ok (.iload_n 1, 1) := by decide +kernel
theorem dX6_tells_5 : decode cX6_tells 5 = .ok (.invokevirtual 123, 3) := by decide +kernel
theorem dX6_tells_8 : decode cX6_tells 8 = .ok (.ifCond .eq 30, 3) := by decide +kernel
theorem dX6_tells_11 : decode cX6_tells 11 = .ok (.aload_n 0, 1) := by decide +kernel
theorem dX6_tells_12 : decode cX6_tells 12 = .ok (.getfield 19, 3) := by decide +kernel
theorem dX6_tells_15 : decode cX6_tells 15 = .ok (.iload_n 2, 1) := by decide +kernel
theorem dX6_tells_16 : decode cX6_tells 16 = .ok (.invokevirtual 102, 3) := by decide +kernel
theorem dX6_tells_19 : decode cX6_tells 19 = .ok (.ifCond .eq 19, 3) := by decide +kernel
theorem dX6_tells_22 : decode cX6_tells 22 = .ok (.aload_n 0, 1) := by decide +kernel
theorem dX6_tells_23 : decode cX6_tells 23 = .ok (.getfield 19, 3) := by decide +kernel
theorem dX6_tells_26 : decode cX6_tells 26 = .ok (.iload_n 3, 1) := by decide +kernel
theorem dX6_tells_27 : decode cX6_tells 27 = .ok (.invokevirtual 102, 3) := by decide +kernel
theorem dX6_tells_30 : decode cX6_tells 30 = .ok (.ifCond .eq 8, 3) := by decide +kernel
theorem dX6_tells_33 : decode cX6_tells 33 = .ok (.iload_n 2, 1) := by decide +kernel
theorem dX6_tells_34 : decode cX6_tells 34 = .ok (.iload_n 3, 1) := by decide +kernel
theorem dX6_tells_35 : decode cX6_tells 35 = .ok (.if_icmp .ne 5, 3) := by decide +kernel
theorem dX6_tells_38 : decode cX6_tells 38 = .ok (.iconst (-1), 1) := by decide +kernel
theorem dX6_tells_39 : decode cX6_tells 39 = .ok (.ireturn, 1) := by decide +kernel
theorem dX6_tells_40 : decode cX6_tells 40 = .ok (.aload_n 0, 1) := by decide +kernel
theorem dX6_tells_41 : decode cX6_tells 41 = .ok (.getfield 51, 3) := by decide +kernel
theorem dX6_tells_44 : decode cX6_tells 44 = .ok (.iload_n 1, 1) := by decide +kernel
theorem dX6_tells_45 : decode cX6_tells 45 = .ok (.iload_n 2, 1) := by decide +kernel
theorem dX6_tells_46 : decode cX6_tells 46 = .ok (.iload_n 3, 1) := by decide +kernel
theorem dX6_tells_47 : decode cX6_tells 47 = .ok (.invokevirtual 237, 3) := by decide +kernel
theorem dX6_tells_50 : decode cX6_tells 50 = .ok (.ifCond .eq 13, 3) := by decide +kernel
theorem dX6_tells_53 : decode cX6_tells 53 = .ok (.aload_n 0, 1) := by decide +kernel
theorem dX6_tells_54 : decode cX6_tells 54 = .ok (.getfield 51, 3) := by decide +kernel
theorem dX6_tells_57 : decode cX6_tells 57 = .ok (.getfield 241, 3) := by decide +kernel
theorem dX6_tells_60 : decode cX6_tells 60 = .ok (.goto 5, 3) := by decide +kernel
theorem dX6_tells_63 : decode cX6_tells 63 = .ok (.bipush (-3), 2) := by decide +kernel
theorem dX6_tells_65 : decode cX6_tells 65 = .ok (.ireturn, 1) := by decide +kernel
theorem dX6_fits_0 : decode cX6_fits 0 = .ok (.aload_n 0, 1) := by decide +kernel
theorem dX6_fits_1 : decode cX6_fits 1 = .ok (.getfield 51, 3) := by decide +kernel
theorem dX6_fits_4 : decode cX6_fits 4 = .ok (.aload_n 0, 1) := by decide +kernel
theorem dX6_fits_5 : decode cX6_fits 5 = .ok (.getfield 19, 3) := by decide +kernel
theorem dX6_fits_8 : decode cX6_fits 8 = .ok (.invokevirtual 244, 3) := by decide +kernel
theorem dX6_fits_11 : decode cX6_fits 11 = .ok (.ireturn, 1) := by decide +kernel
theorem dX6_forget_0 : decode cX6_forget 0 = .ok (.aload_n 0, 1) := by decide +kernel
theorem dX6_forget_1 : decode cX6_forget 1 = .ok (.getfield 51, 3) := by decide +kernel
theorem dX6_forget_4 : decode cX6_forget 4 = .ok (.getfield 227, 3) := by decide +kernel
theorem dX6_forget_7 : decode cX6_forget 7 = .ok (.aload_n 0, 1) := by decide +kernel
theorem dX6_forget_8 : decode cX6_forget 8 = .ok (.getfield 51, 3) := by decide +kernel
theorem dX6_forget_11 : decode cX6_forget 11 = .ok (.getfield 241, 3) := by decide +kernel
theorem dX6_forget_14 : decode cX6_forget 14 = .ok (.iadd, 1) := by decide +kernel
theorem dX6_forget_15 : decode cX6_forget 15 = .ok (.istore_n 1, 1) := by decide +kernel
theorem dX6_forget_16 : decode cX6_forget 16 = .ok (.aload_n 0, 1) := by decide +kernel
theorem dX6_forget_17 : decode cX6_forget 17 = .ok (.getfield 51, 3) := by decide +kernel
theorem dX6_forget_20 : decode cX6_forget 20 = .ok (.invokevirtual 98, 3) := by decide +kernel
theorem dX6_forget_23 : decode cX6_forget 23 = .ok (.iload_n 1, 1) := by decide +kernel
theorem dX6_forget_24 : decode cX6_forget 24 = .ok (.ireturn, 1) := by decide +kernel
theorem dX6_rate_0 : decode cX6_rate 0 = .ok (.aload_n 0, 1) := by decide +kernel
theorem dX6_rate_1 : decode cX6_rate 1 = .ok (.getfield 19, 3) := by decide +kernel
theorem dX6_rate_4 : decode cX6_rate 4 = .ok (.iload_n 2, 1) := by decide +kernel
theorem dX6_rate_5 : decode cX6_rate 5 = .ok (.invokevirtual 123, 3) := by decide +kernel
theorem dX6_rate_8 : decode cX6_rate 8 = .ok (.ifCond .ne 6, 3) := by decide +kernel
theorem dX6_rate_11 : decode cX6_rate 11 = .ok (.ldc 247, 2) := by decide +kernel
theorem dX6_rate_13 : decode cX6_rate 13 = .ok (.ireturn, 1) := by decide +kernel
theorem dX6_rate_14 : decode cX6_rate 14 = .ok (.iload_n 1, 1) := by decide +kernel
theorem dX6_rate_15 : decode cX6_rate 15 = .ok (.tableswitch 73 0 5 #[37, 43, 49, 55, 61, 67], 37) := by decide +kernel
theorem dX6_rate_52 : decode cX6_rate 52 = .ok (.aload_n 0, 1) := by decide +kernel
theorem dX6_rate_53 : decode cX6_rate 53 = .ok (.iload_n 2, 1) := by decide +kernel
theorem dX6_rate_54 : decode cX6_rate 54 = .ok (.invokevirtual 248, 3) := by decide +kernel
theorem dX6_rate_57 : decode cX6_rate 57 = .ok (.ireturn, 1) := by decide +kernel
theorem dX6_rate_58 : decode cX6_rate 58 = .ok (.aload_n 0, 1) := by decide +kernel
theorem dX6_rate_59 : decode cX6_rate 59 = .ok (.iload_n 2, 1) := by decide +kernel
theorem dX6_rate_60 : decode cX6_rate 60 = .ok (.invokevirtual 251, 3) := by decide +kernel
theorem dX6_rate_63 : decode cX6_rate 63 = .ok (.ireturn, 1) := by decide +kernel
theorem dX6_rate_64 : decode cX6_rate 64 = .ok (.aload_n 0, 1) := by decide +kernel
theorem dX6_rate_65 : decode cX6_rate 65 = .ok (.iload_n 2, 1) := by decide +kernel
theorem dX6_rate_66 : decode cX6_rate 66 = .ok (.invokevirtual 254, 3) := by decide +kernel
theorem dX6_rate_69 : decode cX6_rate 69 = .ok (.ireturn, 1) := by decide +kernel
theorem dX6_rate_70 : decode cX6_rate 70 = .ok (.aload_n 0, 1) := by decide +kernel
theorem dX6_rate_71 : decode cX6_rate 71 = .ok (.iload_n 2, 1) := by decide +kernel
theorem dX6_rate_72 : decode cX6_rate 72 = .ok (.invokevirtual 257, 3) := by decide +kernel
theorem dX6_rate_75 : decode cX6_rate 75 = .ok (.ireturn, 1) := by decide +kernel
theorem dX6_rate_76 : decode cX6_rate 76 = .ok (.aload_n 0, 1) := by decide +kernel
theorem dX6_rate_77 : decode cX6_rate 77 = .ok (.iload_n 2, 1) := by decide +kernel
theorem dX6_rate_78 : decode cX6_rate 78 = .ok (.invokevirtual 260, 3) := by decide +kernel
theorem dX6_rate_81 : decode cX6_rate 81 = .ok (.ireturn, 1) := by decide +kernel
theorem dX6_rate_82 : decode cX6_rate 82 = .ok (.aload_n 0, 1) := by decide +kernel
theorem dX6_rate_83 : decode cX6_rate 83 = .ok (.iload_n 2, 1) := by decide +kernel
theorem dX6_rate_84 : decode cX6_rate 84 = .ok (.invokevirtual 263, 3) := by decide +kernel
theorem dX6_rate_87 : decode cX6_rate 87 = .ok (.ireturn, 1) := by decide +kernel
theorem dX6_rate_88 : decode cX6_rate 88 = .ok (.ldc 247, 2) := by decide +kernel
theorem dX6_rate_90 : decode cX6_rate 90 = .ok (.ireturn, 1) := by decide +kernel
theorem dX6_rateThing_0 : decode cX6_rateThing 0 = .ok (.aload_n 0, 1) := by decide +kernel
theorem dX6_rateThing_1 : decode cX6_rateThing 1 = .ok (.dup, 1) := by decide +kernel
theorem dX6_rateThing_2 : decode cX6_rateThing 2 = .ok (.getfield 69, 3) := by decide +kernel
theorem dX6_rateThing_5 : decode cX6_rateThing 5 = .ok (.lconst 1, 1) := by decide +kernel
theorem dX6_rateThing_6 : decode cX6_rateThing 6 = .ok (.ladd, 1) := by decide +kernel
theorem dX6_rateThing_7 : decode cX6_rateThing 7 = .ok (.putfield 69, 3) := by decide +kernel
theorem dX6_rateThing_10 : decode cX6_rateThing 10 = .ok (.aload_n 0, 1) := by decide +kernel
theorem dX6_rateThing_11 : decode cX6_rateThing 11 = .ok (.getfield 19, 3) := by decide +kernel
theorem dX6_rateThing_14 : decode cX6_rateThing 14 = .ok (.getfield 129, 3) := by decide +kernel
theorem dX6_rateThing_17 : decode cX6_rateThing 17 = .ok (.iload_n 1, 1) := by decide +kernel
theorem dX6_rateThing_18 : decode cX6_rateThing 18 = .ok (.iaload, 1) := by decide +kernel
theorem dX6_rateThing_19 : decode cX6_rateThing 19 = .ok (.invokestatic 185, 3) := by decide +kernel
theorem dX6_rateThing_22 : decode cX6_rateThing 22 = .ok (.ireturn, 1) := by decide +kernel
theorem dX6_rateComb_0 : decode cX6_rateComb 0 = .ok (.aload_n 0, 1) := by decide +kernel
theorem dX6_rateComb_1 : decode cX6_rateComb 1 = .ok (.dup, 1) := by decide +kernel
theorem dX6_rateComb_2 : decode cX6_rateComb 2 = .ok (.getfield 69, 3) := by decide +kernel
theorem dX6_rateComb_5 : decode cX6_rateComb 5 = .ok (.ldc2_w 266, 3) := by decide +kernel
theorem dX6_rateComb_8 : decode cX6_rateComb 8 = .ok (.ladd, 1) := by decide +kernel
theorem dX6_rateComb_9 : decode cX6_rateComb 9 = .ok (.putfield 69, 3) := by decide +kernel
theorem dX6_rateComb_12 : decode cX6_rateComb 12 = .ok (.aload_n 0, 1) := by decide +kernel
theorem dX6_rateComb_13 : decode cX6_rateComb 13 = .ok (.getfield 29, 3) := by decide +kernel
theorem dX6_rateComb_16 : decode cX6_rateComb 16 = .ok (.getfield 138, 3) := by decide +kernel
theorem dX6_rateComb_19 : decode cX6_rateComb 19 = .ok (.iload_n 1, 1) := by decide +kernel
theorem dX6_rateComb_20 : decode cX6_rateComb 20 = .ok (.iaload, 1) := by decide +kernel
theorem dX6_rateComb_21 : decode cX6_rateComb 21 = .ok (.iconst 4, 1) := by decide +kernel
theorem dX6_rateComb_22 : decode cX6_rateComb 22 = .ok (.if_icmp .ne 13, 3) := by decide +kernel
theorem dX6_rateComb_25 : decode cX6_rateComb 25 = .ok (.aload_n 0, 1) := by decide +kernel
theorem dX6_rateComb_26 : decode cX6_rateComb 26 = .ok (.getfield 29, 3) := by decide +kernel
theorem dX6_rateComb_29 : decode cX6_rateComb 29 = .ok (.getfield 116, 3) := by decide +kernel
theorem dX6_rateComb_32 : decode cX6_rateComb 32 = .ok (.goto 12, 3) := by decide +kernel
theorem dX6_rateComb_35 : decode cX6_rateComb 35 = .ok (.aload_n 0, 1) := by decide +kernel
theorem dX6_rateComb_36 : decode cX6_rateComb 36 = .ok (.getfield 29, 3) := by decide +kernel
theorem dX6_rateComb_39 : decode cX6_rateComb 39 = .ok (.getfield 138, 3) := by decide +kernel
theorem dX6_rateComb_42 : decode cX6_rateComb 42 = .ok (.iload_n 1, 1) := by decide +kernel
theorem dX6_rateComb_43 : decode cX6_rateComb 43 = .ok (.iaload, 1) := by decide +kernel
theorem dX6_rateComb_44 : decode cX6_rateComb 44 = .ok (.istore_n 2, 1) := by decide +kernel
theorem dX6_rateComb_45 : decode cX6_rateComb 45 = .ok (.aload_n 0, 1) := by decide +kernel
theorem dX6_rateComb_46 : decode cX6_rateComb 46 = .ok (.iload_n 1, 1) := by decide +kernel
theorem dX6_rateComb_47 : decode cX6_rateComb 47 = .ok (.invokevirtual 248, 3) := by decide +kernel
theorem dX6_rateComb_50 : decode cX6_rateComb 50 = .ok (.aload_n 0, 1) := by decide +kernel
theorem dX6_rateComb_51 : decode cX6_rateComb 51 = .ok (.getfield 19, 3) := by decide +kernel
theorem dX6_rateComb_54 : decode cX6_rateComb 54 = .ok (.iload_n 2, 1) := by decide +kernel
theorem dX6_rateComb_55 : decode cX6_rateComb 55 = .ok (.aload_n 0, 1) := by decide +kernel
theorem dX6_rateComb_56 : decode cX6_rateComb 56 = .ok (.getfield 19, 3) := by decide +kernel
theorem dX6_rateComb_59 : decode cX6_rateComb 59 = .ok (.getfield 126, 3) := by decide +kernel
theorem dX6_rateComb_62 : decode cX6_rateComb 62 = .ok (.iload_n 1, 1) := by decide +kernel
theorem dX6_rateComb_63 : decode cX6_rateComb 63 = .ok (.iaload, 1) := by decide +kernel
theorem dX6_rateComb_64 : decode cX6_rateComb 64 = .ok (.invokevirtual 119, 3) := by decide +kernel
theorem dX6_rateComb_67 : decode cX6_rateComb 67 = .ok (.iadd, 1) := by decide +kernel
theorem dX6_rateComb_68 : decode cX6_rateComb 68 = .ok (.ireturn, 1) := by decide +kernel
theorem dX6_rateRoom_0 : decode cX6_rateRoom 0 = .ok (.aload_n 0, 1) := by decide +kernel
theorem dX6_rateRoom_1 : decode cX6_rateRoom 1 = .ok (.dup, 1) := by decide +kernel
theorem dX6_rateRoom_2 : decode cX6_rateRoom 2 = .ok (.getfield 69, 3) := by decide +kernel
theorem dX6_rateRoom_5 : decode cX6_rateRoom 5 = .ok (.ldc2_w 268, 3) := by decide +kernel
theorem dX6_rateRoom_8 : decode cX6_rateRoom 8 = .ok (.ladd, 1) := by decide +kernel
theorem dX6_rateRoom_9 : decode cX6_rateRoom 9 = .ok (.putfield 69, 3) := by decide +kernel
theorem dX6_rateRoom_12 : decode cX6_rateRoom 12 = .ok (.aload_n 0, 1) := by decide +kernel
theorem dX6_rateRoom_13 : decode cX6_rateRoom 13 = .ok (.iload_n 1, 1) := by decide +kernel
theorem dX6_rateRoom_14 : decode cX6_rateRoom 14 = .ok (.invokevirtual 248, 3) := by decide +kernel
theorem dX6_rateRoom_17 : decode cX6_rateRoom 17 = .ok (.aload_n 0, 1) := by decide +kernel
theorem dX6_rateRoom_18 : decode cX6_rateRoom 18 = .ok (.getfield 19, 3) := by decide +kernel
theorem dX6_rateRoom_21 : decode cX6_rateRoom 21 = .ok (.getfield 132, 3) := by decide +kernel
theorem dX6_rateRoom_24 : decode cX6_rateRoom 24 = .ok (.iload_n 1, 1) := by decide +kernel
theorem dX6_rateRoom_25 : decode cX6_rateRoom 25 = .ok (.iaload, 1) := by decide +kernel
theorem dX6_rateRoom_26 : decode cX6_rateRoom 26 = .ok (.isub, 1) := by decide +kernel
theorem dX6_rateRoom_27 : decode cX6_rateRoom 27 = .ok (.aload_n 0, 1) := by decide +kernel
theorem dX6_rateRoom_28 : decode cX6_rateRoom 28 = .ok (.getfield 19, 3) := by decide +kernel
theorem dX6_rateRoom_31 : decode cX6_rateRoom 31 = .ok (.getfield 135, 3) := by decide +kernel
theorem dX6_rateRoom_34 : decode cX6_rateRoom 34 = .ok (.iload_n 1, 1) := by decide +kernel
theorem dX6_rateRoom_35 : decode cX6_rateRoom 35 = .ok (.iaload, 1) := by decide +kernel
theorem dX6_rateRoom_36 : decode cX6_rateRoom 36 = .ok (.isub, 1) := by decide +kernel
theorem dX6_rateRoom_37 : decode cX6_rateRoom 37 = .ok (.ireturn, 1) := by decide +kernel
theorem dX6_rateCurate_0 : decode cX6_rateCurate 0 = .ok (.aload_n 0, 1) := by decide +kernel
theorem dX6_rateCurate_1 : decode cX6_rateCurate 1 = .ok (.dup, 1) := by decide +kernel
theorem dX6_rateCurate_2 : decode cX6_rateCurate 2 = .ok (.getfield 69, 3) := by decide +kernel
theorem dX6_rateCurate_5 : decode cX6_rateCurate 5 = .ok (.ldc2_w 270, 3) := by decide +kernel
theorem dX6_rateCurate_8 : decode cX6_rateCurate 8 = .ok (.ladd, 1) := by decide +kernel
theorem dX6_rateCurate_9 : decode cX6_rateCurate 9 = .ok (.putfield 69, 3) := by decide +kernel
theorem dX6_rateCurate_12 : decode cX6_rateCurate 12 = .ok (.iconst 2, 1) := by decide +kernel
theorem dX6_rateCurate_13 : decode cX6_rateCurate 13 = .ok (.aload_n 0, 1) := by decide +kernel
theorem dX6_rateCurate_14 : decode cX6_rateCurate 14 = .ok (.iload_n 1, 1) := by decide +kernel
theorem dX6_rateCurate_15 : decode cX6_rateCurate 15 = .ok (.invokevirtual 251, 3) := by decide +kernel
theorem dX6_rateCurate_18 : decode cX6_rateCurate 18 = .ok (.imul, 1) := by decide +kernel
theorem dX6_rateCurate_19 : decode cX6_rateCurate 19 = .ok (.ireturn, 1) := by decide +kernel
theorem dX6_rateBishop_0 : decode cX6_rateBishop 0 = .ok (.aload_n 0, 1) := by decide +kernel
theorem dX6_rateBishop_1 : decode cX6_rateBishop 1 = .ok (.dup, 1) := by decide +kernel
theorem dX6_rateBishop_2 : decode cX6_rateBishop 2 = .ok (.getfield 69, 3) := by decide +kernel
theorem dX6_rateBishop_5 : decode cX6_rateBishop 5 = .ok (.ldc2_w 272, 3) := by decide +kernel
theorem dX6_rateBishop_8 : decode cX6_rateBishop 8 = .ok (.ladd, 1) := by decide +kernel
theorem dX6_rateBishop_9 : decode cX6_rateBishop 9 = .ok (.putfield 69, 3) := by decide +kernel
theorem dX6_rateBishop_12 : decode cX6_rateBishop 12 = .ok (.aload_n 0, 1) := by decide +kernel
theorem dX6_rateBishop_13 : decode cX6_rateBishop 13 = .ok (.iload_n 1, 1) := by decide +kernel
theorem dX6_rateBishop_14 : decode cX6_rateBishop 14 = .ok (.invokevirtual 254, 3) := by decide +kernel
theorem dX6_rateBishop_17 : decode cX6_rateBishop 17 = .ok (.iload_n 1, 1) := by decide +kernel
theorem dX6_rateBishop_18 : decode cX6_rateBishop 18 = .ok (.iadd, 1) := by decide +kernel
theorem dX6_rateBishop_19 : decode cX6_rateBishop 19 = .ok (.ireturn, 1) := by decide +kernel
theorem dX6_rateTwin_0 : decode cX6_rateTwin 0 = .ok (.aload_n 0, 1) := by decide +kernel
theorem dX6_rateTwin_1 : decode cX6_rateTwin 1 = .ok (.dup, 1) := by decide +kernel
theorem dX6_rateTwin_2 : decode cX6_rateTwin 2 = .ok (.getfield 69, 3) := by decide +kernel
theorem dX6_rateTwin_5 : decode cX6_rateTwin 5 = .ok (.ldc2_w 274, 3) := by decide +kernel
theorem dX6_rateTwin_8 : decode cX6_rateTwin 8 = .ok (.ladd, 1) := by decide +kernel
theorem dX6_rateTwin_9 : decode cX6_rateTwin 9 = .ok (.putfield 69, 3) := by decide +kernel
theorem dX6_rateTwin_12 : decode cX6_rateTwin 12 = .ok (.aload_n 0, 1) := by decide +kernel
theorem dX6_rateTwin_13 : decode cX6_rateTwin 13 = .ok (.iload_n 1, 1) := by decide +kernel
theorem dX6_rateTwin_14 : decode cX6_rateTwin 14 = .ok (.invokevirtual 248, 3) := by decide +kernel
theorem dX6_rateTwin_17 : decode cX6_rateTwin 17 = .ok (.aload_n 0, 1) := by decide +kernel
theorem dX6_rateTwin_18 : decode cX6_rateTwin 18 = .ok (.getfield 29, 3) := by decide +kernel
theorem dX6_rateTwin_21 : decode cX6_rateTwin 21 = .ok (.getfield 144, 3) := by decide +kernel
theorem dX6_rateTwin_24 : decode cX6_rateTwin 24 = .ok (.iadd, 1) := by decide +kernel
theorem dX6_rateTwin_25 : decode cX6_rateTwin 25 = .ok (.ireturn, 1) := by decide +kernel
theorem dX6_keep_0 : decode cX6_keep 0 = .ok (.iload_n 1, 1) := by decide +kernel
theorem dX6_keep_1 : decode cX6_keep 1 = .ok (.ifCond .lt 8, 3) := by decide +kernel
theorem dX6_keep_4 : decode cX6_keep 4 = .ok (.iload_n 1, 1) := by decide +kernel
theorem dX6_keep_5 : decode cX6_keep 5 = .ok (.iconst 2, 1) := by decide +kernel
theorem dX6_keep_6 : decode cX6_keep 6 = .ok (.if_icmp .lt 5, 3) := by decide +kernel
theorem dX6_keep_9 : decode cX6_keep 9 = .ok (.iconst (-1), 1) := by decide +kernel
theorem dX6_keep_10 : decode cX6_keep 10 = .ok (.ireturn, 1) := by decide +kernel
theorem dX6_keep_11 : decode cX6_keep 11 = .ok (.aload_n 0, 1) := by decide +kernel
theorem dX6_keep_12 : decode cX6_keep 12 = .ok (.getfield 40, 3) := by decide +kernel
theorem dX6_keep_15 : decode cX6_keep 15 = .ok (.iload_n 1, 1) := by decide +kernel
theorem dX6_keep_16 : decode cX6_keep 16 = .ok (.aaload, 1) := by decide +kernel
theorem dX6_keep_17 : decode cX6_keep 17 = .ok (.aload_n 0, 1) := by decide +kernel
theorem dX6_keep_18 : decode cX6_keep 18 = .ok (.getfield 29, 3) := by decide +kernel
theorem dX6_keep_21 : decode cX6_keep 21 = .ok (.invokevirtual 276, 3) := by decide +kernel
theorem dX6_keep_24 : decode cX6_keep 24 = .ok (.aload_n 0, 1) := by decide +kernel
theorem dX6_keep_25 : decode cX6_keep 25 = .ok (.getfield 44, 3) := by decide +kernel
theorem dX6_keep_28 : decode cX6_keep 28 = .ok (.iload_n 1, 1) := by decide +kernel
theorem dX6_keep_29 : decode cX6_keep 29 = .ok (.iconst 1, 1) := by decide +kernel
theorem dX6_keep_30 : decode cX6_keep 30 = .ok (.bastore, 1) := by decide +kernel
theorem dX6_keep_31 : decode cX6_keep 31 = .ok (.aload_n 0, 1) := by decide +kernel
theorem dX6_keep_32 : decode cX6_keep 32 = .ok (.getfield 29, 3) := by decide +kernel
theorem dX6_keep_35 : decode cX6_keep 35 = .ok (.getfield 144, 3) := by decide +kernel
theorem dX6_keep_38 : decode cX6_keep 38 = .ok (.ireturn, 1) := by decide +kernel
theorem dX6_again_0 : decode cX6_again 0 = .ok (.iload_n 1, 1) := by decide +kernel
theorem dX6_again_1 : decode cX6_again 1 = .ok (.ifCond .lt 8, 3) := by decide +kernel
theorem dX6_again_4 : decode cX6_again 4 = .ok (.iload_n 1, 1) := by decide +kernel
theorem dX6_again_5 : decode cX6_again 5 = .ok (.iconst 2, 1) := by decide +kernel
theorem dX6_again_6 : decode cX6_again 6 = .ok (.if_icmp .lt 5, 3) := by decide +kernel
theorem dX6_again_9 : decode cX6_again 9 = .ok (.iconst (-1), 1) := by decide +kernel
theorem dX6_again_10 : decode cX6_again 10 = .ok (.ireturn, 1) := by decide +kernel
theorem dX6_again_11 : decode cX6_again 11 = .ok (.aload_n 0, 1) := by decide +kernel
theorem dX6_again_12 : decode cX6_again 12 = .ok (.getfield 44, 3) := by decide +kernel
theorem dX6_again_15 : decode cX6_again 15 = .ok (.iload_n 1, 1) := by decide +kernel
theorem dX6_again_16 : decode cX6_again 16 = .ok (.baload, 1) := by decide +kernel
theorem dX6_again_17 : decode cX6_again 17 = .ok (.ifCond .ne 6, 3) := by decide +kernel
theorem dX6_again_20 : decode cX6_again 20 = .ok (.bipush (-2), 2) := by decide +kernel
theorem dX6_again_22 : decode cX6_again 22 = .ok (.ireturn, 1) := by decide +kernel
theorem dX6_again_23 : decode cX6_again 23 = .ok (.aload_n 0, 1) := by decide +kernel
theorem dX6_again_24 : decode cX6_again 24 = .ok (.getfield 29, 3) := by decide +kernel
theorem dX6_again_27 : decode cX6_again 27 = .ok (.aload_n 0, 1) := by decide +kernel
theorem dX6_again_28 : decode cX6_again 28 = .ok (.getfield 40, 3) := by decide +kernel
theorem dX6_again_31 : decode cX6_again 31 = .ok (.iload_n 1, 1) := by decide +kernel
theorem dX6_again_32 : decode cX6_again 32 = .ok (.aaload, 1) := by decide +kernel
theorem dX6_again_33 : decode cX6_again 33 = .ok (.invokevirtual 276, 3) := by decide +kernel
theorem dX6_again_36 : decode cX6_again 36 = .ok (.aload_n 0, 1) := by decide +kernel
theorem dX6_again_37 : decode cX6_again 37 = .ok (.getfield 36, 3) := by decide +kernel
theorem dX6_again_40 : decode cX6_again 40 = .ok (.iconst 0, 1) := by decide +kernel
theorem dX6_again_41 : decode cX6_again 41 = .ok (.putfield 95, 3) := by decide +kernel
theorem dX6_again_44 : decode cX6_again 44 = .ok (.aload_n 0, 1) := by decide +kernel
theorem dX6_again_45 : decode cX6_again 45 = .ok (.getfield 29, 3) := by decide +kernel
theorem dX6_again_48 : decode cX6_again 48 = .ok (.getfield 144, 3) := by decide +kernel
theorem dX6_again_51 : decode cX6_again 51 = .ok (.ireturn, 1) := by decide +kernel
theorem dX6_count_0 : decode cX6_count 0 = .ok (.iload_n 1, 1) := by decide +kernel
theorem dX6_count_1 : decode cX6_count 1 = .ok (.tableswitch 99 0 6 #[43, 51, 59, 67, 75, 83, 91], 43) := by decide +kernel
theorem dX6_count_44 : decode cX6_count 44 = .ok (.aload_n 0, 1) := by decide +kernel
theorem dX6_count_45 : decode cX6_count 45 = .ok (.getfield 19, 3) := by decide +kernel
theorem dX6_count_48 : decode cX6_count 48 = .ok (.getfield 279, 3) := by decide +kernel
theorem dX6_count_51 : decode cX6_count 51 = .ok (.ireturn, 1) := by decide +kernel
theorem dX6_count_52 : decode cX6_count 52 = .ok (.aload_n 0, 1) := by decide +kernel
theorem dX6_count_53 : decode cX6_count 53 = .ok (.getfield 19, 3) := by decide +kernel
theorem dX6_count_56 : decode cX6_count 56 = .ok (.getfield 182, 3) := by decide +kernel
theorem dX6_count_59 : decode cX6_count 59 = .ok (.ireturn, 1) := by decide +kernel
theorem dX6_count_60 : decode cX6_count 60 = .ok (.aload_n 0, 1) := by decide +kernel
theorem dX6_count_61 : decode cX6_count 61 = .ok (.getfield 19, 3) := by decide +kernel
theorem dX6_count_64 : decode cX6_count 64 = .ok (.getfield 282, 3) := by decide +kernel
theorem dX6_count_67 : decode cX6_count 67 = .ok (.ireturn, 1) := by decide +kernel
theorem dX6_count_68 : decode cX6_count 68 = .ok (.aload_n 0, 1) := by decide +kernel
theorem dX6_count_69 : decode cX6_count 69 = .ok (.getfield 19, 3) := by decide +kernel
theorem dX6_count_72 : decode cX6_count 72 = .ok (.getfield 179, 3) := by decide +kernel
theorem dX6_count_75 : decode cX6_count 75 = .ok (.ireturn, 1) := by decide +kernel
theorem dX6_count_76 : decode cX6_count 76 = .ok (.aload_n 0, 1) := by decide +kernel
theorem dX6_count_77 : decode cX6_count 77 = .ok (.getfield 51, 3) := by decide +kernel
theorem dX6_count_80 : decode cX6_count 80 = .ok (.getfield 227, 3) := by decide +kernel
theorem dX6_count_83 : decode cX6_count 83 = .ok (.ireturn, 1) := by decide +kernel
theorem dX6_count_84 : decode cX6_count 84 = .ok (.aload_n 0, 1) := by decide +kernel
theorem dX6_count_85 : decode cX6_count 85 = .ok (.getfield 51, 3) := by decide +kernel
theorem dX6_count_88 : decode cX6_count 88 = .ok (.getfield 241, 3) := by decide +kernel
theorem dX6_count_91 : decode cX6_count 91 = .ok (.ireturn, 1) := by decide +kernel
theorem dX6_count_92 : decode cX6_count 92 = .ok (.aload_n 0, 1) := by decide +kernel
theorem dX6_count_93 : decode cX6_count 93 = .ok (.getfield 12, 3) := by decide +kernel
theorem dX6_count_96 : decode cX6_count 96 = .ok (.getfield 77, 3) := by decide +kernel
theorem dX6_count_99 : decode cX6_count 99 = .ok (.ireturn, 1) := by decide +kernel
theorem dX6_count_100 : decode cX6_count 100 = .ok (.iconst (-1), 1) := by decide +kernel
theorem dX6_count_101 : decode cX6_count 101 = .ok (.ireturn, 1) := by decide +kernel
theorem dX6_trace_0 : decode cX6_trace 0 = .ok (.aload_n 0, 1) := by decide +kernel
theorem dX6_trace_1 : decode cX6_trace 1 = .ok (.getfield 69, 3) := by decide +kernel
theorem dX6_trace_4 : decode cX6_trace 4 = .ok (.lreturn, 1) := by decide +kernel
theorem dX7_init_0 : decode cX7_init 0 = .ok (.aload_n 0, 1) := by decide +kernel
theorem dX7_init_1 : decode cX7_init 1 = .ok (.invokespecial 1, 3) := by decide +kernel
theorem dX7_init_4 : decode cX7_init 4 = .ok (.aload_n 0, 1) := by decide +kernel
theorem dX7_init_5 : decode cX7_init 5 = .ok (.bipush 8, 2) := by decide +kernel
theorem dX7_init_7 : decode cX7_init 7 = .ok (.newarray .int, 2) := by decide +kernel
theorem dX7_init_9 : decode cX7_init 9 = .ok (.putfield 7, 3) := by decide +kernel
theorem dX7_init_12 : decode cX7_init 12 = .ok (.aload_n 0, 1) := by decide +kernel
theorem dX7_init_13 : decode cX7_init 13 = .ok (.bipush 16, 2) := by decide +kernel
theorem dX7_init_15 : decode cX7_init 15 = .ok (.newarray .int, 2) := by decide +kernel
theorem dX7_init_17 : decode cX7_init 17 = .ok (.putfield 13, 3) := by decide +kernel
theorem dX7_init_20 : decode cX7_init 20 = .ok (.aload_n 0, 1) := by decide +kernel
theorem dX7_init_21 : decode cX7_init 21 = .ok (.iconst 2, 1) := by decide +kernel
theorem dX7_init_22 : decode cX7_init 22 = .ok (.putfield 16, 3) := by decide +kernel
theorem dX7_init_25 : decode cX7_init 25 = .ok (.aload_n 0, 1) := by decide +kernel
theorem dX7_init_26 : decode cX7_init 26 = .ok (.bipush 60, 2) := by decide +kernel
theorem dX7_init_28 : decode cX7_init 28 = .ok (.putfield 20, 3) := by decide +kernel
theorem dX7_init_31 : decode cX7_init 31 = .ok (.aload_n 0, 1) := by decide +kernel
theorem dX7_init_32 : decode cX7_init 32 = .ok (.bipush 7, 2) := by decide +kernel
theorem dX7_init_34 : decode cX7_init 34 = .ok (.newarray .int, 2) := by decide +kernel
theorem dX7_init_36 : decode cX7_init 36 = .ok (.putfield 23, 3) := by decide +kernel
theorem dX7_init_39 : decode cX7_init 39 = .ok (.aload_n 0, 1) := by decide +kernel
theorem dX7_init_40 : decode cX7_init 40 = .ok (.bipush 70, 2) := by decide +kernel
theorem dX7_init_42 : decode cX7_init 42 = .ok (.newarray .int, 2) := by decide +kernel
theorem dX7_init_44 : decode cX7_init 44 = .ok (.putfield 26, 3) := by decide +kernel
theorem dX7_init_47 : decode cX7_init 47 = .ok (.aload_n 0, 1) := by decide +kernel
theorem dX7_init_48 : decode cX7_init 48 = .ok (.bipush 14, 2) := by decide +kernel
theorem dX7_init_50 : decode cX7_init 50 = .ok (.newarray .int, 2) := by decide +kernel
theorem dX7_init_52 : decode cX7_init 52 = .ok (.putfield 29, 3) := by decide +kernel
theorem dX7_init_55 : decode cX7_init 55 = .ok (.aload_n 0, 1) := by decide +kernel
theorem dX7_init_56 : decode cX7_init 56 = .ok (.iconst 2, 1) := by decide +kernel
theorem dX7_init_57 : decode cX7_init 57 = .ok (.newarray .boolean, 2) := by decide +kernel
theorem dX7_init_59 : decode cX7_init 59 = .ok (.putfield 32, 3) := by decide +kernel
theorem dX7_init_62 : decode cX7_init 62 = .ok (.aload_n 0, 1) := by decide +kernel
theorem dX7_init_63 : decode cX7_init 63 = .ok (.bipush 6, 2) := by decide +kernel
theorem dX7_init_65 : decode cX7_init 65 = .ok (.newarray .int, 2) := by decide +kernel
theorem dX7_init_67 : decode cX7_init 67 = .ok (.putfield 36, 3) := by decide +kernel
theorem dX7_init_70 : decode cX7_init 70 = .ok (.aload_n 0, 1) := by decide +kernel
theorem dX7_init_71 : decode cX7_init 71 = .ok (.bipush 18, 2) := by decide +kernel
theorem dX7_init_73 : decode cX7_init 73 = .ok (.newarray .int, 2) := by decide +kernel
theorem dX7_init_75 : decode cX7_init 75 = .ok (.putfield 39, 3) := by decide +kernel
theorem dX7_init_78 : decode cX7_init 78 = .ok (.aload_n 0, 1) := by decide +kernel
theorem dX7_init_79 : decode cX7_init 79 = .ok (.sipush 150, 3) := by decide +kernel
theorem dX7_init_82 : decode cX7_init 82 = .ok (.newarray .int, 2) := by decide +kernel
theorem dX7_init_84 : decode cX7_init 84 = .ok (.putfield 42, 3) := by decide +kernel
theorem dX7_init_87 : decode cX7_init 87 = .ok (.aload_n 0, 1) := by decide +kernel
theorem dX7_init_88 : decode cX7_init 88 = .ok (.bipush 8, 2) := by decide +kernel
theorem dX7_init_90 : decode cX7_init 90 = .ok (.newarray .int, 2) := by decide +kernel
theorem dX7_init_92 : decode cX7_init 92 = .ok (.putfield 45, 3) := by decide +kernel
theorem dX7_init_95 : decode cX7_init 95 = .ok (.aload_n 0, 1) := by decide +kernel
theorem dX7_init_96 : decode cX7_init 96 = .ok (.bipush 16, 2) := by decide +kernel
theorem dX7_init_98 : decode cX7_init 98 = .ok (.newarray .int, 2) := by decide +kernel
theorem dX7_init_100 : decode cX7_init 100 = .ok (.putfield 48, 3) := by decide +kernel
theorem dX7_init_103 : decode cX7_init 103 = .ok (.aload_n 0, 1) := by decide +kernel
theorem dX7_init_104 : decode cX7_init 104 = .ok (.ldc 51, 2) := by decide +kernel
theorem dX7_init_106 : decode cX7_init 106 = .ok (.newarray .int, 2) := by decide +kernel
theorem dX7_init_108 : decode cX7_init 108 = .ok (.putfield 52, 3) := by decide +kernel
theorem dX7_init_111 : decode cX7_init 111 = .ok (.aload_n 0, 1) := by decide +kernel
theorem dX7_init_112 : decode cX7_init 112 = .ok (.bipush 6, 2) := by decide +kernel
theorem dX7_init_114 : decode cX7_init 114 = .ok (.newarray .int, 2) := by decide +kernel
theorem dX7_init_116 : decode cX7_init 116 = .ok (.putfield 55, 3) := by decide +kernel
theorem dX7_init_119 : decode cX7_init 119 = .ok (.aload_n 0, 1) := by decide +kernel
theorem dX7_init_120 : decode cX7_init 120 = .ok (.bipush 6, 2) := by decide +kernel
theorem dX7_init_122 : decode cX7_init 122 = .ok (.newarray .int, 2) := by decide +kernel
theorem dX7_init_124 : decode cX7_init 124 = .ok (.putfield 58, 3) := by decide +kernel
theorem dX7_init_127 : decode cX7_init 127 = .ok (.aload_n 0, 1) := by decide +kernel
theorem dX7_init_128 : decode cX7_init 128 = .ok (.getfield 23, 3) := by decide +kernel
theorem dX7_init_131 : decode cX7_init 131 = .ok (.iconst 1, 1) := by decide +kernel
theorem dX7_init_132 : decode cX7_init 132 = .ok (.iconst 4, 1) := by decide +kernel
theorem dX7_init_133 : decode cX7_init 133 = .ok (.iastore, 1) := by decide +kernel
theorem dX7_init_134 : decode cX7_init 134 = .ok (.return_, 1) := by decide +kernel
theorem dX7_in_0 : decode cX7_in 0 = .ok (.iload_n 0, 1) := by decide +kernel
theorem dX7_in_1 : decode cX7_in 1 = .ok (.iload_n 1, 1) := by decide +kernel
theorem dX7_in_2 : decode cX7_in 2 = .ok (.if_icmp .lt 12, 3) := by decide +kernel
theorem dX7_in_5 : decode cX7_in 5 = .ok (.iload_n 0, 1) := by decide +kernel
theorem dX7_in_6 : decode cX7_in 6 = .ok (.iload_n 2, 1) := by decide +kernel
theorem dX7_in_7 : decode cX7_in 7 = .ok (.if_icmp .gt 7, 3) := by decide +kernel
theorem dX7_in_10 : decode cX7_in 10 = .ok (.iconst 1, 1) := by decide +kernel
theorem dX7_in_11 : decode cX7_in 11 = .ok (.goto 4, 3) := by decide +kernel
theorem dX7_in_14 : decode cX7_in 14 = .ok (.iconst 0, 1) := by decide +kernel
theorem dX7_in_15 : decode cX7_in 15 = .ok (.ireturn, 1) := by decide +kernel
theorem dX7_has_0 : decode cX7_has 0 = .ok (.iload_n 0, 1) := by decide +kernel
theorem dX7_has_1 : decode cX7_has 1 = .ok (.iload_n 1, 1) := by decide +kernel
theorem dX7_has_2 : decode cX7_has 2 = .ok (.ishr, 1) := by decide +kernel
theorem dX7_has_3 : decode cX7_has 3 = .ok (.iconst 1, 1) := by decide +kernel
theorem dX7_has_4 : decode cX7_has 4 = .ok (.iand, 1) := by decide +kernel
theorem dX7_has_5 : decode cX7_has 5 = .ok (.iconst 1, 1) := by decide +kernel
theorem dX7_has_6 : decode cX7_has 6 = .ok (.if_icmp .ne 7, 3) := by decide +kernel
theorem dX7_has_9 : decode cX7_has 9 = .ok (.iconst 1, 1) := by decide +kernel
theorem dX7_has_10 : decode cX7_has 10 = .ok (.goto 4, 3) := by decide +kernel
theorem dX7_has_13 : decode cX7_has 13 = .ok (.iconst 0, 1) := by decide +kernel
theorem dX7_has_14 : decode cX7_has 14 = .ok (.ireturn, 1) := by decide +kernel
theorem dX7_bits_0 : decode cX7_bits 0 = .ok (.iconst 0, 1) := by decide +kernel
theorem dX7_bits_1 : decode cX7_bits 1 = .ok (.istore_n 1, 1) := by decide +kernel
theorem dX7_bits_2 : decode cX7_bits 2 = .ok (.iconst 0, 1) := by decide +kernel
theorem dX7_bits_3 : decode cX7_bits 3 = .ok (.istore_n 2, 1) := by decide +kernel
theorem dX7_bits_4 : decode cX7_bits 4 = .ok (.iload_n 2, 1) := by decide +kernel
theorem dX7_bits_5 : decode cX7_bits 5 = .ok (.bipush 6, 2) := by decide +kernel
theorem dX7_bits_7 : decode cX7_bits 7 = .ok (.if_icmp .ge 17, 3) := by decide +kernel
theorem dX7_bits_10 : decode cX7_bits 10 = .ok (.iload_n 1, 1) := by decide +kernel
theorem dX7_bits_11 : decode cX7_bits 11 = .ok (.iload_n 0, 1) := by decide +kernel
theorem dX7_bits_12 : decode cX7_bits 12 = .ok (.iload_n 2, 1) := by decide +kernel
theorem dX7_bits_13 : decode cX7_bits 13 = .ok (.ishr, 1) := by decide +kernel
theorem dX7_bits_14 : decode cX7_bits 14 = .ok (.iconst 1, 1) := by decide +kernel
theorem dX7_bits_15 : decode cX7_bits 15 = .ok (.iand, 1) := by decide +kernel
theorem dX7_bits_16 : decode cX7_bits 16 = .ok (.iadd, 1) := by decide +kernel
theorem dX7_bits_17 : decode cX7_bits 17 = .ok (.istore_n 1, 1) := by decide +kernel
theorem dX7_bits_18 : decode cX7_bits 18 = .ok (.iinc 2 1, 3) := by decide +kernel
theorem dX7_bits_21 : decode cX7_bits 21 = .ok (.goto (-17), 3) := by decide +kernel
theorem dX7_bits_24 : decode cX7_bits 24 = .ok (.iload_n 1, 1) := by decide +kernel
theorem dX7_bits_25 : decode cX7_bits 25 = .ok (.ireturn, 1) := by decide +kernel
theorem dX7_size_0 : decode cX7_size 0 = .ok (.iload_n 0, 1) := by decide +kernel
theorem dX7_size_1 : decode cX7_size 1 = .ok (.ifCond .ge 8, 3) := by decide +kernel
theorem dX7_size_4 : decode cX7_size 4 = .ok (.iload_n 0, 1) := by decide +kernel
theorem dX7_size_5 : decode cX7_size 5 = .ok (.ineg, 1) := by decide +kernel
theorem dX7_size_6 : decode cX7_size 6 = .ok (.goto 4, 3) := by decide +kernel
theorem dX7_size_9 : decode cX7_size 9 = .ok (.iload_n 0, 1) := by decide +kernel
theorem dX7_size_10 : decode cX7_size 10 = .ok (.ireturn, 1) := by decide +kernel
theorem dX7_isSeat_0 : decode cX7_isSeat 0 = .ok (.iload_n 1, 1) := by decide +kernel
theorem dX7_isSeat_1 : decode cX7_isSeat 1 = .ok (.iconst 0, 1) := by decide +kernel
theorem dX7_isSeat_2 : decode cX7_isSeat 2 = .ok (.aload_n 0, 1) := by decide +kernel
theorem dX7_isSeat_3 : decode cX7_isSeat 3 = .ok (.getfield 61, 3) := by decide +kernel
theorem dX7_isSeat_6 : decode cX7_isSeat 6 = .ok (.iconst 1, 1) := by decide +kernel
theorem dX7_isSeat_7 : decode cX7_isSeat 7 = .ok (.isub, 1) := by decide +kernel
theorem dX7_isSeat_8 : decode cX7_isSeat 8 = .ok (.invokestatic 64, 3) := by decide +kernel
theorem dX7_isSeat_11 : decode cX7_isSeat 11 = .ok (.ireturn, 1) := by decide +kernel
theorem dX7_isThing_0 : decode cX7_isThing 0 = .ok (.iload_n 1, 1) := by decide +kernel
theorem dX7_isThing_1 : decode cX7_isThing 1 = .ok (.iconst 0, 1) := by decide +kernel
theorem dX7_isThing_2 : decode cX7_isThing 2 = .ok (.aload_n 0, 1) := by decide +kernel
theorem dX7_isThing_3 : decode cX7_isThing 3 = .ok (.getfield 68, 3) := by decide +kernel
theorem dX7_isThing_6 : decode cX7_isThing 6 = .ok (.iconst 1, 1) := by decide +kernel
theorem dX7_isThing_7 : decode cX7_isThing 7 = .ok (.isub, 1) := by decide +kernel
theorem dX7_isThing_8 : decode cX7_isThing 8 = .ok (.invokestatic 64, 3) := by decide +kernel
theorem dX7_isThing_11 : decode cX7_isThing 11 = .ok (.ireturn, 1) := by decide +kernel
theorem dX7_copy_0 : decode cX7_copy 0 = .ok (.iconst 0, 1) := by decide +kernel
theorem dX7_copy_1 : decode cX7_copy 1 = .ok (.istore 4, 2) := by decide +kernel
theorem dX7_copy_3 : decode cX7_copy 3 = .ok (.iload 4, 2) := by decide +kernel
theorem dX7_copy_5 : decode cX7_copy 5 = .ok (.bipush 7, 2) := by decide +kernel
theorem dX7_copy_7 : decode cX7_copy 7 = .ok (.if_icmp .ge 21, 3) := by decide +kernel
theorem dX7_copy_10 : decode cX7_copy 10 = .ok (.aload_n 0, 1) := by decide +kernel
theorem dX7_copy_11 : decode cX7_copy 11 = .ok (.iload_n 1, 1) := by decide +kernel
theorem dX7_copy_12 : decode cX7_copy 12 = .ok (.iload 4, 2) := by decide +kernel
theorem dX7_copy_14 : decode cX7_copy 14 = .ok (.iadd, 1) := by decide +kernel
theorem dX7_copy_15 : decode cX7_copy 15 = .ok (.aload_n 2, 1) := by decide +kernel
theorem dX7_copy_16 : decode cX7_copy 16 = .ok (.iload_n 3, 1) := by decide +kernel
theorem dX7_copy_17 : decode cX7_copy 17 = .ok (.iload 4, 2) := by decide +kernel
theorem dX7_copy_19 : decode cX7_copy 19 = .ok (.iadd, 1) := by decide +kernel
theorem dX7_copy_20 : decode cX7_copy 20 = .ok (.iaload, 1) := by decide +kernel
theorem dX7_copy_21 : decode cX7_copy 21 = .ok (.iastore, 1) := by decide +kernel
theorem dX7_copy_22 : decode cX7_copy 22 = .ok (.iinc 4 1, 3) := by decide +kernel
theorem dX7_copy_25 : decode cX7_copy 25 = .ok (.goto (-22), 3) := by decide +kernel
theorem dX7_copy_28 : decode cX7_copy 28 = .ok (.return_, 1) := by decide +kernel
theorem dX7_type_0 : decode cX7_type 0 = .ok (.iload_n 1, 1) := by decide +kernel
theorem dX7_type_1 : decode cX7_type 1 = .ok (.iconst 0, 1) := by decide +kernel
theorem dX7_type_2 : decode cX7_type 2 = .ok (.sipush 255, 3) := by decide +kernel
theorem dX7_type_5 : decode cX7_type 5 = .ok (.invokestatic 64, 3) := by decide +kernel
theorem dX7_type_8 : decode cX7_type 8 = .ok (.ifCond .ne 5, 3) := by decide +kernel
theorem dX7_type_11 : decode cX7_type 11 = .ok (.iconst (-1), 1) := by decide +kernel
theorem dX7_type_12 : decode cX7_type 12 = .ok (.ireturn, 1) := by decide +kernel
theorem dX7_type_13 : decode cX7_type 13 = .ok (.aload_n 0, 1) := by decide +kernel
theorem dX7_type_14 : decode cX7_type 14 = .ok (.getfield 71, 3) := by decide +kernel
theorem dX7_type_17 : decode cX7_type 17 = .ok (.sipush 150, 3) := by decide +kernel
theorem dX7_type_20 : decode cX7_type 20 = .ok (.if_icmp .ne 6, 3) := by decide +kernel
theorem dX7_type_23 : decode cX7_type 23 = .ok (.bipush (-3), 2) := by decide +kernel
theorem dX7_type_25 : decode cX7_type 25 = .ok (.ireturn, 1) := by decide +kernel
theorem dX7_type_26 : decode cX7_type 26 = .ok (.aload_n 0, 1) := by decide +kernel
theorem dX7_type_27 : decode cX7_type 27 = .ok (.getfield 42, 3) := by decide +kernel
theorem dX7_type_30 : decode cX7_type 30 = .ok (.aload_n 0, 1) := by decide +kernel
theorem dX7_type_31 : decode cX7_type 31 = .ok (.getfield 71, 3) := by decide +kernel
theorem dX7_type_34 : decode cX7_type 34 = .ok (.iload_n 1, 1) := by decide +kernel
theorem dX7_type_35 : decode cX7_type 35 = .ok (.iastore, 1) := by decide +kernel
theorem dX7_type_36 : decode cX7_type 36 = .ok (.aload_n 0, 1) := by decide +kernel
theorem dX7_type_37 : decode cX7_type 37 = .ok (.dup, 1) := by decide +kernel
theorem dX7_type_38 : decode cX7_type 38 = .ok (.getfield 71, 3) := by decide +kernel
theorem dX7_type_41 : decode cX7_type 41 = .ok (.iconst 1, 1) := by decide +kernel
theorem dX7_type_42 : decode cX7_type 42 = .ok (.iadd, 1) := by decide +kernel
theorem dX7_type_43 : decode cX7_type 43 = .ok (.putfield 71, 3) := by decide +kernel
theorem dX7_type_46 : decode cX7_type 46 = .ok (.aload_n 0, 1) := by decide +kernel
theorem dX7_type_47 : decode cX7_type 47 = .ok (.getfield 71, 3) := by decide +kernel
theorem dX7_type_50 : decode cX7_type 50 = .ok (.ireturn, 1) := by decide +kernel
theorem dX7_clear_0 : decode cX7_clear 0 = .ok (.aload_n 0, 1) := by decide +kernel
theorem dX7_clear_1 : decode cX7_clear 1 = .ok (.getfield 71, 3) := by decide +kernel
theorem dX7_clear_4 : decode cX7_clear 4 = .ok (.istore_n 1, 1) := by decide +kernel
theorem dX7_clear_5 : decode cX7_clear 5 = .ok (.aload_n 0, 1) := by decide +kernel
theorem dX7_clear_6 : decode cX7_clear 6 = .ok (.iconst 0, 1) := by decide +kernel
theorem dX7_clear_7 : decode cX7_clear 7 = .ok (.putfield 71, 3) := by decide +kernel
theorem dX7_clear_10 : decode cX7_clear 10 = .ok (.iload_n 1, 1) := by decide +kernel
theorem dX7_clear_11 : decode cX7_clear 11 = .ok (.ireturn, 1) := by decide +kernel
theorem dX7_letterAt_0 : decode cX7_letterAt 0 = .ok (.iload_n 1, 1) := by decide +kernel
theorem dX7_letterAt_1 : decode cX7_letterAt 1 = .ok (.aload_n 0, 1) := by decide +kernel
theorem dX7_letterAt_2 : decode cX7_letterAt 2 = .ok (.getfield 71, 3) := by decide +kernel
theorem dX7_letterAt_5 : decode cX7_letterAt 5 = .ok (.if_icmp .ge 12, 3) := by decide +kernel
theorem dX7_letterAt_8 : decode cX7_letterAt 8 = .ok (.aload_n 0, 1) := by decide +kernel
theorem dX7_letterAt_9 : decode cX7_letterAt 9 = .ok (.getfield 42, 3) := by decide +kernel
theorem dX7_letterAt_12 : decode cX7_letterAt 12 = .ok (.iload_n 1, 1) := by decide +kernel
theorem dX7_letterAt_13 : decode cX7_letterAt 13 = .ok (.iaload, 1) := by decide +kernel
