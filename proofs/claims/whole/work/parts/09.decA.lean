/-! what stands at each place of the bytecode (out of claim/NAMES.whole.lean.txt) -/
theorem dX0_init_0 : decode cX0_init 0 = .ok (.aload_n 0, 1) := by decide +kernel
theorem dX0_init_1 : decode cX0_init 1 = .ok (.invokespecial 1, 3) := by decide +kernel
theorem dX0_init_4 : decode cX0_init 4 = .ok (.aload_n 0, 1) := by decide +kernel
theorem dX0_init_5 : decode cX0_init 5 = .ok (.aload_n 1, 1) := by decide +kernel
theorem dX0_init_6 : decode cX0_init 6 = .ok (.putfield 7, 3) := by decide +kernel
theorem dX0_init_9 : decode cX0_init 9 = .ok (.return_, 1) := by decide +kernel
theorem dX0_fits_0 : decode cX0_fits 0 = .ok (.aload_n 1, 1) := by decide +kernel
theorem dX0_fits_1 : decode cX0_fits 1 = .ok (.getfield 13, 3) := by decide +kernel
theorem dX0_fits_4 : decode cX0_fits 4 = .ok (.tableswitch 67 0 4 #[36, 42, 48, 55, 61], 36) := by decide +kernel
theorem dX0_fits_40 : decode cX0_fits 40 = .ok (.aload_n 1, 1) := by decide +kernel
theorem dX0_fits_41 : decode cX0_fits 41 = .ok (.aload_n 2, 1) := by decide +kernel
theorem dX0_fits_42 : decode cX0_fits 42 = .ok (.invokestatic 19, 3) := by decide +kernel
theorem dX0_fits_45 : decode cX0_fits 45 = .ok (.ireturn, 1) := by decide +kernel
theorem dX0_fits_46 : decode cX0_fits 46 = .ok (.aload_n 1, 1) := by decide +kernel
theorem dX0_fits_47 : decode cX0_fits 47 = .ok (.aload_n 2, 1) := by decide +kernel
theorem dX0_fits_48 : decode cX0_fits 48 = .ok (.invokestatic 23, 3) := by decide +kernel
theorem dX0_fits_51 : decode cX0_fits 51 = .ok (.ireturn, 1) := by decide +kernel
theorem dX0_fits_52 : decode cX0_fits 52 = .ok (.aload_n 0, 1) := by decide +kernel
theorem dX0_fits_53 : decode cX0_fits 53 = .ok (.aload_n 1, 1) := by decide +kernel
theorem dX0_fits_54 : decode cX0_fits 54 = .ok (.aload_n 2, 1) := by decide +kernel
theorem dX0_fits_55 : decode cX0_fits 55 = .ok (.invokevirtual 26, 3) := by decide +kernel
theorem dX0_fits_58 : decode cX0_fits 58 = .ok (.ireturn, 1) := by decide +kernel
theorem dX0_fits_59 : decode cX0_fits 59 = .ok (.aload_n 1, 1) := by decide +kernel
theorem dX0_fits_60 : decode cX0_fits 60 = .ok (.aload_n 2, 1) := by decide +kernel
theorem dX0_fits_61 : decode cX0_fits 61 = .ok (.invokestatic 29, 3) := by decide +kernel
theorem dX0_fits_64 : decode cX0_fits 64 = .ok (.ireturn, 1) := by decide +kernel
theorem dX0_fits_65 : decode cX0_fits 65 = .ok (.aload_n 1, 1) := by decide +kernel
theorem dX0_fits_66 : decode cX0_fits 66 = .ok (.aload_n 2, 1) := by decide +kernel
theorem dX0_fits_67 : decode cX0_fits 67 = .ok (.invokestatic 32, 3) := by decide +kernel
theorem dX0_fits_70 : decode cX0_fits 70 = .ok (.ireturn, 1) := by decide +kernel
theorem dX0_fits_71 : decode cX0_fits 71 = .ok (.aload_n 1, 1) := by decide +kernel
theorem dX0_fits_72 : decode cX0_fits 72 = .ok (.aload_n 2, 1) := by decide +kernel
theorem dX0_fits_73 : decode cX0_fits 73 = .ok (.invokestatic 35, 3) := by decide +kernel
theorem dX0_fits_76 : decode cX0_fits 76 = .ok (.ireturn, 1) := by decide +kernel
theorem dX0_fitsSum_0 : decode cX0_fitsSum 0 = .ok (.iconst 0, 1) := by decide +kernel
theorem dX0_fitsSum_1 : decode cX0_fitsSum 1 = .ok (.istore_n 2, 1) := by decide +kernel
theorem dX0_fitsSum_2 : decode cX0_fitsSum 2 = .ok (.iconst 0, 1) := by decide +kernel
theorem dX0_fitsSum_3 : decode cX0_fitsSum 3 = .ok (.istore_n 3, 1) := by decide +kernel
theorem dX0_fitsSum_4 : decode cX0_fitsSum 4 = .ok (.iload_n 3, 1) := by decide +kernel
theorem dX0_fitsSum_5 : decode cX0_fitsSum 5 = .ok (.aload_n 0, 1) := by decide +kernel
theorem dX0_fitsSum_6 : decode cX0_fitsSum 6 = .ok (.getfield 38, 3) := by decide +kernel
theorem dX0_fitsSum_9 : decode cX0_fitsSum 9 = .ok (.if_icmp .ge 27, 3) := by decide +kernel
theorem dX0_fitsSum_12 : decode cX0_fitsSum 12 = .ok (.iload_n 2, 1) := by decide +kernel
theorem dX0_fitsSum_13 : decode cX0_fitsSum 13 = .ok (.aload_n 0, 1) := by decide +kernel
theorem dX0_fitsSum_14 : decode cX0_fitsSum 14 = .ok (.getfield 41, 3) := by decide +kernel
theorem dX0_fitsSum_17 : decode cX0_fitsSum 17 = .ok (.iload_n 3, 1) := by decide +kernel
theorem dX0_fitsSum_18 : decode cX0_fitsSum 18 = .ok (.iaload, 1) := by decide +kernel
theorem dX0_fitsSum_19 : decode cX0_fitsSum 19 = .ok (.aload_n 1, 1) := by decide +kernel
theorem dX0_fitsSum_20 : decode cX0_fitsSum 20 = .ok (.aload_n 0, 1) := by decide +kernel
theorem dX0_fitsSum_21 : decode cX0_fitsSum 21 = .ok (.getfield 45, 3) := by decide +kernel
theorem dX0_fitsSum_24 : decode cX0_fitsSum 24 = .ok (.iload_n 3, 1) := by decide +kernel
theorem dX0_fitsSum_25 : decode cX0_fitsSum 25 = .ok (.iaload, 1) := by decide +kernel
theorem dX0_fitsSum_26 : decode cX0_fitsSum 26 = .ok (.iaload, 1) := by decide +kernel
theorem dX0_fitsSum_27 : decode cX0_fitsSum 27 = .ok (.imul, 1) := by decide +kernel
theorem dX0_fitsSum_28 : decode cX0_fitsSum 28 = .ok (.iadd, 1) := by decide +kernel
theorem dX0_fitsSum_29 : decode cX0_fitsSum 29 = .ok (.istore_n 2, 1) := by decide +kernel
theorem dX0_fitsSum_30 : decode cX0_fitsSum 30 = .ok (.iinc 3 1, 3) := by decide +kernel
theorem dX0_fitsSum_33 : decode cX0_fitsSum 33 = .ok (.goto (-29), 3) := by decide +kernel
theorem dX0_fitsSum_36 : decode cX0_fitsSum 36 = .ok (.aload_n 0, 1) := by decide +kernel
theorem dX0_fitsSum_37 : decode cX0_fitsSum 37 = .ok (.getfield 48, 3) := by decide +kernel
theorem dX0_fitsSum_40 : decode cX0_fitsSum 40 = .ok (.lookupswitch 56 #[(0, 28), (1, 42)], 28) := by decide +kernel
theorem dX0_fitsSum_68 : decode cX0_fitsSum 68 = .ok (.iload_n 2, 1) := by decide +kernel
theorem dX0_fitsSum_69 : decode cX0_fitsSum 69 = .ok (.aload_n 0, 1) := by decide +kernel
theorem dX0_fitsSum_70 : decode cX0_fitsSum 70 = .ok (.getfield 51, 3) := by decide +kernel
theorem dX0_fitsSum_73 : decode cX0_fitsSum 73 = .ok (.if_icmp .gt 7, 3) := by decide +kernel
theorem dX0_fitsSum_76 : decode cX0_fitsSum 76 = .ok (.iconst 1, 1) := by decide +kernel
theorem dX0_fitsSum_77 : decode cX0_fitsSum 77 = .ok (.goto 4, 3) := by decide +kernel
theorem dX0_fitsSum_80 : decode cX0_fitsSum 80 = .ok (.iconst 0, 1) := by decide +kernel
theorem dX0_fitsSum_81 : decode cX0_fitsSum 81 = .ok (.ireturn, 1) := by decide +kernel
theorem dX0_fitsSum_82 : decode cX0_fitsSum 82 = .ok (.iload_n 2, 1) := by decide +kernel
theorem dX0_fitsSum_83 : decode cX0_fitsSum 83 = .ok (.aload_n 0, 1) := by decide +kernel
theorem dX0_fitsSum_84 : decode cX0_fitsSum 84 = .ok (.getfield 51, 3) := by decide +kernel
theorem dX0_fitsSum_87 : decode cX0_fitsSum 87 = .ok (.if_icmp .ne 7, 3) := by decide +kernel
theorem dX0_fitsSum_90 : decode cX0_fitsSum 90 = .ok (.iconst 1, 1) := by decide +kernel
theorem dX0_fitsSum_91 : decode cX0_fitsSum 91 = .ok (.goto 4, 3) := by decide +kernel
theorem dX0_fitsSum_94 : decode cX0_fitsSum 94 = .ok (.iconst 0, 1) := by decide +kernel
theorem dX0_fitsSum_95 : decode cX0_fitsSum 95 = .ok (.ireturn, 1) := by decide +kernel
theorem dX0_fitsSum_96 : decode cX0_fitsSum 96 = .ok (.iload_n 2, 1) := by decide +kernel
theorem dX0_fitsSum_97 : decode cX0_fitsSum 97 = .ok (.aload_n 0, 1) := by decide +kernel
theorem dX0_fitsSum_98 : decode cX0_fitsSum 98 = .ok (.getfield 51, 3) := by decide +kernel
theorem dX0_fitsSum_101 : decode cX0_fitsSum 101 = .ok (.if_icmp .eq 7, 3) := by decide +kernel
theorem dX0_fitsSum_104 : decode cX0_fitsSum 104 = .ok (.iconst 1, 1) := by decide +kernel
theorem dX0_fitsSum_105 : decode cX0_fitsSum 105 = .ok (.goto 4, 3) := by decide +kernel
theorem dX0_fitsSum_108 : decode cX0_fitsSum 108 = .ok (.iconst 0, 1) := by decide +kernel
theorem dX0_fitsSum_109 : decode cX0_fitsSum 109 = .ok (.ireturn, 1) := by decide +kernel
theorem dX0_fitsUnlike_0 : decode cX0_fitsUnlike 0 = .ok (.iconst 0, 1) := by decide +kernel
theorem dX0_fitsUnlike_1 : decode cX0_fitsUnlike 1 = .ok (.istore_n 2, 1) := by decide +kernel
theorem dX0_fitsUnlike_2 : decode cX0_fitsUnlike 2 = .ok (.iconst 0, 1) := by decide +kernel
theorem dX0_fitsUnlike_3 : decode cX0_fitsUnlike 3 = .ok (.istore_n 3, 1) := by decide +kernel
theorem dX0_fitsUnlike_4 : decode cX0_fitsUnlike 4 = .ok (.iload_n 3, 1) := by decide +kernel
theorem dX0_fitsUnlike_5 : decode cX0_fitsUnlike 5 = .ok (.aload_n 0, 1) := by decide +kernel
theorem dX0_fitsUnlike_6 : decode cX0_fitsUnlike 6 = .ok (.getfield 38, 3) := by decide +kernel
theorem dX0_fitsUnlike_9 : decode cX0_fitsUnlike 9 = .ok (.if_icmp .ge 35, 3) := by decide +kernel
theorem dX0_fitsUnlike_12 : decode cX0_fitsUnlike 12 = .ok (.iconst 1, 1) := by decide +kernel
theorem dX0_fitsUnlike_13 : decode cX0_fitsUnlike 13 = .ok (.aload_n 1, 1) := by decide +kernel
theorem dX0_fitsUnlike_14 : decode cX0_fitsUnlike 14 = .ok (.aload_n 0, 1) := by decide +kernel
theorem dX0_fitsUnlike_15 : decode cX0_fitsUnlike 15 = .ok (.getfield 45, 3) := by decide +kernel
theorem dX0_fitsUnlike_18 : decode cX0_fitsUnlike 18 = .ok (.iload_n 3, 1) := by decide +kernel
theorem dX0_fitsUnlike_19 : decode cX0_fitsUnlike 19 = .ok (.iaload, 1) := by decide +kernel
theorem dX0_fitsUnlike_20 : decode cX0_fitsUnlike 20 = .ok (.iaload, 1) := by decide +kernel
theorem dX0_fitsUnlike_21 : decode cX0_fitsUnlike 21 = .ok (.ishl, 1) := by decide +kernel
theorem dX0_fitsUnlike_22 : decode cX0_fitsUnlike 22 = .ok (.istore 4, 2) := by decide +kernel
theorem dX0_fitsUnlike_24 : decode cX0_fitsUnlike 24 = .ok (.iload_n 2, 1) := by decide +kernel
theorem dX0_fitsUnlike_25 : decode cX0_fitsUnlike 25 = .ok (.iload 4, 2) := by decide +kernel
theorem dX0_fitsUnlike_27 : decode cX0_fitsUnlike 27 = .ok (.iand, 1) := by decide +kernel
theorem dX0_fitsUnlike_28 : decode cX0_fitsUnlike 28 = .ok (.ifCond .eq 5, 3) := by decide +kernel
theorem dX0_fitsUnlike_31 : decode cX0_fitsUnlike 31 = .ok (.iconst 0, 1) := by decide +kernel
theorem dX0_fitsUnlike_32 : decode cX0_fitsUnlike 32 = .ok (.ireturn, 1) := by decide +kernel
theorem dX0_fitsUnlike_33 : decode cX0_fitsUnlike 33 = .ok (.iload_n 2, 1) := by decide +kernel
theorem dX0_fitsUnlike_34 : decode cX0_fitsUnlike 34 = .ok (.iload 4, 2) := by decide +kernel
theorem dX0_fitsUnlike_36 : decode cX0_fitsUnlike 36 = .ok (.ior, 1) := by decide +kernel
theorem dX0_fitsUnlike_37 : decode cX0_fitsUnlike 37 = .ok (.istore_n 2, 1) := by decide +kernel
theorem dX0_fitsUnlike_38 : decode cX0_fitsUnlike 38 = .ok (.iinc 3 1, 3) := by decide +kernel
theorem dX0_fitsUnlike_41 : decode cX0_fitsUnlike 41 = .ok (.goto (-37), 3) := by decide +kernel
theorem dX0_fitsUnlike_44 : decode cX0_fitsUnlike 44 = .ok (.iconst 1, 1) := by decide +kernel
theorem dX0_fitsUnlike_45 : decode cX0_fitsUnlike 45 = .ok (.ireturn, 1) := by decide +kernel
theorem dX0_fitsTable_0 : decode cX0_fitsTable 0 = .ok (.aload_n 0, 1) := by decide +kernel
theorem dX0_fitsTable_1 : decode cX0_fitsTable 1 = .ok (.getfield 7, 3) := by decide +kernel
theorem dX0_fitsTable_4 : decode cX0_fitsTable 4 = .ok (.getfield 54, 3) := by decide +kernel
theorem dX0_fitsTable_7 : decode cX0_fitsTable 7 = .ok (.aload_n 1, 1) := by decide +kernel
theorem dX0_fitsTable_8 : decode cX0_fitsTable 8 = .ok (.getfield 48, 3) := by decide +kernel
theorem dX0_fitsTable_11 : decode cX0_fitsTable 11 = .ok (.aaload, 1) := by decide +kernel
theorem dX0_fitsTable_12 : decode cX0_fitsTable 12 = .ok (.astore_n 3, 1) := by decide +kernel
theorem dX0_fitsTable_13 : decode cX0_fitsTable 13 = .ok (.aload_n 0, 1) := by decide +kernel
theorem dX0_fitsTable_14 : decode cX0_fitsTable 14 = .ok (.getfield 7, 3) := by decide +kernel
theorem dX0_fitsTable_17 : decode cX0_fitsTable 17 = .ok (.aload_n 1, 1) := by decide +kernel
theorem dX0_fitsTable_18 : decode cX0_fitsTable 18 = .ok (.getfield 48, 3) := by decide +kernel
theorem dX0_fitsTable_21 : decode cX0_fitsTable 21 = .ok (.aload_n 1, 1) := by decide +kernel
theorem dX0_fitsTable_22 : decode cX0_fitsTable 22 = .ok (.getfield 38, 3) := by decide +kernel
theorem dX0_fitsTable_25 : decode cX0_fitsTable 25 = .ok (.invokevirtual 60, 3) := by decide +kernel
theorem dX0_fitsTable_28 : decode cX0_fitsTable 28 = .ok (.istore 4, 2) := by decide +kernel
theorem dX0_fitsTable_30 : decode cX0_fitsTable 30 = .ok (.iconst 0, 1) := by decide +kernel
theorem dX0_fitsTable_31 : decode cX0_fitsTable 31 = .ok (.istore 5, 2) := by decide +kernel
theorem dX0_fitsTable_33 : decode cX0_fitsTable 33 = .ok (.iload 5, 2) := by decide +kernel
theorem dX0_fitsTable_35 : decode cX0_fitsTable 35 = .ok (.iload 4, 2) := by decide +kernel
theorem dX0_fitsTable_37 : decode cX0_fitsTable 37 = .ok (.if_icmp .ge 62, 3) := by decide +kernel
theorem dX0_fitsTable_40 : decode cX0_fitsTable 40 = .ok (.iconst 0, 1) := by decide +kernel
theorem dX0_fitsTable_41 : decode cX0_fitsTable 41 = .ok (.istore 6, 2) := by decide +kernel
theorem dX0_fitsTable_43 : decode cX0_fitsTable 43 = .ok (.iload 6, 2) := by decide +kernel
theorem dX0_fitsTable_45 : decode cX0_fitsTable 45 = .ok (.aload_n 1, 1) := by decide +kernel
theorem dX0_fitsTable_46 : decode cX0_fitsTable 46 = .ok (.getfield 38, 3) := by decide +kernel
theorem dX0_fitsTable_49 : decode cX0_fitsTable 49 = .ok (.if_icmp .ge 33, 3) := by decide +kernel
theorem dX0_fitsTable_52 : decode cX0_fitsTable 52 = .ok (.aload_n 3, 1) := by decide +kernel
theorem dX0_fitsTable_53 : decode cX0_fitsTable 53 = .ok (.iload 5, 2) := by decide +kernel
theorem dX0_fitsTable_55 : decode cX0_fitsTable 55 = .ok (.aload_n 1, 1) := by decide +kernel
theorem dX0_fitsTable_56 : decode cX0_fitsTable 56 = .ok (.getfield 38, 3) := by decide +kernel
theorem dX0_fitsTable_59 : decode cX0_fitsTable 59 = .ok (.imul, 1) := by decide +kernel
theorem dX0_fitsTable_60 : decode cX0_fitsTable 60 = .ok (.iload 6, 2) := by decide +kernel
theorem dX0_fitsTable_62 : decode cX0_fitsTable 62 = .ok (.iadd, 1) := by decide +kernel
theorem dX0_fitsTable_63 : decode cX0_fitsTable 63 = .ok (.iaload, 1) := by decide +kernel
theorem dX0_fitsTable_64 : decode cX0_fitsTable 64 = .ok (.aload_n 2, 1) := by decide +kernel
theorem dX0_fitsTable_65 : decode cX0_fitsTable 65 = .ok (.aload_n 1, 1) := by decide +kernel
theorem dX0_fitsTable_66 : decode cX0_fitsTable 66 = .ok (.getfield 45, 3) := by decide +kernel
theorem dX0_fitsTable_69 : decode cX0_fitsTable 69 = .ok (.iload 6, 2) := by decide +kernel
theorem dX0_fitsTable_71 : decode cX0_fitsTable 71 = .ok (.iaload, 1) := by decide +kernel
theorem dX0_fitsTable_72 : decode cX0_fitsTable 72 = .ok (.iaload, 1) := by decide +kernel
theorem dX0_fitsTable_73 : decode cX0_fitsTable 73 = .ok (.if_icmp .ne 9, 3) := by decide +kernel
theorem dX0_fitsTable_76 : decode cX0_fitsTable 76 = .ok (.iinc 6 1, 3) := by decide +kernel
theorem dX0_fitsTable_79 : decode cX0_fitsTable 79 = .ok (.goto (-36), 3) := by decide +kernel
theorem dX0_fitsTable_82 : decode cX0_fitsTable 82 = .ok (.iload 6, 2) := by decide +kernel
theorem dX0_fitsTable_84 : decode cX0_fitsTable 84 = .ok (.aload_n 1, 1) := by decide +kernel
theorem dX0_fitsTable_85 : decode cX0_fitsTable 85 = .ok (.getfield 38, 3) := by decide +kernel
theorem dX0_fitsTable_88 : decode cX0_fitsTable 88 = .ok (.if_icmp .ne 5, 3) := by decide +kernel
theorem dX0_fitsTable_91 : decode cX0_fitsTable 91 = .ok (.iconst 1, 1) := by decide +kernel
theorem dX0_fitsTable_92 : decode cX0_fitsTable 92 = .ok (.ireturn, 1) := by decide +kernel
theorem dX0_fitsTable_93 : decode cX0_fitsTable 93 = .ok (.iinc 5 1, 3) := by decide +kernel
theorem dX0_fitsTable_96 : decode cX0_fitsTable 96 = .ok (.goto (-63), 3) := by decide +kernel
theorem dX0_fitsTable_99 : decode cX0_fitsTable 99 = .ok (.iconst 0, 1) := by decide +kernel
theorem dX0_fitsTable_100 : decode cX0_fitsTable 100 = .ok (.ireturn, 1) := by decide +kernel
theorem dX0_fitsLoad_0 : decode cX0_fitsLoad 0 = .ok (.iconst 0, 1) := by decide +kernel
theorem dX0_fitsLoad_1 : decode cX0_fitsLoad 1 = .ok (.istore_n 2, 1) := by decide +kernel
theorem dX0_fitsLoad_2 : decode cX0_fitsLoad 2 = .ok (.iload_n 2, 1) := by decide +kernel
theorem dX0_fitsLoad_3 : decode cX0_fitsLoad 3 = .ok (.aload_n 0, 1) := by decide +kernel
theorem dX0_fitsLoad_4 : decode cX0_fitsLoad 4 = .ok (.getfield 38, 3) := by decide +kernel
theorem dX0_fitsLoad_7 : decode cX0_fitsLoad 7 = .ok (.if_icmp .ge 93, 3) := by decide +kernel
theorem dX0_fitsLoad_10 : decode cX0_fitsLoad 10 = .ok (.aload_n 1, 1) := by decide +kernel
theorem dX0_fitsLoad_11 : decode cX0_fitsLoad 11 = .ok (.aload_n 0, 1) := by decide +kernel
theorem dX0_fitsLoad_12 : decode cX0_fitsLoad 12 = .ok (.getfield 45, 3) := by decide +kernel
theorem dX0_fitsLoad_15 : decode cX0_fitsLoad 15 = .ok (.iload_n 2, 1) := by decide +kernel
theorem dX0_fitsLoad_16 : decode cX0_fitsLoad 16 = .ok (.iaload, 1) := by decide +kernel
theorem dX0_fitsLoad_17 : decode cX0_fitsLoad 17 = .ok (.iaload, 1) := by decide +kernel
theorem dX0_fitsLoad_18 : decode cX0_fitsLoad 18 = .ok (.istore_n 3, 1) := by decide +kernel
theorem dX0_fitsLoad_19 : decode cX0_fitsLoad 19 = .ok (.iconst 0, 1) := by decide +kernel
theorem dX0_fitsLoad_20 : decode cX0_fitsLoad 20 = .ok (.istore 4, 2) := by decide +kernel
theorem dX0_fitsLoad_22 : decode cX0_fitsLoad 22 = .ok (.iconst 0, 1) := by decide +kernel
theorem dX0_fitsLoad_23 : decode cX0_fitsLoad 23 = .ok (.istore 5, 2) := by decide +kernel
theorem dX0_fitsLoad_25 : decode cX0_fitsLoad 25 = .ok (.iload 5, 2) := by decide +kernel
theorem dX0_fitsLoad_27 : decode cX0_fitsLoad 27 = .ok (.aload_n 0, 1) := by decide +kernel
theorem dX0_fitsLoad_28 : decode cX0_fitsLoad 28 = .ok (.getfield 38, 3) := by decide +kernel
theorem dX0_fitsLoad_31 : decode cX0_fitsLoad 31 = .ok (.if_icmp .ge 52, 3) := by decide +kernel
theorem dX0_fitsLoad_34 : decode cX0_fitsLoad 34 = .ok (.aload_n 1, 1) := by decide +kernel
theorem dX0_fitsLoad_35 : decode cX0_fitsLoad 35 = .ok (.aload_n 0, 1) := by decide +kernel
theorem dX0_fitsLoad_36 : decode cX0_fitsLoad 36 = .ok (.getfield 45, 3) := by decide +kernel
theorem dX0_fitsLoad_39 : decode cX0_fitsLoad 39 = .ok (.iload 5, 2) := by decide +kernel
theorem dX0_fitsLoad_41 : decode cX0_fitsLoad 41 = .ok (.iaload, 1) := by decide +kernel
theorem dX0_fitsLoad_42 : decode cX0_fitsLoad 42 = .ok (.iaload, 1) := by decide +kernel
theorem dX0_fitsLoad_43 : decode cX0_fitsLoad 43 = .ok (.istore 6, 2) := by decide +kernel
theorem dX0_fitsLoad_45 : decode cX0_fitsLoad 45 = .ok (.iload 6, 2) := by decide +kernel
theorem dX0_fitsLoad_47 : decode cX0_fitsLoad 47 = .ok (.iload_n 3, 1) := by decide +kernel
theorem dX0_fitsLoad_48 : decode cX0_fitsLoad 48 = .ok (.if_icmp .gt 29, 3) := by decide +kernel
theorem dX0_fitsLoad_51 : decode cX0_fitsLoad 51 = .ok (.iload_n 3, 1) := by decide +kernel
theorem dX0_fitsLoad_52 : decode cX0_fitsLoad 52 = .ok (.iload 6, 2) := by decide +kernel
theorem dX0_fitsLoad_54 : decode cX0_fitsLoad 54 = .ok (.aload_n 0, 1) := by decide +kernel
theorem dX0_fitsLoad_55 : decode cX0_fitsLoad 55 = .ok (.getfield 41, 3) := by decide +kernel
theorem dX0_fitsLoad_58 : decode cX0_fitsLoad 58 = .ok (.iload 5, 2) := by decide +kernel
theorem dX0_fitsLoad_60 : decode cX0_fitsLoad 60 = .ok (.iaload, 1) := by decide +kernel
theorem dX0_fitsLoad_61 : decode cX0_fitsLoad 61 = .ok (.iadd, 1) := by decide +kernel
theorem dX0_fitsLoad_62 : decode cX0_fitsLoad 62 = .ok (.if_icmp .ge 15, 3) := by decide +kernel
theorem dX0_fitsLoad_65 : decode cX0_fitsLoad 65 = .ok (.iload 4, 2) := by decide +kernel
theorem dX0_fitsLoad_67 : decode cX0_fitsLoad 67 = .ok (.aload_n 0, 1) := by decide +kernel
theorem dX0_fitsLoad_68 : decode cX0_fitsLoad 68 = .ok (.getfield 64, 3) := by decide +kernel
theorem dX0_fitsLoad_71 : decode cX0_fitsLoad 71 = .ok (.iload 5, 2) := by decide +kernel
theorem dX0_fitsLoad_73 : decode cX0_fitsLoad 73 = .ok (.iaload, 1) := by decide +kernel
theorem dX0_fitsLoad_74 : decode cX0_fitsLoad 74 = .ok (.iadd, 1) := by decide +kernel
theorem dX0_fitsLoad_75 : decode cX0_fitsLoad 75 = .ok (.istore 4, 2) := by decide +kernel
theorem dX0_fitsLoad_77 : decode cX0_fitsLoad 77 = .ok (.iinc 5 1, 3) := by decide +kernel
theorem dX0_fitsLoad_80 : decode cX0_fitsLoad 80 = .ok (.goto (-55), 3) := by decide +kernel
theorem dX0_fitsLoad_83 : decode cX0_fitsLoad 83 = .ok (.iload 4, 2) := by decide +kernel
theorem dX0_fitsLoad_85 : decode cX0_fitsLoad 85 = .ok (.aload_n 0, 1) := by decide +kernel
theorem dX0_fitsLoad_86 : decode cX0_fitsLoad 86 = .ok (.getfield 48, 3) := by decide +kernel
theorem dX0_fitsLoad_89 : decode cX0_fitsLoad 89 = .ok (.if_icmp .le 5, 3) := by decide +kernel
theorem dX0_fitsLoad_92 : decode cX0_fitsLoad 92 = .ok (.iconst 0, 1) := by decide +kernel
theorem dX0_fitsLoad_93 : decode cX0_fitsLoad 93 = .ok (.ireturn, 1) := by decide +kernel
theorem dX0_fitsLoad_94 : decode cX0_fitsLoad 94 = .ok (.iinc 2 1, 3) := by decide +kernel
theorem dX0_fitsLoad_97 : decode cX0_fitsLoad 97 = .ok (.goto (-95), 3) := by decide +kernel
theorem dX0_fitsLoad_100 : decode cX0_fitsLoad 100 = .ok (.iconst 1, 1) := by decide +kernel
theorem dX0_fitsLoad_101 : decode cX0_fitsLoad 101 = .ok (.ireturn, 1) := by decide +kernel
theorem dX0_fitsRing_0 : decode cX0_fitsRing 0 = .ok (.iconst 0, 1) := by decide +kernel
theorem dX0_fitsRing_1 : decode cX0_fitsRing 1 = .ok (.istore_n 2, 1) := by decide +kernel
theorem dX0_fitsRing_2 : decode cX0_fitsRing 2 = .ok (.iconst 1, 1) := by decide +kernel
theorem dX0_fitsRing_3 : decode cX0_fitsRing 3 = .ok (.istore_n 3, 1) := by decide +kernel
theorem dX0_fitsRing_4 : decode cX0_fitsRing 4 = .ok (.iload_n 3, 1) := by decide +kernel
theorem dX0_fitsRing_5 : decode cX0_fitsRing 5 = .ok (.aload_n 0, 1) := by decide +kernel
theorem dX0_fitsRing_6 : decode cX0_fitsRing 6 = .ok (.getfield 38, 3) := by decide +kernel
theorem dX0_fitsRing_9 : decode cX0_fitsRing 9 = .ok (.if_icmp .gt 46, 3) := by decide +kernel
theorem dX0_fitsRing_12 : decode cX0_fitsRing 12 = .ok (.aload_n 1, 1) := by decide +kernel
theorem dX0_fitsRing_13 : decode cX0_fitsRing 13 = .ok (.aload_n 0, 1) := by decide +kernel
theorem dX0_fitsRing_14 : decode cX0_fitsRing 14 = .ok (.getfield 45, 3) := by decide +kernel
theorem dX0_fitsRing_17 : decode cX0_fitsRing 17 = .ok (.iload_n 2, 1) := by decide +kernel
theorem dX0_fitsRing_18 : decode cX0_fitsRing 18 = .ok (.iaload, 1) := by decide +kernel
theorem dX0_fitsRing_19 : decode cX0_fitsRing 19 = .ok (.iaload, 1) := by decide +kernel
theorem dX0_fitsRing_20 : decode cX0_fitsRing 20 = .ok (.istore_n 2, 1) := by decide +kernel
theorem dX0_fitsRing_21 : decode cX0_fitsRing 21 = .ok (.iload_n 2, 1) := by decide +kernel
theorem dX0_fitsRing_22 : decode cX0_fitsRing 22 = .ok (.aload_n 0, 1) := by decide +kernel
theorem dX0_fitsRing_23 : decode cX0_fitsRing 23 = .ok (.getfield 38, 3) := by decide +kernel
theorem dX0_fitsRing_26 : decode cX0_fitsRing 26 = .ok (.if_icmp .lt 5, 3) := by decide +kernel
theorem dX0_fitsRing_29 : decode cX0_fitsRing 29 = .ok (.iconst 0, 1) := by decide +kernel
theorem dX0_fitsRing_30 : decode cX0_fitsRing 30 = .ok (.ireturn, 1) := by decide +kernel
theorem dX0_fitsRing_31 : decode cX0_fitsRing 31 = .ok (.iload_n 2, 1) := by decide +kernel
theorem dX0_fitsRing_32 : decode cX0_fitsRing 32 = .ok (.ifCond .ne 17, 3) := by decide +kernel
theorem dX0_fitsRing_35 : decode cX0_fitsRing 35 = .ok (.iload_n 3, 1) := by decide +kernel
theorem dX0_fitsRing_36 : decode cX0_fitsRing 36 = .ok (.aload_n 0, 1) := by decide +kernel
theorem dX0_fitsRing_37 : decode cX0_fitsRing 37 = .ok (.getfield 38, 3) := by decide +kernel
theorem dX0_fitsRing_40 : decode cX0_fitsRing 40 = .ok (.if_icmp .ne 7, 3) := by decide +kernel
theorem dX0_fitsRing_43 : decode cX0_fitsRing 43 = .ok (.iconst 1, 1) := by decide +kernel
theorem dX0_fitsRing_44 : decode cX0_fitsRing 44 = .ok (.goto 4, 3) := by decide +kernel
theorem dX0_fitsRing_47 : decode cX0_fitsRing 47 = .ok (.iconst 0, 1) := by decide +kernel
theorem dX0_fitsRing_48 : decode cX0_fitsRing 48 = .ok (.ireturn, 1) := by decide +kernel
theorem dX0_fitsRing_49 : decode cX0_fitsRing 49 = .ok (.iinc 3 1, 3) := by decide +kernel
theorem dX0_fitsRing_52 : decode cX0_fitsRing 52 = .ok (.goto (-48), 3) := by decide +kernel
theorem dX0_fitsRing_55 : decode cX0_fitsRing 55 = .ok (.aload_n 0, 1) := by decide +kernel
theorem dX0_fitsRing_56 : decode cX0_fitsRing 56 = .ok (.getfield 38, 3) := by decide +kernel
theorem dX0_fitsRing_59 : decode cX0_fitsRing 59 = .ok (.ifCond .ne 7, 3) := by decide +kernel
theorem dX0_fitsRing_62 : decode cX0_fitsRing 62 = .ok (.iconst 1, 1) := by decide +kernel
theorem dX0_fitsRing_63 : decode cX0_fitsRing 63 = .ok (.goto 4, 3) := by decide +kernel
theorem dX0_fitsRing_66 : decode cX0_fitsRing 66 = .ok (.iconst 0, 1) := by decide +kernel
theorem dX0_fitsRing_67 : decode cX0_fitsRing 67 = .ok (.ireturn, 1) := by decide +kernel
theorem dX0_fitsClause_0 : decode cX0_fitsClause 0 = .ok (.iconst 0, 1) := by decide +kernel
theorem dX0_fitsClause_1 : decode cX0_fitsClause 1 = .ok (.istore_n 2, 1) := by decide +kernel
theorem dX0_fitsClause_2 : decode cX0_fitsClause 2 = .ok (.iload_n 2, 1) := by decide +kernel
theorem dX0_fitsClause_3 : decode cX0_fitsClause 3 = .ok (.aload_n 0, 1) := by decide +kernel
theorem dX0_fitsClause_4 : decode cX0_fitsClause 4 = .ok (.getfield 38, 3) := by decide +kernel
theorem dX0_fitsClause_7 : decode cX0_fitsClause 7 = .ok (.if_icmp .ge 31, 3) := by decide +kernel
theorem dX0_fitsClause_10 : decode cX0_fitsClause 10 = .ok (.aload_n 0, 1) := by decide +kernel
theorem dX0_fitsClause_11 : decode cX0_fitsClause 11 = .ok (.getfield 41, 3) := by decide +kernel
theorem dX0_fitsClause_14 : decode cX0_fitsClause 14 = .ok (.iload_n 2, 1) := by decide +kernel
theorem dX0_fitsClause_15 : decode cX0_fitsClause 15 = .ok (.iaload, 1) := by decide +kernel
theorem dX0_fitsClause_16 : decode cX0_fitsClause 16 = .ok (.aload_n 1, 1) := by decide +kernel
theorem dX0_fitsClause_17 : decode cX0_fitsClause 17 = .ok (.aload_n 0, 1) := by decide +kernel
theorem dX0_fitsClause_18 : decode cX0_fitsClause 18 = .ok (.getfield 45, 3) := by decide +kernel
theorem dX0_fitsClause_21 : decode cX0_fitsClause 21 = .ok (.iload_n 2, 1) := by decide +kernel
theorem dX0_fitsClause_22 : decode cX0_fitsClause 22 = .ok (.iaload, 1) := by decide +kernel
theorem dX0_fitsClause_23 : decode cX0_fitsClause 23 = .ok (.iaload, 1) := by decide +kernel
theorem dX0_fitsClause_24 : decode cX0_fitsClause 24 = .ok (.ishr, 1) := by decide +kernel
theorem dX0_fitsClause_25 : decode cX0_fitsClause 25 = .ok (.iconst 1, 1) := by decide +kernel
theorem dX0_fitsClause_26 : decode cX0_fitsClause 26 = .ok (.iand, 1) := by decide +kernel
theorem dX0_fitsClause_27 : decode cX0_fitsClause 27 = .ok (.ifCond .eq 5, 3) := by decide +kernel
theorem dX0_fitsClause_30 : decode cX0_fitsClause 30 = .ok (.iconst 1, 1) := by decide +kernel
theorem dX0_fitsClause_31 : decode cX0_fitsClause 31 = .ok (.ireturn, 1) := by decide +kernel
theorem dX0_fitsClause_32 : decode cX0_fitsClause 32 = .ok (.iinc 2 1, 3) := by decide +kernel
theorem dX0_fitsClause_35 : decode cX0_fitsClause 35 = .ok (.goto (-33), 3) := by decide +kernel
theorem dX0_fitsClause_38 : decode cX0_fitsClause 38 = .ok (.iconst 0, 1) := by decide +kernel
theorem dX0_fitsClause_39 : decode cX0_fitsClause 39 = .ok (.ireturn, 1) := by decide +kernel
theorem dX1_init_0 : decode cX1_init 0 = .ok (.aload_n 0, 1) := by decide +kernel
theorem dX1_init_1 : decode cX1_init 1 = .ok (.invokespecial 5, 3) := by decide +kernel
theorem dX1_init_4 : decode cX1_init 4 = .ok (.aload_n 0, 1) := by decide +kernel
theorem dX1_init_5 : decode cX1_init 5 = .ok (.bipush 10, 2) := by decide +kernel
theorem dX1_init_7 : decode cX1_init 7 = .ok (.newarray .int, 2) := by decide +kernel
theorem dX1_init_9 : decode cX1_init 9 = .ok (.putfield 11, 3) := by decide +kernel
theorem dX1_init_12 : decode cX1_init 12 = .ok (.aload_n 0, 1) := by decide +kernel
theorem dX1_init_13 : decode cX1_init 13 = .ok (.bipush 64, 2) := by decide +kernel
theorem dX1_init_15 : decode cX1_init 15 = .ok (.newarray .int, 2) := by decide +kernel
theorem dX1_init_17 : decode cX1_init 17 = .ok (.putfield 17, 3) := by decide +kernel
theorem dX1_init_20 : decode cX1_init 20 = .ok (.aload_n 0, 1) := by decide +kernel
theorem dX1_init_21 : decode cX1_init 21 = .ok (.bipush 31, 2) := by decide +kernel
theorem dX1_init_23 : decode cX1_init 23 = .ok (.newarray .int, 2) := by decide +kernel
theorem dX1_init_25 : decode cX1_init 25 = .ok (.putfield 20, 3) := by decide +kernel
theorem dX1_init_28 : decode cX1_init 28 = .ok (.aload_n 0, 1) := by decide +kernel
theorem dX1_init_29 : decode cX1_init 29 = .ok (.bipush 10, 2) := by decide +kernel
theorem dX1_init_31 : decode cX1_init 31 = .ok (.newarray .int, 2) := by decide +kernel
theorem dX1_init_33 : decode cX1_init 33 = .ok (.putfield 23, 3) := by decide +kernel
theorem dX1_init_36 : decode cX1_init 36 = .ok (.aload_n 0, 1) := by decide +kernel
theorem dX1_init_37 : decode cX1_init 37 = .ok (.aload_n 1, 1) := by decide +kernel
theorem dX1_init_38 : decode cX1_init 38 = .ok (.putfield 26, 3) := by decide +kernel
theorem dX1_init_41 : decode cX1_init 41 = .ok (.return_, 1) := by decide +kernel
theorem dX1_look_0 : decode cX1_look 0 = .ok (.aload_n 1, 1) := by decide +kernel
theorem dX1_look_1 : decode cX1_look 1 = .ok (.getfield 30, 3) := by decide +kernel
theorem dX1_look_4 : decode cX1_look 4 = .ok (.tableswitch 81 0 4 #[36, 45, 54, 63, 72], 36) := by decide +kernel
theorem dX1_look_40 : decode cX1_look 40 = .ok (.aload_n 0, 1) := by decide +kernel
theorem dX1_look_41 : decode cX1_look 41 = .ok (.aload_n 1, 1) := by decide +kernel
theorem dX1_look_42 : decode cX1_look 42 = .ok (.aload_n 2, 1) := by decide +kernel
theorem dX1_look_43 : decode cX1_look 43 = .ok (.invokevirtual 34, 3) := by decide +kernel
theorem dX1_look_46 : decode cX1_look 46 = .ok (.goto 45, 3) := by decide +kernel
theorem dX1_look_49 : decode cX1_look 49 = .ok (.aload_n 0, 1) := by decide +kernel
theorem dX1_look_50 : decode cX1_look 50 = .ok (.aload_n 1, 1) := by decide +kernel
theorem dX1_look_51 : decode cX1_look 51 = .ok (.aload_n 2, 1) := by decide +kernel
theorem dX1_look_52 : decode cX1_look 52 = .ok (.invokevirtual 38, 3) := by decide +kernel
theorem dX1_look_55 : decode cX1_look 55 = .ok (.goto 36, 3) := by decide +kernel
theorem dX1_look_58 : decode cX1_look 58 = .ok (.aload_n 0, 1) := by decide +kernel
theorem dX1_look_59 : decode cX1_look 59 = .ok (.aload_n 1, 1) := by decide +kernel
theorem dX1_look_60 : decode cX1_look 60 = .ok (.aload_n 2, 1) := by decide +kernel
theorem dX1_look_61 : decode cX1_look 61 = .ok (.invokevirtual 41, 3) := by decide +kernel
theorem dX1_look_64 : decode cX1_look 64 = .ok (.goto 27, 3) := by decide +kernel
theorem dX1_look_67 : decode cX1_look 67 = .ok (.aload_n 0, 1) := by decide +kernel
theorem dX1_look_68 : decode cX1_look 68 = .ok (.aload_n 1, 1) := by decide +kernel
theorem dX1_look_69 : decode cX1_look 69 = .ok (.aload_n 2, 1) := by decide +kernel
theorem dX1_look_70 : decode cX1_look 70 = .ok (.invokevirtual 44, 3) := by decide +kernel
theorem dX1_look_73 : decode cX1_look 73 = .ok (.goto 18, 3) := by decide +kernel
theorem dX1_look_76 : decode cX1_look 76 = .ok (.aload_n 0, 1) := by decide +kernel
theorem dX1_look_77 : decode cX1_look 77 = .ok (.aload_n 1, 1) := by decide +kernel
theorem dX1_look_78 : decode cX1_look 78 = .ok (.aload_n 2, 1) := by decide +kernel
theorem dX1_look_79 : decode cX1_look 79 = .ok (.invokevirtual 47, 3) := by decide +kernel
theorem dX1_look_82 : decode cX1_look 82 = .ok (.goto 9, 3) := by decide +kernel
theorem dX1_look_85 : decode cX1_look 85 = .ok (.aload_n 0, 1) := by decide +kernel
theorem dX1_look_86 : decode cX1_look 86 = .ok (.aload_n 1, 1) := by decide +kernel
theorem dX1_look_87 : decode cX1_look 87 = .ok (.aload_n 2, 1) := by decide +kernel
theorem dX1_look_88 : decode cX1_look 88 = .ok (.invokevirtual 50, 3) := by decide +kernel
theorem dX1_look_91 : decode cX1_look 91 = .ok (.return_, 1) := by decide +kernel
theorem dX1_lookAtSum_0 : decode cX1_lookAtSum 0 = .ok (.iconst 0, 1) := by decide +kernel
theorem dX1_lookAtSum_1 : decode cX1_lookAtSum 1 = .ok (.istore_n 3, 1) := by decide +kernel
theorem dX1_lookAtSum_2 : decode cX1_lookAtSum 2 = .ok (.iconst 0, 1) := by decide +kernel
theorem dX1_lookAtSum_3 : decode cX1_lookAtSum 3 = .ok (.istore 4, 2) := by decide +kernel
theorem dX1_lookAtSum_5 : decode cX1_lookAtSum 5 = .ok (.iconst 0, 1) := by decide +kernel
theorem dX1_lookAtSum_6 : decode cX1_lookAtSum 6 = .ok (.istore 5, 2) := by decide +kernel
theorem dX1_lookAtSum_8 : decode cX1_lookAtSum 8 = .ok (.iconst 0, 1) := by decide +kernel
theorem dX1_lookAtSum_9 : decode cX1_lookAtSum 9 = .ok (.istore 6, 2) := by decide +kernel
theorem dX1_lookAtSum_11 : decode cX1_lookAtSum 11 = .ok (.iload 6, 2) := by decide +kernel
theorem dX1_lookAtSum_13 : decode cX1_lookAtSum 13 = .ok (.aload_n 1, 1) := by decide +kernel
theorem dX1_lookAtSum_14 : decode cX1_lookAtSum 14 = .ok (.getfield 53, 3) := by decide +kernel
theorem dX1_lookAtSum_17 : decode cX1_lookAtSum 17 = .ok (.if_icmp .ge 70, 3) := by decide +kernel
theorem dX1_lookAtSum_20 : decode cX1_lookAtSum 20 = .ok (.aload_n 2, 1) := by decide +kernel
theorem dX1_lookAtSum_21 : decode cX1_lookAtSum 21 = .ok (.aload_n 1, 1) := by decide +kernel
theorem dX1_lookAtSum_22 : decode cX1_lookAtSum 22 = .ok (.getfield 56, 3) := by decide +kernel
theorem dX1_lookAtSum_25 : decode cX1_lookAtSum 25 = .ok (.iload 6, 2) := by decide +kernel
theorem dX1_lookAtSum_27 : decode cX1_lookAtSum 27 = .ok (.iaload, 1) := by decide +kernel
theorem dX1_lookAtSum_28 : decode cX1_lookAtSum 28 = .ok (.iaload, 1) := by decide +kernel
theorem dX1_lookAtSum_29 : decode cX1_lookAtSum 29 = .ok (.istore 7, 2) := by decide +kernel
theorem dX1_lookAtSum_31 : decode cX1_lookAtSum 31 = .ok (.iload_n 3, 1) := by decide +kernel
theorem dX1_lookAtSum_32 : decode cX1_lookAtSum 32 = .ok (.aload_n 1, 1) := by decide +kernel
theorem dX1_lookAtSum_33 : decode cX1_lookAtSum 33 = .ok (.getfield 59, 3) := by decide +kernel
theorem dX1_lookAtSum_36 : decode cX1_lookAtSum 36 = .ok (.iload 6, 2) := by decide +kernel
theorem dX1_lookAtSum_38 : decode cX1_lookAtSum 38 = .ok (.iaload, 1) := by decide +kernel
theorem dX1_lookAtSum_39 : decode cX1_lookAtSum 39 = .ok (.iload 7, 2) := by decide +kernel
theorem dX1_lookAtSum_41 : decode cX1_lookAtSum 41 = .ok (.invokestatic 62, 3) := by decide +kernel
theorem dX1_lookAtSum_44 : decode cX1_lookAtSum 44 = .ok (.iadd, 1) := by decide +kernel
theorem dX1_lookAtSum_45 : decode cX1_lookAtSum 45 = .ok (.istore_n 3, 1) := by decide +kernel
theorem dX1_lookAtSum_46 : decode cX1_lookAtSum 46 = .ok (.iload 4, 2) := by decide +kernel
theorem dX1_lookAtSum_48 : decode cX1_lookAtSum 48 = .ok (.aload_n 1, 1) := by decide +kernel
theorem dX1_lookAtSum_49 : decode cX1_lookAtSum 49 = .ok (.getfield 59, 3) := by decide +kernel
theorem dX1_lookAtSum_52 : decode cX1_lookAtSum 52 = .ok (.iload 6, 2) := by decide +kernel
theorem dX1_lookAtSum_54 : decode cX1_lookAtSum 54 = .ok (.iaload, 1) := by decide +kernel
theorem dX1_lookAtSum_55 : decode cX1_lookAtSum 55 = .ok (.iload 7, 2) := by decide +kernel
theorem dX1_lookAtSum_57 : decode cX1_lookAtSum 57 = .ok (.invokestatic 66, 3) := by decide +kernel
theorem dX1_lookAtSum_60 : decode cX1_lookAtSum 60 = .ok (.iadd, 1) := by decide +kernel
theorem dX1_lookAtSum_61 : decode cX1_lookAtSum 61 = .ok (.istore 4, 2) := by decide +kernel
theorem dX1_lookAtSum_63 : decode cX1_lookAtSum 63 = .ok (.iload 5, 2) := by decide +kernel
theorem dX1_lookAtSum_65 : decode cX1_lookAtSum 65 = .ok (.iload 7, 2) := by decide +kernel
theorem dX1_lookAtSum_67 : decode cX1_lookAtSum 67 = .ok (.invokestatic 69, 3) := by decide +kernel
theorem dX1_lookAtSum_70 : decode cX1_lookAtSum 70 = .ok (.ifCond .eq 7, 3) := by decide +kernel
theorem dX1_lookAtSum_73 : decode cX1_lookAtSum 73 = .ok (.iconst 0, 1) := by decide +kernel
theorem dX1_lookAtSum_74 : decode cX1_lookAtSum 74 = .ok (.goto 4, 3) := by decide +kernel
theorem dX1_lookAtSum_77 : decode cX1_lookAtSum 77 = .ok (.iconst 1, 1) := by decide +kernel
theorem dX1_lookAtSum_78 : decode cX1_lookAtSum 78 = .ok (.iadd, 1) := by decide +kernel
theorem dX1_lookAtSum_79 : decode cX1_lookAtSum 79 = .ok (.istore 5, 2) := by decide +kernel
theorem dX1_lookAtSum_81 : decode cX1_lookAtSum 81 = .ok (.iinc 6 1, 3) := by decide +kernel
theorem dX1_lookAtSum_84 : decode cX1_lookAtSum 84 = .ok (.goto (-73), 3) := by decide +kernel
theorem dX1_lookAtSum_87 : decode cX1_lookAtSum 87 = .ok (.iconst 0, 1) := by decide +kernel
theorem dX1_lookAtSum_88 : decode cX1_lookAtSum 88 = .ok (.istore 6, 2) := by decide +kernel
theorem dX1_lookAtSum_90 : decode cX1_lookAtSum 90 = .ok (.iload 6, 2) := by decide +kernel
theorem dX1_lookAtSum_92 : decode cX1_lookAtSum 92 = .ok (.aload_n 1, 1) := by decide +kernel
theorem dX1_lookAtSum_93 : decode cX1_lookAtSum 93 = .ok (.getfield 53, 3) := by decide +kernel
theorem dX1_lookAtSum_96 : decode cX1_lookAtSum 96 = .ok (.if_icmp .ge 161, 3) := by decide +kernel
theorem dX1_lookAtSum_99 : decode cX1_lookAtSum 99 = .ok (.aload_n 2, 1) := by decide +kernel
theorem dX1_lookAtSum_100 : decode cX1_lookAtSum 100 = .ok (.aload_n 1, 1) := by decide +kernel
theorem dX1_lookAtSum_101 : decode cX1_lookAtSum 101 = .ok (.getfield 56, 3) := by decide +kernel
theorem dX1_lookAtSum_104 : decode cX1_lookAtSum 104 = .ok (.iload 6, 2) := by decide +kernel
theorem dX1_lookAtSum_106 : decode cX1_lookAtSum 106 = .ok (.iaload, 1) := by decide +kernel
theorem dX1_lookAtSum_107 : decode cX1_lookAtSum 107 = .ok (.iaload, 1) := by decide +kernel
theorem dX1_lookAtSum_108 : decode cX1_lookAtSum 108 = .ok (.istore 7, 2) := by decide +kernel
theorem dX1_lookAtSum_110 : decode cX1_lookAtSum 110 = .ok (.iload_n 3, 1) := by decide +kernel
theorem dX1_lookAtSum_111 : decode cX1_lookAtSum 111 = .ok (.aload_n 1, 1) := by decide +kernel
theorem dX1_lookAtSum_112 : decode cX1_lookAtSum 112 = .ok (.getfield 59, 3) := by decide +kernel
theorem dX1_lookAtSum_115 : decode cX1_lookAtSum 115 = .ok (.iload 6, 2) := by decide +kernel
theorem dX1_lookAtSum_117 : decode cX1_lookAtSum 117 = .ok (.iaload, 1) := by decide +kernel
theorem dX1_lookAtSum_118 : decode cX1_lookAtSum 118 = .ok (.iload 7, 2) := by decide +kernel
theorem dX1_lookAtSum_120 : decode cX1_lookAtSum 120 = .ok (.invokestatic 62, 3) := by decide +kernel
theorem dX1_lookAtSum_123 : decode cX1_lookAtSum 123 = .ok (.isub, 1) := by decide +kernel
theorem dX1_lookAtSum_124 : decode cX1_lookAtSum 124 = .ok (.istore 8, 2) := by decide +kernel
theorem dX1_lookAtSum_126 : decode cX1_lookAtSum 126 = .ok (.iload 4, 2) := by decide +kernel
theorem dX1_lookAtSum_128 : decode cX1_lookAtSum 128 = .ok (.aload_n 1, 1) := by decide +kernel
theorem dX1_lookAtSum_129 : decode cX1_lookAtSum 129 = .ok (.getfield 59, 3) := by decide +kernel
theorem dX1_lookAtSum_132 : decode cX1_lookAtSum 132 = .ok (.iload 6, 2) := by decide +kernel
theorem dX1_lookAtSum_134 : decode cX1_lookAtSum 134 = .ok (.iaload, 1) := by decide +kernel
theorem dX1_lookAtSum_135 : decode cX1_lookAtSum 135 = .ok (.iload 7, 2) := by decide +kernel
theorem dX1_lookAtSum_137 : decode cX1_lookAtSum 137 = .ok (.invokestatic 66, 3) := by decide +kernel
theorem dX1_lookAtSum_140 : decode cX1_lookAtSum 140 = .ok (.isub, 1) := by decide +kernel
theorem dX1_lookAtSum_141 : decode cX1_lookAtSum 141 = .ok (.istore 9, 2) := by decide +kernel
theorem dX1_lookAtSum_143 : decode cX1_lookAtSum 143 = .ok (.iload 5, 2) := by decide +kernel
theorem dX1_lookAtSum_145 : decode cX1_lookAtSum 145 = .ok (.iload 7, 2) := by decide +kernel
theorem dX1_lookAtSum_147 : decode cX1_lookAtSum 147 = .ok (.invokestatic 69, 3) := by decide +kernel
theorem dX1_lookAtSum_150 : decode cX1_lookAtSum 150 = .ok (.ifCond .eq 7, 3) := by decide +kernel
theorem dX1_lookAtSum_153 : decode cX1_lookAtSum 153 = .ok (.iconst 0, 1) := by decide +kernel
theorem dX1_lookAtSum_154 : decode cX1_lookAtSum 154 = .ok (.goto 4, 3) := by decide +kernel
theorem dX1_lookAtSum_157 : decode cX1_lookAtSum 157 = .ok (.iconst 1, 1) := by decide +kernel
theorem dX1_lookAtSum_158 : decode cX1_lookAtSum 158 = .ok (.if_icmp .ne 7, 3) := by decide +kernel
theorem dX1_lookAtSum_161 : decode cX1_lookAtSum 161 = .ok (.iconst 1, 1) := by decide +kernel
theorem dX1_lookAtSum_162 : decode cX1_lookAtSum 162 = .ok (.goto 4, 3) := by decide +kernel
theorem dX1_lookAtSum_165 : decode cX1_lookAtSum 165 = .ok (.iconst 0, 1) := by decide +kernel
theorem dX1_lookAtSum_166 : decode cX1_lookAtSum 166 = .ok (.istore 10, 2) := by decide +kernel
theorem dX1_lookAtSum_168 : decode cX1_lookAtSum 168 = .ok (.iconst 0, 1) := by decide +kernel
theorem dX1_lookAtSum_169 : decode cX1_lookAtSum 169 = .ok (.istore 11, 2) := by decide +kernel
theorem dX1_lookAtSum_171 : decode cX1_lookAtSum 171 = .ok (.iconst 0, 1) := by decide +kernel
theorem dX1_lookAtSum_172 : decode cX1_lookAtSum 172 = .ok (.istore 12, 2) := by decide +kernel
theorem dX1_lookAtSum_174 : decode cX1_lookAtSum 174 = .ok (.iload 12, 2) := by decide +kernel
theorem dX1_lookAtSum_176 : decode cX1_lookAtSum 176 = .ok (.bipush 16, 2) := by decide +kernel
theorem dX1_lookAtSum_178 : decode cX1_lookAtSum 178 = .ok (.if_icmp .ge 59, 3) := by decide +kernel
theorem dX1_lookAtSum_181 : decode cX1_lookAtSum 181 = .ok (.aload_n 1, 1) := by decide +kernel
theorem dX1_lookAtSum_182 : decode cX1_lookAtSum 182 = .ok (.getfield 59, 3) := by decide +kernel
theorem dX1_lookAtSum_185 : decode cX1_lookAtSum 185 = .ok (.iload 6, 2) := by decide +kernel
theorem dX1_lookAtSum_187 : decode cX1_lookAtSum 187 = .ok (.iaload, 1) := by decide +kernel
theorem dX1_lookAtSum_188 : decode cX1_lookAtSum 188 = .ok (.iload 12, 2) := by decide +kernel
theorem dX1_lookAtSum_190 : decode cX1_lookAtSum 190 = .ok (.imul, 1) := by decide +kernel
theorem dX1_lookAtSum_191 : decode cX1_lookAtSum 191 = .ok (.istore 13, 2) := by decide +kernel
theorem dX1_lookAtSum_193 : decode cX1_lookAtSum 193 = .ok (.iload 7, 2) := by decide +kernel
theorem dX1_lookAtSum_195 : decode cX1_lookAtSum 195 = .ok (.iload 12, 2) := by decide +kernel
theorem dX1_lookAtSum_197 : decode cX1_lookAtSum 197 = .ok (.ishr, 1) := by decide +kernel
theorem dX1_lookAtSum_198 : decode cX1_lookAtSum 198 = .ok (.iconst 1, 1) := by decide +kernel
theorem dX1_lookAtSum_199 : decode cX1_lookAtSum 199 = .ok (.iand, 1) := by decide +kernel
theorem dX1_lookAtSum_200 : decode cX1_lookAtSum 200 = .ok (.ifCond .eq 31, 3) := by decide +kernel
theorem dX1_lookAtSum_203 : decode cX1_lookAtSum 203 = .ok (.aload_n 1, 1) := by decide +kernel
theorem dX1_lookAtSum_204 : decode cX1_lookAtSum 204 = .ok (.iload 13, 2) := by decide +kernel
theorem dX1_lookAtSum_206 : decode cX1_lookAtSum 206 = .ok (.iload 8, 2) := by decide +kernel
theorem dX1_lookAtSum_208 : decode cX1_lookAtSum 208 = .ok (.iadd, 1) := by decide +kernel
theorem dX1_lookAtSum_209 : decode cX1_lookAtSum 209 = .ok (.iload 13, 2) := by decide +kernel
theorem dX1_lookAtSum_211 : decode cX1_lookAtSum 211 = .ok (.iload 9, 2) := by decide +kernel
theorem dX1_lookAtSum_213 : decode cX1_lookAtSum 213 = .ok (.iadd, 1) := by decide +kernel
theorem dX1_lookAtSum_214 : decode cX1_lookAtSum 214 = .ok (.iload 10, 2) := by decide +kernel
theorem dX1_lookAtSum_216 : decode cX1_lookAtSum 216 = .ok (.invokestatic 73, 3) := by decide +kernel
theorem dX1_lookAtSum_219 : decode cX1_lookAtSum 219 = .ok (.ifCond .eq 12, 3) := by decide +kernel
theorem dX1_lookAtSum_222 : decode cX1_lookAtSum 222 = .ok (.iload 11, 2) := by decide +kernel
theorem dX1_lookAtSum_224 : decode cX1_lookAtSum 224 = .ok (.iconst 1, 1) := by decide +kernel
theorem dX1_lookAtSum_225 : decode cX1_lookAtSum 225 = .ok (.iload 12, 2) := by decide +kernel
theorem dX1_lookAtSum_227 : decode cX1_lookAtSum 227 = .ok (.ishl, 1) := by decide +kernel
theorem dX1_lookAtSum_228 : decode cX1_lookAtSum 228 = .ok (.ior, 1) := by decide +kernel
theorem dX1_lookAtSum_229 : decode cX1_lookAtSum 229 = .ok (.istore 11, 2) := by decide +kernel
theorem dX1_lookAtSum_231 : decode cX1_lookAtSum 231 = .ok (.iinc 12 1, 3) := by decide +kernel
theorem dX1_lookAtSum_234 : decode cX1_lookAtSum 234 = .ok (.goto (-60), 3) := by decide +kernel
theorem dX1_lookAtSum_237 : decode cX1_lookAtSum 237 = .ok (.aload_n 0, 1) := by decide +kernel
theorem dX1_lookAtSum_238 : decode cX1_lookAtSum 238 = .ok (.getfield 11, 3) := by decide +kernel
theorem dX1_lookAtSum_241 : decode cX1_lookAtSum 241 = .ok (.aload_n 1, 1) := by decide +kernel
theorem dX1_lookAtSum_242 : decode cX1_lookAtSum 242 = .ok (.getfield 56, 3) := by decide +kernel
theorem dX1_lookAtSum_245 : decode cX1_lookAtSum 245 = .ok (.iload 6, 2) := by decide +kernel
theorem dX1_lookAtSum_247 : decode cX1_lookAtSum 247 = .ok (.iaload, 1) := by decide +kernel
theorem dX1_lookAtSum_248 : decode cX1_lookAtSum 248 = .ok (.iload 11, 2) := by decide +kernel
theorem dX1_lookAtSum_250 : decode cX1_lookAtSum 250 = .ok (.iastore, 1) := by decide +kernel
theorem dX1_lookAtSum_251 : decode cX1_lookAtSum 251 = .ok (.iinc 6 1, 3) := by decide +kernel
theorem dX1_lookAtSum_254 : decode cX1_lookAtSum 254 = .ok (.goto (-164), 3) := by decide +kernel
theorem dX1_lookAtSum_257 : decode cX1_lookAtSum 257 = .ok (.return_, 1) := by decide +kernel
theorem dX1_lowest_0 : decode cX1_lowest 0 = .ok (.iload_n 0, 1) := by decide +kernel
theorem dX1_lowest_1 : decode cX1_lowest 1 = .ok (.iload_n 0, 1) := by decide +kernel
theorem dX1_lowest_2 : decode cX1_lowest 2 = .ok (.ifCond .le 10, 3) := by decide +kernel
theorem dX1_lowest_5 : decode cX1_lowest 5 = .ok (.iload_n 1, 1) := by decide +kernel
theorem dX1_lowest_6 : decode cX1_lowest 6 = .ok (.invokestatic 77, 3) := by decide +kernel
theorem dX1_lowest_9 : decode cX1_lowest 9 = .ok (.goto 10, 3) := by decide +kernel
theorem dX1_lowest_12 : decode cX1_lowest 12 = .ok (.bipush 31, 2) := by decide +kernel
theorem dX1_lowest_14 : decode cX1_lowest 14 = .ok (.iload_n 1, 1) := by decide +kernel
theorem dX1_lowest_15 : decode cX1_lowest 15 = .ok (.invokestatic 83, 3) := by decide +kernel
theorem dX1_lowest_18 : decode cX1_lowest 18 = .ok (.isub, 1) := by decide +kernel
theorem dX1_lowest_19 : decode cX1_lowest 19 = .ok (.imul, 1) := by decide +kernel
theorem dX1_lowest_20 : decode cX1_lowest 20 = .ok (.ireturn, 1) := by decide +kernel
theorem dX1_highest_0 : decode cX1_highest 0 = .ok (.iload_n 0, 1) := by decide +kernel
theorem dX1_highest_1 : decode cX1_highest 1 = .ok (.iload_n 0, 1) := by decide +kernel
theorem dX1_highest_2 : decode cX1_highest 2 = .ok (.ifCond .le 13, 3) := by decide +kernel
theorem dX1_highest_5 : decode cX1_highest 5 = .ok (.bipush 31, 2) := by decide +kernel
theorem dX1_highest_7 : decode cX1_highest 7 = .ok (.iload_n 1, 1) := by decide +kernel
theorem dX1_highest_8 : decode cX1_highest 8 = .ok (.invokestatic 83, 3) := by decide +kernel
theorem dX1_highest_11 : decode cX1_highest 11 = .ok (.isub, 1) := by decide +kernel
theorem dX1_highest_12 : decode cX1_highest 12 = .ok (.goto 7, 3) := by decide +kernel
theorem dX1_highest_15 : decode cX1_highest 15 = .ok (.iload_n 1, 1) := by decide +kernel
theorem dX1_highest_16 : decode cX1_highest 16 = .ok (.invokestatic 77, 3) := by decide +kernel
theorem dX1_highest_19 : decode cX1_highest 19 = .ok (.imul, 1) := by decide +kernel
theorem dX1_highest_20 : decode cX1_highest 20 = .ok (.ireturn, 1) := by decide +kernel
theorem dX1_sumTakes_0 : decode cX1_sumTakes 0 = .ok (.aload_n 0, 1) := by decide +kernel
theorem dX1_sumTakes_1 : decode cX1_sumTakes 1 = .ok (.getfield 86, 3) := by decide +kernel
theorem dX1_sumTakes_4 : decode cX1_sumTakes 4 = .ok (.lookupswitch 64 #[(0, 28), (1, 42)], 28) := by decide +kernel
theorem dX1_sumTakes_32 : decode cX1_sumTakes 32 = .ok (.iload_n 1, 1) := by decide +kernel
theorem dX1_sumTakes_33 : decode cX1_sumTakes 33 = .ok (.aload_n 0, 1) := by decide +kernel
theorem dX1_sumTakes_34 : decode cX1_sumTakes 34 = .ok (.getfield 89, 3) := by decide +kernel
theorem dX1_sumTakes_37 : decode cX1_sumTakes 37 = .ok (.if_icmp .le 7, 3) := by decide +kernel
theorem dX1_sumTakes_40 : decode cX1_sumTakes 40 = .ok (.iconst 1, 1) := by decide +kernel
theorem dX1_sumTakes_41 : decode cX1_sumTakes 41 = .ok (.goto 4, 3) := by decide +kernel
theorem dX1_sumTakes_44 : decode cX1_sumTakes 44 = .ok (.iconst 0, 1) := by decide +kernel
theorem dX1_sumTakes_45 : decode cX1_sumTakes 45 = .ok (.ireturn, 1) := by decide +kernel
theorem dX1_sumTakes_46 : decode cX1_sumTakes 46 = .ok (.iload_n 1, 1) := by decide +kernel
theorem dX1_sumTakes_47 : decode cX1_sumTakes 47 = .ok (.aload_n 0, 1) := by decide +kernel
theorem dX1_sumTakes_48 : decode cX1_sumTakes 48 = .ok (.getfield 89, 3) := by decide +kernel
theorem dX1_sumTakes_51 : decode cX1_sumTakes 51 = .ok (.if_icmp .gt 11, 3) := by decide +kernel
theorem dX1_sumTakes_54 : decode cX1_sumTakes 54 = .ok (.iload_n 2, 1) := by decide +kernel
theorem dX1_sumTakes_55 : decode cX1_sumTakes 55 = .ok (.aload_n 0, 1) := by decide +kernel
theorem dX1_sumTakes_56 : decode cX1_sumTakes 56 = .ok (.getfield 89, 3) := by decide +kernel
theorem dX1_sumTakes_59 : decode cX1_sumTakes 59 = .ok (.if_icmp .ge 7, 3) := by decide +kernel
theorem dX1_sumTakes_62 : decode cX1_sumTakes 62 = .ok (.iconst 1, 1) := by decide +kernel
theorem dX1_sumTakes_63 : decode cX1_sumTakes 63 = .ok (.goto 4, 3) := by decide +kernel
theorem dX1_sumTakes_66 : decode cX1_sumTakes 66 = .ok (.iconst 0, 1) := by decide +kernel
theorem dX1_sumTakes_67 : decode cX1_sumTakes 67 = .ok (.ireturn, 1) := by decide +kernel
theorem dX1_sumTakes_68 : decode cX1_sumTakes 68 = .ok (.iload_n 3, 1) := by decide +kernel
theorem dX1_sumTakes_69 : decode cX1_sumTakes 69 = .ok (.ifCond .eq 15, 3) := by decide +kernel
theorem dX1_sumTakes_72 : decode cX1_sumTakes 72 = .ok (.iload_n 1, 1) := by decide +kernel
theorem dX1_sumTakes_73 : decode cX1_sumTakes 73 = .ok (.aload_n 0, 1) := by decide +kernel
theorem dX1_sumTakes_74 : decode cX1_sumTakes 74 = .ok (.getfield 89, 3) := by decide +kernel
theorem dX1_sumTakes_77 : decode cX1_sumTakes 77 = .ok (.if_icmp .ne 7, 3) := by decide +kernel
theorem dX1_sumTakes_80 : decode cX1_sumTakes 80 = .ok (.iconst 1, 1) := by decide +kernel
theorem dX1_sumTakes_81 : decode cX1_sumTakes 81 = .ok (.goto 4, 3) := by decide +kernel
theorem dX1_sumTakes_84 : decode cX1_sumTakes 84 = .ok (.iconst 0, 1) := by decide +kernel
theorem dX1_sumTakes_85 : decode cX1_sumTakes 85 = .ok (.ireturn, 1) := by decide +kernel
theorem dX1_lookAtUnlike_0 : decode cX1_lookAtUnlike 0 = .ok (.iconst 0, 1) := by decide +kernel
theorem dX1_lookAtUnlike_1 : decode cX1_lookAtUnlike 1 = .ok (.istore_n 3, 1) := by decide +kernel
theorem dX1_lookAtUnlike_2 : decode cX1_lookAtUnlike 2 = .ok (.iload_n 3, 1) := by decide +kernel
theorem dX1_lookAtUnlike_3 : decode cX1_lookAtUnlike 3 = .ok (.aload_n 1, 1) := by decide +kernel
theorem dX1_lookAtUnlike_4 : decode cX1_lookAtUnlike 4 = .ok (.getfield 53, 3) := by decide +kernel
theorem dX1_lookAtUnlike_7 : decode cX1_lookAtUnlike 7 = .ok (.if_icmp .ge 21, 3) := by decide +kernel
theorem dX1_lookAtUnlike_10 : decode cX1_lookAtUnlike 10 = .ok (.aload_n 0, 1) := by decide +kernel
theorem dX1_lookAtUnlike_11 : decode cX1_lookAtUnlike 11 = .ok (.getfield 11, 3) := by decide +kernel
theorem dX1_lookAtUnlike_14 : decode cX1_lookAtUnlike 14 = .ok (.aload_n 1, 1) := by decide +kernel
theorem dX1_lookAtUnlike_15 : decode cX1_lookAtUnlike 15 = .ok (.getfield 56, 3) := by decide +kernel
theorem dX1_lookAtUnlike_18 : decode cX1_lookAtUnlike 18 = .ok (.iload_n 3, 1) := by decide +kernel
theorem dX1_lookAtUnlike_19 : decode cX1_lookAtUnlike 19 = .ok (.iaload, 1) := by decide +kernel
theorem dX1_lookAtUnlike_20 : decode cX1_lookAtUnlike 20 = .ok (.iconst 0, 1) := by decide +kernel
theorem dX1_lookAtUnlike_21 : decode cX1_lookAtUnlike 21 = .ok (.iastore, 1) := by decide +kernel
theorem dX1_lookAtUnlike_22 : decode cX1_lookAtUnlike 22 = .ok (.iinc 3 1, 3) := by decide +kernel
theorem dX1_lookAtUnlike_25 : decode cX1_lookAtUnlike 25 = .ok (.goto (-23), 3) := by decide +kernel
theorem dX1_lookAtUnlike_28 : decode cX1_lookAtUnlike 28 = .ok (.iconst 1, 1) := by decide +kernel
theorem dX1_lookAtUnlike_29 : decode cX1_lookAtUnlike 29 = .ok (.istore_n 3, 1) := by decide +kernel
theorem dX1_lookAtUnlike_30 : decode cX1_lookAtUnlike 30 = .ok (.iload_n 3, 1) := by decide +kernel
theorem dX1_lookAtUnlike_31 : decode cX1_lookAtUnlike 31 = .ok (.iconst 1, 1) := by decide +kernel
theorem dX1_lookAtUnlike_32 : decode cX1_lookAtUnlike 32 = .ok (.aload_n 1, 1) := by decide +kernel
theorem dX1_lookAtUnlike_33 : decode cX1_lookAtUnlike 33 = .ok (.getfield 53, 3) := by decide +kernel
theorem dX1_lookAtUnlike_36 : decode cX1_lookAtUnlike 36 = .ok (.ishl, 1) := by decide +kernel
theorem dX1_lookAtUnlike_37 : decode cX1_lookAtUnlike 37 = .ok (.if_icmp .ge 81, 3) := by decide +kernel
theorem dX1_lookAtUnlike_40 : decode cX1_lookAtUnlike 40 = .ok (.iload_n 3, 1) := by decide +kernel
theorem dX1_lookAtUnlike_41 : decode cX1_lookAtUnlike 41 = .ok (.iload_n 3, 1) := by decide +kernel
theorem dX1_lookAtUnlike_42 : decode cX1_lookAtUnlike 42 = .ok (.iconst 1, 1) := by decide +kernel
theorem dX1_lookAtUnlike_43 : decode cX1_lookAtUnlike 43 = .ok (.isub, 1) := by decide +kernel
theorem dX1_lookAtUnlike_44 : decode cX1_lookAtUnlike 44 = .ok (.iand, 1) := by decide +kernel
theorem dX1_lookAtUnlike_45 : decode cX1_lookAtUnlike 45 = .ok (.istore 4, 2) := by decide +kernel
theorem dX1_lookAtUnlike_47 : decode cX1_lookAtUnlike 47 = .ok (.aload_n 0, 1) := by decide +kernel
theorem dX1_lookAtUnlike_48 : decode cX1_lookAtUnlike 48 = .ok (.getfield 17, 3) := by decide +kernel
theorem dX1_lookAtUnlike_51 : decode cX1_lookAtUnlike 51 = .ok (.iload_n 3, 1) := by decide +kernel
theorem dX1_lookAtUnlike_52 : decode cX1_lookAtUnlike 52 = .ok (.aload_n 0, 1) := by decide +kernel
theorem dX1_lookAtUnlike_53 : decode cX1_lookAtUnlike 53 = .ok (.getfield 17, 3) := by decide +kernel
theorem dX1_lookAtUnlike_56 : decode cX1_lookAtUnlike 56 = .ok (.iload 4, 2) := by decide +kernel
theorem dX1_lookAtUnlike_58 : decode cX1_lookAtUnlike 58 = .ok (.iaload, 1) := by decide +kernel
theorem dX1_lookAtUnlike_59 : decode cX1_lookAtUnlike 59 = .ok (.aload_n 2, 1) := by decide +kernel
theorem dX1_lookAtUnlike_60 : decode cX1_lookAtUnlike 60 = .ok (.aload_n 1, 1) := by decide +kernel
theorem dX1_lookAtUnlike_61 : decode cX1_lookAtUnlike 61 = .ok (.getfield 56, 3) := by decide +kernel
theorem dX1_lookAtUnlike_64 : decode cX1_lookAtUnlike 64 = .ok (.iload_n 3, 1) := by decide +kernel
theorem dX1_lookAtUnlike_65 : decode cX1_lookAtUnlike 65 = .ok (.invokestatic 77, 3) := by decide +kernel
theorem dX1_lookAtUnlike_68 : decode cX1_lookAtUnlike 68 = .ok (.iaload, 1) := by decide +kernel
theorem dX1_lookAtUnlike_69 : decode cX1_lookAtUnlike 69 = .ok (.iaload, 1) := by decide +kernel
theorem dX1_lookAtUnlike_70 : decode cX1_lookAtUnlike 70 = .ok (.ior, 1) := by decide +kernel
theorem dX1_lookAtUnlike_71 : decode cX1_lookAtUnlike 71 = .ok (.iastore, 1) := by decide +kernel
theorem dX1_lookAtUnlike_72 : decode cX1_lookAtUnlike 72 = .ok (.aload_n 0, 1) := by decide +kernel
theorem dX1_lookAtUnlike_73 : decode cX1_lookAtUnlike 73 = .ok (.getfield 17, 3) := by decide +kernel
theorem dX1_lookAtUnlike_76 : decode cX1_lookAtUnlike 76 = .ok (.iload_n 3, 1) := by decide +kernel
theorem dX1_lookAtUnlike_77 : decode cX1_lookAtUnlike 77 = .ok (.iaload, 1) := by decide +kernel
theorem dX1_lookAtUnlike_78 : decode cX1_lookAtUnlike 78 = .ok (.invokestatic 92, 3) := by decide +kernel
theorem dX1_lookAtUnlike_81 : decode cX1_lookAtUnlike 81 = .ok (.iload_n 3, 1) := by decide +kernel
theorem dX1_lookAtUnlike_82 : decode cX1_lookAtUnlike 82 = .ok (.invokestatic 92, 3) := by decide +kernel
theorem dX1_lookAtUnlike_85 : decode cX1_lookAtUnlike 85 = .ok (.isub, 1) := by decide +kernel
theorem dX1_lookAtUnlike_86 : decode cX1_lookAtUnlike 86 = .ok (.istore 5, 2) := by decide +kernel
theorem dX1_lookAtUnlike_88 : decode cX1_lookAtUnlike 88 = .ok (.iload 5, 2) := by decide +kernel
theorem dX1_lookAtUnlike_90 : decode cX1_lookAtUnlike 90 = .ok (.ifCond .ge 10, 3) := by decide +kernel
theorem dX1_lookAtUnlike_93 : decode cX1_lookAtUnlike 93 = .ok (.aload_n 0, 1) := by decide +kernel
theorem dX1_lookAtUnlike_94 : decode cX1_lookAtUnlike 94 = .ok (.aload_n 1, 1) := by decide +kernel
theorem dX1_lookAtUnlike_95 : decode cX1_lookAtUnlike 95 = .ok (.aload_n 2, 1) := by decide +kernel
theorem dX1_lookAtUnlike_96 : decode cX1_lookAtUnlike 96 = .ok (.invokevirtual 95, 3) := by decide +kernel
theorem dX1_lookAtUnlike_99 : decode cX1_lookAtUnlike 99 = .ok (.return_, 1) := by decide +kernel
theorem dX1_lookAtUnlike_100 : decode cX1_lookAtUnlike 100 = .ok (.iload 5, 2) := by decide +kernel
theorem dX1_lookAtUnlike_102 : decode cX1_lookAtUnlike 102 = .ok (.ifCond .ne 10, 3) := by decide +kernel
theorem dX1_lookAtUnlike_105 : decode cX1_lookAtUnlike 105 = .ok (.aload_n 0, 1) := by decide +kernel
theorem dX1_lookAtUnlike_106 : decode cX1_lookAtUnlike 106 = .ok (.aload_n 1, 1) := by decide +kernel
theorem dX1_lookAtUnlike_107 : decode cX1_lookAtUnlike 107 = .ok (.aload_n 2, 1) := by decide +kernel
theorem dX1_lookAtUnlike_108 : decode cX1_lookAtUnlike 108 = .ok (.iload_n 3, 1) := by decide +kernel
theorem dX1_lookAtUnlike_109 : decode cX1_lookAtUnlike 109 = .ok (.invokevirtual 98, 3) := by decide +kernel
theorem dX1_lookAtUnlike_112 : decode cX1_lookAtUnlike 112 = .ok (.iinc 3 1, 3) := by decide +kernel
theorem dX1_lookAtUnlike_115 : decode cX1_lookAtUnlike 115 = .ok (.goto (-85), 3) := by decide +kernel
theorem dX1_lookAtUnlike_118 : decode cX1_lookAtUnlike 118 = .ok (.return_, 1) := by decide +kernel
theorem dX1_takeAll_0 : decode cX1_takeAll 0 = .ok (.iconst 0, 1) := by decide +kernel
theorem dX1_takeAll_1 : decode cX1_takeAll 1 = .ok (.istore_n 3, 1) := by decide +kernel
theorem dX1_takeAll_2 : decode cX1_takeAll 2 = .ok (.iload_n 3, 1) := by decide +kernel
theorem dX1_takeAll_3 : decode cX1_takeAll 3 = .ok (.aload_n 1, 1) := by decide +kernel
theorem dX1_takeAll_4 : decode cX1_takeAll 4 = .ok (.getfield 53, 3) := by decide +kernel
theorem dX1_takeAll_7 : decode cX1_takeAll 7 = .ok (.if_icmp .ge 28, 3) := by decide +kernel
theorem dX1_takeAll_10 : decode cX1_takeAll 10 = .ok (.aload_n 0, 1) := by decide +kernel
theorem dX1_takeAll_11 : decode cX1_takeAll 11 = .ok (.getfield 11, 3) := by decide +kernel
theorem dX1_takeAll_14 : decode cX1_takeAll 14 = .ok (.aload_n 1, 1) := by decide +kernel
theorem dX1_takeAll_15 : decode cX1_takeAll 15 = .ok (.getfield 56, 3) := by decide +kernel
theorem dX1_takeAll_18 : decode cX1_takeAll 18 = .ok (.iload_n 3, 1) := by decide +kernel
theorem dX1_takeAll_19 : decode cX1_takeAll 19 = .ok (.iaload, 1) := by decide +kernel
theorem dX1_takeAll_20 : decode cX1_takeAll 20 = .ok (.aload_n 2, 1) := by decide +kernel
theorem dX1_takeAll_21 : decode cX1_takeAll 21 = .ok (.aload_n 1, 1) := by decide +kernel
theorem dX1_takeAll_22 : decode cX1_takeAll 22 = .ok (.getfield 56, 3) := by decide +kernel
theorem dX1_takeAll_25 : decode cX1_takeAll 25 = .ok (.iload_n 3, 1) := by decide +kernel
theorem dX1_takeAll_26 : decode cX1_takeAll 26 = .ok (.iaload, 1) := by decide +kernel
theorem dX1_takeAll_27 : decode cX1_takeAll 27 = .ok (.iaload, 1) := by decide +kernel
theorem dX1_takeAll_28 : decode cX1_takeAll 28 = .ok (.iastore, 1) := by decide +kernel
theorem dX1_takeAll_29 : decode cX1_takeAll 29 = .ok (.iinc 3 1, 3) := by decide +kernel
theorem dX1_takeAll_32 : decode cX1_takeAll 32 = .ok (.goto (-30), 3) := by decide +kernel
theorem dX1_takeAll_35 : decode cX1_takeAll 35 = .ok (.return_, 1) := by decide +kernel
theorem dX1_takeFromOthers_0 : decode cX1_takeFromOthers 0 = .ok (.iconst 0, 1) := by decide +kernel
theorem dX1_takeFromOthers_1 : decode cX1_takeFromOthers 1 = .ok (.istore 4, 2) := by decide +kernel
theorem dX1_takeFromOthers_3 : decode cX1_takeFromOthers 3 = .ok (.iload 4, 2) := by decide +kernel
theorem dX1_takeFromOthers_5 : decode cX1_takeFromOthers 5 = .ok (.aload_n 1, 1) := by decide +kernel
theorem dX1_takeFromOthers_6 : decode cX1_takeFromOthers 6 = .ok (.getfield 53, 3) := by decide +kernel
theorem dX1_takeFromOthers_9 : decode cX1_takeFromOthers 9 = .ok (.if_icmp .ge 49, 3) := by decide +kernel
theorem dX1_takeFromOthers_12 : decode cX1_takeFromOthers 12 = .ok (.iload_n 3, 1) := by decide +kernel
theorem dX1_takeFromOthers_13 : decode cX1_takeFromOthers 13 = .ok (.iload 4, 2) := by decide +kernel
theorem dX1_takeFromOthers_15 : decode cX1_takeFromOthers 15 = .ok (.ishr, 1) := by decide +kernel
theorem dX1_takeFromOthers_16 : decode cX1_takeFromOthers 16 = .ok (.iconst 1, 1) := by decide +kernel
theorem dX1_takeFromOthers_17 : decode cX1_takeFromOthers 17 = .ok (.iand, 1) := by decide +kernel
theorem dX1_takeFromOthers_18 : decode cX1_takeFromOthers 18 = .ok (.ifCond .ne 34, 3) := by decide +kernel
theorem dX1_takeFromOthers_21 : decode cX1_takeFromOthers 21 = .ok (.aload_n 0, 1) := by decide +kernel
theorem dX1_takeFromOthers_22 : decode cX1_takeFromOthers 22 = .ok (.getfield 11, 3) := by decide +kernel
theorem dX1_takeFromOthers_25 : decode cX1_takeFromOthers 25 = .ok (.aload_n 1, 1) := by decide +kernel
theorem dX1_takeFromOthers_26 : decode cX1_takeFromOthers 26 = .ok (.getfield 56, 3) := by decide +kernel
theorem dX1_takeFromOthers_29 : decode cX1_takeFromOthers 29 = .ok (.iload 4, 2) := by decide +kernel
theorem dX1_takeFromOthers_31 : decode cX1_takeFromOthers 31 = .ok (.iaload, 1) := by decide +kernel
theorem dX1_takeFromOthers_32 : decode cX1_takeFromOthers 32 = .ok (.dup2, 1) := by decide +kernel
theorem dX1_takeFromOthers_33 : decode cX1_takeFromOthers 33 = .ok (.iaload, 1) := by decide +kernel
theorem dX1_takeFromOthers_34 : decode cX1_takeFromOthers 34 = .ok (.aload_n 2, 1) := by decide +kernel
theorem dX1_takeFromOthers_35 : decode cX1_takeFromOthers 35 = .ok (.aload_n 1, 1) := by decide +kernel
theorem dX1_takeFromOthers_36 : decode cX1_takeFromOthers 36 = .ok (.getfield 56, 3) := by decide +kernel
theorem dX1_takeFromOthers_39 : decode cX1_takeFromOthers 39 = .ok (.iload 4, 2) := by decide +kernel
theorem dX1_takeFromOthers_41 : decode cX1_takeFromOthers 41 = .ok (.iaload, 1) := by decide +kernel
theorem dX1_takeFromOthers_42 : decode cX1_takeFromOthers 42 = .ok (.iaload, 1) := by decide +kernel
theorem dX1_takeFromOthers_43 : decode cX1_takeFromOthers 43 = .ok (.aload_n 0, 1) := by decide +kernel
theorem dX1_takeFromOthers_44 : decode cX1_takeFromOthers 44 = .ok (.getfield 17, 3) := by decide +kernel
theorem dX1_takeFromOthers_47 : decode cX1_takeFromOthers 47 = .ok (.iload_n 3, 1) := by decide +kernel
theorem dX1_takeFromOthers_48 : decode cX1_takeFromOthers 48 = .ok (.iaload, 1) := by decide +kernel
theorem dX1_takeFromOthers_49 : decode cX1_takeFromOthers 49 = .ok (.iand, 1) := by decide +kernel
theorem dX1_takeFromOthers_50 : decode cX1_takeFromOthers 50 = .ok (.ior, 1) := by decide +kernel
theorem dX1_takeFromOthers_51 : decode cX1_takeFromOthers 51 = .ok (.iastore, 1) := by decide +kernel
theorem dX1_takeFromOthers_52 : decode cX1_takeFromOthers 52 = .ok (.iinc 4 1, 3) := by decide +kernel
theorem dX1_takeFromOthers_55 : decode cX1_takeFromOthers 55 = .ok (.goto (-52), 3) := by decide +kernel
theorem dX1_takeFromOthers_58 : decode cX1_takeFromOthers 58 = .ok (.return_, 1) := by decide +kernel
theorem dX1_lookAtTable_0 : decode cX1_lookAtTable 0 = .ok (.aload_n 0, 1) := by decide +kernel
theorem dX1_lookAtTable_1 : decode cX1_lookAtTable 1 = .ok (.aload_n 1, 1) := by decide +kernel
theorem dX1_lookAtTable_2 : decode cX1_lookAtTable 2 = .ok (.aload_n 2, 1) := by decide +kernel
theorem dX1_lookAtTable_3 : decode cX1_lookAtTable 3 = .ok (.invokevirtual 95, 3) := by decide +kernel
theorem dX1_lookAtTable_6 : decode cX1_lookAtTable 6 = .ok (.aload_n 0, 1) := by decide +kernel
theorem dX1_lookAtTable_7 : decode cX1_lookAtTable 7 = .ok (.getfield 26, 3) := by decide +kernel
theorem dX1_lookAtTable_10 : decode cX1_lookAtTable 10 = .ok (.getfield 102, 3) := by decide +kernel
theorem dX1_lookAtTable_13 : decode cX1_lookAtTable 13 = .ok (.aload_n 1, 1) := by decide +kernel
theorem dX1_lookAtTable_14 : decode cX1_lookAtTable 14 = .ok (.getfield 86, 3) := by decide +kernel
theorem dX1_lookAtTable_17 : decode cX1_lookAtTable 17 = .ok (.aaload, 1) := by decide +kernel
theorem dX1_lookAtTable_18 : decode cX1_lookAtTable 18 = .ok (.astore_n 3, 1) := by decide +kernel
theorem dX1_lookAtTable_19 : decode cX1_lookAtTable 19 = .ok (.aload_n 0, 1) := by decide +kernel
theorem dX1_lookAtTable_20 : decode cX1_lookAtTable 20 = .ok (.getfield 26, 3) := by decide +kernel
theorem dX1_lookAtTable_23 : decode cX1_lookAtTable 23 = .ok (.aload_n 1, 1) := by decide +kernel
theorem dX1_lookAtTable_24 : decode cX1_lookAtTable 24 = .ok (.getfield 86, 3) := by decide +kernel
theorem dX1_lookAtTable_27 : decode cX1_lookAtTable 27 = .ok (.aload_n 1, 1) := by decide +kernel
theorem dX1_lookAtTable_28 : decode cX1_lookAtTable 28 = .ok (.getfield 53, 3) := by decide +kernel
theorem dX1_lookAtTable_31 : decode cX1_lookAtTable 31 = .ok (.invokevirtual 108, 3) := by decide +kernel
theorem dX1_lookAtTable_34 : decode cX1_lookAtTable 34 = .ok (.istore 4, 2) := by decide +kernel
theorem dX1_lookAtTable_36 : decode cX1_lookAtTable 36 = .ok (.iconst 0, 1) := by decide +kernel
theorem dX1_lookAtTable_37 : decode cX1_lookAtTable 37 = .ok (.istore 5, 2) := by decide +kernel
theorem dX1_lookAtTable_39 : decode cX1_lookAtTable 39 = .ok (.iload 5, 2) := by decide +kernel
theorem dX1_lookAtTable_41 : decode cX1_lookAtTable 41 = .ok (.iload 4, 2) := by decide +kernel
theorem dX1_lookAtTable_43 : decode cX1_lookAtTable 43 = .ok (.if_icmp .ge 75, 3) := by decide +kernel
theorem dX1_lookAtTable_46 : decode cX1_lookAtTable 46 = .ok (.iload 5, 2) := by decide +kernel
theorem dX1_lookAtTable_48 : decode cX1_lookAtTable 48 = .ok (.aload_n 1, 1) := by decide +kernel
theorem dX1_lookAtTable_49 : decode cX1_lookAtTable 49 = .ok (.getfield 53, 3) := by decide +kernel
theorem dX1_lookAtTable_52 : decode cX1_lookAtTable 52 = .ok (.imul, 1) := by decide +kernel
theorem dX1_lookAtTable_53 : decode cX1_lookAtTable 53 = .ok (.istore 6, 2) := by decide +kernel
theorem dX1_lookAtTable_55 : decode cX1_lookAtTable 55 = .ok (.iconst 0, 1) := by decide +kernel
theorem dX1_lookAtTable_56 : decode cX1_lookAtTable 56 = .ok (.istore 7, 2) := by decide +kernel
theorem dX1_lookAtTable_58 : decode cX1_lookAtTable 58 = .ok (.iload 7, 2) := by decide +kernel
theorem dX1_lookAtTable_60 : decode cX1_lookAtTable 60 = .ok (.aload_n 1, 1) := by decide +kernel
theorem dX1_lookAtTable_61 : decode cX1_lookAtTable 61 = .ok (.getfield 53, 3) := by decide +kernel
theorem dX1_lookAtTable_64 : decode cX1_lookAtTable 64 = .ok (.if_icmp .ge 31, 3) := by decide +kernel
theorem dX1_lookAtTable_67 : decode cX1_lookAtTable 67 = .ok (.aload_n 2, 1) := by decide +kernel
theorem dX1_lookAtTable_68 : decode cX1_lookAtTable 68 = .ok (.aload_n 1, 1) := by decide +kernel
theorem dX1_lookAtTable_69 : decode cX1_lookAtTable 69 = .ok (.getfield 56, 3) := by decide +kernel
theorem dX1_lookAtTable_72 : decode cX1_lookAtTable 72 = .ok (.iload 7, 2) := by decide +kernel
theorem dX1_lookAtTable_74 : decode cX1_lookAtTable 74 = .ok (.iaload, 1) := by decide +kernel
theorem dX1_lookAtTable_75 : decode cX1_lookAtTable 75 = .ok (.iaload, 1) := by decide +kernel
theorem dX1_lookAtTable_76 : decode cX1_lookAtTable 76 = .ok (.aload_n 3, 1) := by decide +kernel
theorem dX1_lookAtTable_77 : decode cX1_lookAtTable 77 = .ok (.iload 6, 2) := by decide +kernel
theorem dX1_lookAtTable_79 : decode cX1_lookAtTable 79 = .ok (.iload 7, 2) := by decide +kernel
theorem dX1_lookAtTable_81 : decode cX1_lookAtTable 81 = .ok (.iadd, 1) := by decide +kernel
theorem dX1_lookAtTable_82 : decode cX1_lookAtTable 82 = .ok (.iaload, 1) := by decide +kernel
theorem dX1_lookAtTable_83 : decode cX1_lookAtTable 83 = .ok (.ishr, 1) := by decide +kernel
theorem dX1_lookAtTable_84 : decode cX1_lookAtTable 84 = .ok (.iconst 1, 1) := by decide +kernel
theorem dX1_lookAtTable_85 : decode cX1_lookAtTable 85 = .ok (.iand, 1) := by decide +kernel
theorem dX1_lookAtTable_86 : decode cX1_lookAtTable 86 = .ok (.ifCond .eq 9, 3) := by decide +kernel
theorem dX1_lookAtTable_89 : decode cX1_lookAtTable 89 = .ok (.iinc 7 1, 3) := by decide +kernel
theorem dX1_lookAtTable_92 : decode cX1_lookAtTable 92 = .ok (.goto (-34), 3) := by decide +kernel
theorem dX1_lookAtTable_95 : decode cX1_lookAtTable 95 = .ok (.iload 7, 2) := by decide +kernel
theorem dX1_lookAtTable_97 : decode cX1_lookAtTable 97 = .ok (.aload_n 1, 1) := by decide +kernel
theorem dX1_lookAtTable_98 : decode cX1_lookAtTable 98 = .ok (.getfield 53, 3) := by decide +kernel
theorem dX1_lookAtTable_101 : decode cX1_lookAtTable 101 = .ok (.if_icmp .ne 11, 3) := by decide +kernel
theorem dX1_lookAtTable_104 : decode cX1_lookAtTable 104 = .ok (.aload_n 0, 1) := by decide +kernel
theorem dX1_lookAtTable_105 : decode cX1_lookAtTable 105 = .ok (.aload_n 1, 1) := by decide +kernel
theorem dX1_lookAtTable_106 : decode cX1_lookAtTable 106 = .ok (.aload_n 3, 1) := by decide +kernel
theorem dX1_lookAtTable_107 : decode cX1_lookAtTable 107 = .ok (.iload 6, 2) := by decide +kernel
theorem dX1_lookAtTable_109 : decode cX1_lookAtTable 109 = .ok (.invokevirtual 111, 3) := by decide +kernel
theorem dX1_lookAtTable_112 : decode cX1_lookAtTable 112 = .ok (.iinc 5 1, 3) := by decide +kernel
theorem dX1_lookAtTable_115 : decode cX1_lookAtTable 115 = .ok (.goto (-76), 3) := by decide +kernel
theorem dX1_lookAtTable_118 : decode cX1_lookAtTable 118 = .ok (.return_, 1) := by decide +kernel
theorem dX1_giveBack_0 : decode cX1_giveBack 0 = .ok (.iconst 0, 1) := by decide +kernel
theorem dX1_giveBack_1 : decode cX1_giveBack 1 = .ok (.istore 4, 2) := by decide +kernel
theorem dX1_giveBack_3 : decode cX1_giveBack 3 = .ok (.iload 4, 2) := by decide +kernel
theorem dX1_giveBack_5 : decode cX1_giveBack 5 = .ok (.aload_n 1, 1) := by decide +kernel
theorem dX1_giveBack_6 : decode cX1_giveBack 6 = .ok (.getfield 53, 3) := by decide +kernel
theorem dX1_giveBack_9 : decode cX1_giveBack 9 = .ok (.if_icmp .ge 34, 3) := by decide +kernel
theorem dX1_giveBack_12 : decode cX1_giveBack 12 = .ok (.aload_n 0, 1) := by decide +kernel
theorem dX1_giveBack_13 : decode cX1_giveBack 13 = .ok (.getfield 11, 3) := by decide +kernel
theorem dX1_giveBack_16 : decode cX1_giveBack 16 = .ok (.aload_n 1, 1) := by decide +kernel
theorem dX1_giveBack_17 : decode cX1_giveBack 17 = .ok (.getfield 56, 3) := by decide +kernel
theorem dX1_giveBack_20 : decode cX1_giveBack 20 = .ok (.iload 4, 2) := by decide +kernel
theorem dX1_giveBack_22 : decode cX1_giveBack 22 = .ok (.iaload, 1) := by decide +kernel
theorem dX1_giveBack_23 : decode cX1_giveBack 23 = .ok (.dup2, 1) := by decide +kernel
theorem dX1_giveBack_24 : decode cX1_giveBack 24 = .ok (.iaload, 1) := by decide +kernel
theorem dX1_giveBack_25 : decode cX1_giveBack 25 = .ok (.iconst 1, 1) := by decide +kernel
theorem dX1_giveBack_26 : decode cX1_giveBack 26 = .ok (.aload_n 2, 1) := by decide +kernel
theorem dX1_giveBack_27 : decode cX1_giveBack 27 = .ok (.iload_n 3, 1) := by decide +kernel
theorem dX1_giveBack_28 : decode cX1_giveBack 28 = .ok (.iload 4, 2) := by decide +kernel
theorem dX1_giveBack_30 : decode cX1_giveBack 30 = .ok (.iadd, 1) := by decide +kernel
theorem dX1_giveBack_31 : decode cX1_giveBack 31 = .ok (.iaload, 1) := by decide +kernel
theorem dX1_giveBack_32 : decode cX1_giveBack 32 = .ok (.ishl, 1) := by decide +kernel
theorem dX1_giveBack_33 : decode cX1_giveBack 33 = .ok (.iconst (-1), 1) := by decide +kernel
theorem dX1_giveBack_34 : decode cX1_giveBack 34 = .ok (.ixor, 1) := by decide +kernel
theorem dX1_giveBack_35 : decode cX1_giveBack 35 = .ok (.iand, 1) := by decide +kernel
theorem dX1_giveBack_36 : decode cX1_giveBack 36 = .ok (.iastore, 1) := by decide +kernel
theorem dX1_giveBack_37 : decode cX1_giveBack 37 = .ok (.iinc 4 1, 3) := by decide +kernel
theorem dX1_giveBack_40 : decode cX1_giveBack 40 = .ok (.goto (-37), 3) := by decide +kernel
theorem dX1_giveBack_43 : decode cX1_giveBack 43 = .ok (.return_, 1) := by decide +kernel
theorem dX1_lookAtLoad_0 : decode cX1_lookAtLoad 0 = .ok (.iconst 0, 1) := by decide +kernel
theorem dX1_lookAtLoad_1 : decode cX1_lookAtLoad 1 = .ok (.istore_n 3, 1) := by decide +kernel
theorem dX1_lookAtLoad_2 : decode cX1_lookAtLoad 2 = .ok (.iload_n 3, 1) := by decide +kernel
theorem dX1_lookAtLoad_3 : decode cX1_lookAtLoad 3 = .ok (.bipush 31, 2) := by decide +kernel
theorem dX1_lookAtLoad_5 : decode cX1_lookAtLoad 5 = .ok (.if_icmp .ge 16, 3) := by decide +kernel
theorem dX1_lookAtLoad_8 : decode cX1_lookAtLoad 8 = .ok (.aload_n 0, 1) := by decide +kernel
theorem dX1_lookAtLoad_9 : decode cX1_lookAtLoad 9 = .ok (.getfield 20, 3) := by decide +kernel
theorem dX1_lookAtLoad_12 : decode cX1_lookAtLoad 12 = .ok (.iload_n 3, 1) := by decide +kernel
theorem dX1_lookAtLoad_13 : decode cX1_lookAtLoad 13 = .ok (.iconst 0, 1) := by decide +kernel
theorem dX1_lookAtLoad_14 : decode cX1_lookAtLoad 14 = .ok (.iastore, 1) := by decide +kernel
theorem dX1_lookAtLoad_15 : decode cX1_lookAtLoad 15 = .ok (.iinc 3 1, 3) := by decide +kernel
theorem dX1_lookAtLoad_18 : decode cX1_lookAtLoad 18 = .ok (.goto (-16), 3) := by decide +kernel
theorem dX1_lookAtLoad_21 : decode cX1_lookAtLoad 21 = .ok (.iconst 0, 1) := by decide +kernel
theorem dX1_lookAtLoad_22 : decode cX1_lookAtLoad 22 = .ok (.istore_n 3, 1) := by decide +kernel
theorem dX1_lookAtLoad_23 : decode cX1_lookAtLoad 23 = .ok (.iload_n 3, 1) := by decide +kernel
theorem dX1_lookAtLoad_24 : decode cX1_lookAtLoad 24 = .ok (.aload_n 1, 1) := by decide +kernel
theorem dX1_lookAtLoad_25 : decode cX1_lookAtLoad 25 = .ok (.getfield 53, 3) := by decide +kernel
theorem dX1_lookAtLoad_28 : decode cX1_lookAtLoad 28 = .ok (.if_icmp .ge 78, 3) := by decide +kernel
theorem dX1_lookAtLoad_31 : decode cX1_lookAtLoad 31 = .ok (.aload_n 2, 1) := by decide +kernel
theorem dX1_lookAtLoad_32 : decode cX1_lookAtLoad 32 = .ok (.aload_n 1, 1) := by decide +kernel
theorem dX1_lookAtLoad_33 : decode cX1_lookAtLoad 33 = .ok (.getfield 56, 3) := by decide +kernel
theorem dX1_lookAtLoad_36 : decode cX1_lookAtLoad 36 = .ok (.iload_n 3, 1) := by decide +kernel
theorem dX1_lookAtLoad_37 : decode cX1_lookAtLoad 37 = .ok (.iaload, 1) := by decide +kernel
theorem dX1_lookAtLoad_38 : decode cX1_lookAtLoad 38 = .ok (.iaload, 1) := by decide +kernel
theorem dX1_lookAtLoad_39 : decode cX1_lookAtLoad 39 = .ok (.istore 4, 2) := by decide +kernel
theorem dX1_lookAtLoad_41 : decode cX1_lookAtLoad 41 = .ok (.iload 4, 2) := by decide +kernel
theorem dX1_lookAtLoad_43 : decode cX1_lookAtLoad 43 = .ok (.invokestatic 114, 3) := by decide +kernel
theorem dX1_lookAtLoad_46 : decode cX1_lookAtLoad 46 = .ok (.aload_n 1, 1) := by decide +kernel
theorem dX1_lookAtLoad_47 : decode cX1_lookAtLoad 47 = .ok (.getfield 59, 3) := by decide +kernel
theorem dX1_lookAtLoad_50 : decode cX1_lookAtLoad 50 = .ok (.iload_n 3, 1) := by decide +kernel
theorem dX1_lookAtLoad_51 : decode cX1_lookAtLoad 51 = .ok (.iaload, 1) := by decide +kernel
theorem dX1_lookAtLoad_52 : decode cX1_lookAtLoad 52 = .ok (.iadd, 1) := by decide +kernel
theorem dX1_lookAtLoad_53 : decode cX1_lookAtLoad 53 = .ok (.bipush 31, 2) := by decide +kernel
theorem dX1_lookAtLoad_55 : decode cX1_lookAtLoad 55 = .ok (.invokestatic 117, 3) := by decide +kernel
theorem dX1_lookAtLoad_58 : decode cX1_lookAtLoad 58 = .ok (.istore 5, 2) := by decide +kernel
theorem dX1_lookAtLoad_60 : decode cX1_lookAtLoad 60 = .ok (.iload 4, 2) := by decide +kernel
theorem dX1_lookAtLoad_62 : decode cX1_lookAtLoad 62 = .ok (.invokestatic 122, 3) := by decide +kernel
theorem dX1_lookAtLoad_65 : decode cX1_lookAtLoad 65 = .ok (.iconst 0, 1) := by decide +kernel
theorem dX1_lookAtLoad_66 : decode cX1_lookAtLoad 66 = .ok (.invokestatic 125, 3) := by decide +kernel
theorem dX1_lookAtLoad_69 : decode cX1_lookAtLoad 69 = .ok (.istore 6, 2) := by decide +kernel
theorem dX1_lookAtLoad_71 : decode cX1_lookAtLoad 71 = .ok (.iload 6, 2) := by decide +kernel
theorem dX1_lookAtLoad_73 : decode cX1_lookAtLoad 73 = .ok (.iload 5, 2) := by decide +kernel
theorem dX1_lookAtLoad_75 : decode cX1_lookAtLoad 75 = .ok (.if_icmp .ge 25, 3) := by decide +kernel
theorem dX1_lookAtLoad_78 : decode cX1_lookAtLoad 78 = .ok (.aload_n 0, 1) := by decide +kernel
theorem dX1_lookAtLoad_79 : decode cX1_lookAtLoad 79 = .ok (.getfield 20, 3) := by decide +kernel
theorem dX1_lookAtLoad_82 : decode cX1_lookAtLoad 82 = .ok (.iload 6, 2) := by decide +kernel
theorem dX1_lookAtLoad_84 : decode cX1_lookAtLoad 84 = .ok (.dup2, 1) := by decide +kernel
theorem dX1_lookAtLoad_85 : decode cX1_lookAtLoad 85 = .ok (.iaload, 1) := by decide +kernel
theorem dX1_lookAtLoad_86 : decode cX1_lookAtLoad 86 = .ok (.aload_n 1, 1) := by decide +kernel
theorem dX1_lookAtLoad_87 : decode cX1_lookAtLoad 87 = .ok (.getfield 128, 3) := by decide +kernel
theorem dX1_lookAtLoad_90 : decode cX1_lookAtLoad 90 = .ok (.iload_n 3, 1) := by decide +kernel
theorem dX1_lookAtLoad_91 : decode cX1_lookAtLoad 91 = .ok (.iaload, 1) := by decide +kernel
theorem dX1_lookAtLoad_92 : decode cX1_lookAtLoad 92 = .ok (.iadd, 1) := by decide +kernel
theorem dX1_lookAtLoad_93 : decode cX1_lookAtLoad 93 = .ok (.iastore, 1) := by decide +kernel
theorem dX1_lookAtLoad_94 : decode cX1_lookAtLoad 94 = .ok (.iinc 6 1, 3) := by decide +kernel
theorem dX1_lookAtLoad_97 : decode cX1_lookAtLoad 97 = .ok (.goto (-26), 3) := by decide +kernel
theorem dX1_lookAtLoad_100 : decode cX1_lookAtLoad 100 = .ok (.iinc 3 1, 3) := by decide +kernel
theorem dX1_lookAtLoad_103 : decode cX1_lookAtLoad 103 = .ok (.goto (-80), 3) := by decide +kernel
theorem dX1_lookAtLoad_106 : decode cX1_lookAtLoad 106 = .ok (.iconst 0, 1) := by decide +kernel
theorem dX1_lookAtLoad_107 : decode cX1_lookAtLoad 107 = .ok (.istore_n 3, 1) := by decide +kernel
theorem dX1_lookAtLoad_108 : decode cX1_lookAtLoad 108 = .ok (.iload_n 3, 1) := by decide +kernel
theorem dX1_lookAtLoad_109 : decode cX1_lookAtLoad 109 = .ok (.aload_n 1, 1) := by decide +kernel
theorem dX1_lookAtLoad_110 : decode cX1_lookAtLoad 110 = .ok (.getfield 53, 3) := by decide +kernel
theorem dX1_lookAtLoad_113 : decode cX1_lookAtLoad 113 = .ok (.if_icmp .ge 106, 3) := by decide +kernel
theorem dX1_lookAtLoad_116 : decode cX1_lookAtLoad 116 = .ok (.aload_n 2, 1) := by decide +kernel
theorem dX1_lookAtLoad_117 : decode cX1_lookAtLoad 117 = .ok (.aload_n 1, 1) := by decide +kernel
theorem dX1_lookAtLoad_118 : decode cX1_lookAtLoad 118 = .ok (.getfield 56, 3) := by decide +kernel
theorem dX1_lookAtLoad_121 : decode cX1_lookAtLoad 121 = .ok (.iload_n 3, 1) := by decide +kernel
theorem dX1_lookAtLoad_122 : decode cX1_lookAtLoad 122 = .ok (.iaload, 1) := by decide +kernel
theorem dX1_lookAtLoad_123 : decode cX1_lookAtLoad 123 = .ok (.iaload, 1) := by decide +kernel
theorem dX1_lookAtLoad_124 : decode cX1_lookAtLoad 124 = .ok (.istore 4, 2) := by decide +kernel
theorem dX1_lookAtLoad_126 : decode cX1_lookAtLoad 126 = .ok (.iload 4, 2) := by decide +kernel
theorem dX1_lookAtLoad_128 : decode cX1_lookAtLoad 128 = .ok (.invokestatic 122, 3) := by decide +kernel
theorem dX1_lookAtLoad_131 : decode cX1_lookAtLoad 131 = .ok (.istore 5, 2) := by decide +kernel
theorem dX1_lookAtLoad_133 : decode cX1_lookAtLoad 133 = .ok (.iload 4, 2) := by decide +kernel
theorem dX1_lookAtLoad_135 : decode cX1_lookAtLoad 135 = .ok (.invokestatic 114, 3) := by decide +kernel
theorem dX1_lookAtLoad_138 : decode cX1_lookAtLoad 138 = .ok (.aload_n 1, 1) := by decide +kernel
theorem dX1_lookAtLoad_139 : decode cX1_lookAtLoad 139 = .ok (.getfield 59, 3) := by decide +kernel
theorem dX1_lookAtLoad_142 : decode cX1_lookAtLoad 142 = .ok (.iload_n 3, 1) := by decide +kernel
theorem dX1_lookAtLoad_143 : decode cX1_lookAtLoad 143 = .ok (.iaload, 1) := by decide +kernel
theorem dX1_lookAtLoad_144 : decode cX1_lookAtLoad 144 = .ok (.iadd, 1) := by decide +kernel
theorem dX1_lookAtLoad_145 : decode cX1_lookAtLoad 145 = .ok (.istore 6, 2) := by decide +kernel
theorem dX1_lookAtLoad_147 : decode cX1_lookAtLoad 147 = .ok (.iconst 0, 1) := by decide +kernel
theorem dX1_lookAtLoad_148 : decode cX1_lookAtLoad 148 = .ok (.istore 7, 2) := by decide +kernel
theorem dX1_lookAtLoad_150 : decode cX1_lookAtLoad 150 = .ok (.iconst 0, 1) := by decide +kernel
theorem dX1_lookAtLoad_151 : decode cX1_lookAtLoad 151 = .ok (.istore 8, 2) := by decide +kernel
theorem dX1_lookAtLoad_153 : decode cX1_lookAtLoad 153 = .ok (.iload 8, 2) := by decide +kernel
theorem dX1_lookAtLoad_155 : decode cX1_lookAtLoad 155 = .ok (.bipush 16, 2) := by decide +kernel
theorem dX1_lookAtLoad_157 : decode cX1_lookAtLoad 157 = .ok (.if_icmp .ge 43, 3) := by decide +kernel
theorem dX1_lookAtLoad_160 : decode cX1_lookAtLoad 160 = .ok (.iload 4, 2) := by decide +kernel
theorem dX1_lookAtLoad_162 : decode cX1_lookAtLoad 162 = .ok (.iload 8, 2) := by decide +kernel
theorem dX1_lookAtLoad_164 : decode cX1_lookAtLoad 164 = .ok (.ishr, 1) := by decide +kernel
theorem dX1_lookAtLoad_165 : decode cX1_lookAtLoad 165 = .ok (.iconst 1, 1) := by decide +kernel
theorem dX1_lookAtLoad_166 : decode cX1_lookAtLoad 166 = .ok (.iand, 1) := by decide +kernel
theorem dX1_lookAtLoad_167 : decode cX1_lookAtLoad 167 = .ok (.ifCond .eq 27, 3) := by decide +kernel
theorem dX1_lookAtLoad_170 : decode cX1_lookAtLoad 170 = .ok (.aload_n 0, 1) := by decide +kernel
theorem dX1_lookAtLoad_171 : decode cX1_lookAtLoad 171 = .ok (.aload_n 1, 1) := by decide +kernel
theorem dX1_lookAtLoad_172 : decode cX1_lookAtLoad 172 = .ok (.iload_n 3, 1) := by decide +kernel
theorem dX1_lookAtLoad_173 : decode cX1_lookAtLoad 173 = .ok (.iload 8, 2) := by decide +kernel
theorem dX1_lookAtLoad_175 : decode cX1_lookAtLoad 175 = .ok (.iload 5, 2) := by decide +kernel
theorem dX1_lookAtLoad_177 : decode cX1_lookAtLoad 177 = .ok (.iload 6, 2) := by decide +kernel
theorem dX1_lookAtLoad_179 : decode cX1_lookAtLoad 179 = .ok (.invokevirtual 131, 3) := by decide +kernel
theorem dX1_lookAtLoad_182 : decode cX1_lookAtLoad 182 = .ok (.ifCond .eq 12, 3) := by decide +kernel
theorem dX1_lookAtLoad_185 : decode cX1_lookAtLoad 185 = .ok (.iload 7, 2) := by decide +kernel
theorem dX1_lookAtLoad_187 : decode cX1_lookAtLoad 187 = .ok (.iconst 1, 1) := by decide +kernel
theorem dX1_lookAtLoad_188 : decode cX1_lookAtLoad 188 = .ok (.iload 8, 2) := by decide +kernel
theorem dX1_lookAtLoad_190 : decode cX1_lookAtLoad 190 = .ok (.ishl, 1) := by decide +kernel
theorem dX1_lookAtLoad_191 : decode cX1_lookAtLoad 191 = .ok (.ior, 1) := by decide +kernel
theorem dX1_lookAtLoad_192 : decode cX1_lookAtLoad 192 = .ok (.istore 7, 2) := by decide +kernel
theorem dX1_lookAtLoad_194 : decode cX1_lookAtLoad 194 = .ok (.iinc 8 1, 3) := by decide +kernel
theorem dX1_lookAtLoad_197 : decode cX1_lookAtLoad 197 = .ok (.goto (-44), 3) := by decide +kernel
theorem dX1_lookAtLoad_200 : decode cX1_lookAtLoad 200 = .ok (.aload_n 0, 1) := by decide +kernel
theorem dX1_lookAtLoad_201 : decode cX1_lookAtLoad 201 = .ok (.getfield 11, 3) := by decide +kernel
theorem dX1_lookAtLoad_204 : decode cX1_lookAtLoad 204 = .ok (.aload_n 1, 1) := by decide +kernel
theorem dX1_lookAtLoad_205 : decode cX1_lookAtLoad 205 = .ok (.getfield 56, 3) := by decide +kernel
theorem dX1_lookAtLoad_208 : decode cX1_lookAtLoad 208 = .ok (.iload_n 3, 1) := by decide +kernel
theorem dX1_lookAtLoad_209 : decode cX1_lookAtLoad 209 = .ok (.iaload, 1) := by decide +kernel
theorem dX1_lookAtLoad_210 : decode cX1_lookAtLoad 210 = .ok (.iload 7, 2) := by decide +kernel
theorem dX1_lookAtLoad_212 : decode cX1_lookAtLoad 212 = .ok (.iastore, 1) := by decide +kernel
theorem dX1_lookAtLoad_213 : decode cX1_lookAtLoad 213 = .ok (.iinc 3 1, 3) := by decide +kernel
theorem dX1_lookAtLoad_216 : decode cX1_lookAtLoad 216 = .ok (.goto (-108), 3) := by decide +kernel
theorem dX1_lookAtLoad_219 : decode cX1_lookAtLoad 219 = .ok (.return_, 1) := by decide +kernel
theorem dX1_loadTakes_0 : decode cX1_loadTakes 0 = .ok (.iload_n 3, 1) := by decide +kernel
theorem dX1_loadTakes_1 : decode cX1_loadTakes 1 = .ok (.aload_n 1, 1) := by decide +kernel
theorem dX1_loadTakes_2 : decode cX1_loadTakes 2 = .ok (.getfield 59, 3) := by decide +kernel
theorem dX1_loadTakes_5 : decode cX1_loadTakes 5 = .ok (.iload_n 2, 1) := by decide +kernel
theorem dX1_loadTakes_6 : decode cX1_loadTakes 6 = .ok (.iaload, 1) := by decide +kernel
theorem dX1_loadTakes_7 : decode cX1_loadTakes 7 = .ok (.iadd, 1) := by decide +kernel
theorem dX1_loadTakes_8 : decode cX1_loadTakes 8 = .ok (.bipush 31, 2) := by decide +kernel
theorem dX1_loadTakes_10 : decode cX1_loadTakes 10 = .ok (.invokestatic 117, 3) := by decide +kernel
theorem dX1_loadTakes_13 : decode cX1_loadTakes 13 = .ok (.istore 6, 2) := by decide +kernel
theorem dX1_loadTakes_15 : decode cX1_loadTakes 15 = .ok (.iload_n 3, 1) := by decide +kernel
theorem dX1_loadTakes_16 : decode cX1_loadTakes 16 = .ok (.istore 7, 2) := by decide +kernel
theorem dX1_loadTakes_18 : decode cX1_loadTakes 18 = .ok (.iload 7, 2) := by decide +kernel
theorem dX1_loadTakes_20 : decode cX1_loadTakes 20 = .ok (.iload 6, 2) := by decide +kernel
theorem dX1_loadTakes_22 : decode cX1_loadTakes 22 = .ok (.if_icmp .ge 62, 3) := by decide +kernel
theorem dX1_loadTakes_25 : decode cX1_loadTakes 25 = .ok (.iload 4, 2) := by decide +kernel
theorem dX1_loadTakes_27 : decode cX1_loadTakes 27 = .ok (.iload 7, 2) := by decide +kernel
theorem dX1_loadTakes_29 : decode cX1_loadTakes 29 = .ok (.if_icmp .gt 14, 3) := by decide +kernel
theorem dX1_loadTakes_32 : decode cX1_loadTakes 32 = .ok (.iload 7, 2) := by decide +kernel
theorem dX1_loadTakes_34 : decode cX1_loadTakes 34 = .ok (.iload 5, 2) := by decide +kernel
theorem dX1_loadTakes_36 : decode cX1_loadTakes 36 = .ok (.if_icmp .ge 7, 3) := by decide +kernel
theorem dX1_loadTakes_39 : decode cX1_loadTakes 39 = .ok (.iconst 1, 1) := by decide +kernel
theorem dX1_loadTakes_40 : decode cX1_loadTakes 40 = .ok (.goto 4, 3) := by decide +kernel
theorem dX1_loadTakes_43 : decode cX1_loadTakes 43 = .ok (.iconst 0, 1) := by decide +kernel
theorem dX1_loadTakes_44 : decode cX1_loadTakes 44 = .ok (.istore 8, 2) := by decide +kernel
theorem dX1_loadTakes_46 : decode cX1_loadTakes 46 = .ok (.aload_n 0, 1) := by decide +kernel
theorem dX1_loadTakes_47 : decode cX1_loadTakes 47 = .ok (.getfield 20, 3) := by decide +kernel
theorem dX1_loadTakes_50 : decode cX1_loadTakes 50 = .ok (.iload 7, 2) := by decide +kernel
theorem dX1_loadTakes_52 : decode cX1_loadTakes 52 = .ok (.iaload, 1) := by decide +kernel
theorem dX1_loadTakes_53 : decode cX1_loadTakes 53 = .ok (.iload 8, 2) := by decide +kernel
theorem dX1_loadTakes_55 : decode cX1_loadTakes 55 = .ok (.ifCond .eq 7, 3) := by decide +kernel
theorem dX1_loadTakes_58 : decode cX1_loadTakes 58 = .ok (.iconst 0, 1) := by decide +kernel
theorem dX1_loadTakes_59 : decode cX1_loadTakes 59 = .ok (.goto 9, 3) := by decide +kernel
theorem dX1_loadTakes_62 : decode cX1_loadTakes 62 = .ok (.aload_n 1, 1) := by decide +kernel
theorem dX1_loadTakes_63 : decode cX1_loadTakes 63 = .ok (.getfield 128, 3) := by decide +kernel
theorem dX1_loadTakes_66 : decode cX1_loadTakes 66 = .ok (.iload_n 2, 1) := by decide +kernel
theorem dX1_loadTakes_67 : decode cX1_loadTakes 67 = .ok (.iaload, 1) := by decide +kernel
theorem dX1_loadTakes_68 : decode cX1_loadTakes 68 = .ok (.iadd, 1) := by decide +kernel
theorem dX1_loadTakes_69 : decode cX1_loadTakes 69 = .ok (.aload_n 1, 1) := by decide +kernel
theorem dX1_loadTakes_70 : decode cX1_loadTakes 70 = .ok (.getfield 86, 3) := by decide +kernel
theorem dX1_loadTakes_73 : decode cX1_loadTakes 73 = .ok (.if_icmp .le 5, 3) := by decide +kernel
theorem dX1_loadTakes_76 : decode cX1_loadTakes 76 = .ok (.iconst 1, 1) := by decide +kernel
theorem dX1_loadTakes_77 : decode cX1_loadTakes 77 = .ok (.ireturn, 1) := by decide +kernel
theorem dX1_loadTakes_78 : decode cX1_loadTakes 78 = .ok (.iinc 7 1, 3) := by decide +kernel
theorem dX1_loadTakes_81 : decode cX1_loadTakes 81 = .ok (.goto (-63), 3) := by decide +kernel
theorem dX1_loadTakes_84 : decode cX1_loadTakes 84 = .ok (.iconst 0, 1) := by decide +kernel
theorem dX1_loadTakes_85 : decode cX1_loadTakes 85 = .ok (.ireturn, 1) := by decide +kernel
theorem dX1_lookAtRing_0 : decode cX1_lookAtRing 0 = .ok (.aload_n 0, 1) := by decide +kernel
theorem dX1_lookAtRing_1 : decode cX1_lookAtRing 1 = .ok (.aload_n 1, 1) := by decide +kernel
theorem dX1_lookAtRing_2 : decode cX1_lookAtRing 2 = .ok (.aload_n 2, 1) := by decide +kernel
theorem dX1_lookAtRing_3 : decode cX1_lookAtRing 3 = .ok (.invokevirtual 38, 3) := by decide +kernel
theorem dX1_lookAtRing_6 : decode cX1_lookAtRing 6 = .ok (.iconst 0, 1) := by decide +kernel
theorem dX1_lookAtRing_7 : decode cX1_lookAtRing 7 = .ok (.istore_n 3, 1) := by decide +kernel
theorem dX1_lookAtRing_8 : decode cX1_lookAtRing 8 = .ok (.iload_n 3, 1) := by decide +kernel
theorem dX1_lookAtRing_9 : decode cX1_lookAtRing 9 = .ok (.aload_n 1, 1) := by decide +kernel
theorem dX1_lookAtRing_10 : decode cX1_lookAtRing 10 = .ok (.getfield 53, 3) := by decide +kernel
theorem dX1_lookAtRing_13 : decode cX1_lookAtRing 13 = .ok (.if_icmp .ge 95, 3) := by decide +kernel
theorem dX1_lookAtRing_16 : decode cX1_lookAtRing 16 = .ok (.aload_n 2, 1) := by decide +kernel
theorem dX1_lookAtRing_17 : decode cX1_lookAtRing 17 = .ok (.aload_n 1, 1) := by decide +kernel
theorem dX1_lookAtRing_18 : decode cX1_lookAtRing 18 = .ok (.getfield 56, 3) := by decide +kernel
theorem dX1_lookAtRing_21 : decode cX1_lookAtRing 21 = .ok (.iload_n 3, 1) := by decide +kernel
theorem dX1_lookAtRing_22 : decode cX1_lookAtRing 22 = .ok (.iaload, 1) := by decide +kernel
theorem dX1_lookAtRing_23 : decode cX1_lookAtRing 23 = .ok (.iaload, 1) := by decide +kernel
theorem dX1_lookAtRing_24 : decode cX1_lookAtRing 24 = .ok (.istore 4, 2) := by decide +kernel
theorem dX1_lookAtRing_26 : decode cX1_lookAtRing 26 = .ok (.iload 4, 2) := by decide +kernel
theorem dX1_lookAtRing_28 : decode cX1_lookAtRing 28 = .ok (.iconst 1, 1) := by decide +kernel
theorem dX1_lookAtRing_29 : decode cX1_lookAtRing 29 = .ok (.aload_n 1, 1) := by decide +kernel
theorem dX1_lookAtRing_30 : decode cX1_lookAtRing 30 = .ok (.getfield 53, 3) := by decide +kernel
theorem dX1_lookAtRing_33 : decode cX1_lookAtRing 33 = .ok (.ishl, 1) := by decide +kernel
theorem dX1_lookAtRing_34 : decode cX1_lookAtRing 34 = .ok (.ineg, 1) := by decide +kernel
theorem dX1_lookAtRing_35 : decode cX1_lookAtRing 35 = .ok (.iand, 1) := by decide +kernel
theorem dX1_lookAtRing_36 : decode cX1_lookAtRing 36 = .ok (.istore 5, 2) := by decide +kernel
theorem dX1_lookAtRing_38 : decode cX1_lookAtRing 38 = .ok (.iconst 0, 1) := by decide +kernel
theorem dX1_lookAtRing_39 : decode cX1_lookAtRing 39 = .ok (.istore 6, 2) := by decide +kernel
theorem dX1_lookAtRing_41 : decode cX1_lookAtRing 41 = .ok (.iload 6, 2) := by decide +kernel
theorem dX1_lookAtRing_43 : decode cX1_lookAtRing 43 = .ok (.aload_n 1, 1) := by decide +kernel
theorem dX1_lookAtRing_44 : decode cX1_lookAtRing 44 = .ok (.getfield 53, 3) := by decide +kernel
theorem dX1_lookAtRing_47 : decode cX1_lookAtRing 47 = .ok (.if_icmp .ge 39, 3) := by decide +kernel
theorem dX1_lookAtRing_50 : decode cX1_lookAtRing 50 = .ok (.iload 4, 2) := by decide +kernel
theorem dX1_lookAtRing_52 : decode cX1_lookAtRing 52 = .ok (.iload 6, 2) := by decide +kernel
theorem dX1_lookAtRing_54 : decode cX1_lookAtRing 54 = .ok (.ishr, 1) := by decide +kernel
theorem dX1_lookAtRing_55 : decode cX1_lookAtRing 55 = .ok (.iconst 1, 1) := by decide +kernel
theorem dX1_lookAtRing_56 : decode cX1_lookAtRing 56 = .ok (.iand, 1) := by decide +kernel
theorem dX1_lookAtRing_57 : decode cX1_lookAtRing 57 = .ok (.ifCond .eq 23, 3) := by decide +kernel
theorem dX1_lookAtRing_60 : decode cX1_lookAtRing 60 = .ok (.aload_n 1, 1) := by decide +kernel
theorem dX1_lookAtRing_61 : decode cX1_lookAtRing 61 = .ok (.aload_n 2, 1) := by decide +kernel
theorem dX1_lookAtRing_62 : decode cX1_lookAtRing 62 = .ok (.iload_n 3, 1) := by decide +kernel
theorem dX1_lookAtRing_63 : decode cX1_lookAtRing 63 = .ok (.iload 6, 2) := by decide +kernel
theorem dX1_lookAtRing_65 : decode cX1_lookAtRing 65 = .ok (.invokestatic 135, 3) := by decide +kernel
theorem dX1_lookAtRing_68 : decode cX1_lookAtRing 68 = .ok (.ifCond .eq 12, 3) := by decide +kernel
theorem dX1_lookAtRing_71 : decode cX1_lookAtRing 71 = .ok (.iload 5, 2) := by decide +kernel
theorem dX1_lookAtRing_73 : decode cX1_lookAtRing 73 = .ok (.iconst 1, 1) := by decide +kernel
theorem dX1_lookAtRing_74 : decode cX1_lookAtRing 74 = .ok (.iload 6, 2) := by decide +kernel
theorem dX1_lookAtRing_76 : decode cX1_lookAtRing 76 = .ok (.ishl, 1) := by decide +kernel
theorem dX1_lookAtRing_77 : decode cX1_lookAtRing 77 = .ok (.ior, 1) := by decide +kernel
theorem dX1_lookAtRing_78 : decode cX1_lookAtRing 78 = .ok (.istore 5, 2) := by decide +kernel
theorem dX1_lookAtRing_80 : decode cX1_lookAtRing 80 = .ok (.iinc 6 1, 3) := by decide +kernel
theorem dX1_lookAtRing_83 : decode cX1_lookAtRing 83 = .ok (.goto (-42), 3) := by decide +kernel
theorem dX1_lookAtRing_86 : decode cX1_lookAtRing 86 = .ok (.aload_n 0, 1) := by decide +kernel
theorem dX1_lookAtRing_87 : decode cX1_lookAtRing 87 = .ok (.getfield 11, 3) := by decide +kernel
theorem dX1_lookAtRing_90 : decode cX1_lookAtRing 90 = .ok (.aload_n 1, 1) := by decide +kernel
theorem dX1_lookAtRing_91 : decode cX1_lookAtRing 91 = .ok (.getfield 56, 3) := by decide +kernel
theorem dX1_lookAtRing_94 : decode cX1_lookAtRing 94 = .ok (.iload_n 3, 1) := by decide +kernel
theorem dX1_lookAtRing_95 : decode cX1_lookAtRing 95 = .ok (.iaload, 1) := by decide +kernel
theorem dX1_lookAtRing_96 : decode cX1_lookAtRing 96 = .ok (.dup2, 1) := by decide +kernel
theorem dX1_lookAtRing_97 : decode cX1_lookAtRing 97 = .ok (.iaload, 1) := by decide +kernel
theorem dX1_lookAtRing_98 : decode cX1_lookAtRing 98 = .ok (.iload 5, 2) := by decide +kernel
theorem dX1_lookAtRing_100 : decode cX1_lookAtRing 100 = .ok (.ior, 1) := by decide +kernel
theorem dX1_lookAtRing_101 : decode cX1_lookAtRing 101 = .ok (.iastore, 1) := by decide +kernel
theorem dX1_lookAtRing_102 : decode cX1_lookAtRing 102 = .ok (.iinc 3 1, 3) := by decide +kernel
theorem dX1_lookAtRing_105 : decode cX1_lookAtRing 105 = .ok (.goto (-97), 3) := by decide +kernel
theorem dX1_lookAtRing_108 : decode cX1_lookAtRing 108 = .ok (.return_, 1) := by decide +kernel
theorem dX1_closesTooSoon_0 : decode cX1_closesTooSoon 0 = .ok (.iload_n 3, 1) := by decide +kernel
theorem dX1_closesTooSoon_1 : decode cX1_closesTooSoon 1 = .ok (.istore 4, 2) := by decide +kernel
theorem dX1_closesTooSoon_3 : decode cX1_closesTooSoon 3 = .ok (.iconst 1, 1) := by decide +kernel
theorem dX1_closesTooSoon_4 : decode cX1_closesTooSoon 4 = .ok (.istore 5, 2) := by decide +kernel
theorem dX1_closesTooSoon_6 : decode cX1_closesTooSoon 6 = .ok (.iload 5, 2) := by decide +kernel
theorem dX1_closesTooSoon_8 : decode cX1_closesTooSoon 8 = .ok (.aload_n 0, 1) := by decide +kernel
theorem dX1_closesTooSoon_9 : decode cX1_closesTooSoon 9 = .ok (.getfield 53, 3) := by decide +kernel
theorem dX1_closesTooSoon_12 : decode cX1_closesTooSoon 12 = .ok (.if_icmp .gt 67, 3) := by decide +kernel
theorem dX1_closesTooSoon_15 : decode cX1_closesTooSoon 15 = .ok (.iload 4, 2) := by decide +kernel
theorem dX1_closesTooSoon_17 : decode cX1_closesTooSoon 17 = .ok (.iload_n 2, 1) := by decide +kernel
theorem dX1_closesTooSoon_18 : decode cX1_closesTooSoon 18 = .ok (.if_icmp .ne 18, 3) := by decide +kernel
theorem dX1_closesTooSoon_21 : decode cX1_closesTooSoon 21 = .ok (.iload 5, 2) := by decide +kernel
theorem dX1_closesTooSoon_23 : decode cX1_closesTooSoon 23 = .ok (.aload_n 0, 1) := by decide +kernel
theorem dX1_closesTooSoon_24 : decode cX1_closesTooSoon 24 = .ok (.getfield 53, 3) := by decide +kernel
theorem dX1_closesTooSoon_27 : decode cX1_closesTooSoon 27 = .ok (.if_icmp .ge 7, 3) := by decide +kernel
theorem dX1_closesTooSoon_30 : decode cX1_closesTooSoon 30 = .ok (.iconst 1, 1) := by decide +kernel
theorem dX1_closesTooSoon_31 : decode cX1_closesTooSoon 31 = .ok (.goto 4, 3) := by decide +kernel
theorem dX1_closesTooSoon_34 : decode cX1_closesTooSoon 34 = .ok (.iconst 0, 1) := by decide +kernel
theorem dX1_closesTooSoon_35 : decode cX1_closesTooSoon 35 = .ok (.ireturn, 1) := by decide +kernel
theorem dX1_closesTooSoon_36 : decode cX1_closesTooSoon 36 = .ok (.aload_n 1, 1) := by decide +kernel
theorem dX1_closesTooSoon_37 : decode cX1_closesTooSoon 37 = .ok (.aload_n 0, 1) := by decide +kernel
theorem dX1_closesTooSoon_38 : decode cX1_closesTooSoon 38 = .ok (.getfield 56, 3) := by decide +kernel
theorem dX1_closesTooSoon_41 : decode cX1_closesTooSoon 41 = .ok (.iload 4, 2) := by decide +kernel
theorem dX1_closesTooSoon_43 : decode cX1_closesTooSoon 43 = .ok (.iaload, 1) := by decide +kernel
theorem dX1_closesTooSoon_44 : decode cX1_closesTooSoon 44 = .ok (.iaload, 1) := by decide +kernel
theorem dX1_closesTooSoon_45 : decode cX1_closesTooSoon 45 = .ok (.istore 6, 2) := by decide +kernel
theorem dX1_closesTooSoon_47 : decode cX1_closesTooSoon 47 = .ok (.iload 6, 2) := by decide +kernel
theorem dX1_closesTooSoon_49 : decode cX1_closesTooSoon 49 = .ok (.invokestatic 77, 3) := by decide +kernel
theorem dX1_closesTooSoon_52 : decode cX1_closesTooSoon 52 = .ok (.istore 4, 2) := by decide +kernel
theorem dX1_closesTooSoon_54 : decode cX1_closesTooSoon 54 = .ok (.iload 6, 2) := by decide +kernel
theorem dX1_closesTooSoon_56 : decode cX1_closesTooSoon 56 = .ok (.invokestatic 69, 3) := by decide +kernel
theorem dX1_closesTooSoon_59 : decode cX1_closesTooSoon 59 = .ok (.ifCond .eq 12, 3) := by decide +kernel
theorem dX1_closesTooSoon_62 : decode cX1_closesTooSoon 62 = .ok (.iload 4, 2) := by decide +kernel
theorem dX1_closesTooSoon_64 : decode cX1_closesTooSoon 64 = .ok (.aload_n 0, 1) := by decide +kernel
theorem dX1_closesTooSoon_65 : decode cX1_closesTooSoon 65 = .ok (.getfield 53, 3) := by decide +kernel
theorem dX1_closesTooSoon_68 : decode cX1_closesTooSoon 68 = .ok (.if_icmp .lt 5, 3) := by decide +kernel
theorem dX1_closesTooSoon_71 : decode cX1_closesTooSoon 71 = .ok (.iconst 0, 1) := by decide +kernel
theorem dX1_closesTooSoon_72 : decode cX1_closesTooSoon 72 = .ok (.ireturn, 1) := by decide +kernel
theorem dX1_closesTooSoon_73 : decode cX1_closesTooSoon 73 = .ok (.iinc 5 1, 3) := by decide +kernel
theorem dX1_closesTooSoon_76 : decode cX1_closesTooSoon 76 = .ok (.goto (-70), 3) := by decide +kernel
theorem dX1_closesTooSoon_79 : decode cX1_closesTooSoon 79 = .ok (.iconst 0, 1) := by decide +kernel
theorem dX1_closesTooSoon_80 : decode cX1_closesTooSoon 80 = .ok (.ireturn, 1) := by decide +kernel
theorem dX1_lookAtClause_0 : decode cX1_lookAtClause 0 = .ok (.iconst 0, 1) := by decide +kernel
theorem dX1_lookAtClause_1 : decode cX1_lookAtClause 1 = .ok (.istore_n 3, 1) := by decide +kernel
theorem dX1_lookAtClause_2 : decode cX1_lookAtClause 2 = .ok (.iload_n 3, 1) := by decide +kernel
theorem dX1_lookAtClause_3 : decode cX1_lookAtClause 3 = .ok (.aload_n 1, 1) := by decide +kernel
theorem dX1_lookAtClause_4 : decode cX1_lookAtClause 4 = .ok (.getfield 53, 3) := by decide +kernel
theorem dX1_lookAtClause_7 : decode cX1_lookAtClause 7 = .ok (.if_icmp .ge 21, 3) := by decide +kernel
theorem dX1_lookAtClause_10 : decode cX1_lookAtClause 10 = .ok (.aload_n 0, 1) := by decide +kernel
theorem dX1_lookAtClause_11 : decode cX1_lookAtClause 11 = .ok (.getfield 23, 3) := by decide +kernel
theorem dX1_lookAtClause_14 : decode cX1_lookAtClause 14 = .ok (.aload_n 1, 1) := by decide +kernel
theorem dX1_lookAtClause_15 : decode cX1_lookAtClause 15 = .ok (.getfield 56, 3) := by decide +kernel
theorem dX1_lookAtClause_18 : decode cX1_lookAtClause 18 = .ok (.iload_n 3, 1) := by decide +kernel
theorem dX1_lookAtClause_19 : decode cX1_lookAtClause 19 = .ok (.iaload, 1) := by decide +kernel
theorem dX1_lookAtClause_20 : decode cX1_lookAtClause 20 = .ok (.iconst 0, 1) := by decide +kernel
theorem dX1_lookAtClause_21 : decode cX1_lookAtClause 21 = .ok (.iastore, 1) := by decide +kernel
theorem dX1_lookAtClause_22 : decode cX1_lookAtClause 22 = .ok (.iinc 3 1, 3) := by decide +kernel
theorem dX1_lookAtClause_25 : decode cX1_lookAtClause 25 = .ok (.goto (-23), 3) := by decide +kernel
theorem dX1_lookAtClause_28 : decode cX1_lookAtClause 28 = .ok (.iconst 0, 1) := by decide +kernel
theorem dX1_lookAtClause_29 : decode cX1_lookAtClause 29 = .ok (.istore_n 3, 1) := by decide +kernel
theorem dX1_lookAtClause_30 : decode cX1_lookAtClause 30 = .ok (.iload_n 3, 1) := by decide +kernel
theorem dX1_lookAtClause_31 : decode cX1_lookAtClause 31 = .ok (.aload_n 1, 1) := by decide +kernel
theorem dX1_lookAtClause_32 : decode cX1_lookAtClause 32 = .ok (.getfield 53, 3) := by decide +kernel
theorem dX1_lookAtClause_35 : decode cX1_lookAtClause 35 = .ok (.if_icmp .ge 29, 3) := by decide +kernel
theorem dX1_lookAtClause_38 : decode cX1_lookAtClause 38 = .ok (.aload_n 0, 1) := by decide +kernel
theorem dX1_lookAtClause_39 : decode cX1_lookAtClause 39 = .ok (.getfield 23, 3) := by decide +kernel
theorem dX1_lookAtClause_42 : decode cX1_lookAtClause 42 = .ok (.aload_n 1, 1) := by decide +kernel
theorem dX1_lookAtClause_43 : decode cX1_lookAtClause 43 = .ok (.getfield 56, 3) := by decide +kernel
theorem dX1_lookAtClause_46 : decode cX1_lookAtClause 46 = .ok (.iload_n 3, 1) := by decide +kernel
theorem dX1_lookAtClause_47 : decode cX1_lookAtClause 47 = .ok (.iaload, 1) := by decide +kernel
theorem dX1_lookAtClause_48 : decode cX1_lookAtClause 48 = .ok (.dup2, 1) := by decide +kernel
theorem dX1_lookAtClause_49 : decode cX1_lookAtClause 49 = .ok (.iaload, 1) := by decide +kernel
theorem dX1_lookAtClause_50 : decode cX1_lookAtClause 50 = .ok (.aload_n 1, 1) := by decide +kernel
theorem dX1_lookAtClause_51 : decode cX1_lookAtClause 51 = .ok (.getfield 59, 3) := by decide +kernel
theorem dX1_lookAtClause_54 : decode cX1_lookAtClause 54 = .ok (.iload_n 3, 1) := by decide +kernel
theorem dX1_lookAtClause_55 : decode cX1_lookAtClause 55 = .ok (.iaload, 1) := by decide +kernel
theorem dX1_lookAtClause_56 : decode cX1_lookAtClause 56 = .ok (.ior, 1) := by decide +kernel
theorem dX1_lookAtClause_57 : decode cX1_lookAtClause 57 = .ok (.iastore, 1) := by decide +kernel
theorem dX1_lookAtClause_58 : decode cX1_lookAtClause 58 = .ok (.iinc 3 1, 3) := by decide +kernel
theorem dX1_lookAtClause_61 : decode cX1_lookAtClause 61 = .ok (.goto (-31), 3) := by decide +kernel
theorem dX1_lookAtClause_64 : decode cX1_lookAtClause 64 = .ok (.iconst 0, 1) := by decide +kernel
theorem dX1_lookAtClause_65 : decode cX1_lookAtClause 65 = .ok (.istore_n 3, 1) := by decide +kernel
theorem dX1_lookAtClause_66 : decode cX1_lookAtClause 66 = .ok (.iconst 0, 1) := by decide +kernel
theorem dX1_lookAtClause_67 : decode cX1_lookAtClause 67 = .ok (.istore 4, 2) := by decide +kernel
theorem dX1_lookAtClause_69 : decode cX1_lookAtClause 69 = .ok (.iload 4, 2) := by decide +kernel
theorem dX1_lookAtClause_71 : decode cX1_lookAtClause 71 = .ok (.aload_n 1, 1) := by decide +kernel
theorem dX1_lookAtClause_72 : decode cX1_lookAtClause 72 = .ok (.getfield 53, 3) := by decide +kernel
theorem dX1_lookAtClause_75 : decode cX1_lookAtClause 75 = .ok (.if_icmp .ge 40, 3) := by decide +kernel
theorem dX1_lookAtClause_78 : decode cX1_lookAtClause 78 = .ok (.aload_n 1, 1) := by decide +kernel
theorem dX1_lookAtClause_79 : decode cX1_lookAtClause 79 = .ok (.getfield 56, 3) := by decide +kernel
theorem dX1_lookAtClause_82 : decode cX1_lookAtClause 82 = .ok (.iload 4, 2) := by decide +kernel
theorem dX1_lookAtClause_84 : decode cX1_lookAtClause 84 = .ok (.iaload, 1) := by decide +kernel
theorem dX1_lookAtClause_85 : decode cX1_lookAtClause 85 = .ok (.istore 5, 2) := by decide +kernel
theorem dX1_lookAtClause_87 : decode cX1_lookAtClause 87 = .ok (.aload_n 2, 1) := by decide +kernel
theorem dX1_lookAtClause_88 : decode cX1_lookAtClause 88 = .ok (.iload 5, 2) := by decide +kernel
theorem dX1_lookAtClause_90 : decode cX1_lookAtClause 90 = .ok (.iaload, 1) := by decide +kernel
theorem dX1_lookAtClause_91 : decode cX1_lookAtClause 91 = .ok (.aload_n 0, 1) := by decide +kernel
theorem dX1_lookAtClause_92 : decode cX1_lookAtClause 92 = .ok (.getfield 23, 3) := by decide +kernel
theorem dX1_lookAtClause_95 : decode cX1_lookAtClause 95 = .ok (.iload 5, 2) := by decide +kernel
theorem dX1_lookAtClause_97 : decode cX1_lookAtClause 97 = .ok (.iaload, 1) := by decide +kernel
theorem dX1_lookAtClause_98 : decode cX1_lookAtClause 98 = .ok (.iand, 1) := by decide +kernel
theorem dX1_lookAtClause_99 : decode cX1_lookAtClause 99 = .ok (.ifCond .eq 10, 3) := by decide +kernel
theorem dX1_lookAtClause_102 : decode cX1_lookAtClause 102 = .ok (.iload_n 3, 1) := by decide +kernel
theorem dX1_lookAtClause_103 : decode cX1_lookAtClause 103 = .ok (.iconst 1, 1) := by decide +kernel
theorem dX1_lookAtClause_104 : decode cX1_lookAtClause 104 = .ok (.iload 5, 2) := by decide +kernel
theorem dX1_lookAtClause_106 : decode cX1_lookAtClause 106 = .ok (.ishl, 1) := by decide +kernel
theorem dX1_lookAtClause_107 : decode cX1_lookAtClause 107 = .ok (.ior, 1) := by decide +kernel
theorem dX1_lookAtClause_108 : decode cX1_lookAtClause 108 = .ok (.istore_n 3, 1) := by decide +kernel
theorem dX1_lookAtClause_109 : decode cX1_lookAtClause 109 = .ok (.iinc 4 1, 3) := by decide +kernel
theorem dX1_lookAtClause_112 : decode cX1_lookAtClause 112 = .ok (.goto (-43), 3) := by decide +kernel
theorem dX1_lookAtClause_115 : decode cX1_lookAtClause 115 = .ok (.iconst 0, 1) := by decide +kernel
theorem dX1_lookAtClause_116 : decode cX1_lookAtClause 116 = .ok (.istore 4, 2) := by decide +kernel
theorem dX1_lookAtClause_118 : decode cX1_lookAtClause 118 = .ok (.iload 4, 2) := by decide +kernel
theorem dX1_lookAtClause_120 : decode cX1_lookAtClause 120 = .ok (.aload_n 1, 1) := by decide +kernel
theorem dX1_lookAtClause_121 : decode cX1_lookAtClause 121 = .ok (.getfield 53, 3) := by decide +kernel
theorem dX1_lookAtClause_124 : decode cX1_lookAtClause 124 = .ok (.if_icmp .ge 54, 3) := by decide +kernel
theorem dX1_lookAtClause_127 : decode cX1_lookAtClause 127 = .ok (.aload_n 1, 1) := by decide +kernel
theorem dX1_lookAtClause_128 : decode cX1_lookAtClause 128 = .ok (.getfield 56, 3) := by decide +kernel
theorem dX1_lookAtClause_131 : decode cX1_lookAtClause 131 = .ok (.iload 4, 2) := by decide +kernel
theorem dX1_lookAtClause_133 : decode cX1_lookAtClause 133 = .ok (.iaload, 1) := by decide +kernel
theorem dX1_lookAtClause_134 : decode cX1_lookAtClause 134 = .ok (.istore 5, 2) := by decide +kernel
theorem dX1_lookAtClause_136 : decode cX1_lookAtClause 136 = .ok (.aload_n 0, 1) := by decide +kernel
theorem dX1_lookAtClause_137 : decode cX1_lookAtClause 137 = .ok (.getfield 11, 3) := by decide +kernel
theorem dX1_lookAtClause_140 : decode cX1_lookAtClause 140 = .ok (.iload 5, 2) := by decide +kernel
theorem dX1_lookAtClause_142 : decode cX1_lookAtClause 142 = .ok (.iload_n 3, 1) := by decide +kernel
theorem dX1_lookAtClause_143 : decode cX1_lookAtClause 143 = .ok (.iconst 1, 1) := by decide +kernel
theorem dX1_lookAtClause_144 : decode cX1_lookAtClause 144 = .ok (.iload 5, 2) := by decide +kernel
theorem dX1_lookAtClause_146 : decode cX1_lookAtClause 146 = .ok (.ishl, 1) := by decide +kernel
theorem dX1_lookAtClause_147 : decode cX1_lookAtClause 147 = .ok (.iconst (-1), 1) := by decide +kernel
theorem dX1_lookAtClause_148 : decode cX1_lookAtClause 148 = .ok (.ixor, 1) := by decide +kernel
theorem dX1_lookAtClause_149 : decode cX1_lookAtClause 149 = .ok (.iand, 1) := by decide +kernel
theorem dX1_lookAtClause_150 : decode cX1_lookAtClause 150 = .ok (.ifCond .ne 20, 3) := by decide +kernel
theorem dX1_lookAtClause_153 : decode cX1_lookAtClause 153 = .ok (.aload_n 2, 1) := by decide +kernel
theorem dX1_lookAtClause_154 : decode cX1_lookAtClause 154 = .ok (.iload 5, 2) := by decide +kernel
theorem dX1_lookAtClause_156 : decode cX1_lookAtClause 156 = .ok (.iaload, 1) := by decide +kernel
theorem dX1_lookAtClause_157 : decode cX1_lookAtClause 157 = .ok (.aload_n 0, 1) := by decide +kernel
theorem dX1_lookAtClause_158 : decode cX1_lookAtClause 158 = .ok (.getfield 23, 3) := by decide +kernel
theorem dX1_lookAtClause_161 : decode cX1_lookAtClause 161 = .ok (.iload 5, 2) := by decide +kernel
theorem dX1_lookAtClause_163 : decode cX1_lookAtClause 163 = .ok (.iaload, 1) := by decide +kernel
theorem dX1_lookAtClause_164 : decode cX1_lookAtClause 164 = .ok (.iconst (-1), 1) := by decide +kernel
theorem dX1_lookAtClause_165 : decode cX1_lookAtClause 165 = .ok (.ixor, 1) := by decide +kernel
theorem dX1_lookAtClause_166 : decode cX1_lookAtClause 166 = .ok (.iand, 1) := by decide +kernel
theorem dX1_lookAtClause_167 : decode cX1_lookAtClause 167 = .ok (.goto 4, 3) := by decide +kernel
theorem dX1_lookAtClause_170 : decode cX1_lookAtClause 170 = .ok (.iconst 0, 1) := by decide +kernel
theorem dX1_lookAtClause_171 : decode cX1_lookAtClause 171 = .ok (.iastore, 1) := by decide +kernel
theorem dX1_lookAtClause_172 : decode cX1_lookAtClause 172 = .ok (.iinc 4 1, 3) := by decide +kernel
theorem dX1_lookAtClause_175 : decode cX1_lookAtClause 175 = .ok (.goto (-57), 3) := by decide +kernel
theorem dX1_lookAtClause_178 : decode cX1_lookAtClause 178 = .ok (.return_, 1) := by decide +kernel
theorem dX2_init_0 : decode cX2_init 0 = .ok (.aload_n 0, 1) := by decide +kernel
theorem dX2_init_1 : decode cX2_init 1 = .ok (.invokespecial 3, 3) := by decide +kernel
theorem dX2_init_4 : decode cX2_init 4 = .ok (.aload_n 0, 1) := by decide +kernel
theorem dX2_init_5 : decode cX2_init 5 = .ok (.aload_n 1, 1) := by decide +kernel
theorem dX2_init_6 : decode cX2_init 6 = .ok (.putfield 9, 3) := by decide +kernel
theorem dX2_init_9 : decode cX2_init 9 = .ok (.aload_n 0, 1) := by decide +kernel
theorem dX2_init_10 : decode cX2_init 10 = .ok (.aload_n 2, 1) := by decide +kernel
theorem dX2_init_11 : decode cX2_init 11 = .ok (.putfield 15, 3) := by decide +kernel
theorem dX2_init_14 : decode cX2_init 14 = .ok (.return_, 1) := by decide +kernel
theorem dX2_countTaken_0 : decode cX2_countTaken 0 = .ok (.aload_n 0, 1) := by decide +kernel
theorem dX2_countTaken_1 : decode cX2_countTaken 1 = .ok (.getfield 9, 3) := by decide +kernel
theorem dX2_countTaken_4 : decode cX2_countTaken 4 = .ok (.aload_n 1, 1) := by decide +kernel
theorem dX2_countTaken_5 : decode cX2_countTaken 5 = .ok (.aload_n 2, 1) := by decide +kernel
theorem dX2_countTaken_6 : decode cX2_countTaken 6 = .ok (.invokevirtual 19, 3) := by decide +kernel
theorem dX2_countTaken_9 : decode cX2_countTaken 9 = .ok (.iconst 0, 1) := by decide +kernel
theorem dX2_countTaken_10 : decode cX2_countTaken 10 = .ok (.istore_n 3, 1) := by decide +kernel
theorem dX2_countTaken_11 : decode cX2_countTaken 11 = .ok (.iconst 0, 1) := by decide +kernel
theorem dX2_countTaken_12 : decode cX2_countTaken 12 = .ok (.istore 4, 2) := by decide +kernel
theorem dX2_countTaken_14 : decode cX2_countTaken 14 = .ok (.iload 4, 2) := by decide +kernel
theorem dX2_countTaken_16 : decode cX2_countTaken 16 = .ok (.bipush 10, 2) := by decide +kernel
theorem dX2_countTaken_18 : decode cX2_countTaken 18 = .ok (.if_icmp .ge 34, 3) := by decide +kernel
theorem dX2_countTaken_21 : decode cX2_countTaken 21 = .ok (.aload_n 1, 1) := by decide +kernel
theorem dX2_countTaken_22 : decode cX2_countTaken 22 = .ok (.iload 4, 2) := by decide +kernel
theorem dX2_countTaken_24 : decode cX2_countTaken 24 = .ok (.invokevirtual 25, 3) := by decide +kernel
theorem dX2_countTaken_27 : decode cX2_countTaken 27 = .ok (.ifCond .eq 19, 3) := by decide +kernel
theorem dX2_countTaken_30 : decode cX2_countTaken 30 = .ok (.iload_n 3, 1) := by decide +kernel
theorem dX2_countTaken_31 : decode cX2_countTaken 31 = .ok (.aload_n 0, 1) := by decide +kernel
theorem dX2_countTaken_32 : decode cX2_countTaken 32 = .ok (.getfield 9, 3) := by decide +kernel
theorem dX2_countTaken_35 : decode cX2_countTaken 35 = .ok (.getfield 31, 3) := by decide +kernel
theorem dX2_countTaken_38 : decode cX2_countTaken 38 = .ok (.iload 4, 2) := by decide +kernel
theorem dX2_countTaken_40 : decode cX2_countTaken 40 = .ok (.iaload, 1) := by decide +kernel
theorem dX2_countTaken_41 : decode cX2_countTaken 41 = .ok (.invokestatic 35, 3) := by decide +kernel
theorem dX2_countTaken_44 : decode cX2_countTaken 44 = .ok (.iadd, 1) := by decide +kernel
theorem dX2_countTaken_45 : decode cX2_countTaken 45 = .ok (.istore_n 3, 1) := by decide +kernel
theorem dX2_countTaken_46 : decode cX2_countTaken 46 = .ok (.iinc 4 1, 3) := by decide +kernel
theorem dX2_countTaken_49 : decode cX2_countTaken 49 = .ok (.goto (-35), 3) := by decide +kernel
theorem dX2_countTaken_52 : decode cX2_countTaken 52 = .ok (.iload_n 3, 1) := by decide +kernel
theorem dX2_countTaken_53 : decode cX2_countTaken 53 = .ok (.ireturn, 1) := by decide +kernel
theorem dX2_run_0 : decode cX2_run 0 = .ok (.aload_n 0, 1) := by decide +kernel
theorem dX2_run_1 : decode cX2_run 1 = .ok (.aload_n 2, 1) := by decide +kernel
theorem dX2_run_2 : decode cX2_run 2 = .ok (.lload_n 3, 1) := by decide +kernel
theorem dX2_run_3 : decode cX2_run 3 = .ok (.aload_n 1, 1) := by decide +kernel
theorem dX2_run_4 : decode cX2_run 4 = .ok (.invokevirtual 41, 3) := by decide +kernel
theorem dX2_run_7 : decode cX2_run 7 = .ok (.ifCond .ne 5, 3) := by decide +kernel
theorem dX2_run_10 : decode cX2_run 10 = .ok (.iconst 0, 1) := by decide +kernel
theorem dX2_run_11 : decode cX2_run 11 = .ok (.ireturn, 1) := by decide +kernel
theorem dX2_run_12 : decode cX2_run 12 = .ok (.iconst (-1), 1) := by decide +kernel
theorem dX2_run_13 : decode cX2_run 13 = .ok (.istore 5, 2) := by decide +kernel
theorem dX2_run_15 : decode cX2_run 15 = .ok (.iconst 0, 1) := by decide +kernel
theorem dX2_run_16 : decode cX2_run 16 = .ok (.istore 6, 2) := by decide +kernel
theorem dX2_run_18 : decode cX2_run 18 = .ok (.iload 6, 2) := by decide +kernel
theorem dX2_run_20 : decode cX2_run 20 = .ok (.sipush 161, 3) := by decide +kernel
theorem dX2_run_23 : decode cX2_run 23 = .ok (.if_icmp .ge 160, 3) := by decide +kernel
theorem dX2_run_26 : decode cX2_run 26 = .ok (.iload 5, 2) := by decide +kernel
theorem dX2_run_28 : decode cX2_run 28 = .ok (.ifCond .eq 155, 3) := by decide +kernel
theorem dX2_run_31 : decode cX2_run 31 = .ok (.iconst 0, 1) := by decide +kernel
theorem dX2_run_32 : decode cX2_run 32 = .ok (.istore 7, 2) := by decide +kernel
theorem dX2_run_34 : decode cX2_run 34 = .ok (.iconst 0, 1) := by decide +kernel
theorem dX2_run_35 : decode cX2_run 35 = .ok (.istore 8, 2) := by decide +kernel
theorem dX2_run_37 : decode cX2_run 37 = .ok (.iload 8, 2) := by decide +kernel
theorem dX2_run_39 : decode cX2_run 39 = .ok (.aload_n 2, 1) := by decide +kernel
theorem dX2_run_40 : decode cX2_run 40 = .ok (.arraylength, 1) := by decide +kernel
theorem dX2_run_41 : decode cX2_run 41 = .ok (.if_icmp .ge 132, 3) := by decide +kernel
theorem dX2_run_44 : decode cX2_run 44 = .ok (.aload_n 2, 1) := by decide +kernel
theorem dX2_run_45 : decode cX2_run 45 = .ok (.iload 8, 2) := by decide +kernel
theorem dX2_run_47 : decode cX2_run 47 = .ok (.aaload, 1) := by decide +kernel
theorem dX2_run_48 : decode cX2_run 48 = .ok (.astore 9, 2) := by decide +kernel
theorem dX2_run_50 : decode cX2_run 50 = .ok (.lload_n 3, 1) := by decide +kernel
theorem dX2_run_51 : decode cX2_run 51 = .ok (.iload 8, 2) := by decide +kernel
theorem dX2_run_53 : decode cX2_run 53 = .ok (.lshr, 1) := by decide +kernel
theorem dX2_run_54 : decode cX2_run 54 = .ok (.lconst 1, 1) := by decide +kernel
theorem dX2_run_55 : decode cX2_run 55 = .ok (.land, 1) := by decide +kernel
theorem dX2_run_56 : decode cX2_run 56 = .ok (.lconst 0, 1) := by decide +kernel
theorem dX2_run_57 : decode cX2_run 57 = .ok (.lcmp, 1) := by decide +kernel
theorem dX2_run_58 : decode cX2_run 58 = .ok (.ifCond .eq 109, 3) := by decide +kernel
theorem dX2_run_61 : decode cX2_run 61 = .ok (.aload 9, 2) := by decide +kernel
theorem dX2_run_63 : decode cX2_run 63 = .ok (.getfield 45, 3) := by decide +kernel
theorem dX2_run_66 : decode cX2_run 66 = .ok (.iload 5, 2) := by decide +kernel
theorem dX2_run_68 : decode cX2_run 68 = .ok (.iload 7, 2) := by decide +kernel
theorem dX2_run_70 : decode cX2_run 70 = .ok (.ior, 1) := by decide +kernel
theorem dX2_run_71 : decode cX2_run 71 = .ok (.iand, 1) := by decide +kernel
theorem dX2_run_72 : decode cX2_run 72 = .ok (.ifCond .ne 6, 3) := by decide +kernel
theorem dX2_run_75 : decode cX2_run 75 = .ok (.goto 92, 3) := by decide +kernel
theorem dX2_run_78 : decode cX2_run 78 = .ok (.aload_n 0, 1) := by decide +kernel
theorem dX2_run_79 : decode cX2_run 79 = .ok (.getfield 9, 3) := by decide +kernel
theorem dX2_run_82 : decode cX2_run 82 = .ok (.aload 9, 2) := by decide +kernel
theorem dX2_run_84 : decode cX2_run 84 = .ok (.aload_n 1, 1) := by decide +kernel
theorem dX2_run_85 : decode cX2_run 85 = .ok (.invokevirtual 19, 3) := by decide +kernel
theorem dX2_run_88 : decode cX2_run 88 = .ok (.iconst 0, 1) := by decide +kernel
theorem dX2_run_89 : decode cX2_run 89 = .ok (.istore 10, 2) := by decide +kernel
theorem dX2_run_91 : decode cX2_run 91 = .ok (.iload 10, 2) := by decide +kernel
theorem dX2_run_93 : decode cX2_run 93 = .ok (.aload 9, 2) := by decide +kernel
theorem dX2_run_95 : decode cX2_run 95 = .ok (.getfield 49, 3) := by decide +kernel
theorem dX2_run_98 : decode cX2_run 98 = .ok (.if_icmp .ge 69, 3) := by decide +kernel
theorem dX2_run_101 : decode cX2_run 101 = .ok (.aload 9, 2) := by decide +kernel
theorem dX2_run_103 : decode cX2_run 103 = .ok (.getfield 52, 3) := by decide +kernel
theorem dX2_run_106 : decode cX2_run 106 = .ok (.iload 10, 2) := by decide +kernel
theorem dX2_run_108 : decode cX2_run 108 = .ok (.iaload, 1) := by decide +kernel
theorem dX2_run_109 : decode cX2_run 109 = .ok (.istore 11, 2) := by decide +kernel
theorem dX2_run_111 : decode cX2_run 111 = .ok (.aload_n 1, 1) := by decide +kernel
theorem dX2_run_112 : decode cX2_run 112 = .ok (.iload 11, 2) := by decide +kernel
theorem dX2_run_114 : decode cX2_run 114 = .ok (.iaload, 1) := by decide +kernel
theorem dX2_run_115 : decode cX2_run 115 = .ok (.aload_n 0, 1) := by decide +kernel
theorem dX2_run_116 : decode cX2_run 116 = .ok (.getfield 9, 3) := by decide +kernel
theorem dX2_run_119 : decode cX2_run 119 = .ok (.getfield 31, 3) := by decide +kernel
theorem dX2_run_122 : decode cX2_run 122 = .ok (.iload 11, 2) := by decide +kernel
theorem dX2_run_124 : decode cX2_run 124 = .ok (.iaload, 1) := by decide +kernel
theorem dX2_run_125 : decode cX2_run 125 = .ok (.iconst (-1), 1) := by decide +kernel
theorem dX2_run_126 : decode cX2_run 126 = .ok (.ixor, 1) := by decide +kernel
theorem dX2_run_127 : decode cX2_run 127 = .ok (.iand, 1) := by decide +kernel
theorem dX2_run_128 : decode cX2_run 128 = .ok (.istore 12, 2) := by decide +kernel
theorem dX2_run_130 : decode cX2_run 130 = .ok (.iload 12, 2) := by decide +kernel
theorem dX2_run_132 : decode cX2_run 132 = .ok (.ifCond .ne 5, 3) := by decide +kernel
theorem dX2_run_135 : decode cX2_run 135 = .ok (.iconst 0, 1) := by decide +kernel
theorem dX2_run_136 : decode cX2_run 136 = .ok (.ireturn, 1) := by decide +kernel
theorem dX2_run_137 : decode cX2_run 137 = .ok (.iload 12, 2) := by decide +kernel
theorem dX2_run_139 : decode cX2_run 139 = .ok (.aload_n 1, 1) := by decide +kernel
theorem dX2_run_140 : decode cX2_run 140 = .ok (.iload 11, 2) := by decide +kernel
theorem dX2_run_142 : decode cX2_run 142 = .ok (.iaload, 1) := by decide +kernel
theorem dX2_run_143 : decode cX2_run 143 = .ok (.if_icmp .eq 18, 3) := by decide +kernel
theorem dX2_run_146 : decode cX2_run 146 = .ok (.aload_n 1, 1) := by decide +kernel
theorem dX2_run_147 : decode cX2_run 147 = .ok (.iload 11, 2) := by decide +kernel
theorem dX2_run_149 : decode cX2_run 149 = .ok (.iload 12, 2) := by decide +kernel
theorem dX2_run_151 : decode cX2_run 151 = .ok (.iastore, 1) := by decide +kernel
theorem dX2_run_152 : decode cX2_run 152 = .ok (.iload 7, 2) := by decide +kernel
theorem dX2_run_154 : decode cX2_run 154 = .ok (.iconst 1, 1) := by decide +kernel
theorem dX2_run_155 : decode cX2_run 155 = .ok (.iload 11, 2) := by decide +kernel
theorem dX2_run_157 : decode cX2_run 157 = .ok (.ishl, 1) := by decide +kernel
theorem dX2_run_158 : decode cX2_run 158 = .ok (.ior, 1) := by decide +kernel
theorem dX2_run_159 : decode cX2_run 159 = .ok (.istore 7, 2) := by decide +kernel
theorem dX2_run_161 : decode cX2_run 161 = .ok (.iinc 10 1, 3) := by decide +kernel
theorem dX2_run_164 : decode cX2_run 164 = .ok (.goto (-73), 3) := by decide +kernel
theorem dX2_run_167 : decode cX2_run 167 = .ok (.iinc 8 1, 3) := by decide +kernel
theorem dX2_run_170 : decode cX2_run 170 = .ok (.goto (-133), 3) := by decide +kernel
theorem dX2_run_173 : decode cX2_run 173 = .ok (.iload 7, 2) := by decide +kernel
theorem dX2_run_175 : decode cX2_run 175 = .ok (.istore 5, 2) := by decide +kernel
theorem dX2_run_177 : decode cX2_run 177 = .ok (.iinc 6 1, 3) := by decide +kernel
theorem dX2_run_180 : decode cX2_run 180 = .ok (.goto (-162), 3) := by decide +kernel
theorem dX2_run_183 : decode cX2_run 183 = .ok (.iconst 1, 1) := by decide +kernel
theorem dX2_run_184 : decode cX2_run 184 = .ok (.ireturn, 1) := by decide +kernel
theorem dX2_emptyRulesFit_0 : decode cX2_emptyRulesFit 0 = .ok (.iconst 0, 1) := by decide +kernel
theorem dX2_emptyRulesFit_1 : decode cX2_emptyRulesFit 1 = .ok (.istore 5, 2) := by decide +kernel
theorem dX2_emptyRulesFit_3 : decode cX2_emptyRulesFit 3 = .ok (.iload 5, 2) := by decide +kernel
theorem dX2_emptyRulesFit_5 : decode cX2_emptyRulesFit 5 = .ok (.aload_n 1, 1) := by decide +kernel
theorem dX2_emptyRulesFit_6 : decode cX2_emptyRulesFit 6 = .ok (.arraylength, 1) := by decide +kernel
theorem dX2_emptyRulesFit_7 : decode cX2_emptyRulesFit 7 = .ok (.if_icmp .ge 48, 3) := by decide +kernel
theorem dX2_emptyRulesFit_10 : decode cX2_emptyRulesFit 10 = .ok (.lload_n 2, 1) := by decide +kernel
theorem dX2_emptyRulesFit_11 : decode cX2_emptyRulesFit 11 = .ok (.iload 5, 2) := by decide +kernel
theorem dX2_emptyRulesFit_13 : decode cX2_emptyRulesFit 13 = .ok (.lshr, 1) := by decide +kernel
theorem dX2_emptyRulesFit_14 : decode cX2_emptyRulesFit 14 = .ok (.lconst 1, 1) := by decide +kernel
theorem dX2_emptyRulesFit_15 : decode cX2_emptyRulesFit 15 = .ok (.land, 1) := by decide +kernel
theorem dX2_emptyRulesFit_16 : decode cX2_emptyRulesFit 16 = .ok (.lconst 0, 1) := by decide +kernel
theorem dX2_emptyRulesFit_17 : decode cX2_emptyRulesFit 17 = .ok (.lcmp, 1) := by decide +kernel
theorem dX2_emptyRulesFit_18 : decode cX2_emptyRulesFit 18 = .ok (.ifCond .eq 31, 3) := by decide +kernel
theorem dX2_emptyRulesFit_21 : decode cX2_emptyRulesFit 21 = .ok (.aload_n 1, 1) := by decide +kernel
theorem dX2_emptyRulesFit_22 : decode cX2_emptyRulesFit 22 = .ok (.iload 5, 2) := by decide +kernel
theorem dX2_emptyRulesFit_24 : decode cX2_emptyRulesFit 24 = .ok (.aaload, 1) := by decide +kernel
theorem dX2_emptyRulesFit_25 : decode cX2_emptyRulesFit 25 = .ok (.getfield 49, 3) := by decide +kernel
theorem dX2_emptyRulesFit_28 : decode cX2_emptyRulesFit 28 = .ok (.ifCond .ne 21, 3) := by decide +kernel
theorem dX2_emptyRulesFit_31 : decode cX2_emptyRulesFit 31 = .ok (.aload_n 0, 1) := by decide +kernel
theorem dX2_emptyRulesFit_32 : decode cX2_emptyRulesFit 32 = .ok (.getfield 15, 3) := by decide +kernel
theorem dX2_emptyRulesFit_35 : decode cX2_emptyRulesFit 35 = .ok (.aload_n 1, 1) := by decide +kernel
theorem dX2_emptyRulesFit_36 : decode cX2_emptyRulesFit 36 = .ok (.iload 5, 2) := by decide +kernel
theorem dX2_emptyRulesFit_38 : decode cX2_emptyRulesFit 38 = .ok (.aaload, 1) := by decide +kernel
theorem dX2_emptyRulesFit_39 : decode cX2_emptyRulesFit 39 = .ok (.aload 4, 2) := by decide +kernel
theorem dX2_emptyRulesFit_41 : decode cX2_emptyRulesFit 41 = .ok (.invokevirtual 55, 3) := by decide +kernel
theorem dX2_emptyRulesFit_44 : decode cX2_emptyRulesFit 44 = .ok (.ifCond .ne 5, 3) := by decide +kernel
theorem dX2_emptyRulesFit_47 : decode cX2_emptyRulesFit 47 = .ok (.iconst 0, 1) := by decide +kernel
theorem dX2_emptyRulesFit_48 : decode cX2_emptyRulesFit 48 = .ok (.ireturn, 1) := by decide +kernel
theorem dX2_emptyRulesFit_49 : decode cX2_emptyRulesFit 49 = .ok (.iinc 5 1, 3) := by decide +kernel
theorem dX2_emptyRulesFit_52 : decode cX2_emptyRulesFit 52 = .ok (.goto (-49), 3) := by decide +kernel
theorem dX2_emptyRulesFit_55 : decode cX2_emptyRulesFit 55 = .ok (.iconst 1, 1) := by decide +kernel
theorem dX2_emptyRulesFit_56 : decode cX2_emptyRulesFit 56 = .ok (.ireturn, 1) := by decide +kernel
theorem dX3_init_0 : decode cX3_init 0 = .ok (.aload_n 0, 1) := by decide +kernel
theorem dX3_init_1 : decode cX3_init 1 = .ok (.invokespecial 3, 3) := by decide +kernel
theorem dX3_init_4 : decode cX3_init 4 = .ok (.aload_n 0, 1) := by decide +kernel
theorem dX3_init_5 : decode cX3_init 5 = .ok (.bipush 6, 2) := by decide +kernel
theorem dX3_init_7 : decode cX3_init 7 = .ok (.newarray .int, 2) := by decide +kernel
theorem dX3_init_9 : decode cX3_init 9 = .ok (.putfield 9, 3) := by decide +kernel
theorem dX3_init_12 : decode cX3_init 12 = .ok (.aload_n 0, 1) := by decide +kernel
theorem dX3_init_13 : decode cX3_init 13 = .ok (.bipush 6, 2) := by decide +kernel
theorem dX3_init_15 : decode cX3_init 15 = .ok (.newarray .int, 2) := by decide +kernel
theorem dX3_init_17 : decode cX3_init 17 = .ok (.putfield 15, 3) := by decide +kernel
theorem dX3_init_20 : decode cX3_init 20 = .ok (.aload_n 0, 1) := by decide +kernel
theorem dX3_init_21 : decode cX3_init 21 = .ok (.bipush 6, 2) := by decide +kernel
theorem dX3_init_23 : decode cX3_init 23 = .ok (.newarray .int, 2) := by decide +kernel
theorem dX3_init_25 : decode cX3_init 25 = .ok (.putfield 18, 3) := by decide +kernel
theorem dX3_init_28 : decode cX3_init 28 = .ok (.return_, 1) := by decide +kernel
theorem dX3_begin_0 : decode cX3_begin 0 = .ok (.aload_n 0, 1) := by decide +kernel
theorem dX3_begin_1 : decode cX3_begin 1 = .ok (.iload_n 1, 1) := by decide +kernel
theorem dX3_begin_2 : decode cX3_begin 2 = .ok (.putfield 21, 3) := by decide +kernel
theorem dX3_begin_5 : decode cX3_begin 5 = .ok (.aload_n 0, 1) := by decide +kernel
theorem dX3_begin_6 : decode cX3_begin 6 = .ok (.iload_n 2, 1) := by decide +kernel
theorem dX3_begin_7 : decode cX3_begin 7 = .ok (.putfield 25, 3) := by decide +kernel
theorem dX3_begin_10 : decode cX3_begin 10 = .ok (.aload_n 0, 1) := by decide +kernel
theorem dX3_begin_11 : decode cX3_begin 11 = .ok (.iload_n 3, 1) := by decide +kernel
theorem dX3_begin_12 : decode cX3_begin 12 = .ok (.putfield 28, 3) := by decide +kernel
theorem dX3_begin_15 : decode cX3_begin 15 = .ok (.return_, 1) := by decide +kernel
theorem dX3_join_0 : decode cX3_join 0 = .ok (.aload_n 0, 1) := by decide +kernel
theorem dX3_join_1 : decode cX3_join 1 = .ok (.getfield 9, 3) := by decide +kernel
theorem dX3_join_4 : decode cX3_join 4 = .ok (.aload_n 0, 1) := by decide +kernel
theorem dX3_join_5 : decode cX3_join 5 = .ok (.getfield 31, 3) := by decide +kernel
theorem dX3_join_8 : decode cX3_join 8 = .ok (.iload_n 1, 1) := by decide +kernel
theorem dX3_join_9 : decode cX3_join 9 = .ok (.iastore, 1) := by decide +kernel
theorem dX3_join_10 : decode cX3_join 10 = .ok (.aload_n 0, 1) := by decide +kernel
theorem dX3_join_11 : decode cX3_join 11 = .ok (.getfield 15, 3) := by decide +kernel
theorem dX3_join_14 : decode cX3_join 14 = .ok (.aload_n 0, 1) := by decide +kernel
theorem dX3_join_15 : decode cX3_join 15 = .ok (.getfield 31, 3) := by decide +kernel
theorem dX3_join_18 : decode cX3_join 18 = .ok (.iload_n 2, 1) := by decide +kernel
theorem dX3_join_19 : decode cX3_join 19 = .ok (.iastore, 1) := by decide +kernel
theorem dX3_join_20 : decode cX3_join 20 = .ok (.aload_n 0, 1) := by decide +kernel
theorem dX3_join_21 : decode cX3_join 21 = .ok (.getfield 18, 3) := by decide +kernel
theorem dX3_join_24 : decode cX3_join 24 = .ok (.aload_n 0, 1) := by decide +kernel
theorem dX3_join_25 : decode cX3_join 25 = .ok (.getfield 31, 3) := by decide +kernel
theorem dX3_join_28 : decode cX3_join 28 = .ok (.iload_n 3, 1) := by decide +kernel
theorem dX3_join_29 : decode cX3_join 29 = .ok (.iastore, 1) := by decide +kernel
theorem dX3_join_30 : decode cX3_join 30 = .ok (.aload_n 0, 1) := by decide +kernel
theorem dX3_join_31 : decode cX3_join 31 = .ok (.dup, 1) := by decide +kernel
theorem dX3_join_32 : decode cX3_join 32 = .ok (.getfield 31, 3) := by decide +kernel
theorem dX3_join_35 : decode cX3_join 35 = .ok (.iconst 1, 1) := by decide +kernel
theorem dX3_join_36 : decode cX3_join 36 = .ok (.iadd, 1) := by decide +kernel
theorem dX3_join_37 : decode cX3_join 37 = .ok (.putfield 31, 3) := by decide +kernel
theorem dX3_join_40 : decode cX3_join 40 = .ok (.aload_n 0, 1) := by decide +kernel
theorem dX3_join_41 : decode cX3_join 41 = .ok (.dup, 1) := by decide +kernel
theorem dX3_join_42 : decode cX3_join 42 = .ok (.getfield 34, 3) := by decide +kernel
theorem dX3_join_45 : decode cX3_join 45 = .ok (.iconst 1, 1) := by decide +kernel
theorem dX3_join_46 : decode cX3_join 46 = .ok (.iload_n 1, 1) := by decide +kernel
theorem dX3_join_47 : decode cX3_join 47 = .ok (.ishl, 1) := by decide +kernel
theorem dX3_join_48 : decode cX3_join 48 = .ok (.ior, 1) := by decide +kernel
theorem dX3_join_49 : decode cX3_join 49 = .ok (.putfield 34, 3) := by decide +kernel
theorem dX3_join_52 : decode cX3_join 52 = .ok (.return_, 1) := by decide +kernel
theorem dX3_isOf_0 : decode cX3_isOf 0 = .ok (.aload_n 0, 1) := by decide +kernel
theorem dX3_isOf_1 : decode cX3_isOf 1 = .ok (.getfield 34, 3) := by decide +kernel
theorem dX3_isOf_4 : decode cX3_isOf 4 = .ok (.iload_n 1, 1) := by decide +kernel
theorem dX3_isOf_5 : decode cX3_isOf 5 = .ok (.ishr, 1) := by decide +kernel
theorem dX3_isOf_6 : decode cX3_isOf 6 = .ok (.iconst 1, 1) := by decide +kernel
theorem dX3_isOf_7 : decode cX3_isOf 7 = .ok (.iand, 1) := by decide +kernel
theorem dX3_isOf_8 : decode cX3_isOf 8 = .ok (.ifCond .eq 7, 3) := by decide +kernel
theorem dX3_isOf_11 : decode cX3_isOf 11 = .ok (.iconst 1, 1) := by decide +kernel
theorem dX3_isOf_12 : decode cX3_isOf 12 = .ok (.goto 4, 3) := by decide +kernel
theorem dX3_isOf_15 : decode cX3_isOf 15 = .ok (.iconst 0, 1) := by decide +kernel
theorem dX3_isOf_16 : decode cX3_isOf 16 = .ok (.ireturn, 1) := by decide +kernel
theorem dX4_init_0 : decode cX4_init 0 = .ok (.aload_n 0, 1) := by decide +kernel
theorem dX4_init_1 : decode cX4_init 1 = .ok (.invokespecial 3, 3) := by decide +kernel
theorem dX4_init_4 : decode cX4_init 4 = .ok (.aload_n 0, 1) := by decide +kernel
theorem dX4_init_5 : decode cX4_init 5 = .ok (.bipush 10, 2) := by decide +kernel
theorem dX4_init_7 : decode cX4_init 7 = .ok (.newarray .int, 2) := by decide +kernel
theorem dX4_init_9 : decode cX4_init 9 = .ok (.putfield 9, 3) := by decide +kernel
theorem dX4_init_12 : decode cX4_init 12 = .ok (.aload_n 0, 1) := by decide +kernel
theorem dX4_init_13 : decode cX4_init 13 = .ok (.bipush 10, 2) := by decide +kernel
theorem dX4_init_15 : decode cX4_init 15 = .ok (.newarray .int, 2) := by decide +kernel
theorem dX4_init_17 : decode cX4_init 17 = .ok (.putfield 15, 3) := by decide +kernel
theorem dX4_init_20 : decode cX4_init 20 = .ok (.aload_n 0, 1) := by decide +kernel
theorem dX4_init_21 : decode cX4_init 21 = .ok (.bipush 10, 2) := by decide +kernel
theorem dX4_init_23 : decode cX4_init 23 = .ok (.newarray .int, 2) := by decide +kernel
theorem dX4_init_25 : decode cX4_init 25 = .ok (.putfield 18, 3) := by decide +kernel
theorem dX4_init_28 : decode cX4_init 28 = .ok (.aload_n 0, 1) := by decide +kernel
theorem dX4_init_29 : decode cX4_init 29 = .ok (.bipush 10, 2) := by decide +kernel
theorem dX4_init_31 : decode cX4_init 31 = .ok (.newarray .int, 2) := by decide +kernel
theorem dX4_init_33 : decode cX4_init 33 = .ok (.putfield 21, 3) := by decide +kernel
theorem dX4_init_36 : decode cX4_init 36 = .ok (.aload_n 0, 1) := by decide +kernel
theorem dX4_init_37 : decode cX4_init 37 = .ok (.bipush 11, 2) := by decide +kernel
theorem dX4_init_39 : decode cX4_init 39 = .ok (.newarray .long, 2) := by decide +kernel
theorem dX4_init_41 : decode cX4_init 41 = .ok (.putfield 24, 3) := by decide +kernel
theorem dX4_init_44 : decode cX4_init 44 = .ok (.aload_n 0, 1) := by decide +kernel
theorem dX4_init_45 : decode cX4_init 45 = .ok (.aload_n 1, 1) := by decide +kernel
theorem dX4_init_46 : decode cX4_init 46 = .ok (.putfield 28, 3) := by decide +kernel
theorem dX4_init_49 : decode cX4_init 49 = .ok (.return_, 1) := by decide +kernel
theorem dX4_find_0 : decode cX4_find 0 = .ok (.aload_n 0, 1) := by decide +kernel
theorem dX4_find_1 : decode cX4_find 1 = .ok (.aload_n 1, 1) := by decide +kernel
theorem dX4_find_2 : decode cX4_find 2 = .ok (.iload_n 2, 1) := by decide +kernel
theorem dX4_find_3 : decode cX4_find 3 = .ok (.aload_n 3, 1) := by decide +kernel
theorem dX4_find_4 : decode cX4_find 4 = .ok (.lload 4, 2) := by decide +kernel
theorem dX4_find_6 : decode cX4_find 6 = .ok (.invokevirtual 32, 3) := by decide +kernel
theorem dX4_find_9 : decode cX4_find 9 = .ok (.istore 7, 2) := by decide +kernel
theorem dX4_find_11 : decode cX4_find 11 = .ok (.aload_n 0, 1) := by decide +kernel
theorem dX4_find_12 : decode cX4_find 12 = .ok (.aload_n 3, 1) := by decide +kernel
theorem dX4_find_13 : decode cX4_find 13 = .ok (.aload_n 0, 1) := by decide +kernel
theorem dX4_find_14 : decode cX4_find 14 = .ok (.getfield 24, 3) := by decide +kernel
theorem dX4_find_17 : decode cX4_find 17 = .ok (.iconst 0, 1) := by decide +kernel
theorem dX4_find_18 : decode cX4_find 18 = .ok (.laload, 1) := by decide +kernel
theorem dX4_find_19 : decode cX4_find 19 = .ok (.invokevirtual 36, 3) := by decide +kernel
theorem dX4_find_22 : decode cX4_find 22 = .ok (.ifCond .ne 5, 3) := by decide +kernel
theorem dX4_find_25 : decode cX4_find 25 = .ok (.iconst 0, 1) := by decide +kernel
theorem dX4_find_26 : decode cX4_find 26 = .ok (.ireturn, 1) := by decide +kernel
theorem dX4_find_27 : decode cX4_find 27 = .ok (.iload 7, 2) := by decide +kernel
theorem dX4_find_29 : decode cX4_find 29 = .ok (.ifCond .ne 5, 3) := by decide +kernel
theorem dX4_find_32 : decode cX4_find 32 = .ok (.iconst 1, 1) := by decide +kernel
theorem dX4_find_33 : decode cX4_find 33 = .ok (.ireturn, 1) := by decide +kernel
theorem dX4_find_34 : decode cX4_find 34 = .ok (.iconst 0, 1) := by decide +kernel
theorem dX4_find_35 : decode cX4_find 35 = .ok (.istore 8, 2) := by decide +kernel
theorem dX4_find_37 : decode cX4_find 37 = .ok (.iconst 0, 1) := by decide +kernel
theorem dX4_find_38 : decode cX4_find 38 = .ok (.istore 9, 2) := by decide +kernel
theorem dX4_find_40 : decode cX4_find 40 = .ok (.aload_n 0, 1) := by decide +kernel
theorem dX4_find_41 : decode cX4_find 41 = .ok (.getfield 18, 3) := by decide +kernel
theorem dX4_find_44 : decode cX4_find 44 = .ok (.iconst 0, 1) := by decide +kernel
theorem dX4_find_45 : decode cX4_find 45 = .ok (.aload_n 1, 1) := by decide +kernel
theorem dX4_find_46 : decode cX4_find 46 = .ok (.aload_n 0, 1) := by decide +kernel
theorem dX4_find_47 : decode cX4_find 47 = .ok (.getfield 15, 3) := by decide +kernel
theorem dX4_find_50 : decode cX4_find 50 = .ok (.iconst 0, 1) := by decide +kernel
theorem dX4_find_51 : decode cX4_find 51 = .ok (.iaload, 1) := by decide +kernel
theorem dX4_find_52 : decode cX4_find 52 = .ok (.iaload, 1) := by decide +kernel
theorem dX4_find_53 : decode cX4_find 53 = .ok (.iastore, 1) := by decide +kernel
theorem dX4_find_54 : decode cX4_find 54 = .ok (.iconst 0, 1) := by decide +kernel
theorem dX4_find_55 : decode cX4_find 55 = .ok (.istore 10, 2) := by decide +kernel
theorem dX4_find_57 : decode cX4_find 57 = .ok (.iload 9, 2) := by decide +kernel
theorem dX4_find_59 : decode cX4_find 59 = .ok (.ifCond .lt 128, 3) := by decide +kernel
theorem dX4_find_62 : decode cX4_find 62 = .ok (.iload 8, 2) := by decide +kernel
theorem dX4_find_64 : decode cX4_find 64 = .ok (.iload 6, 2) := by decide +kernel
theorem dX4_find_66 : decode cX4_find 66 = .ok (.if_icmp .ge 121, 3) := by decide +kernel
theorem dX4_find_69 : decode cX4_find 69 = .ok (.iload 10, 2) := by decide +kernel
theorem dX4_find_71 : decode cX4_find 71 = .ok (.ldc 40, 2) := by decide +kernel
theorem dX4_find_73 : decode cX4_find 73 = .ok (.if_icmp .ge 114, 3) := by decide +kernel
theorem dX4_find_76 : decode cX4_find 76 = .ok (.aload_n 0, 1) := by decide +kernel
theorem dX4_find_77 : decode cX4_find 77 = .ok (.getfield 18, 3) := by decide +kernel
theorem dX4_find_80 : decode cX4_find 80 = .ok (.iload 9, 2) := by decide +kernel
theorem dX4_find_82 : decode cX4_find 82 = .ok (.iaload, 1) := by decide +kernel
theorem dX4_find_83 : decode cX4_find 83 = .ok (.istore 11, 2) := by decide +kernel
theorem dX4_find_85 : decode cX4_find 85 = .ok (.iload 11, 2) := by decide +kernel
theorem dX4_find_87 : decode cX4_find 87 = .ok (.ifCond .ne 9, 3) := by decide +kernel
theorem dX4_find_90 : decode cX4_find 90 = .ok (.iinc 9 (-1), 3) := by decide +kernel
theorem dX4_find_93 : decode cX4_find 93 = .ok (.goto 88, 3) := by decide +kernel
theorem dX4_find_96 : decode cX4_find 96 = .ok (.aload_n 0, 1) := by decide +kernel
theorem dX4_find_97 : decode cX4_find 97 = .ok (.getfield 9, 3) := by decide +kernel
theorem dX4_find_100 : decode cX4_find 100 = .ok (.aload_n 0, 1) := by decide +kernel
theorem dX4_find_101 : decode cX4_find 101 = .ok (.getfield 15, 3) := by decide +kernel
theorem dX4_find_104 : decode cX4_find 104 = .ok (.iload 9, 2) := by decide +kernel
theorem dX4_find_106 : decode cX4_find 106 = .ok (.iaload, 1) := by decide +kernel
theorem dX4_find_107 : decode cX4_find 107 = .ok (.iload 11, 2) := by decide +kernel
theorem dX4_find_109 : decode cX4_find 109 = .ok (.invokestatic 41, 3) := by decide +kernel
theorem dX4_find_112 : decode cX4_find 112 = .ok (.iastore, 1) := by decide +kernel
theorem dX4_find_113 : decode cX4_find 113 = .ok (.aload_n 0, 1) := by decide +kernel
theorem dX4_find_114 : decode cX4_find 114 = .ok (.getfield 18, 3) := by decide +kernel
theorem dX4_find_117 : decode cX4_find 117 = .ok (.iload 9, 2) := by decide +kernel
theorem dX4_find_119 : decode cX4_find 119 = .ok (.iload 11, 2) := by decide +kernel
theorem dX4_find_121 : decode cX4_find 121 = .ok (.iload 11, 2) := by decide +kernel
theorem dX4_find_123 : decode cX4_find 123 = .ok (.iconst 1, 1) := by decide +kernel
theorem dX4_find_124 : decode cX4_find 124 = .ok (.isub, 1) := by decide +kernel
theorem dX4_find_125 : decode cX4_find 125 = .ok (.iand, 1) := by decide +kernel
theorem dX4_find_126 : decode cX4_find 126 = .ok (.iastore, 1) := by decide +kernel
theorem dX4_find_127 : decode cX4_find 127 = .ok (.aload_n 0, 1) := by decide +kernel
theorem dX4_find_128 : decode cX4_find 128 = .ok (.aload_n 3, 1) := by decide +kernel
theorem dX4_find_129 : decode cX4_find 129 = .ok (.aload_n 0, 1) := by decide +kernel
theorem dX4_find_130 : decode cX4_find 130 = .ok (.getfield 24, 3) := by decide +kernel
theorem dX4_find_133 : decode cX4_find 133 = .ok (.iload 9, 2) := by decide +kernel
theorem dX4_find_135 : decode cX4_find 135 = .ok (.iconst 1, 1) := by decide +kernel
theorem dX4_find_136 : decode cX4_find 136 = .ok (.iadd, 1) := by decide +kernel
theorem dX4_find_137 : decode cX4_find 137 = .ok (.laload, 1) := by decide +kernel
theorem dX4_find_138 : decode cX4_find 138 = .ok (.invokevirtual 36, 3) := by decide +kernel
theorem dX4_find_141 : decode cX4_find 141 = .ok (.ifCond .ne 6, 3) := by decide +kernel
theorem dX4_find_144 : decode cX4_find 144 = .ok (.goto 37, 3) := by decide +kernel
theorem dX4_find_147 : decode cX4_find 147 = .ok (.iload 9, 2) := by decide +kernel
theorem dX4_find_149 : decode cX4_find 149 = .ok (.iconst 1, 1) := by decide +kernel
theorem dX4_find_150 : decode cX4_find 150 = .ok (.iadd, 1) := by decide +kernel
theorem dX4_find_151 : decode cX4_find 151 = .ok (.iload 7, 2) := by decide +kernel
theorem dX4_find_153 : decode cX4_find 153 = .ok (.if_icmp .ne 9, 3) := by decide +kernel
theorem dX4_find_156 : decode cX4_find 156 = .ok (.iinc 8 1, 3) := by decide +kernel
theorem dX4_find_159 : decode cX4_find 159 = .ok (.goto 22, 3) := by decide +kernel
theorem dX4_find_162 : decode cX4_find 162 = .ok (.iinc 9 1, 3) := by decide +kernel
theorem dX4_find_165 : decode cX4_find 165 = .ok (.aload_n 0, 1) := by decide +kernel
theorem dX4_find_166 : decode cX4_find 166 = .ok (.getfield 18, 3) := by decide +kernel
theorem dX4_find_169 : decode cX4_find 169 = .ok (.iload 9, 2) := by decide +kernel
theorem dX4_find_171 : decode cX4_find 171 = .ok (.aload_n 1, 1) := by decide +kernel
theorem dX4_find_172 : decode cX4_find 172 = .ok (.aload_n 0, 1) := by decide +kernel
theorem dX4_find_173 : decode cX4_find 173 = .ok (.getfield 15, 3) := by decide +kernel
theorem dX4_find_176 : decode cX4_find 176 = .ok (.iload 9, 2) := by decide +kernel
theorem dX4_find_178 : decode cX4_find 178 = .ok (.iaload, 1) := by decide +kernel
theorem dX4_find_179 : decode cX4_find 179 = .ok (.iaload, 1) := by decide +kernel
theorem dX4_find_180 : decode cX4_find 180 = .ok (.iastore, 1) := by decide +kernel
theorem dX4_find_181 : decode cX4_find 181 = .ok (.iinc 10 1, 3) := by decide +kernel
theorem dX4_find_184 : decode cX4_find 184 = .ok (.goto (-127), 3) := by decide +kernel
theorem dX4_find_187 : decode cX4_find 187 = .ok (.iload 8, 2) := by decide +kernel
theorem dX4_find_189 : decode cX4_find 189 = .ok (.ireturn, 1) := by decide +kernel
theorem dX4_arrange_0 : decode cX4_arrange 0 = .ok (.iconst 0, 1) := by decide +kernel
theorem dX4_arrange_1 : decode cX4_arrange 1 = .ok (.istore 6, 2) := by decide +kernel
theorem dX4_arrange_3 : decode cX4_arrange 3 = .ok (.aload_n 0, 1) := by decide +kernel
theorem dX4_arrange_4 : decode cX4_arrange 4 = .ok (.getfield 24, 3) := by decide +kernel
theorem dX4_arrange_7 : decode cX4_arrange 7 = .ok (.iconst 0, 1) := by decide +kernel
theorem dX4_arrange_8 : decode cX4_arrange 8 = .ok (.lconst 0, 1) := by decide +kernel
theorem dX4_arrange_9 : decode cX4_arrange 9 = .ok (.lastore, 1) := by decide +kernel
theorem dX4_arrange_10 : decode cX4_arrange 10 = .ok (.iconst 0, 1) := by decide +kernel
theorem dX4_arrange_11 : decode cX4_arrange 11 = .ok (.istore 7, 2) := by decide +kernel
theorem dX4_arrange_13 : decode cX4_arrange 13 = .ok (.iload 7, 2) := by decide +kernel
theorem dX4_arrange_15 : decode cX4_arrange 15 = .ok (.iload_n 2, 1) := by decide +kernel
theorem dX4_arrange_16 : decode cX4_arrange 16 = .ok (.if_icmp .ge 70, 3) := by decide +kernel
theorem dX4_arrange_19 : decode cX4_arrange 19 = .ok (.aload_n 0, 1) := by decide +kernel
theorem dX4_arrange_20 : decode cX4_arrange 20 = .ok (.getfield 9, 3) := by decide +kernel
theorem dX4_arrange_23 : decode cX4_arrange 23 = .ok (.iload 7, 2) := by decide +kernel
theorem dX4_arrange_25 : decode cX4_arrange 25 = .ok (.aload_n 1, 1) := by decide +kernel
theorem dX4_arrange_26 : decode cX4_arrange 26 = .ok (.iload 7, 2) := by decide +kernel
theorem dX4_arrange_28 : decode cX4_arrange 28 = .ok (.iaload, 1) := by decide +kernel
theorem dX4_arrange_29 : decode cX4_arrange 29 = .ok (.invokestatic 41, 3) := by decide +kernel
theorem dX4_arrange_32 : decode cX4_arrange 32 = .ok (.iastore, 1) := by decide +kernel
theorem dX4_arrange_33 : decode cX4_arrange 33 = .ok (.aload_n 0, 1) := by decide +kernel
theorem dX4_arrange_34 : decode cX4_arrange 34 = .ok (.getfield 21, 3) := by decide +kernel
theorem dX4_arrange_37 : decode cX4_arrange 37 = .ok (.iload 7, 2) := by decide +kernel
theorem dX4_arrange_39 : decode cX4_arrange 39 = .ok (.iconst 0, 1) := by decide +kernel
theorem dX4_arrange_40 : decode cX4_arrange 40 = .ok (.iastore, 1) := by decide +kernel
theorem dX4_arrange_41 : decode cX4_arrange 41 = .ok (.aload_n 1, 1) := by decide +kernel
theorem dX4_arrange_42 : decode cX4_arrange 42 = .ok (.iload 7, 2) := by decide +kernel
theorem dX4_arrange_44 : decode cX4_arrange 44 = .ok (.iaload, 1) := by decide +kernel
theorem dX4_arrange_45 : decode cX4_arrange 45 = .ok (.invokestatic 47, 3) := by decide +kernel
theorem dX4_arrange_48 : decode cX4_arrange 48 = .ok (.ifCond .ne 32, 3) := by decide +kernel
theorem dX4_arrange_51 : decode cX4_arrange 51 = .ok (.aload_n 0, 1) := by decide +kernel
theorem dX4_arrange_52 : decode cX4_arrange 52 = .ok (.getfield 15, 3) := by decide +kernel
theorem dX4_arrange_55 : decode cX4_arrange 55 = .ok (.iload 6, 2) := by decide +kernel
theorem dX4_arrange_57 : decode cX4_arrange 57 = .ok (.iload 7, 2) := by decide +kernel
theorem dX4_arrange_59 : decode cX4_arrange 59 = .ok (.iastore, 1) := by decide +kernel
theorem dX4_arrange_60 : decode cX4_arrange 60 = .ok (.iinc 6 1, 3) := by decide +kernel
theorem dX4_arrange_63 : decode cX4_arrange 63 = .ok (.aload_n 0, 1) := by decide +kernel
theorem dX4_arrange_64 : decode cX4_arrange 64 = .ok (.getfield 21, 3) := by decide +kernel
theorem dX4_arrange_67 : decode cX4_arrange 67 = .ok (.iload 7, 2) := by decide +kernel
theorem dX4_arrange_69 : decode cX4_arrange 69 = .ok (.iload 6, 2) := by decide +kernel
theorem dX4_arrange_71 : decode cX4_arrange 71 = .ok (.iastore, 1) := by decide +kernel
theorem dX4_arrange_72 : decode cX4_arrange 72 = .ok (.aload_n 0, 1) := by decide +kernel
theorem dX4_arrange_73 : decode cX4_arrange 73 = .ok (.getfield 24, 3) := by decide +kernel
theorem dX4_arrange_76 : decode cX4_arrange 76 = .ok (.iload 6, 2) := by decide +kernel
theorem dX4_arrange_78 : decode cX4_arrange 78 = .ok (.lconst 0, 1) := by decide +kernel
theorem dX4_arrange_79 : decode cX4_arrange 79 = .ok (.lastore, 1) := by decide +kernel
theorem dX4_arrange_80 : decode cX4_arrange 80 = .ok (.iinc 7 1, 3) := by decide +kernel
theorem dX4_arrange_83 : decode cX4_arrange 83 = .ok (.goto (-70), 3) := by decide +kernel
theorem dX4_arrange_86 : decode cX4_arrange 86 = .ok (.iconst 0, 1) := by decide +kernel
theorem dX4_arrange_87 : decode cX4_arrange 87 = .ok (.istore 7, 2) := by decide +kernel
theorem dX4_arrange_89 : decode cX4_arrange 89 = .ok (.iload 7, 2) := by decide +kernel
theorem dX4_arrange_91 : decode cX4_arrange 91 = .ok (.aload_n 3, 1) := by decide +kernel
theorem dX4_arrange_92 : decode cX4_arrange 92 = .ok (.arraylength, 1) := by decide +kernel
theorem dX4_arrange_93 : decode cX4_arrange 93 = .ok (.if_icmp .ge 41, 3) := by decide +kernel
theorem dX4_arrange_96 : decode cX4_arrange 96 = .ok (.lload 4, 2) := by decide +kernel
theorem dX4_arrange_98 : decode cX4_arrange 98 = .ok (.iload 7, 2) := by decide +kernel
theorem dX4_arrange_100 : decode cX4_arrange 100 = .ok (.lshr, 1) := by decide +kernel
theorem dX4_arrange_101 : decode cX4_arrange 101 = .ok (.lconst 1, 1) := by decide +kernel
theorem dX4_arrange_102 : decode cX4_arrange 102 = .ok (.land, 1) := by decide +kernel
theorem dX4_arrange_103 : decode cX4_arrange 103 = .ok (.lconst 0, 1) := by decide +kernel
theorem dX4_arrange_104 : decode cX4_arrange 104 = .ok (.lcmp, 1) := by decide +kernel
theorem dX4_arrange_105 : decode cX4_arrange 105 = .ok (.ifCond .eq 23, 3) := by decide +kernel
theorem dX4_arrange_108 : decode cX4_arrange 108 = .ok (.aload_n 0, 1) := by decide +kernel
theorem dX4_arrange_109 : decode cX4_arrange 109 = .ok (.getfield 24, 3) := by decide +kernel
theorem dX4_arrange_112 : decode cX4_arrange 112 = .ok (.aload_n 0, 1) := by decide +kernel
theorem dX4_arrange_113 : decode cX4_arrange 113 = .ok (.aload_n 3, 1) := by decide +kernel
theorem dX4_arrange_114 : decode cX4_arrange 114 = .ok (.iload 7, 2) := by decide +kernel
theorem dX4_arrange_116 : decode cX4_arrange 116 = .ok (.aaload, 1) := by decide +kernel
theorem dX4_arrange_117 : decode cX4_arrange 117 = .ok (.invokevirtual 51, 3) := by decide +kernel
theorem dX4_arrange_120 : decode cX4_arrange 120 = .ok (.dup2, 1) := by decide +kernel
theorem dX4_arrange_121 : decode cX4_arrange 121 = .ok (.laload, 1) := by decide +kernel
theorem dX4_arrange_122 : decode cX4_arrange 122 = .ok (.lconst 1, 1) := by decide +kernel
theorem dX4_arrange_123 : decode cX4_arrange 123 = .ok (.iload 7, 2) := by decide +kernel
theorem dX4_arrange_125 : decode cX4_arrange 125 = .ok (.lshl, 1) := by decide +kernel
theorem dX4_arrange_126 : decode cX4_arrange 126 = .ok (.lor, 1) := by decide +kernel
theorem dX4_arrange_127 : decode cX4_arrange 127 = .ok (.lastore, 1) := by decide +kernel
theorem dX4_arrange_128 : decode cX4_arrange 128 = .ok (.iinc 7 1, 3) := by decide +kernel
theorem dX4_arrange_131 : decode cX4_arrange 131 = .ok (.goto (-42), 3) := by decide +kernel
theorem dX4_arrange_134 : decode cX4_arrange 134 = .ok (.iload 6, 2) := by decide +kernel
theorem dX4_arrange_136 : decode cX4_arrange 136 = .ok (.ireturn, 1) := by decide +kernel
theorem dX4_lastStage_0 : decode cX4_lastStage 0 = .ok (.iconst 0, 1) := by decide +kernel
theorem dX4_lastStage_1 : decode cX4_lastStage 1 = .ok (.istore_n 2, 1) := by decide +kernel
theorem dX4_lastStage_2 : decode cX4_lastStage 2 = .ok (.iconst 0, 1) := by decide +kernel
theorem dX4_lastStage_3 : decode cX4_lastStage 3 = .ok (.istore_n 3, 1) := by decide +kernel
theorem dX4_lastStage_4 : decode cX4_lastStage 4 = .ok (.iload_n 3, 1) := by decide +kernel
theorem dX4_lastStage_5 : decode cX4_lastStage 5 = .ok (.aload_n 1, 1) := by decide +kernel
theorem dX4_lastStage_6 : decode cX4_lastStage 6 = .ok (.getfield 55, 3) := by decide +kernel
theorem dX4_lastStage_9 : decode cX4_lastStage 9 = .ok (.if_icmp .ge 25, 3) := by decide +kernel
theorem dX4_lastStage_12 : decode cX4_lastStage 12 = .ok (.iload_n 2, 1) := by decide +kernel
theorem dX4_lastStage_13 : decode cX4_lastStage 13 = .ok (.aload_n 0, 1) := by decide +kernel
theorem dX4_lastStage_14 : decode cX4_lastStage 14 = .ok (.getfield 21, 3) := by decide +kernel
theorem dX4_lastStage_17 : decode cX4_lastStage 17 = .ok (.aload_n 1, 1) := by decide +kernel
theorem dX4_lastStage_18 : decode cX4_lastStage 18 = .ok (.getfield 61, 3) := by decide +kernel
theorem dX4_lastStage_21 : decode cX4_lastStage 21 = .ok (.iload_n 3, 1) := by decide +kernel
theorem dX4_lastStage_22 : decode cX4_lastStage 22 = .ok (.iaload, 1) := by decide +kernel
theorem dX4_lastStage_23 : decode cX4_lastStage 23 = .ok (.iaload, 1) := by decide +kernel
theorem dX4_lastStage_24 : decode cX4_lastStage 24 = .ok (.invokestatic 64, 3) := by decide +kernel
theorem dX4_lastStage_27 : decode cX4_lastStage 27 = .ok (.istore_n 2, 1) := by decide +kernel
theorem dX4_lastStage_28 : decode cX4_lastStage 28 = .ok (.iinc 3 1, 3) := by decide +kernel
theorem dX4_lastStage_31 : decode cX4_lastStage 31 = .ok (.goto (-27), 3) := by decide +kernel
theorem dX4_lastStage_34 : decode cX4_lastStage 34 = .ok (.iload_n 2, 1) := by decide +kernel
theorem dX4_lastStage_35 : decode cX4_lastStage 35 = .ok (.ireturn, 1) := by decide +kernel
theorem dX4_allFit_0 : decode cX4_allFit 0 = .ok (.lload_n 2, 1) := by decide +kernel
theorem dX4_allFit_1 : decode cX4_allFit 1 = .ok (.lstore 4, 2) := by decide +kernel
theorem dX4_allFit_3 : decode cX4_allFit 3 = .ok (.iconst 0, 1) := by decide +kernel
theorem dX4_allFit_4 : decode cX4_allFit 4 = .ok (.istore 6, 2) := by decide +kernel
theorem dX4_allFit_6 : decode cX4_allFit 6 = .ok (.iload 6, 2) := by decide +kernel
theorem dX4_allFit_8 : decode cX4_allFit 8 = .ok (.aload_n 1, 1) := by decide +kernel
theorem dX4_allFit_9 : decode cX4_allFit 9 = .ok (.arraylength, 1) := by decide +kernel
theorem dX4_allFit_10 : decode cX4_allFit 10 = .ok (.if_icmp .ge 48, 3) := by decide +kernel
theorem dX4_allFit_13 : decode cX4_allFit 13 = .ok (.lload 4, 2) := by decide +kernel
theorem dX4_allFit_15 : decode cX4_allFit 15 = .ok (.lconst 0, 1) := by decide +kernel
theorem dX4_allFit_16 : decode cX4_allFit 16 = .ok (.lcmp, 1) := by decide +kernel
theorem dX4_allFit_17 : decode cX4_allFit 17 = .ok (.ifCond .eq 41, 3) := by decide +kernel
theorem dX4_allFit_20 : decode cX4_allFit 20 = .ok (.aload_n 0, 1) := by decide +kernel
theorem dX4_allFit_21 : decode cX4_allFit 21 = .ok (.getfield 28, 3) := by decide +kernel
theorem dX4_allFit_24 : decode cX4_allFit 24 = .ok (.aload_n 1, 1) := by decide +kernel
theorem dX4_allFit_25 : decode cX4_allFit 25 = .ok (.lload 4, 2) := by decide +kernel
theorem dX4_allFit_27 : decode cX4_allFit 27 = .ok (.invokestatic 70, 3) := by decide +kernel
theorem dX4_allFit_30 : decode cX4_allFit 30 = .ok (.aaload, 1) := by decide +kernel
theorem dX4_allFit_31 : decode cX4_allFit 31 = .ok (.aload_n 0, 1) := by decide +kernel
theorem dX4_allFit_32 : decode cX4_allFit 32 = .ok (.getfield 9, 3) := by decide +kernel
theorem dX4_allFit_35 : decode cX4_allFit 35 = .ok (.invokevirtual 75, 3) := by decide +kernel
theorem dX4_allFit_38 : decode cX4_allFit 38 = .ok (.ifCond .ne 5, 3) := by decide +kernel
theorem dX4_allFit_41 : decode cX4_allFit 41 = .ok (.iconst 0, 1) := by decide +kernel
theorem dX4_allFit_42 : decode cX4_allFit 42 = .ok (.ireturn, 1) := by decide +kernel
theorem dX4_allFit_43 : decode cX4_allFit 43 = .ok (.lload 4, 2) := by decide +kernel
theorem dX4_allFit_45 : decode cX4_allFit 45 = .ok (.lload 4, 2) := by decide +kernel
theorem dX4_allFit_47 : decode cX4_allFit 47 = .ok (.lconst 1, 1) := by decide +kernel
theorem dX4_allFit_48 : decode cX4_allFit 48 = .ok (.lsub, 1) := by decide +kernel
theorem dX4_allFit_49 : decode cX4_allFit 49 = .ok (.land, 1) := by decide +kernel
theorem dX4_allFit_50 : decode cX4_allFit 50 = .ok (.lstore 4, 2) := by decide +kernel
theorem dX4_allFit_52 : decode cX4_allFit 52 = .ok (.iinc 6 1, 3) := by decide +kernel
theorem dX4_allFit_55 : decode cX4_allFit 55 = .ok (.goto (-49), 3) := by decide +kernel
theorem dX4_allFit_58 : decode cX4_allFit 58 = .ok (.iconst 1, 1) := by decide +kernel
theorem dX4_allFit_59 : decode cX4_allFit 59 = .ok (.ireturn, 1) := by decide +kernel
theorem dX5_init_0 : decode cX5_init 0 = .ok (.aload_n 0, 1) := by decide +kernel
theorem dX5_init_1 : decode cX5_init 1 = .ok (.invokespecial 3, 3) := by decide +kernel
theorem dX5_init_4 : decode cX5_init 4 = .ok (.aload_n 0, 1) := by decide +kernel
theorem dX5_init_5 : decode cX5_init 5 = .ok (.bipush 12, 2) := by decide +kernel
theorem dX5_init_7 : decode cX5_init 7 = .ok (.newarray .int, 2) := by decide +kernel
theorem dX5_init_9 : decode cX5_init 9 = .ok (.putfield 9, 3) := by decide +kernel
theorem dX5_init_12 : decode cX5_init 12 = .ok (.aload_n 0, 1) := by decide +kernel
theorem dX5_init_13 : decode cX5_init 13 = .ok (.bipush 12, 2) := by decide +kernel
theorem dX5_init_15 : decode cX5_init 15 = .ok (.newarray .int, 2) := by decide +kernel
theorem dX5_init_17 : decode cX5_init 17 = .ok (.putfield 15, 3) := by decide +kernel
theorem dX5_init_20 : decode cX5_init 20 = .ok (.aload_n 0, 1) := by decide +kernel
theorem dX5_init_21 : decode cX5_init 21 = .ok (.bipush 12, 2) := by decide +kernel
theorem dX5_init_23 : decode cX5_init 23 = .ok (.bipush 10, 2) := by decide +kernel
theorem dX5_init_25 : decode cX5_init 25 = .ok (.multianewarray 18 2, 4) := by decide +kernel
theorem dX5_init_29 : decode cX5_init 29 = .ok (.putfield 20, 3) := by decide +kernel
theorem dX5_init_32 : decode cX5_init 32 = .ok (.return_, 1) := by decide +kernel
theorem dX5_all_0 : decode cX5_all 0 = .ok (.iconst 1, 1) := by decide +kernel
theorem dX5_all_1 : decode cX5_all 1 = .ok (.aload_n 0, 1) := by decide +kernel
theorem dX5_all_2 : decode cX5_all 2 = .ok (.getfield 23, 3) := by decide +kernel
theorem dX5_all_5 : decode cX5_all 5 = .ok (.ishl, 1) := by decide +kernel
theorem dX5_all_6 : decode cX5_all 6 = .ok (.iconst 1, 1) := by decide +kernel
theorem dX5_all_7 : decode cX5_all 7 = .ok (.isub, 1) := by decide +kernel
theorem dX5_all_8 : decode cX5_all 8 = .ok (.ireturn, 1) := by decide +kernel
theorem dX6_init_0 : decode cX6_init 0 = .ok (.aload_n 0, 1) := by decide +kernel
theorem dX6_init_1 : decode cX6_init 1 = .ok (.invokespecial 3, 3) := by decide +kernel
theorem dX6_init_4 : decode cX6_init 4 = .ok (.aload_n 0, 1) := by decide +kernel
theorem dX6_init_5 : decode cX6_init 5 = .ok (.bipush 6, 2) := by decide +kernel
theorem dX6_init_7 : decode cX6_init 7 = .ok (.newarray .int, 2) := by decide +kernel
theorem dX6_init_9 : decode cX6_init 9 = .ok (.putfield 9, 3) := by decide +kernel
theorem dX6_init_12 : decode cX6_init 12 = .ok (.aload_n 0, 1) := by decide +kernel
theorem dX6_init_13 : decode cX6_init 13 = .ok (.bipush 6, 2) := by decide +kernel
theorem dX6_init_15 : decode cX6_init 15 = .ok (.bipush 48, 2) := by decide +kernel
theorem dX6_init_17 : decode cX6_init 17 = .ok (.multianewarray 15 2, 4) := by decide +kernel
theorem dX6_init_21 : decode cX6_init 21 = .ok (.putfield 17, 3) := by decide +kernel
theorem dX6_init_24 : decode cX6_init 24 = .ok (.iconst 0, 1) := by decide +kernel
theorem dX6_init_25 : decode cX6_init 25 = .ok (.istore_n 1, 1) := by decide +kernel
theorem dX6_init_26 : decode cX6_init 26 = .ok (.iload_n 1, 1) := by decide +kernel
theorem dX6_init_27 : decode cX6_init 27 = .ok (.bipush 6, 2) := by decide +kernel
theorem dX6_init_29 : decode cX6_init 29 = .ok (.if_icmp .ge 16, 3) := by decide +kernel
theorem dX6_init_32 : decode cX6_init 32 = .ok (.aload_n 0, 1) := by decide +kernel
theorem dX6_init_33 : decode cX6_init 33 = .ok (.getfield 9, 3) := by decide +kernel
theorem dX6_init_36 : decode cX6_init 36 = .ok (.iload_n 1, 1) := by decide +kernel
theorem dX6_init_37 : decode cX6_init 37 = .ok (.iconst (-1), 1) := by decide +kernel
theorem dX6_init_38 : decode cX6_init 38 = .ok (.iastore, 1) := by decide +kernel
theorem dX6_init_39 : decode cX6_init 39 = .ok (.iinc 1 1, 3) := by decide +kernel
theorem dX6_init_42 : decode cX6_init 42 = .ok (.goto (-16), 3) := by decide +kernel
theorem dX6_init_45 : decode cX6_init 45 = .ok (.return_, 1) := by decide +kernel
theorem dX6_lay_0 : decode cX6_lay 0 = .ok (.aload_n 0, 1) := by decide +kernel
theorem dX6_lay_1 : decode cX6_lay 1 = .ok (.getfield 9, 3) := by decide +kernel
theorem dX6_lay_4 : decode cX6_lay 4 = .ok (.iload_n 1, 1) := by decide +kernel
theorem dX6_lay_5 : decode cX6_lay 5 = .ok (.iload_n 2, 1) := by decide +kernel
theorem dX6_lay_6 : decode cX6_lay 6 = .ok (.iastore, 1) := by decide +kernel
theorem dX6_lay_7 : decode cX6_lay 7 = .ok (.iconst 0, 1) := by decide +kernel
theorem dX6_lay_8 : decode cX6_lay 8 = .ok (.istore_n 3, 1) := by decide +kernel
theorem dX6_lay_9 : decode cX6_lay 9 = .ok (.iload_n 3, 1) := by decide +kernel
theorem dX6_lay_10 : decode cX6_lay 10 = .ok (.bipush 48, 2) := by decide +kernel
theorem dX6_lay_12 : decode cX6_lay 12 = .ok (.if_icmp .ge 18, 3) := by decide +kernel
theorem dX6_lay_15 : decode cX6_lay 15 = .ok (.aload_n 0, 1) := by decide +kernel
theorem dX6_lay_16 : decode cX6_lay 16 = .ok (.getfield 17, 3) := by decide +kernel
theorem dX6_lay_19 : decode cX6_lay 19 = .ok (.iload_n 1, 1) := by decide +kernel
theorem dX6_lay_20 : decode cX6_lay 20 = .ok (.aaload, 1) := by decide +kernel
theorem dX6_lay_21 : decode cX6_lay 21 = .ok (.iload_n 3, 1) := by decide +kernel
theorem dX6_lay_22 : decode cX6_lay 22 = .ok (.iconst 0, 1) := by decide +kernel
theorem dX6_lay_23 : decode cX6_lay 23 = .ok (.iastore, 1) := by decide +kernel
theorem dX6_lay_24 : decode cX6_lay 24 = .ok (.iinc 3 1, 3) := by decide +kernel
theorem dX6_lay_27 : decode cX6_lay 27 = .ok (.goto (-18), 3) := by decide +kernel
theorem dX6_lay_30 : decode cX6_lay 30 = .ok (.return_, 1) := by decide +kernel
theorem dX6_isMissing_0 : decode cX6_isMissing 0 = .ok (.aload_n 0, 1) := by decide +kernel
theorem dX6_isMissing_1 : decode cX6_isMissing 1 = .ok (.getfield 9, 3) := by decide +kernel
theorem dX6_isMissing_4 : decode cX6_isMissing 4 = .ok (.iload_n 1, 1) := by decide +kernel
theorem dX6_isMissing_5 : decode cX6_isMissing 5 = .ok (.iaload, 1) := by decide +kernel
theorem dX6_isMissing_6 : decode cX6_isMissing 6 = .ok (.iconst (-1), 1) := by decide +kernel
theorem dX6_isMissing_7 : decode cX6_isMissing 7 = .ok (.if_icmp .ne 7, 3) := by decide +kernel
theorem dX6_isMissing_10 : decode cX6_isMissing 10 = .ok (.iconst 1, 1) := by decide +kernel
theorem dX6_isMissing_11 : decode cX6_isMissing 11 = .ok (.goto 4, 3) := by decide +kernel
theorem dX6_isMissing_14 : decode cX6_isMissing 14 = .ok (.iconst 0, 1) := by decide +kernel
theorem dX6_isMissing_15 : decode cX6_isMissing 15 = .ok (.ireturn, 1) := by decide +kernel
theorem dX6_hasCells_0 : decode cX6_hasCells 0 = .ok (.iload_n 2, 1) := by decide +kernel
theorem dX6_hasCells_1 : decode cX6_hasCells 1 = .ok (.ifCond .lt 29, 3) := by decide +kernel
theorem dX6_hasCells_4 : decode cX6_hasCells 4 = .ok (.iload_n 2, 1) := by decide +kernel
theorem dX6_hasCells_5 : decode cX6_hasCells 5 = .ok (.aload_n 0, 1) := by decide +kernel
theorem dX6_hasCells_6 : decode cX6_hasCells 6 = .ok (.getfield 9, 3) := by decide +kernel
theorem dX6_hasCells_9 : decode cX6_hasCells 9 = .ok (.iload_n 1, 1) := by decide +kernel
theorem dX6_hasCells_10 : decode cX6_hasCells 10 = .ok (.iaload, 1) := by decide +kernel
theorem dX6_hasCells_11 : decode cX6_hasCells 11 = .ok (.if_icmp .gt 19, 3) := by decide +kernel
theorem dX6_hasCells_14 : decode cX6_hasCells 14 = .ok (.iload_n 3, 1) := by decide +kernel
theorem dX6_hasCells_15 : decode cX6_hasCells 15 = .ok (.aload_n 0, 1) := by decide +kernel
theorem dX6_hasCells_16 : decode cX6_hasCells 16 = .ok (.getfield 9, 3) := by decide +kernel
theorem dX6_hasCells_19 : decode cX6_hasCells 19 = .ok (.iload_n 1, 1) := by decide +kernel
theorem dX6_hasCells_20 : decode cX6_hasCells 20 = .ok (.iaload, 1) := by decide +kernel
theorem dX6_hasCells_21 : decode cX6_hasCells 21 = .ok (.iload_n 2, 1) := by decide +kernel
theorem dX6_hasCells_22 : decode cX6_hasCells 22 = .ok (.isub, 1) := by decide +kernel
theorem dX6_hasCells_23 : decode cX6_hasCells 23 = .ok (.if_icmp .gt 7, 3) := by decide +kernel
theorem dX6_hasCells_26 : decode cX6_hasCells 26 = .ok (.iconst 1, 1) := by decide +kernel
theorem dX6_hasCells_27 : decode cX6_hasCells 27 = .ok (.goto 4, 3) := by decide +kernel
theorem dX6_hasCells_30 : decode cX6_hasCells 30 = .ok (.iconst 0, 1) := by decide +kernel
theorem dX6_hasCells_31 : decode cX6_hasCells 31 = .ok (.ireturn, 1) := by decide +kernel
theorem dX6_countLaid_0 : decode cX6_countLaid 0 = .ok (.iconst 0, 1) := by decide +kernel
theorem dX6_countLaid_1 : decode cX6_countLaid 1 = .ok (.istore_n 1, 1) := by decide +kernel
theorem dX6_countLaid_2 : decode cX6_countLaid 2 = .ok (.iconst 0, 1) := by decide +kernel
theorem dX6_countLaid_3 : decode cX6_countLaid 3 = .ok (.istore_n 2, 1) := by decide +kernel
theorem dX6_countLaid_4 : decode cX6_countLaid 4 = .ok (.iload_n 2, 1) := by decide +kernel
theorem dX6_countLaid_5 : decode cX6_countLaid 5 = .ok (.bipush 6, 2) := by decide +kernel
theorem dX6_countLaid_7 : decode cX6_countLaid 7 = .ok (.if_icmp .ge 20, 3) := by decide +kernel
theorem dX6_countLaid_10 : decode cX6_countLaid 10 = .ok (.aload_n 0, 1) := by decide +kernel
theorem dX6_countLaid_11 : decode cX6_countLaid 11 = .ok (.iload_n 2, 1) := by decide +kernel
theorem dX6_countLaid_12 : decode cX6_countLaid 12 = .ok (.invokevirtual 20, 3) := by decide +kernel
theorem dX6_countLaid_15 : decode cX6_countLaid 15 = .ok (.ifCond .ne 6, 3) := by decide +kernel
theorem dX6_countLaid_18 : decode cX6_countLaid 18 = .ok (.iinc 1 1, 3) := by decide +kernel
theorem dX6_countLaid_21 : decode cX6_countLaid 21 = .ok (.iinc 2 1, 3) := by decide +kernel
theorem dX6_countLaid_24 : decode cX6_countLaid 24 = .ok (.goto (-20), 3) := by decide +kernel
theorem dX6_countLaid_27 : decode cX6_countLaid 27 = .ok (.iload_n 1, 1) := by decide +kernel
theorem dX6_countLaid_28 : decode cX6_countLaid 28 = .ok (.ireturn, 1) := by decide +kernel
theorem dX6_countRows_0 : decode cX6_countRows 0 = .ok (.aload_n 0, 1) := by decide +kernel
theorem dX6_countRows_1 : decode cX6_countRows 1 = .ok (.getfield 9, 3) := by decide +kernel
theorem dX6_countRows_4 : decode cX6_countRows 4 = .ok (.iload_n 1, 1) := by decide +kernel
theorem dX6_countRows_5 : decode cX6_countRows 5 = .ok (.iaload, 1) := by decide +kernel
theorem dX6_countRows_6 : decode cX6_countRows 6 = .ok (.iload_n 2, 1) := by decide +kernel
theorem dX6_countRows_7 : decode cX6_countRows 7 = .ok (.if_icmp .lt 7, 3) := by decide +kernel
theorem dX6_countRows_10 : decode cX6_countRows 10 = .ok (.iload_n 2, 1) := by decide +kernel
theorem dX6_countRows_11 : decode cX6_countRows 11 = .ok (.ifCond .ne 7, 3) := by decide +kernel
theorem dX6_countRows_14 : decode cX6_countRows 14 = .ok (.iconst 0, 1) := by decide +kernel
theorem dX6_countRows_15 : decode cX6_countRows 15 = .ok (.goto 11, 3) := by decide +kernel
theorem dX6_countRows_18 : decode cX6_countRows 18 = .ok (.aload_n 0, 1) := by decide +kernel
theorem dX6_countRows_19 : decode cX6_countRows 19 = .ok (.getfield 9, 3) := by decide +kernel
theorem dX6_countRows_22 : decode cX6_countRows 22 = .ok (.iload_n 1, 1) := by decide +kernel
theorem dX6_countRows_23 : decode cX6_countRows 23 = .ok (.iaload, 1) := by decide +kernel
theorem dX6_countRows_24 : decode cX6_countRows 24 = .ok (.iload_n 2, 1) := by decide +kernel
theorem dX6_countRows_25 : decode cX6_countRows 25 = .ok (.idiv, 1) := by decide +kernel
theorem dX6_countRows_26 : decode cX6_countRows 26 = .ok (.ireturn, 1) := by decide +kernel
theorem dJ6_numberOfLeadingZeros_0f7a4_0 : decode cJ6_numberOfLeadingZeros_0f7a4 0 = .ok (.iload_n 0, 1) := by decide +kernel
theorem dJ6_numberOfLeadingZeros_0f7a4_1 : decode cJ6_numberOfLeadingZeros_0f7a4 1 = .ok (.ifCond .gt 14, 3) := by decide +kernel
theorem dJ6_numberOfLeadingZeros_0f7a4_4 : decode cJ6_numberOfLeadingZeros_0f7a4 4 = .ok (.iload_n 0, 1) := by decide +kernel
theorem dJ6_numberOfLeadingZeros_0f7a4_5 : decode cJ6_numberOfLeadingZeros_0f7a4 5 = .ok (.ifCond .ne 8, 3) := by decide +kernel
theorem dJ6_numberOfLeadingZeros_0f7a4_8 : decode cJ6_numberOfLeadingZeros_0f7a4 8 = .ok (.bipush 32, 2) := by decide +kernel
theorem dJ6_numberOfLeadingZeros_0f7a4_10 : decode cJ6_numberOfLeadingZeros_0f7a4 10 = .ok (.goto 4, 3) := by decide +kernel
theorem dJ6_numberOfLeadingZeros_0f7a4_13 : decode cJ6_numberOfLeadingZeros_0f7a4 13 = .ok (.iconst 0, 1) := by decide +kernel
theorem dJ6_numberOfLeadingZeros_0f7a4_14 : decode cJ6_numberOfLeadingZeros_0f7a4 14 = .ok (.ireturn, 1) := by decide +kernel
theorem dJ6_numberOfLeadingZeros_0f7a4_15 : decode cJ6_numberOfLeadingZeros_0f7a4 15 = .ok (.bipush 31, 2) := by decide +kernel
theorem dJ6_numberOfLeadingZeros_0f7a4_17 : decode cJ6_numberOfLeadingZeros_0f7a4 17 = .ok (.istore_n 1, 1) := by decide +kernel
theorem dJ6_numberOfLeadingZeros_0f7a4_18 : decode cJ6_numberOfLeadingZeros_0f7a4 18 = .ok (.iload_n 0, 1) := by decide +kernel
theorem dJ6_numberOfLeadingZeros_0f7a4_19 : decode cJ6_numberOfLeadingZeros_0f7a4 19 = .ok (.ldc_w 264, 3) := by decide +kernel
theorem dJ6_numberOfLeadingZeros_0f7a4_22 : decode cJ6_numberOfLeadingZeros_0f7a4 22 = .ok (.if_icmp .lt 11, 3) := by decide +kernel
theorem dJ6_numberOfLeadingZeros_0f7a4_25 : decode cJ6_numberOfLeadingZeros_0f7a4 25 = .ok (.iinc 1 (-16), 3) := by decide +kernel
theorem dJ6_numberOfLeadingZeros_0f7a4_28 : decode cJ6_numberOfLeadingZeros_0f7a4 28 = .ok (.iload_n 0, 1) := by decide +kernel
theorem dJ6_numberOfLeadingZeros_0f7a4_29 : decode cJ6_numberOfLeadingZeros_0f7a4 29 = .ok (.bipush 16, 2) := by decide +kernel
theorem dJ6_numberOfLeadingZeros_0f7a4_31 : decode cJ6_numberOfLeadingZeros_0f7a4 31 = .ok (.iushr, 1) := by decide +kernel
theorem dJ6_numberOfLeadingZeros_0f7a4_32 : decode cJ6_numberOfLeadingZeros_0f7a4 32 = .ok (.istore_n 0, 1) := by decide +kernel
theorem dJ6_numberOfLeadingZeros_0f7a4_33 : decode cJ6_numberOfLeadingZeros_0f7a4 33 = .ok (.iload_n 0, 1) := by decide +kernel
theorem dJ6_numberOfLeadingZeros_0f7a4_34 : decode cJ6_numberOfLeadingZeros_0f7a4 34 = .ok (.sipush 256, 3) := by decide +kernel
theorem dJ6_numberOfLeadingZeros_0f7a4_37 : decode cJ6_numberOfLeadingZeros_0f7a4 37 = .ok (.if_icmp .lt 11, 3) := by decide +kernel
theorem dJ6_numberOfLeadingZeros_0f7a4_40 : decode cJ6_numberOfLeadingZeros_0f7a4 40 = .ok (.iinc 1 (-8), 3) := by decide +kernel
theorem dJ6_numberOfLeadingZeros_0f7a4_43 : decode cJ6_numberOfLeadingZeros_0f7a4 43 = .ok (.iload_n 0, 1) := by decide +kernel
theorem dJ6_numberOfLeadingZeros_0f7a4_44 : decode cJ6_numberOfLeadingZeros_0f7a4 44 = .ok (.bipush 8, 2) := by decide +kernel
theorem dJ6_numberOfLeadingZeros_0f7a4_46 : decode cJ6_numberOfLeadingZeros_0f7a4 46 = .ok (.iushr, 1) := by decide +kernel
theorem dJ6_numberOfLeadingZeros_0f7a4_47 : decode cJ6_numberOfLeadingZeros_0f7a4 47 = .ok (.istore_n 0, 1) := by decide +kernel
theorem dJ6_numberOfLeadingZeros_0f7a4_48 : decode cJ6_numberOfLeadingZeros_0f7a4 48 = .ok (.iload_n 0, 1) := by decide +kernel
theorem dJ6_numberOfLeadingZeros_0f7a4_49 : decode cJ6_numberOfLeadingZeros_0f7a4 49 = .ok (.bipush 16, 2) := by decide +kernel
theorem dJ6_numberOfLeadingZeros_0f7a4_51 : decode cJ6_numberOfLeadingZeros_0f7a4 51 = .ok (.if_icmp .lt 10, 3) := by decide +kernel
theorem dJ6_numberOfLeadingZeros_0f7a4_54 : decode cJ6_numberOfLeadingZeros_0f7a4 54 = .ok (.iinc 1 (-4), 3) := by decide +kernel
theorem dJ6_numberOfLeadingZeros_0f7a4_57 : decode cJ6_numberOfLeadingZeros_0f7a4 57 = .ok (.iload_n 0, 1) := by decide +kernel
theorem dJ6_numberOfLeadingZeros_0f7a4_58 : decode cJ6_numberOfLeadingZeros_0f7a4 58 = .ok (.iconst 4, 1) := by decide +kernel
theorem dJ6_numberOfLeadingZeros_0f7a4_59 : decode cJ6_numberOfLeadingZeros_0f7a4 59 = .ok (.iushr, 1) := by decide +kernel
theorem dJ6_numberOfLeadingZeros_0f7a4_60 : decode cJ6_numberOfLeadingZeros_0f7a4 60 = .ok (.istore_n 0, 1) := by decide +kernel
theorem dJ6_numberOfLeadingZeros_0f7a4_61 : decode cJ6_numberOfLeadingZeros_0f7a4 61 = .ok (.iload_n 0, 1) := by decide +kernel
theorem dJ6_numberOfLeadingZeros_0f7a4_62 : decode cJ6_numberOfLeadingZeros_0f7a4 62 = .ok (.iconst 4, 1) := by decide +kernel
theorem dJ6_numberOfLeadingZeros_0f7a4_63 : decode cJ6_numberOfLeadingZeros_0f7a4 63 = .ok (.if_icmp .lt 10, 3) := by decide +kernel
theorem dJ6_numberOfLeadingZeros_0f7a4_66 : decode cJ6_numberOfLeadingZeros_0f7a4 66 = .ok (.iinc 1 (-2), 3) := by decide +kernel
theorem dJ6_numberOfLeadingZeros_0f7a4_69 : decode cJ6_numberOfLeadingZeros_0f7a4 69 = .ok (.iload_n 0, 1) := by decide +kernel
theorem dJ6_numberOfLeadingZeros_0f7a4_70 : decode cJ6_numberOfLeadingZeros_0f7a4 70 = .ok (.iconst 2, 1) := by decide +kernel
theorem dJ6_numberOfLeadingZeros_0f7a4_71 : decode cJ6_numberOfLeadingZeros_0f7a4 71 = .ok (.iushr, 1) := by decide +kernel
theorem dJ6_numberOfLeadingZeros_0f7a4_72 : decode cJ6_numberOfLeadingZeros_0f7a4 72 = .ok (.istore_n 0, 1) := by decide +kernel
theorem dJ6_numberOfLeadingZeros_0f7a4_73 : decode cJ6_numberOfLeadingZeros_0f7a4 73 = .ok (.iload_n 1, 1) := by decide +kernel
theorem dJ6_numberOfLeadingZeros_0f7a4_74 : decode cJ6_numberOfLeadingZeros_0f7a4 74 = .ok (.iload_n 0, 1) := by decide +kernel
theorem dJ6_numberOfLeadingZeros_0f7a4_75 : decode cJ6_numberOfLeadingZeros_0f7a4 75 = .ok (.iconst 1, 1) := by decide +kernel
theorem dJ6_numberOfLeadingZeros_0f7a4_76 : decode cJ6_numberOfLeadingZeros_0f7a4 76 = .ok (.iushr, 1) := by decide +kernel
theorem dJ6_numberOfLeadingZeros_0f7a4_77 : decode cJ6_numberOfLeadingZeros_0f7a4 77 = .ok (.isub, 1) := by decide +kernel
theorem dJ6_numberOfLeadingZeros_0f7a4_78 : decode cJ6_numberOfLeadingZeros_0f7a4 78 = .ok (.ireturn, 1) := by decide +kernel
theorem dJ6_numberOfTrailingZeros_0f7a4_0 : decode cJ6_numberOfTrailingZeros_0f7a4 0 = .ok (.iload_n 0, 1) := by decide +kernel
theorem dJ6_numberOfTrailingZeros_0f7a4_1 : decode cJ6_numberOfTrailingZeros_0f7a4 1 = .ok (.iconst (-1), 1) := by decide +kernel
theorem dJ6_numberOfTrailingZeros_0f7a4_2 : decode cJ6_numberOfTrailingZeros_0f7a4 2 = .ok (.ixor, 1) := by decide +kernel
theorem dJ6_numberOfTrailingZeros_0f7a4_3 : decode cJ6_numberOfTrailingZeros_0f7a4 3 = .ok (.iload_n 0, 1) := by decide +kernel
theorem dJ6_numberOfTrailingZeros_0f7a4_4 : decode cJ6_numberOfTrailingZeros_0f7a4 4 = .ok (.iconst 1, 1) := by decide +kernel
theorem dJ6_numberOfTrailingZeros_0f7a4_5 : decode cJ6_numberOfTrailingZeros_0f7a4 5 = .ok (.isub, 1) := by decide +kernel
theorem dJ6_numberOfTrailingZeros_0f7a4_6 : decode cJ6_numberOfTrailingZeros_0f7a4 6 = .ok (.iand, 1) := by decide +kernel
theorem dJ6_numberOfTrailingZeros_0f7a4_7 : decode cJ6_numberOfTrailingZeros_0f7a4 7 = .ok (.istore_n 0, 1) := by decide +kernel
theorem dJ6_numberOfTrailingZeros_0f7a4_8 : decode cJ6_numberOfTrailingZeros_0f7a4 8 = .ok (.iload_n 0, 1) := by decide +kernel
theorem dJ6_numberOfTrailingZeros_0f7a4_9 : decode cJ6_numberOfTrailingZeros_0f7a4 9 = .ok (.ifCond .gt 8, 3) := by decide +kernel
theorem dJ6_numberOfTrailingZeros_0f7a4_12 : decode cJ6_numberOfTrailingZeros_0f7a4 12 = .ok (.iload_n 0, 1) := by decide +kernel
theorem dJ6_numberOfTrailingZeros_0f7a4_13 : decode cJ6_numberOfTrailingZeros_0f7a4 13 = .ok (.bipush 32, 2) := by decide +kernel
theorem dJ6_numberOfTrailingZeros_0f7a4_15 : decode cJ6_numberOfTrailingZeros_0f7a4 15 = .ok (.iand, 1) := by decide +kernel
theorem dJ6_numberOfTrailingZeros_0f7a4_16 : decode cJ6_numberOfTrailingZeros_0f7a4 16 = .ok (.ireturn, 1) := by decide +kernel
theorem dJ6_numberOfTrailingZeros_0f7a4_17 : decode cJ6_numberOfTrailingZeros_0f7a4 17 = .ok (.iconst 1, 1) := by decide +kernel
theorem dJ6_numberOfTrailingZeros_0f7a4_18 : decode cJ6_numberOfTrailingZeros_0f7a4 18 = .ok (.istore_n 1, 1) := by decide +kernel
theorem dJ6_numberOfTrailingZeros_0f7a4_19 : decode cJ6_numberOfTrailingZeros_0f7a4 19 = .ok (.iload_n 0, 1) := by decide +kernel
theorem dJ6_numberOfTrailingZeros_0f7a4_20 : decode cJ6_numberOfTrailingZeros_0f7a4 20 = .ok (.ldc_w 264, 3) := by decide +kernel
theorem dJ6_numberOfTrailingZeros_0f7a4_23 : decode cJ6_numberOfTrailingZeros_0f7a4 23 = .ok (.if_icmp .le 11, 3) := by decide +kernel
theorem dJ6_numberOfTrailingZeros_0f7a4_26 : decode cJ6_numberOfTrailingZeros_0f7a4 26 = .ok (.iinc 1 16, 3) := by decide +kernel
theorem dJ6_numberOfTrailingZeros_0f7a4_29 : decode cJ6_numberOfTrailingZeros_0f7a4 29 = .ok (.iload_n 0, 1) := by decide +kernel
theorem dJ6_numberOfTrailingZeros_0f7a4_30 : decode cJ6_numberOfTrailingZeros_0f7a4 30 = .ok (.bipush 16, 2) := by decide +kernel
theorem dJ6_numberOfTrailingZeros_0f7a4_32 : decode cJ6_numberOfTrailingZeros_0f7a4 32 = .ok (.iushr, 1) := by decide +kernel
theorem dJ6_numberOfTrailingZeros_0f7a4_33 : decode cJ6_numberOfTrailingZeros_0f7a4 33 = .ok (.istore_n 0, 1) := by decide +kernel
theorem dJ6_numberOfTrailingZeros_0f7a4_34 : decode cJ6_numberOfTrailingZeros_0f7a4 34 = .ok (.iload_n 0, 1) := by decide +kernel
theorem dJ6_numberOfTrailingZeros_0f7a4_35 : decode cJ6_numberOfTrailingZeros_0f7a4 35 = .ok (.sipush 256, 3) := by decide +kernel
theorem dJ6_numberOfTrailingZeros_0f7a4_38 : decode cJ6_numberOfTrailingZeros_0f7a4 38 = .ok (.if_icmp .le 11, 3) := by decide +kernel
theorem dJ6_numberOfTrailingZeros_0f7a4_41 : decode cJ6_numberOfTrailingZeros_0f7a4 41 = .ok (.iinc 1 8, 3) := by decide +kernel
theorem dJ6_numberOfTrailingZeros_0f7a4_44 : decode cJ6_numberOfTrailingZeros_0f7a4 44 = .ok (.iload_n 0, 1) := by decide +kernel
theorem dJ6_numberOfTrailingZeros_0f7a4_45 : decode cJ6_numberOfTrailingZeros_0f7a4 45 = .ok (.bipush 8, 2) := by decide +kernel
theorem dJ6_numberOfTrailingZeros_0f7a4_47 : decode cJ6_numberOfTrailingZeros_0f7a4 47 = .ok (.iushr, 1) := by decide +kernel
theorem dJ6_numberOfTrailingZeros_0f7a4_48 : decode cJ6_numberOfTrailingZeros_0f7a4 48 = .ok (.istore_n 0, 1) := by decide +kernel
theorem dJ6_numberOfTrailingZeros_0f7a4_49 : decode cJ6_numberOfTrailingZeros_0f7a4 49 = .ok (.iload_n 0, 1) := by decide +kernel
theorem dJ6_numberOfTrailingZeros_0f7a4_50 : decode cJ6_numberOfTrailingZeros_0f7a4 50 = .ok (.bipush 16, 2) := by decide +kernel
theorem dJ6_numberOfTrailingZeros_0f7a4_52 : decode cJ6_numberOfTrailingZeros_0f7a4 52 = .ok (.if_icmp .le 10, 3) := by decide +kernel
theorem dJ6_numberOfTrailingZeros_0f7a4_55 : decode cJ6_numberOfTrailingZeros_0f7a4 55 = .ok (.iinc 1 4, 3) := by decide +kernel
theorem dJ6_numberOfTrailingZeros_0f7a4_58 : decode cJ6_numberOfTrailingZeros_0f7a4 58 = .ok (.iload_n 0, 1) := by decide +kernel
theorem dJ6_numberOfTrailingZeros_0f7a4_59 : decode cJ6_numberOfTrailingZeros_0f7a4 59 = .ok (.iconst 4, 1) := by decide +kernel
theorem dJ6_numberOfTrailingZeros_0f7a4_60 : decode cJ6_numberOfTrailingZeros_0f7a4 60 = .ok (.iushr, 1) := by decide +kernel
theorem dJ6_numberOfTrailingZeros_0f7a4_61 : decode cJ6_numberOfTrailingZeros_0f7a4 61 = .ok (.istore_n 0, 1) := by decide +kernel
theorem dJ6_numberOfTrailingZeros_0f7a4_62 : decode cJ6_numberOfTrailingZeros_0f7a4 62 = .ok (.iload_n 0, 1) := by decide +kernel
theorem dJ6_numberOfTrailingZeros_0f7a4_63 : decode cJ6_numberOfTrailingZeros_0f7a4 63 = .ok (.iconst 4, 1) := by decide +kernel
theorem dJ6_numberOfTrailingZeros_0f7a4_64 : decode cJ6_numberOfTrailingZeros_0f7a4 64 = .ok (.if_icmp .le 10, 3) := by decide +kernel
theorem dJ6_numberOfTrailingZeros_0f7a4_67 : decode cJ6_numberOfTrailingZeros_0f7a4 67 = .ok (.iinc 1 2, 3) := by decide +kernel
theorem dJ6_numberOfTrailingZeros_0f7a4_70 : decode cJ6_numberOfTrailingZeros_0f7a4 70 = .ok (.iload_n 0, 1) := by decide +kernel
theorem dJ6_numberOfTrailingZeros_0f7a4_71 : decode cJ6_numberOfTrailingZeros_0f7a4 71 = .ok (.iconst 2, 1) := by decide +kernel
theorem dJ6_numberOfTrailingZeros_0f7a4_72 : decode cJ6_numberOfTrailingZeros_0f7a4 72 = .ok (.iushr, 1) := by decide +kernel
theorem dJ6_numberOfTrailingZeros_0f7a4_73 : decode cJ6_numberOfTrailingZeros_0f7a4 73 = .ok (.istore_n 0, 1) := by decide +kernel
theorem dJ6_numberOfTrailingZeros_0f7a4_74 : decode cJ6_numberOfTrailingZeros_0f7a4 74 = .ok (.iload_n 1, 1) := by decide +kernel
theorem dJ6_numberOfTrailingZeros_0f7a4_75 : decode cJ6_numberOfTrailingZeros_0f7a4 75 = .ok (.iload_n 0, 1) := by decide +kernel
theorem dJ6_numberOfTrailingZeros_0f7a4_76 : decode cJ6_numberOfTrailingZeros_0f7a4 76 = .ok (.iconst 1, 1) := by decide +kernel
theorem dJ6_numberOfTrailingZeros_0f7a4_77 : decode cJ6_numberOfTrailingZeros_0f7a4 77 = .ok (.iushr, 1) := by decide +kernel
theorem dJ6_numberOfTrailingZeros_0f7a4_78 : decode cJ6_numberOfTrailingZeros_0f7a4 78 = .ok (.iadd, 1) := by decide +kernel
theorem dJ6_numberOfTrailingZeros_0f7a4_79 : decode cJ6_numberOfTrailingZeros_0f7a4 79 = .ok (.ireturn, 1) := by decide +kernel
theorem dJ6_bitCount_0f7a4_0 : decode cJ6_bitCount_0f7a4 0 = .ok (.iload_n 0, 1) := by decide +kernel
theorem dJ6_bitCount_0f7a4_1 : decode cJ6_bitCount_0f7a4 1 = .ok (.iload_n 0, 1) := by decide +kernel
theorem dJ6_bitCount_0f7a4_2 : decode cJ6_bitCount_0f7a4 2 = .ok (.iconst 1, 1) := by decide +kernel
theorem dJ6_bitCount_0f7a4_3 : decode cJ6_bitCount_0f7a4 3 = .ok (.iushr, 1) := by decide +kernel
theorem dJ6_bitCount_0f7a4_4 : decode cJ6_bitCount_0f7a4 4 = .ok (.ldc_w 265, 3) := by decide +kernel
theorem dJ6_bitCount_0f7a4_7 : decode cJ6_bitCount_0f7a4 7 = .ok (.iand, 1) := by decide +kernel
theorem dJ6_bitCount_0f7a4_8 : decode cJ6_bitCount_0f7a4 8 = .ok (.isub, 1) := by decide +kernel
theorem dJ6_bitCount_0f7a4_9 : decode cJ6_bitCount_0f7a4 9 = .ok (.istore_n 0, 1) := by decide +kernel
theorem dJ6_bitCount_0f7a4_10 : decode cJ6_bitCount_0f7a4 10 = .ok (.iload_n 0, 1) := by decide +kernel
theorem dJ6_bitCount_0f7a4_11 : decode cJ6_bitCount_0f7a4 11 = .ok (.ldc_w 266, 3) := by decide +kernel
theorem dJ6_bitCount_0f7a4_14 : decode cJ6_bitCount_0f7a4 14 = .ok (.iand, 1) := by decide +kernel
theorem dJ6_bitCount_0f7a4_15 : decode cJ6_bitCount_0f7a4 15 = .ok (.iload_n 0, 1) := by decide +kernel
theorem dJ6_bitCount_0f7a4_16 : decode cJ6_bitCount_0f7a4 16 = .ok (.iconst 2, 1) := by decide +kernel
theorem dJ6_bitCount_0f7a4_17 : decode cJ6_bitCount_0f7a4 17 = .ok (.iushr, 1) := by decide +kernel
theorem dJ6_bitCount_0f7a4_18 : decode cJ6_bitCount_0f7a4 18 = .ok (.ldc_w 266, 3) := by decide +kernel
theorem dJ6_bitCount_0f7a4_21 : decode cJ6_bitCount_0f7a4 21 = .ok (.iand, 1) := by decide +kernel
theorem dJ6_bitCount_0f7a4_22 : decode cJ6_bitCount_0f7a4 22 = .ok (.iadd, 1) := by decide +kernel
theorem dJ6_bitCount_0f7a4_23 : decode cJ6_bitCount_0f7a4 23 = .ok (.istore_n 0, 1) := by decide +kernel
theorem dJ6_bitCount_0f7a4_24 : decode cJ6_bitCount_0f7a4 24 = .ok (.iload_n 0, 1) := by decide +kernel
theorem dJ6_bitCount_0f7a4_25 : decode cJ6_bitCount_0f7a4 25 = .ok (.iload_n 0, 1) := by decide +kernel
theorem dJ6_bitCount_0f7a4_26 : decode cJ6_bitCount_0f7a4 26 = .ok (.iconst 4, 1) := by decide +kernel
theorem dJ6_bitCount_0f7a4_27 : decode cJ6_bitCount_0f7a4 27 = .ok (.iushr, 1) := by decide +kernel
theorem dJ6_bitCount_0f7a4_28 : decode cJ6_bitCount_0f7a4 28 = .ok (.iadd, 1) := by decide +kernel
theorem dJ6_bitCount_0f7a4_29 : decode cJ6_bitCount_0f7a4 29 = .ok (.ldc_w 267, 3) := by decide +kernel
theorem dJ6_bitCount_0f7a4_32 : decode cJ6_bitCount_0f7a4 32 = .ok (.iand, 1) := by decide +kernel
theorem dJ6_bitCount_0f7a4_33 : decode cJ6_bitCount_0f7a4 33 = .ok (.istore_n 0, 1) := by decide +kernel
theorem dJ6_bitCount_0f7a4_34 : decode cJ6_bitCount_0f7a4 34 = .ok (.iload_n 0, 1) := by decide +kernel
theorem dJ6_bitCount_0f7a4_35 : decode cJ6_bitCount_0f7a4 35 = .ok (.iload_n 0, 1) := by decide +kernel
theorem dJ6_bitCount_0f7a4_36 : decode cJ6_bitCount_0f7a4 36 = .ok (.bipush 8, 2) := by decide +kernel
theorem dJ6_bitCount_0f7a4_38 : decode cJ6_bitCount_0f7a4 38 = .ok (.iushr, 1) := by decide +kernel
theorem dJ6_bitCount_0f7a4_39 : decode cJ6_bitCount_0f7a4 39 = .ok (.iadd, 1) := by decide +kernel
theorem dJ6_bitCount_0f7a4_40 : decode cJ6_bitCount_0f7a4 40 = .ok (.istore_n 0, 1) := by decide +kernel
theorem dJ6_bitCount_0f7a4_41 : decode cJ6_bitCount_0f7a4 41 = .ok (.iload_n 0, 1) := by decide +kernel
theorem dJ6_bitCount_0f7a4_42 : decode cJ6_bitCount_0f7a4 42 = .ok (.iload_n 0, 1) := by decide +kernel
theorem dJ6_bitCount_0f7a4_43 : decode cJ6_bitCount_0f7a4 43 = .ok (.bipush 16, 2) := by decide +kernel
theorem dJ6_bitCount_0f7a4_45 : decode cJ6_bitCount_0f7a4 45 = .ok (.iushr, 1) := by decide +kernel
theorem dJ6_bitCount_0f7a4_46 : decode cJ6_bitCount_0f7a4 46 = .ok (.iadd, 1) := by decide +kernel
theorem dJ6_bitCount_0f7a4_47 : decode cJ6_bitCount_0f7a4 47 = .ok (.istore_n 0, 1) := by decide +kernel
theorem dJ6_bitCount_0f7a4_48 : decode cJ6_bitCount_0f7a4 48 = .ok (.iload_n 0, 1) := by decide +kernel
theorem dJ6_bitCount_0f7a4_49 : decode cJ6_bitCount_0f7a4 49 = .ok (.bipush 63, 2) := by decide +kernel
theorem dJ6_bitCount_0f7a4_51 : decode cJ6_bitCount_0f7a4 51 = .ok (.iand, 1) := by decide +kernel
theorem dJ6_bitCount_0f7a4_52 : decode cJ6_bitCount_0f7a4 52 = .ok (.ireturn, 1) := by decide +kernel
theorem dJ13_numberOfTrailingZeros_95d88_0 : decode cJ13_numberOfTrailingZeros_95d88 0 = .ok (.lload_n 0, 1) := by decide +kernel
theorem dJ13_numberOfTrailingZeros_95d88_1 : decode cJ13_numberOfTrailingZeros_95d88 1 = .ok (.l2i, 1) := by decide +kernel
theorem dJ13_numberOfTrailingZeros_95d88_2 : decode cJ13_numberOfTrailingZeros_95d88 2 = .ok (.istore_n 2, 1) := by decide +kernel
theorem dJ13_numberOfTrailingZeros_95d88_3 : decode cJ13_numberOfTrailingZeros_95d88 3 = .ok (.iload_n 2, 1) := by decide +kernel
theorem dJ13_numberOfTrailingZeros_95d88_4 : decode cJ13_numberOfTrailingZeros_95d88 4 = .ok (.ifCond .ne 17, 3) := by decide +kernel
theorem dJ13_numberOfTrailingZeros_95d88_7 : decode cJ13_numberOfTrailingZeros_95d88 7 = .ok (.bipush 32, 2) := by decide +kernel
theorem dJ13_numberOfTrailingZeros_95d88_9 : decode cJ13_numberOfTrailingZeros_95d88 9 = .ok (.lload_n 0, 1) := by decide +kernel
theorem dJ13_numberOfTrailingZeros_95d88_10 : decode cJ13_numberOfTrailingZeros_95d88 10 = .ok (.bipush 32, 2) := by decide +kernel
theorem dJ13_numberOfTrailingZeros_95d88_12 : decode cJ13_numberOfTrailingZeros_95d88 12 = .ok (.lushr, 1) := by decide +kernel
theorem dJ13_numberOfTrailingZeros_95d88_13 : decode cJ13_numberOfTrailingZeros_95d88 13 = .ok (.l2i, 1) := by decide +kernel
theorem dJ13_numberOfTrailingZeros_95d88_14 : decode cJ13_numberOfTrailingZeros_95d88 14 = .ok (.invokestatic 311, 3) := by decide +kernel
theorem dJ13_numberOfTrailingZeros_95d88_17 : decode cJ13_numberOfTrailingZeros_95d88 17 = .ok (.iadd, 1) := by decide +kernel
theorem dJ13_numberOfTrailingZeros_95d88_18 : decode cJ13_numberOfTrailingZeros_95d88 18 = .ok (.goto 7, 3) := by decide +kernel
theorem dJ13_numberOfTrailingZeros_95d88_21 : decode cJ13_numberOfTrailingZeros_95d88 21 = .ok (.iload_n 2, 1) := by decide +kernel
theorem dJ13_numberOfTrailingZeros_95d88_22 : decode cJ13_numberOfTrailingZeros_95d88 22 = .ok (.invokestatic 311, 3) := by decide +kernel
theorem dJ13_numberOfTrailingZeros_95d88_25 : decode cJ13_numberOfTrailingZeros_95d88 25 = .ok (.ireturn, 1) := by decide +kernel
theorem dJ9_max_7cf53_0 : decode cJ9_max_7cf53 0 = .ok (.iload_n 0, 1) := by decide +kernel
theorem dJ9_max_7cf53_1 : decode cJ9_max_7cf53 1 = .ok (.iload_n 1, 1) := by decide +kernel
theorem dJ9_max_7cf53_2 : decode cJ9_max_7cf53 2 = .ok (.if_icmp .lt 7, 3) := by decide +kernel
theorem dJ9_max_7cf53_5 : decode cJ9_max_7cf53 5 = .ok (.iload_n 0, 1) := by decide +kernel
theorem dJ9_max_7cf53_6 : decode cJ9_max_7cf53 6 = .ok (.goto 4, 3) := by decide +kernel
theorem dJ9_max_7cf53_9 : decode cJ9_max_7cf53 9 = .ok (.iload_n 1, 1) := by decide +kernel
theorem dJ9_max_7cf53_10 : decode cJ9_max_7cf53 10 = .ok (.ireturn, 1) := by decide +kernel
theorem dJ9_min_7cf53_0 : decode cJ9_min_7cf53 0 = .ok (.iload_n 0, 1) := by decide +kernel
theorem dJ9_min_7cf53_1 : decode cJ9_min_7cf53 1 = .ok (.iload_n 1, 1) := by decide +kernel
theorem dJ9_min_7cf53_2 : decode cJ9_min_7cf53 2 = .ok (.if_icmp .gt 7, 3) := by decide +kernel
theorem dJ9_min_7cf53_5 : decode cJ9_min_7cf53 5 = .ok (.iload_n 0, 1) := by decide +kernel
theorem dJ9_min_7cf53_6 : decode cJ9_min_7cf53 6 = .ok (.goto 4, 3) := by decide +kernel
theorem dJ9_min_7cf53_9 : decode cJ9_min_7cf53 9 = .ok (.iload_n 1, 1) := by decide +kernel
theorem dJ9_min_7cf53_10 : decode cJ9_min_7cf53 10 = .ok (.ireturn, 1) := by decide +kernel
