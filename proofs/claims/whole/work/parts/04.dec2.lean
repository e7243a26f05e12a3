theorem dX11_init_0 : decode cX11_init 0 = .ok (.aload_n 0, 1) := by decide +kernel
theorem dX11_init_1 : decode cX11_init 1 = .ok (.invokespecial 3, 3) := by decide +kernel
theorem dX11_init_4 : decode cX11_init 4 = .ok (.aload_n 0, 1) := by decide +kernel
theorem dX11_init_5 : decode cX11_init 5 = .ok (.bipush 12, 2) := by decide +kernel
theorem dX11_init_7 : decode cX11_init 7 = .ok (.anewarray 11, 3) := by decide +kernel
theorem dX11_init_10 : decode cX11_init 10 = .ok (.putfield 13, 3) := by decide +kernel
theorem dX11_init_13 : decode cX11_init 13 = .ok (.aload_n 0, 1) := by decide +kernel
theorem dX11_init_14 : decode cX11_init 14 = .ok (.bipush 6, 2) := by decide +kernel
theorem dX11_init_16 : decode cX11_init 16 = .ok (.anewarray 17, 3) := by decide +kernel
theorem dX11_init_19 : decode cX11_init 19 = .ok (.putfield 19, 3) := by decide +kernel
theorem dX11_init_22 : decode cX11_init 22 = .ok (.aload_n 0, 1) := by decide +kernel
theorem dX11_init_23 : decode cX11_init 23 = .ok (.bipush 9, 2) := by decide +kernel
theorem dX11_init_25 : decode cX11_init 25 = .ok (.anewarray 23, 3) := by decide +kernel
theorem dX11_init_28 : decode cX11_init 28 = .ok (.putfield 25, 3) := by decide +kernel
theorem dX11_init_31 : decode cX11_init 31 = .ok (.aload_n 0, 1) := by decide +kernel
theorem dX11_init_32 : decode cX11_init 32 = .ok (.iconst 4, 1) := by decide +kernel
theorem dX11_init_33 : decode cX11_init 33 = .ok (.anewarray 29, 3) := by decide +kernel
theorem dX11_init_36 : decode cX11_init 36 = .ok (.putfield 31, 3) := by decide +kernel
theorem dX11_init_39 : decode cX11_init 39 = .ok (.aload_n 0, 1) := by decide +kernel
theorem dX11_init_40 : decode cX11_init 40 = .ok (.new 35, 3) := by decide +kernel
theorem dX11_init_43 : decode cX11_init 43 = .ok (.dup, 1) := by decide +kernel
theorem dX11_init_44 : decode cX11_init 44 = .ok (.invokespecial 37, 3) := by decide +kernel
theorem dX11_init_47 : decode cX11_init 47 = .ok (.putfield 38, 3) := by decide +kernel
theorem dX11_init_50 : decode cX11_init 50 = .ok (.aload_n 0, 1) := by decide +kernel
theorem dX11_init_51 : decode cX11_init 51 = .ok (.new 42, 3) := by decide +kernel
theorem dX11_init_54 : decode cX11_init 54 = .ok (.dup, 1) := by decide +kernel
theorem dX11_init_55 : decode cX11_init 55 = .ok (.invokespecial 44, 3) := by decide +kernel
theorem dX11_init_58 : decode cX11_init 58 = .ok (.putfield 45, 3) := by decide +kernel
theorem dX11_init_61 : decode cX11_init 61 = .ok (.aload_n 0, 1) := by decide +kernel
theorem dX11_init_62 : decode cX11_init 62 = .ok (.new 49, 3) := by decide +kernel
theorem dX11_init_65 : decode cX11_init 65 = .ok (.dup, 1) := by decide +kernel
theorem dX11_init_66 : decode cX11_init 66 = .ok (.invokespecial 51, 3) := by decide +kernel
theorem dX11_init_69 : decode cX11_init 69 = .ok (.putfield 52, 3) := by decide +kernel
theorem dX11_init_72 : decode cX11_init 72 = .ok (.aload_n 0, 1) := by decide +kernel
theorem dX11_init_73 : decode cX11_init 73 = .ok (.new 56, 3) := by decide +kernel
theorem dX11_init_76 : decode cX11_init 76 = .ok (.dup, 1) := by decide +kernel
theorem dX11_init_77 : decode cX11_init 77 = .ok (.invokespecial 58, 3) := by decide +kernel
theorem dX11_init_80 : decode cX11_init 80 = .ok (.putfield 59, 3) := by decide +kernel
theorem dX11_init_83 : decode cX11_init 83 = .ok (.iconst 0, 1) := by decide +kernel
theorem dX11_init_84 : decode cX11_init 84 = .ok (.istore_n 1, 1) := by decide +kernel
theorem dX11_init_85 : decode cX11_init 85 = .ok (.iload_n 1, 1) := by decide +kernel
theorem dX11_init_86 : decode cX11_init 86 = .ok (.iconst 4, 1) := by decide +kernel
theorem dX11_init_87 : decode cX11_init 87 = .ok (.if_icmp .ge 22, 3) := by decide +kernel
theorem dX11_init_90 : decode cX11_init 90 = .ok (.aload_n 0, 1) := by decide +kernel
theorem dX11_init_91 : decode cX11_init 91 = .ok (.getfield 31, 3) := by decide +kernel
theorem dX11_init_94 : decode cX11_init 94 = .ok (.iload_n 1, 1) := by decide +kernel
theorem dX11_init_95 : decode cX11_init 95 = .ok (.new 29, 3) := by decide +kernel
theorem dX11_init_98 : decode cX11_init 98 = .ok (.dup, 1) := by decide +kernel
theorem dX11_init_99 : decode cX11_init 99 = .ok (.invokespecial 63, 3) := by decide +kernel
theorem dX11_init_102 : decode cX11_init 102 = .ok (.aastore, 1) := by decide +kernel
theorem dX11_init_103 : decode cX11_init 103 = .ok (.iinc 1 1, 3) := by decide +kernel
theorem dX11_init_106 : decode cX11_init 106 = .ok (.goto (-21), 3) := by decide +kernel
theorem dX11_init_109 : decode cX11_init 109 = .ok (.return_, 1) := by decide +kernel
theorem dX11_picture_0 : decode cX11_picture 0 = .ok (.aload_n 0, 1) := by decide +kernel
theorem dX11_picture_1 : decode cX11_picture 1 = .ok (.iconst 0, 1) := by decide +kernel
theorem dX11_picture_2 : decode cX11_picture 2 = .ok (.putfield 64, 3) := by decide +kernel
theorem dX11_picture_5 : decode cX11_picture 5 = .ok (.aload_n 0, 1) := by decide +kernel
theorem dX11_picture_6 : decode cX11_picture 6 = .ok (.iload_n 3, 1) := by decide +kernel
theorem dX11_picture_7 : decode cX11_picture 7 = .ok (.invokevirtual 68, 3) := by decide +kernel
theorem dX11_picture_10 : decode cX11_picture 10 = .ok (.astore 6, 2) := by decide +kernel
theorem dX11_picture_12 : decode cX11_picture 12 = .ok (.aload 6, 2) := by decide +kernel
theorem dX11_picture_14 : decode cX11_picture 14 = .ok (.ifnonnull 5, 3) := by decide +kernel
theorem dX11_picture_17 : decode cX11_picture 17 = .ok (.iconst (-1), 1) := by decide +kernel
theorem dX11_picture_18 : decode cX11_picture 18 = .ok (.ireturn, 1) := by decide +kernel
theorem dX11_picture_19 : decode cX11_picture 19 = .ok (.iload_n 1, 1) := by decide +kernel
theorem dX11_picture_20 : decode cX11_picture 20 = .ok (.iconst 1, 1) := by decide +kernel
theorem dX11_picture_21 : decode cX11_picture 21 = .ok (.iconst 4, 1) := by decide +kernel
theorem dX11_picture_22 : decode cX11_picture 22 = .ok (.invokestatic 72, 3) := by decide +kernel
theorem dX11_picture_25 : decode cX11_picture 25 = .ok (.ifCond .eq 20, 3) := by decide +kernel
theorem dX11_picture_28 : decode cX11_picture 28 = .ok (.iload_n 2, 1) := by decide +kernel
theorem dX11_picture_29 : decode cX11_picture 29 = .ok (.iconst 1, 1) := by decide +kernel
theorem dX11_picture_30 : decode cX11_picture 30 = .ok (.iconst 4, 1) := by decide +kernel
theorem dX11_picture_31 : decode cX11_picture 31 = .ok (.invokestatic 72, 3) := by decide +kernel
theorem dX11_picture_34 : decode cX11_picture 34 = .ok (.ifCond .eq 11, 3) := by decide +kernel
theorem dX11_picture_37 : decode cX11_picture 37 = .ok (.iload 4, 2) := by decide +kernel
theorem dX11_picture_39 : decode cX11_picture 39 = .ok (.invokestatic 76, 3) := by decide +kernel
theorem dX11_picture_42 : decode cX11_picture 42 = .ok (.ifCond .ne 6, 3) := by decide +kernel
theorem dX11_picture_45 : decode cX11_picture 45 = .ok (.bipush (-2), 2) := by decide +kernel
theorem dX11_picture_47 : decode cX11_picture 47 = .ok (.ireturn, 1) := by decide +kernel
theorem dX11_picture_48 : decode cX11_picture 48 = .ok (.aload 6, 2) := by decide +kernel
theorem dX11_picture_50 : decode cX11_picture 50 = .ok (.iload 4, 2) := by decide +kernel
theorem dX11_picture_52 : decode cX11_picture 52 = .ok (.iload 5, 2) := by decide +kernel
theorem dX11_picture_54 : decode cX11_picture 54 = .ok (.iload_n 1, 1) := by decide +kernel
theorem dX11_picture_55 : decode cX11_picture 55 = .ok (.iload_n 2, 1) := by decide +kernel
theorem dX11_picture_56 : decode cX11_picture 56 = .ok (.imul, 1) := by decide +kernel
theorem dX11_picture_57 : decode cX11_picture 57 = .ok (.invokevirtual 80, 3) := by decide +kernel
theorem dX11_picture_60 : decode cX11_picture 60 = .ok (.istore 7, 2) := by decide +kernel
theorem dX11_picture_62 : decode cX11_picture 62 = .ok (.iload 7, 2) := by decide +kernel
theorem dX11_picture_64 : decode cX11_picture 64 = .ok (.ifCond .eq 10, 3) := by decide +kernel
theorem dX11_picture_67 : decode cX11_picture 67 = .ok (.aload_n 0, 1) := by decide +kernel
theorem dX11_picture_68 : decode cX11_picture 68 = .ok (.iload 7, 2) := by decide +kernel
theorem dX11_picture_70 : decode cX11_picture 70 = .ok (.invokevirtual 84, 3) := by decide +kernel
theorem dX11_picture_73 : decode cX11_picture 73 = .ok (.ireturn, 1) := by decide +kernel
theorem dX11_picture_74 : decode cX11_picture 74 = .ok (.aload 6, 2) := by decide +kernel
theorem dX11_picture_76 : decode cX11_picture 76 = .ok (.iload 5, 2) := by decide +kernel
theorem dX11_picture_78 : decode cX11_picture 78 = .ok (.iload_n 1, 1) := by decide +kernel
theorem dX11_picture_79 : decode cX11_picture 79 = .ok (.iload_n 2, 1) := by decide +kernel
theorem dX11_picture_80 : decode cX11_picture 80 = .ok (.imul, 1) := by decide +kernel
theorem dX11_picture_81 : decode cX11_picture 81 = .ok (.invokevirtual 88, 3) := by decide +kernel
theorem dX11_picture_84 : decode cX11_picture 84 = .ok (.ifCond .ne 6, 3) := by decide +kernel
theorem dX11_picture_87 : decode cX11_picture 87 = .ok (.bipush (-2), 2) := by decide +kernel
theorem dX11_picture_89 : decode cX11_picture 89 = .ok (.ireturn, 1) := by decide +kernel
theorem dX11_picture_90 : decode cX11_picture 90 = .ok (.aload_n 0, 1) := by decide +kernel
theorem dX11_picture_91 : decode cX11_picture 91 = .ok (.getfield 92, 3) := by decide +kernel
theorem dX11_picture_94 : decode cX11_picture 94 = .ok (.bipush 12, 2) := by decide +kernel
theorem dX11_picture_96 : decode cX11_picture 96 = .ok (.if_icmp .lt 6, 3) := by decide +kernel
theorem dX11_picture_99 : decode cX11_picture 99 = .ok (.bipush (-4), 2) := by decide +kernel
theorem dX11_picture_101 : decode cX11_picture 101 = .ok (.ireturn, 1) := by decide +kernel
theorem dX11_picture_102 : decode cX11_picture 102 = .ok (.aload_n 0, 1) := by decide +kernel
theorem dX11_picture_103 : decode cX11_picture 103 = .ok (.invokevirtual 95, 3) := by decide +kernel
theorem dX11_picture_106 : decode cX11_picture 106 = .ok (.astore 8, 2) := by decide +kernel
theorem dX11_picture_108 : decode cX11_picture 108 = .ok (.aload 8, 2) := by decide +kernel
theorem dX11_picture_110 : decode cX11_picture 110 = .ok (.iload_n 1, 1) := by decide +kernel
theorem dX11_picture_111 : decode cX11_picture 111 = .ok (.iload_n 2, 1) := by decide +kernel
theorem dX11_picture_112 : decode cX11_picture 112 = .ok (.aload 6, 2) := by decide +kernel
theorem dX11_picture_114 : decode cX11_picture 114 = .ok (.iload 5, 2) := by decide +kernel
theorem dX11_picture_116 : decode cX11_picture 116 = .ok (.invokevirtual 99, 3) := by decide +kernel
theorem dX11_picture_119 : decode cX11_picture 119 = .ok (.aload 8, 2) := by decide +kernel
theorem dX11_picture_121 : decode cX11_picture 121 = .ok (.getfield 103, 3) := by decide +kernel
theorem dX11_picture_124 : decode cX11_picture 124 = .ok (.ireturn, 1) := by decide +kernel
theorem dX11_ofPicture_0 : decode cX11_ofPicture 0 = .ok (.aload_n 0, 1) := by decide +kernel
theorem dX11_ofPicture_1 : decode cX11_ofPicture 1 = .ok (.iload_n 1, 1) := by decide +kernel
theorem dX11_ofPicture_2 : decode cX11_ofPicture 2 = .ok (.invokevirtual 106, 3) := by decide +kernel
theorem dX11_ofPicture_5 : decode cX11_ofPicture 5 = .ok (.astore_n 3, 1) := by decide +kernel
theorem dX11_ofPicture_6 : decode cX11_ofPicture 6 = .ok (.aload_n 3, 1) := by decide +kernel
theorem dX11_ofPicture_7 : decode cX11_ofPicture 7 = .ok (.ifnonnull 5, 3) := by decide +kernel
theorem dX11_ofPicture_10 : decode cX11_ofPicture 10 = .ok (.iconst (-1), 1) := by decide +kernel
theorem dX11_ofPicture_11 : decode cX11_ofPicture 11 = .ok (.ireturn, 1) := by decide +kernel
theorem dX11_ofPicture_12 : decode cX11_ofPicture 12 = .ok (.iload_n 2, 1) := by decide +kernel
theorem dX11_ofPicture_13 : decode cX11_ofPicture 13 = .ok (.tableswitch 55 0 3 #[31, 36, 41, 46], 31) := by decide +kernel
theorem dX11_ofPicture_44 : decode cX11_ofPicture 44 = .ok (.aload_n 3, 1) := by decide +kernel
theorem dX11_ofPicture_45 : decode cX11_ofPicture 45 = .ok (.getfield 110, 3) := by decide +kernel
theorem dX11_ofPicture_48 : decode cX11_ofPicture 48 = .ok (.ireturn, 1) := by decide +kernel
theorem dX11_ofPicture_49 : decode cX11_ofPicture 49 = .ok (.aload_n 3, 1) := by decide +kernel
theorem dX11_ofPicture_50 : decode cX11_ofPicture 50 = .ok (.getfield 113, 3) := by decide +kernel
theorem dX11_ofPicture_53 : decode cX11_ofPicture 53 = .ok (.ireturn, 1) := by decide +kernel
theorem dX11_ofPicture_54 : decode cX11_ofPicture 54 = .ok (.aload_n 3, 1) := by decide +kernel
theorem dX11_ofPicture_55 : decode cX11_ofPicture 55 = .ok (.invokevirtual 116, 3) := by decide +kernel
theorem dX11_ofPicture_58 : decode cX11_ofPicture 58 = .ok (.ireturn, 1) := by decide +kernel
theorem dX11_ofPicture_59 : decode cX11_ofPicture 59 = .ok (.aload_n 0, 1) := by decide +kernel
theorem dX11_ofPicture_60 : decode cX11_ofPicture 60 = .ok (.getfield 38, 3) := by decide +kernel
theorem dX11_ofPicture_63 : decode cX11_ofPicture 63 = .ok (.aload_n 3, 1) := by decide +kernel
theorem dX11_ofPicture_64 : decode cX11_ofPicture 64 = .ok (.invokevirtual 120, 3) := by decide +kernel
theorem dX11_ofPicture_67 : decode cX11_ofPicture 67 = .ok (.ireturn, 1) := by decide +kernel
theorem dX11_ofPicture_68 : decode cX11_ofPicture 68 = .ok (.iload_n 2, 1) := by decide +kernel
theorem dX11_ofPicture_69 : decode cX11_ofPicture 69 = .ok (.bipush 10, 2) := by decide +kernel
theorem dX11_ofPicture_71 : decode cX11_ofPicture 71 = .ok (.if_icmp .lt 14, 3) := by decide +kernel
theorem dX11_ofPicture_74 : decode cX11_ofPicture 74 = .ok (.aload_n 3, 1) := by decide +kernel
theorem dX11_ofPicture_75 : decode cX11_ofPicture 75 = .ok (.iload_n 2, 1) := by decide +kernel
theorem dX11_ofPicture_76 : decode cX11_ofPicture 76 = .ok (.bipush 10, 2) := by decide +kernel
theorem dX11_ofPicture_78 : decode cX11_ofPicture 78 = .ok (.isub, 1) := by decide +kernel
theorem dX11_ofPicture_79 : decode cX11_ofPicture 79 = .ok (.invokevirtual 124, 3) := by decide +kernel
theorem dX11_ofPicture_82 : decode cX11_ofPicture 82 = .ok (.ifCond .ne 6, 3) := by decide +kernel
theorem dX11_ofPicture_85 : decode cX11_ofPicture 85 = .ok (.bipush (-2), 2) := by decide +kernel
theorem dX11_ofPicture_87 : decode cX11_ofPicture 87 = .ok (.ireturn, 1) := by decide +kernel
theorem dX11_ofPicture_88 : decode cX11_ofPicture 88 = .ok (.aload_n 3, 1) := by decide +kernel
theorem dX11_ofPicture_89 : decode cX11_ofPicture 89 = .ok (.getfield 127, 3) := by decide +kernel
theorem dX11_ofPicture_92 : decode cX11_ofPicture 92 = .ok (.iload_n 2, 1) := by decide +kernel
theorem dX11_ofPicture_93 : decode cX11_ofPicture 93 = .ok (.bipush 10, 2) := by decide +kernel
theorem dX11_ofPicture_95 : decode cX11_ofPicture 95 = .ok (.isub, 1) := by decide +kernel
theorem dX11_ofPicture_96 : decode cX11_ofPicture 96 = .ok (.iaload, 1) := by decide +kernel
theorem dX11_ofPicture_97 : decode cX11_ofPicture 97 = .ok (.ireturn, 1) := by decide +kernel
theorem dX11_alter_0 : decode cX11_alter 0 = .ok (.aload_n 0, 1) := by decide +kernel
theorem dX11_alter_1 : decode cX11_alter 1 = .ok (.iload_n 1, 1) := by decide +kernel
theorem dX11_alter_2 : decode cX11_alter 2 = .ok (.invokevirtual 106, 3) := by decide +kernel
theorem dX11_alter_5 : decode cX11_alter 5 = .ok (.astore 4, 2) := by decide +kernel
theorem dX11_alter_7 : decode cX11_alter 7 = .ok (.aload 4, 2) := by decide +kernel
theorem dX11_alter_9 : decode cX11_alter 9 = .ok (.ifnull 12, 3) := by decide +kernel
theorem dX11_alter_12 : decode cX11_alter 12 = .ok (.aload 4, 2) := by decide +kernel
theorem dX11_alter_14 : decode cX11_alter 14 = .ok (.iload_n 2, 1) := by decide +kernel
theorem dX11_alter_15 : decode cX11_alter 15 = .ok (.invokevirtual 124, 3) := by decide +kernel
theorem dX11_alter_18 : decode cX11_alter 18 = .ok (.ifCond .ne 5, 3) := by decide +kernel
theorem dX11_alter_21 : decode cX11_alter 21 = .ok (.iconst (-1), 1) := by decide +kernel
theorem dX11_alter_22 : decode cX11_alter 22 = .ok (.ireturn, 1) := by decide +kernel
theorem dX11_alter_23 : decode cX11_alter 23 = .ok (.iload_n 3, 1) := by decide +kernel
theorem dX11_alter_24 : decode cX11_alter 24 = .ok (.iconst 0, 1) := by decide +kernel
theorem dX11_alter_25 : decode cX11_alter 25 = .ok (.bipush 99, 2) := by decide +kernel
theorem dX11_alter_27 : decode cX11_alter 27 = .ok (.invokestatic 72, 3) := by decide +kernel
theorem dX11_alter_30 : decode cX11_alter 30 = .ok (.ifCond .ne 6, 3) := by decide +kernel
theorem dX11_alter_33 : decode cX11_alter 33 = .ok (.bipush (-2), 2) := by decide +kernel
theorem dX11_alter_35 : decode cX11_alter 35 = .ok (.ireturn, 1) := by decide +kernel
theorem dX11_alter_36 : decode cX11_alter 36 = .ok (.aload 4, 2) := by decide +kernel
theorem dX11_alter_38 : decode cX11_alter 38 = .ok (.getfield 127, 3) := by decide +kernel
theorem dX11_alter_41 : decode cX11_alter 41 = .ok (.iload_n 2, 1) := by decide +kernel
theorem dX11_alter_42 : decode cX11_alter 42 = .ok (.iaload, 1) := by decide +kernel
theorem dX11_alter_43 : decode cX11_alter 43 = .ok (.istore 5, 2) := by decide +kernel
theorem dX11_alter_45 : decode cX11_alter 45 = .ok (.aload 4, 2) := by decide +kernel
theorem dX11_alter_47 : decode cX11_alter 47 = .ok (.getfield 127, 3) := by decide +kernel
theorem dX11_alter_50 : decode cX11_alter 50 = .ok (.iload_n 2, 1) := by decide +kernel
theorem dX11_alter_51 : decode cX11_alter 51 = .ok (.iload_n 3, 1) := by decide +kernel
theorem dX11_alter_52 : decode cX11_alter 52 = .ok (.iastore, 1) := by decide +kernel
theorem dX11_alter_53 : decode cX11_alter 53 = .ok (.iload 5, 2) := by decide +kernel
theorem dX11_alter_55 : decode cX11_alter 55 = .ok (.ireturn, 1) := by decide +kernel
theorem dX11_lens_0 : decode cX11_lens 0 = .ok (.iload_n 1, 1) := by decide +kernel
theorem dX11_lens_1 : decode cX11_lens 1 = .ok (.iconst 1, 1) := by decide +kernel
theorem dX11_lens_2 : decode cX11_lens 2 = .ok (.sipush 9972, 3) := by decide +kernel
theorem dX11_lens_5 : decode cX11_lens 5 = .ok (.invokestatic 72, 3) := by decide +kernel
theorem dX11_lens_8 : decode cX11_lens 8 = .ok (.ifCond .ne 6, 3) := by decide +kernel
theorem dX11_lens_11 : decode cX11_lens 11 = .ok (.bipush (-2), 2) := by decide +kernel
theorem dX11_lens_13 : decode cX11_lens 13 = .ok (.ireturn, 1) := by decide +kernel
theorem dX11_lens_14 : decode cX11_lens 14 = .ok (.aload_n 0, 1) := by decide +kernel
theorem dX11_lens_15 : decode cX11_lens 15 = .ok (.getfield 131, 3) := by decide +kernel
theorem dX11_lens_18 : decode cX11_lens 18 = .ok (.bipush 6, 2) := by decide +kernel
theorem dX11_lens_20 : decode cX11_lens 20 = .ok (.if_icmp .lt 6, 3) := by decide +kernel
theorem dX11_lens_23 : decode cX11_lens 23 = .ok (.bipush (-4), 2) := by decide +kernel
theorem dX11_lens_25 : decode cX11_lens 25 = .ok (.ireturn, 1) := by decide +kernel
theorem dX11_lens_26 : decode cX11_lens 26 = .ok (.aload_n 0, 1) := by decide +kernel
theorem dX11_lens_27 : decode cX11_lens 27 = .ok (.getfield 19, 3) := by decide +kernel
theorem dX11_lens_30 : decode cX11_lens 30 = .ok (.aload_n 0, 1) := by decide +kernel
theorem dX11_lens_31 : decode cX11_lens 31 = .ok (.getfield 131, 3) := by decide +kernel
theorem dX11_lens_34 : decode cX11_lens 34 = .ok (.new 17, 3) := by decide +kernel
theorem dX11_lens_37 : decode cX11_lens 37 = .ok (.dup, 1) := by decide +kernel
theorem dX11_lens_38 : decode cX11_lens 38 = .ok (.aload_n 0, 1) := by decide +kernel
theorem dX11_lens_39 : decode cX11_lens 39 = .ok (.getfield 131, 3) := by decide +kernel
theorem dX11_lens_42 : decode cX11_lens 42 = .ok (.iload_n 1, 1) := by decide +kernel
theorem dX11_lens_43 : decode cX11_lens 43 = .ok (.invokespecial 134, 3) := by decide +kernel
theorem dX11_lens_46 : decode cX11_lens 46 = .ok (.aastore, 1) := by decide +kernel
theorem dX11_lens_47 : decode cX11_lens 47 = .ok (.aload_n 0, 1) := by decide +kernel
theorem dX11_lens_48 : decode cX11_lens 48 = .ok (.dup, 1) := by decide +kernel
theorem dX11_lens_49 : decode cX11_lens 49 = .ok (.getfield 131, 3) := by decide +kernel
theorem dX11_lens_52 : decode cX11_lens 52 = .ok (.dup_x1, 1) := by decide +kernel
theorem dX11_lens_53 : decode cX11_lens 53 = .ok (.iconst 1, 1) := by decide +kernel
theorem dX11_lens_54 : decode cX11_lens 54 = .ok (.iadd, 1) := by decide +kernel
theorem dX11_lens_55 : decode cX11_lens 55 = .ok (.putfield 131, 3) := by decide +kernel
theorem dX11_lens_58 : decode cX11_lens 58 = .ok (.ireturn, 1) := by decide +kernel
theorem dX11_steal_0 : decode cX11_steal 0 = .ok (.aload_n 0, 1) := by decide +kernel
theorem dX11_steal_1 : decode cX11_steal 1 = .ok (.iload_n 1, 1) := by decide +kernel
theorem dX11_steal_2 : decode cX11_steal 2 = .ok (.invokevirtual 137, 3) := by decide +kernel
theorem dX11_steal_5 : decode cX11_steal 5 = .ok (.astore_n 3, 1) := by decide +kernel
theorem dX11_steal_6 : decode cX11_steal 6 = .ok (.aload_n 3, 1) := by decide +kernel
theorem dX11_steal_7 : decode cX11_steal 7 = .ok (.ifnonnull 5, 3) := by decide +kernel
theorem dX11_steal_10 : decode cX11_steal 10 = .ok (.iconst (-1), 1) := by decide +kernel
theorem dX11_steal_11 : decode cX11_steal 11 = .ok (.ireturn, 1) := by decide +kernel
theorem dX11_steal_12 : decode cX11_steal 12 = .ok (.iload_n 2, 1) := by decide +kernel
theorem dX11_steal_13 : decode cX11_steal 13 = .ok (.iconst 0, 1) := by decide +kernel
theorem dX11_steal_14 : decode cX11_steal 14 = .ok (.sipush 1000, 3) := by decide +kernel
theorem dX11_steal_17 : decode cX11_steal 17 = .ok (.invokestatic 72, 3) := by decide +kernel
theorem dX11_steal_20 : decode cX11_steal 20 = .ok (.ifCond .ne 6, 3) := by decide +kernel
theorem dX11_steal_23 : decode cX11_steal 23 = .ok (.bipush (-2), 2) := by decide +kernel
theorem dX11_steal_25 : decode cX11_steal 25 = .ok (.ireturn, 1) := by decide +kernel
theorem dX11_steal_26 : decode cX11_steal 26 = .ok (.aload_n 3, 1) := by decide +kernel
theorem dX11_steal_27 : decode cX11_steal 27 = .ok (.getfield 141, 3) := by decide +kernel
theorem dX11_steal_30 : decode cX11_steal 30 = .ok (.istore 4, 2) := by decide +kernel
theorem dX11_steal_32 : decode cX11_steal 32 = .ok (.aload_n 3, 1) := by decide +kernel
theorem dX11_steal_33 : decode cX11_steal 33 = .ok (.iload_n 2, 1) := by decide +kernel
theorem dX11_steal_34 : decode cX11_steal 34 = .ok (.putfield 141, 3) := by decide +kernel
theorem dX11_steal_37 : decode cX11_steal 37 = .ok (.iload 4, 2) := by decide +kernel
theorem dX11_steal_39 : decode cX11_steal 39 = .ok (.ireturn, 1) := by decide +kernel
theorem dX11_take_0 : decode cX11_take 0 = .ok (.aload_n 0, 1) := by decide +kernel
theorem dX11_take_1 : decode cX11_take 1 = .ok (.iload_n 1, 1) := by decide +kernel
theorem dX11_take_2 : decode cX11_take 2 = .ok (.invokevirtual 106, 3) := by decide +kernel
theorem dX11_take_5 : decode cX11_take 5 = .ok (.astore 4, 2) := by decide +kernel
theorem dX11_take_7 : decode cX11_take 7 = .ok (.aload_n 0, 1) := by decide +kernel
theorem dX11_take_8 : decode cX11_take 8 = .ok (.iload_n 2, 1) := by decide +kernel
theorem dX11_take_9 : decode cX11_take 9 = .ok (.invokevirtual 137, 3) := by decide +kernel
theorem dX11_take_12 : decode cX11_take 12 = .ok (.astore 5, 2) := by decide +kernel
theorem dX11_take_14 : decode cX11_take 14 = .ok (.aload 4, 2) := by decide +kernel
theorem dX11_take_16 : decode cX11_take 16 = .ok (.ifnull 8, 3) := by decide +kernel
theorem dX11_take_19 : decode cX11_take 19 = .ok (.aload 5, 2) := by decide +kernel
theorem dX11_take_21 : decode cX11_take 21 = .ok (.ifnonnull 5, 3) := by decide +kernel
theorem dX11_take_24 : decode cX11_take 24 = .ok (.iconst (-1), 1) := by decide +kernel
theorem dX11_take_25 : decode cX11_take 25 = .ok (.ireturn, 1) := by decide +kernel
theorem dX11_take_26 : decode cX11_take 26 = .ok (.iload_n 3, 1) := by decide +kernel
theorem dX11_take_27 : decode cX11_take 27 = .ok (.invokestatic 144, 3) := by decide +kernel
theorem dX11_take_30 : decode cX11_take 30 = .ok (.ifCond .ne 6, 3) := by decide +kernel
theorem dX11_take_33 : decode cX11_take 33 = .ok (.bipush (-2), 2) := by decide +kernel
theorem dX11_take_35 : decode cX11_take 35 = .ok (.ireturn, 1) := by decide +kernel
theorem dX11_take_36 : decode cX11_take 36 = .ok (.aload 4, 2) := by decide +kernel
theorem dX11_take_38 : decode cX11_take 38 = .ok (.getfield 147, 3) := by decide +kernel
theorem dX11_take_41 : decode cX11_take 41 = .ok (.ifnull 6, 3) := by decide +kernel
theorem dX11_take_44 : decode cX11_take 44 = .ok (.bipush (-3), 2) := by decide +kernel
theorem dX11_take_46 : decode cX11_take 46 = .ok (.ireturn, 1) := by decide +kernel
theorem dX11_take_47 : decode cX11_take 47 = .ok (.aload 4, 2) := by decide +kernel
theorem dX11_take_49 : decode cX11_take 49 = .ok (.new 151, 3) := by decide +kernel
theorem dX11_take_52 : decode cX11_take 52 = .ok (.dup, 1) := by decide +kernel
theorem dX11_take_53 : decode cX11_take 53 = .ok (.aload 5, 2) := by decide +kernel
theorem dX11_take_55 : decode cX11_take 55 = .ok (.iload_n 3, 1) := by decide +kernel
theorem dX11_take_56 : decode cX11_take 56 = .ok (.aload_n 0, 1) := by decide +kernel
theorem dX11_take_57 : decode cX11_take 57 = .ok (.aload 4, 2) := by decide +kernel
theorem dX11_take_59 : decode cX11_take 59 = .ok (.aload 5, 2) := by decide +kernel
theorem dX11_take_61 : decode cX11_take 61 = .ok (.iload_n 3, 1) := by decide +kernel
theorem dX11_take_62 : decode cX11_take 62 = .ok (.invokevirtual 153, 3) := by decide +kernel
theorem dX11_take_65 : decode cX11_take 65 = .ok (.invokespecial 157, 3) := by decide +kernel
theorem dX11_take_68 : decode cX11_take 68 = .ok (.putfield 147, 3) := by decide +kernel
theorem dX11_take_71 : decode cX11_take 71 = .ok (.aload 4, 2) := by decide +kernel
theorem dX11_take_73 : decode cX11_take 73 = .ok (.getfield 147, 3) := by decide +kernel
theorem dX11_take_76 : decode cX11_take 76 = .ok (.getfield 160, 3) := by decide +kernel
theorem dX11_take_79 : decode cX11_take 79 = .ok (.ireturn, 1) := by decide +kernel
theorem dX11_hush_0 : decode cX11_hush 0 = .ok (.aload_n 0, 1) := by decide +kernel
theorem dX11_hush_1 : decode cX11_hush 1 = .ok (.iload_n 1, 1) := by decide +kernel
theorem dX11_hush_2 : decode cX11_hush 2 = .ok (.invokevirtual 106, 3) := by decide +kernel
theorem dX11_hush_5 : decode cX11_hush 5 = .ok (.astore 5, 2) := by decide +kernel
theorem dX11_hush_7 : decode cX11_hush 7 = .ok (.aload_n 0, 1) := by decide +kernel
theorem dX11_hush_8 : decode cX11_hush 8 = .ok (.iload_n 2, 1) := by decide +kernel
theorem dX11_hush_9 : decode cX11_hush 9 = .ok (.invokevirtual 106, 3) := by decide +kernel
theorem dX11_hush_12 : decode cX11_hush 12 = .ok (.astore 6, 2) := by decide +kernel
theorem dX11_hush_14 : decode cX11_hush 14 = .ok (.aload_n 0, 1) := by decide +kernel
theorem dX11_hush_15 : decode cX11_hush 15 = .ok (.iload_n 3, 1) := by decide +kernel
theorem dX11_hush_16 : decode cX11_hush 16 = .ok (.invokevirtual 137, 3) := by decide +kernel
theorem dX11_hush_19 : decode cX11_hush 19 = .ok (.astore 7, 2) := by decide +kernel
theorem dX11_hush_21 : decode cX11_hush 21 = .ok (.aload 5, 2) := by decide +kernel
theorem dX11_hush_23 : decode cX11_hush 23 = .ok (.ifnull 13, 3) := by decide +kernel
theorem dX11_hush_26 : decode cX11_hush 26 = .ok (.aload 6, 2) := by decide +kernel
theorem dX11_hush_28 : decode cX11_hush 28 = .ok (.ifnull 8, 3) := by decide +kernel
theorem dX11_hush_31 : decode cX11_hush 31 = .ok (.aload 7, 2) := by decide +kernel
theorem dX11_hush_33 : decode cX11_hush 33 = .ok (.ifnonnull 5, 3) := by decide +kernel
theorem dX11_hush_36 : decode cX11_hush 36 = .ok (.iconst (-1), 1) := by decide +kernel
theorem dX11_hush_37 : decode cX11_hush 37 = .ok (.ireturn, 1) := by decide +kernel
theorem dX11_hush_38 : decode cX11_hush 38 = .ok (.iload 4, 2) := by decide +kernel
theorem dX11_hush_40 : decode cX11_hush 40 = .ok (.invokestatic 144, 3) := by decide +kernel
theorem dX11_hush_43 : decode cX11_hush 43 = .ok (.ifCond .ne 6, 3) := by decide +kernel
theorem dX11_hush_46 : decode cX11_hush 46 = .ok (.bipush (-2), 2) := by decide +kernel
theorem dX11_hush_48 : decode cX11_hush 48 = .ok (.ireturn, 1) := by decide +kernel
theorem dX11_hush_49 : decode cX11_hush 49 = .ok (.aload 5, 2) := by decide +kernel
theorem dX11_hush_51 : decode cX11_hush 51 = .ok (.getfield 147, 3) := by decide +kernel
theorem dX11_hush_54 : decode cX11_hush 54 = .ok (.ifnonnull 8, 3) := by decide +kernel
theorem dX11_hush_57 : decode cX11_hush 57 = .ok (.iload_n 2, 1) := by decide +kernel
theorem dX11_hush_58 : decode cX11_hush 58 = .ok (.iload_n 1, 1) := by decide +kernel
theorem dX11_hush_59 : decode cX11_hush 59 = .ok (.if_icmp .lt 6, 3) := by decide +kernel
theorem dX11_hush_62 : decode cX11_hush 62 = .ok (.bipush (-3), 2) := by decide +kernel
theorem dX11_hush_64 : decode cX11_hush 64 = .ok (.ireturn, 1) := by decide +kernel
theorem dX11_hush_65 : decode cX11_hush 65 = .ok (.aload 5, 2) := by decide +kernel
theorem dX11_hush_67 : decode cX11_hush 67 = .ok (.new 163, 3) := by decide +kernel
theorem dX11_hush_70 : decode cX11_hush 70 = .ok (.dup, 1) := by decide +kernel
theorem dX11_hush_71 : decode cX11_hush 71 = .ok (.aload 7, 2) := by decide +kernel
theorem dX11_hush_73 : decode cX11_hush 73 = .ok (.iload 4, 2) := by decide +kernel
theorem dX11_hush_75 : decode cX11_hush 75 = .ok (.aload_n 0, 1) := by decide +kernel
theorem dX11_hush_76 : decode cX11_hush 76 = .ok (.aload 5, 2) := by decide +kernel
theorem dX11_hush_78 : decode cX11_hush 78 = .ok (.aload 7, 2) := by decide +kernel
theorem dX11_hush_80 : decode cX11_hush 80 = .ok (.iload 4, 2) := by decide +kernel
theorem dX11_hush_82 : decode cX11_hush 82 = .ok (.invokevirtual 153, 3) := by decide +kernel
theorem dX11_hush_85 : decode cX11_hush 85 = .ok (.aload 6, 2) := by decide +kernel
theorem dX11_hush_87 : decode cX11_hush 87 = .ok (.invokespecial 165, 3) := by decide +kernel
theorem dX11_hush_90 : decode cX11_hush 90 = .ok (.putfield 147, 3) := by decide +kernel
theorem dX11_hush_93 : decode cX11_hush 93 = .ok (.aload 5, 2) := by decide +kernel
theorem dX11_hush_95 : decode cX11_hush 95 = .ok (.getfield 147, 3) := by decide +kernel
theorem dX11_hush_98 : decode cX11_hush 98 = .ok (.getfield 160, 3) := by decide +kernel
theorem dX11_hush_101 : decode cX11_hush 101 = .ok (.ireturn, 1) := by decide +kernel
theorem dX11_change_0 : decode cX11_change 0 = .ok (.aload_n 0, 1) := by decide +kernel
theorem dX11_change_1 : decode cX11_change 1 = .ok (.iconst 0, 1) := by decide +kernel
theorem dX11_change_2 : decode cX11_change 2 = .ok (.putfield 64, 3) := by decide +kernel
theorem dX11_change_5 : decode cX11_change 5 = .ok (.aload_n 0, 1) := by decide +kernel
theorem dX11_change_6 : decode cX11_change 6 = .ok (.iload_n 1, 1) := by decide +kernel
theorem dX11_change_7 : decode cX11_change 7 = .ok (.invokevirtual 106, 3) := by decide +kernel
theorem dX11_change_10 : decode cX11_change 10 = .ok (.astore 9, 2) := by decide +kernel
theorem dX11_change_12 : decode cX11_change 12 = .ok (.aload_n 0, 1) := by decide +kernel
theorem dX11_change_13 : decode cX11_change 13 = .ok (.iload_n 2, 1) := by decide +kernel
theorem dX11_change_14 : decode cX11_change 14 = .ok (.invokevirtual 106, 3) := by decide +kernel
theorem dX11_change_17 : decode cX11_change 17 = .ok (.astore 10, 2) := by decide +kernel
theorem dX11_change_19 : decode cX11_change 19 = .ok (.aload_n 0, 1) := by decide +kernel
theorem dX11_change_20 : decode cX11_change 20 = .ok (.iload_n 3, 1) := by decide +kernel
theorem dX11_change_21 : decode cX11_change 21 = .ok (.invokevirtual 137, 3) := by decide +kernel
theorem dX11_change_24 : decode cX11_change 24 = .ok (.astore 11, 2) := by decide +kernel
theorem dX11_change_26 : decode cX11_change 26 = .ok (.aload_n 0, 1) := by decide +kernel
theorem dX11_change_27 : decode cX11_change 27 = .ok (.iload 5, 2) := by decide +kernel
theorem dX11_change_29 : decode cX11_change 29 = .ok (.invokevirtual 68, 3) := by decide +kernel
theorem dX11_change_32 : decode cX11_change 32 = .ok (.astore 12, 2) := by decide +kernel
theorem dX11_change_34 : decode cX11_change 34 = .ok (.aload 9, 2) := by decide +kernel
theorem dX11_change_36 : decode cX11_change 36 = .ok (.ifnull 18, 3) := by decide +kernel
theorem dX11_change_39 : decode cX11_change 39 = .ok (.aload 10, 2) := by decide +kernel
theorem dX11_change_41 : decode cX11_change 41 = .ok (.ifnull 13, 3) := by decide +kernel
theorem dX11_change_44 : decode cX11_change 44 = .ok (.aload 11, 2) := by decide +kernel
theorem dX11_change_46 : decode cX11_change 46 = .ok (.ifnull 8, 3) := by decide +kernel
theorem dX11_change_49 : decode cX11_change 49 = .ok (.aload 12, 2) := by decide +kernel
theorem dX11_change_51 : decode cX11_change 51 = .ok (.ifnonnull 5, 3) := by decide +kernel
theorem dX11_change_54 : decode cX11_change 54 = .ok (.iconst (-1), 1) := by decide +kernel
theorem dX11_change_55 : decode cX11_change 55 = .ok (.ireturn, 1) := by decide +kernel
theorem dX11_change_56 : decode cX11_change 56 = .ok (.iload 4, 2) := by decide +kernel
theorem dX11_change_58 : decode cX11_change 58 = .ok (.invokestatic 144, 3) := by decide +kernel
theorem dX11_change_61 : decode cX11_change 61 = .ok (.ifCond .eq 11, 3) := by decide +kernel
theorem dX11_change_64 : decode cX11_change 64 = .ok (.iload 6, 2) := by decide +kernel
theorem dX11_change_66 : decode cX11_change 66 = .ok (.invokestatic 76, 3) := by decide +kernel
theorem dX11_change_69 : decode cX11_change 69 = .ok (.ifCond .ne 6, 3) := by decide +kernel
theorem dX11_change_72 : decode cX11_change 72 = .ok (.bipush (-2), 2) := by decide +kernel
theorem dX11_change_74 : decode cX11_change 74 = .ok (.ireturn, 1) := by decide +kernel
theorem dX11_change_75 : decode cX11_change 75 = .ok (.aload_n 0, 1) := by decide +kernel
theorem dX11_change_76 : decode cX11_change 76 = .ok (.aload 12, 2) := by decide +kernel
theorem dX11_change_78 : decode cX11_change 78 = .ok (.iload 6, 2) := by decide +kernel
theorem dX11_change_80 : decode cX11_change 80 = .ok (.iload 7, 2) := by decide +kernel
theorem dX11_change_82 : decode cX11_change 82 = .ok (.iload 8, 2) := by decide +kernel
theorem dX11_change_84 : decode cX11_change 84 = .ok (.invokevirtual 168, 3) := by decide +kernel
theorem dX11_change_87 : decode cX11_change 87 = .ok (.istore 13, 2) := by decide +kernel
theorem dX11_change_89 : decode cX11_change 89 = .ok (.iload 13, 2) := by decide +kernel
theorem dX11_change_91 : decode cX11_change 91 = .ok (.ifCond .eq 6, 3) := by decide +kernel
theorem dX11_change_94 : decode cX11_change 94 = .ok (.iload 13, 2) := by decide +kernel
theorem dX11_change_96 : decode cX11_change 96 = .ok (.ireturn, 1) := by decide +kernel
theorem dX11_change_97 : decode cX11_change 97 = .ok (.aload 9, 2) := by decide +kernel
theorem dX11_change_99 : decode cX11_change 99 = .ok (.getfield 147, 3) := by decide +kernel
theorem dX11_change_102 : decode cX11_change 102 = .ok (.ifnonnull 8, 3) := by decide +kernel
theorem dX11_change_105 : decode cX11_change 105 = .ok (.iload_n 2, 1) := by decide +kernel
theorem dX11_change_106 : decode cX11_change 106 = .ok (.iload_n 1, 1) := by decide +kernel
theorem dX11_change_107 : decode cX11_change 107 = .ok (.if_icmp .lt 6, 3) := by decide +kernel
theorem dX11_change_110 : decode cX11_change 110 = .ok (.bipush (-3), 2) := by decide +kernel
theorem dX11_change_112 : decode cX11_change 112 = .ok (.ireturn, 1) := by decide +kernel
theorem dX11_change_113 : decode cX11_change 113 = .ok (.aload 9, 2) := by decide +kernel
theorem dX11_change_115 : decode cX11_change 115 = .ok (.new 172, 3) := by decide +kernel
theorem dX11_change_118 : decode cX11_change 118 = .ok (.dup, 1) := by decide +kernel
theorem dX11_change_119 : decode cX11_change 119 = .ok (.aload 11, 2) := by decide +kernel
theorem dX11_change_121 : decode cX11_change 121 = .ok (.iload 4, 2) := by decide +kernel
theorem dX11_change_123 : decode cX11_change 123 = .ok (.aload_n 0, 1) := by decide +kernel
theorem dX11_change_124 : decode cX11_change 124 = .ok (.aload 9, 2) := by decide +kernel
theorem dX11_change_126 : decode cX11_change 126 = .ok (.aload 11, 2) := by decide +kernel
theorem dX11_change_128 : decode cX11_change 128 = .ok (.iload 4, 2) := by decide +kernel
theorem dX11_change_130 : decode cX11_change 130 = .ok (.invokevirtual 153, 3) := by decide +kernel
theorem dX11_change_133 : decode cX11_change 133 = .ok (.aload 10, 2) := by decide +kernel
theorem dX11_change_135 : decode cX11_change 135 = .ok (.aload_n 0, 1) := by decide +kernel
theorem dX11_change_136 : decode cX11_change 136 = .ok (.getfield 45, 3) := by decide +kernel
theorem dX11_change_139 : decode cX11_change 139 = .ok (.invokevirtual 174, 3) := by decide +kernel
theorem dX11_change_142 : decode cX11_change 142 = .ok (.invokespecial 178, 3) := by decide +kernel
theorem dX11_change_145 : decode cX11_change 145 = .ok (.putfield 147, 3) := by decide +kernel
theorem dX11_change_148 : decode cX11_change 148 = .ok (.aload 9, 2) := by decide +kernel
theorem dX11_change_150 : decode cX11_change 150 = .ok (.getfield 147, 3) := by decide +kernel
theorem dX11_change_153 : decode cX11_change 153 = .ok (.getfield 160, 3) := by decide +kernel
theorem dX11_change_156 : decode cX11_change 156 = .ok (.ireturn, 1) := by decide +kernel
theorem dX11_act_0 : decode cX11_act 0 = .ok (.aload_n 0, 1) := by decide +kernel
theorem dX11_act_1 : decode cX11_act 1 = .ok (.iconst 0, 1) := by decide +kernel
theorem dX11_act_2 : decode cX11_act 2 = .ok (.putfield 64, 3) := by decide +kernel
theorem dX11_act_5 : decode cX11_act 5 = .ok (.aload_n 0, 1) := by decide +kernel
theorem dX11_act_6 : decode cX11_act 6 = .ok (.iload_n 1, 1) := by decide +kernel
theorem dX11_act_7 : decode cX11_act 7 = .ok (.invokevirtual 106, 3) := by decide +kernel
theorem dX11_act_10 : decode cX11_act 10 = .ok (.astore 6, 2) := by decide +kernel
theorem dX11_act_12 : decode cX11_act 12 = .ok (.aload_n 0, 1) := by decide +kernel
theorem dX11_act_13 : decode cX11_act 13 = .ok (.iload_n 2, 1) := by decide +kernel
theorem dX11_act_14 : decode cX11_act 14 = .ok (.invokevirtual 68, 3) := by decide +kernel
theorem dX11_act_17 : decode cX11_act 17 = .ok (.astore 7, 2) := by decide +kernel
theorem dX11_act_19 : decode cX11_act 19 = .ok (.aload 6, 2) := by decide +kernel
theorem dX11_act_21 : decode cX11_act 21 = .ok (.ifnull 8, 3) := by decide +kernel
theorem dX11_act_24 : decode cX11_act 24 = .ok (.aload 7, 2) := by decide +kernel
theorem dX11_act_26 : decode cX11_act 26 = .ok (.ifnonnull 5, 3) := by decide +kernel
theorem dX11_act_29 : decode cX11_act 29 = .ok (.iconst (-1), 1) := by decide +kernel
theorem dX11_act_30 : decode cX11_act 30 = .ok (.ireturn, 1) := by decide +kernel
theorem dX11_act_31 : decode cX11_act 31 = .ok (.iload_n 3, 1) := by decide +kernel
theorem dX11_act_32 : decode cX11_act 32 = .ok (.invokestatic 76, 3) := by decide +kernel
theorem dX11_act_35 : decode cX11_act 35 = .ok (.ifCond .ne 6, 3) := by decide +kernel
theorem dX11_act_38 : decode cX11_act 38 = .ok (.bipush (-2), 2) := by decide +kernel
theorem dX11_act_40 : decode cX11_act 40 = .ok (.ireturn, 1) := by decide +kernel
theorem dX11_act_41 : decode cX11_act 41 = .ok (.aload_n 0, 1) := by decide +kernel
theorem dX11_act_42 : decode cX11_act 42 = .ok (.aload 7, 2) := by decide +kernel
theorem dX11_act_44 : decode cX11_act 44 = .ok (.iload_n 3, 1) := by decide +kernel
theorem dX11_act_45 : decode cX11_act 45 = .ok (.iload 4, 2) := by decide +kernel
theorem dX11_act_47 : decode cX11_act 47 = .ok (.iload 5, 2) := by decide +kernel
theorem dX11_act_49 : decode cX11_act 49 = .ok (.invokevirtual 168, 3) := by decide +kernel
theorem dX11_act_52 : decode cX11_act 52 = .ok (.istore 8, 2) := by decide +kernel
theorem dX11_act_54 : decode cX11_act 54 = .ok (.iload 8, 2) := by decide +kernel
theorem dX11_act_56 : decode cX11_act 56 = .ok (.ifCond .eq 6, 3) := by decide +kernel
theorem dX11_act_59 : decode cX11_act 59 = .ok (.iload 8, 2) := by decide +kernel
theorem dX11_act_61 : decode cX11_act 61 = .ok (.ireturn, 1) := by decide +kernel
theorem dX11_act_62 : decode cX11_act 62 = .ok (.aload_n 0, 1) := by decide +kernel
theorem dX11_act_63 : decode cX11_act 63 = .ok (.getfield 52, 3) := by decide +kernel
theorem dX11_act_66 : decode cX11_act 66 = .ok (.aload 6, 2) := by decide +kernel
theorem dX11_act_68 : decode cX11_act 68 = .ok (.aload_n 0, 1) := by decide +kernel
theorem dX11_act_69 : decode cX11_act 69 = .ok (.getfield 45, 3) := by decide +kernel
theorem dX11_act_72 : decode cX11_act 72 = .ok (.getfield 181, 3) := by decide +kernel
theorem dX11_act_75 : decode cX11_act 75 = .ok (.aload_n 0, 1) := by decide +kernel
theorem dX11_act_76 : decode cX11_act 76 = .ok (.getfield 45, 3) := by decide +kernel
theorem dX11_act_79 : decode cX11_act 79 = .ok (.getfield 184, 3) := by decide +kernel
theorem dX11_act_82 : decode cX11_act 82 = .ok (.invokevirtual 187, 3) := by decide +kernel
theorem dX11_act_85 : decode cX11_act 85 = .ok (.ifCond .ne 6, 3) := by decide +kernel
theorem dX11_act_88 : decode cX11_act 88 = .ok (.bipush (-3), 2) := by decide +kernel
theorem dX11_act_90 : decode cX11_act 90 = .ok (.ireturn, 1) := by decide +kernel
theorem dX11_act_91 : decode cX11_act 91 = .ok (.aload_n 0, 1) := by decide +kernel
theorem dX11_act_92 : decode cX11_act 92 = .ok (.getfield 92, 3) := by decide +kernel
theorem dX11_act_95 : decode cX11_act 95 = .ok (.bipush 12, 2) := by decide +kernel
theorem dX11_act_97 : decode cX11_act 97 = .ok (.if_icmp .lt 6, 3) := by decide +kernel
theorem dX11_act_100 : decode cX11_act 100 = .ok (.bipush (-4), 2) := by decide +kernel
theorem dX11_act_102 : decode cX11_act 102 = .ok (.ireturn, 1) := by decide +kernel
theorem dX11_act_103 : decode cX11_act 103 = .ok (.aload_n 0, 1) := by decide +kernel
theorem dX11_act_104 : decode cX11_act 104 = .ok (.invokevirtual 95, 3) := by decide +kernel
theorem dX11_act_107 : decode cX11_act 107 = .ok (.astore 9, 2) := by decide +kernel
theorem dX11_act_109 : decode cX11_act 109 = .ok (.aload 9, 2) := by decide +kernel
theorem dX11_act_111 : decode cX11_act 111 = .ok (.aload_n 0, 1) := by decide +kernel
theorem dX11_act_112 : decode cX11_act 112 = .ok (.getfield 52, 3) := by decide +kernel
theorem dX11_act_115 : decode cX11_act 115 = .ok (.getfield 191, 3) := by decide +kernel
theorem dX11_act_118 : decode cX11_act 118 = .ok (.invokevirtual 195, 3) := by decide +kernel
theorem dX11_act_121 : decode cX11_act 121 = .ok (.aload 9, 2) := by decide +kernel
theorem dX11_act_123 : decode cX11_act 123 = .ok (.getfield 103, 3) := by decide +kernel
theorem dX11_act_126 : decode cX11_act 126 = .ok (.ireturn, 1) := by decide +kernel
theorem dX11_tear_0 : decode cX11_tear 0 = .ok (.aload_n 0, 1) := by decide +kernel
theorem dX11_tear_1 : decode cX11_tear 1 = .ok (.iload_n 1, 1) := by decide +kernel
theorem dX11_tear_2 : decode cX11_tear 2 = .ok (.invokevirtual 106, 3) := by decide +kernel
theorem dX11_tear_5 : decode cX11_tear 5 = .ok (.astore_n 2, 1) := by decide +kernel
theorem dX11_tear_6 : decode cX11_tear 6 = .ok (.aload_n 2, 1) := by decide +kernel
theorem dX11_tear_7 : decode cX11_tear 7 = .ok (.ifnonnull 5, 3) := by decide +kernel
theorem dX11_tear_10 : decode cX11_tear 10 = .ok (.iconst (-1), 1) := by decide +kernel
theorem dX11_tear_11 : decode cX11_tear 11 = .ok (.ireturn, 1) := by decide +kernel
theorem dX11_tear_12 : decode cX11_tear 12 = .ok (.aload_n 2, 1) := by decide +kernel
theorem dX11_tear_13 : decode cX11_tear 13 = .ok (.getfield 147, 3) := by decide +kernel
theorem dX11_tear_16 : decode cX11_tear 16 = .ok (.ifnonnull 5, 3) := by decide +kernel
theorem dX11_tear_19 : decode cX11_tear 19 = .ok (.iconst 0, 1) := by decide +kernel
theorem dX11_tear_20 : decode cX11_tear 20 = .ok (.ireturn, 1) := by decide +kernel
theorem dX11_tear_21 : decode cX11_tear 21 = .ok (.aload_n 2, 1) := by decide +kernel
theorem dX11_tear_22 : decode cX11_tear 22 = .ok (.aconst_null, 1) := by decide +kernel
theorem dX11_tear_23 : decode cX11_tear 23 = .ok (.putfield 147, 3) := by decide +kernel
theorem dX11_tear_26 : decode cX11_tear 26 = .ok (.iconst 1, 1) := by decide +kernel
theorem dX11_tear_27 : decode cX11_tear 27 = .ok (.ireturn, 1) := by decide +kernel
theorem dX11_line_0 : decode cX11_line 0 = .ok (.aload_n 0, 1) := by decide +kernel
theorem dX11_line_1 : decode cX11_line 1 = .ok (.iload_n 1, 1) := by decide +kernel
theorem dX11_line_2 : decode cX11_line 2 = .ok (.invokevirtual 106, 3) := by decide +kernel
theorem dX11_line_5 : decode cX11_line 5 = .ok (.astore_n 3, 1) := by decide +kernel
theorem dX11_line_6 : decode cX11_line 6 = .ok (.aload_n 3, 1) := by decide +kernel
theorem dX11_line_7 : decode cX11_line 7 = .ok (.ifnonnull 5, 3) := by decide +kernel
theorem dX11_line_10 : decode cX11_line 10 = .ok (.iconst (-1), 1) := by decide +kernel
theorem dX11_line_11 : decode cX11_line 11 = .ok (.ireturn, 1) := by decide +kernel
theorem dX11_line_12 : decode cX11_line 12 = .ok (.iload_n 2, 1) := by decide +kernel
theorem dX11_line_13 : decode cX11_line 13 = .ok (.iconst 0, 1) := by decide +kernel
theorem dX11_line_14 : decode cX11_line 14 = .ok (.iconst 5, 1) := by decide +kernel
theorem dX11_line_15 : decode cX11_line 15 = .ok (.invokestatic 72, 3) := by decide +kernel
theorem dX11_line_18 : decode cX11_line 18 = .ok (.ifCond .ne 6, 3) := by decide +kernel
theorem dX11_line_21 : decode cX11_line 21 = .ok (.bipush (-2), 2) := by decide +kernel
theorem dX11_line_23 : decode cX11_line 23 = .ok (.ireturn, 1) := by decide +kernel
theorem dX11_line_24 : decode cX11_line 24 = .ok (.aload_n 3, 1) := by decide +kernel
theorem dX11_line_25 : decode cX11_line 25 = .ok (.getfield 147, 3) := by decide +kernel
theorem dX11_line_28 : decode cX11_line 28 = .ok (.astore 4, 2) := by decide +kernel
theorem dX11_line_30 : decode cX11_line 30 = .ok (.aload 4, 2) := by decide +kernel
theorem dX11_line_32 : decode cX11_line 32 = .ok (.ifnonnull 6, 3) := by decide +kernel
theorem dX11_line_35 : decode cX11_line 35 = .ok (.bipush (-3), 2) := by decide +kernel
theorem dX11_line_37 : decode cX11_line 37 = .ok (.ireturn, 1) := by decide +kernel
theorem dX11_line_38 : decode cX11_line 38 = .ok (.iload_n 2, 1) := by decide +kernel
theorem dX11_line_39 : decode cX11_line 39 = .ok (.tableswitch 82 0 4 #[33, 39, 48, 54, 60], 33) := by decide +kernel
theorem dX11_line_72 : decode cX11_line 72 = .ok (.aload 4, 2) := by decide +kernel
theorem dX11_line_74 : decode cX11_line 74 = .ok (.invokevirtual 199, 3) := by decide +kernel
theorem dX11_line_77 : decode cX11_line 77 = .ok (.ireturn, 1) := by decide +kernel
theorem dX11_line_78 : decode cX11_line 78 = .ok (.aload 4, 2) := by decide +kernel
theorem dX11_line_80 : decode cX11_line 80 = .ok (.getfield 202, 3) := by decide +kernel
theorem dX11_line_83 : decode cX11_line 83 = .ok (.getfield 206, 3) := by decide +kernel
theorem dX11_line_86 : decode cX11_line 86 = .ok (.ireturn, 1) := by decide +kernel
theorem dX11_line_87 : decode cX11_line 87 = .ok (.aload 4, 2) := by decide +kernel
theorem dX11_line_89 : decode cX11_line 89 = .ok (.getfield 207, 3) := by decide +kernel
theorem dX11_line_92 : decode cX11_line 92 = .ok (.ireturn, 1) := by decide +kernel
theorem dX11_line_93 : decode cX11_line 93 = .ok (.aload 4, 2) := by decide +kernel
theorem dX11_line_95 : decode cX11_line 95 = .ok (.getfield 160, 3) := by decide +kernel
theorem dX11_line_98 : decode cX11_line 98 = .ok (.ireturn, 1) := by decide +kernel
theorem dX11_line_99 : decode cX11_line 99 = .ok (.aload 4, 2) := by decide +kernel
theorem dX11_line_101 : decode cX11_line 101 = .ok (.invokevirtual 210, 3) := by decide +kernel
theorem dX11_line_104 : decode cX11_line 104 = .ok (.ifnonnull 8, 3) := by decide +kernel
theorem dX11_line_107 : decode cX11_line 107 = .ok (.bipush (-9), 2) := by decide +kernel
theorem dX11_line_109 : decode cX11_line 109 = .ok (.goto 11, 3) := by decide +kernel
theorem dX11_line_112 : decode cX11_line 112 = .ok (.aload 4, 2) := by decide +kernel
theorem dX11_line_114 : decode cX11_line 114 = .ok (.invokevirtual 210, 3) := by decide +kernel
theorem dX11_line_117 : decode cX11_line 117 = .ok (.getfield 103, 3) := by decide +kernel
theorem dX11_line_120 : decode cX11_line 120 = .ok (.ireturn, 1) := by decide +kernel
theorem dX11_line_121 : decode cX11_line 121 = .ok (.aload 4, 2) := by decide +kernel
theorem dX11_line_123 : decode cX11_line 123 = .ok (.invokevirtual 213, 3) := by decide +kernel
theorem dX11_line_126 : decode cX11_line 126 = .ok (.arraylength, 1) := by decide +kernel
theorem dX11_line_127 : decode cX11_line 127 = .ok (.ireturn, 1) := by decide +kernel
theorem dX11_speaks_0 : decode cX11_speaks 0 = .ok (.aload_n 0, 1) := by decide +kernel
theorem dX11_speaks_1 : decode cX11_speaks 1 = .ok (.iload_n 1, 1) := by decide +kernel
theorem dX11_speaks_2 : decode cX11_speaks 2 = .ok (.invokevirtual 106, 3) := by decide +kernel
theorem dX11_speaks_5 : decode cX11_speaks 5 = .ok (.astore_n 2, 1) := by decide +kernel
theorem dX11_speaks_6 : decode cX11_speaks 6 = .ok (.aload_n 2, 1) := by decide +kernel
theorem dX11_speaks_7 : decode cX11_speaks 7 = .ok (.ifnonnull 5, 3) := by decide +kernel
theorem dX11_speaks_10 : decode cX11_speaks 10 = .ok (.iconst (-1), 1) := by decide +kernel
theorem dX11_speaks_11 : decode cX11_speaks 11 = .ok (.ireturn, 1) := by decide +kernel
theorem dX11_speaks_12 : decode cX11_speaks 12 = .ok (.aload_n 2, 1) := by decide +kernel
theorem dX11_speaks_13 : decode cX11_speaks 13 = .ok (.getfield 147, 3) := by decide +kernel
theorem dX11_speaks_16 : decode cX11_speaks 16 = .ok (.ifnonnull 8, 3) := by decide +kernel
theorem dX11_speaks_19 : decode cX11_speaks 19 = .ok (.bipush (-3), 2) := by decide +kernel
theorem dX11_speaks_21 : decode cX11_speaks 21 = .ok (.goto 12, 3) := by decide +kernel
theorem dX11_speaks_24 : decode cX11_speaks 24 = .ok (.aload_n 0, 1) := by decide +kernel
theorem dX11_speaks_25 : decode cX11_speaks 25 = .ok (.aload_n 2, 1) := by decide +kernel
theorem dX11_speaks_26 : decode cX11_speaks 26 = .ok (.aload_n 2, 1) := by decide +kernel
theorem dX11_speaks_27 : decode cX11_speaks 27 = .ok (.getfield 147, 3) := by decide +kernel
theorem dX11_speaks_30 : decode cX11_speaks 30 = .ok (.invokevirtual 215, 3) := by decide +kernel
theorem dX11_speaks_33 : decode cX11_speaks 33 = .ok (.ireturn, 1) := by decide +kernel
theorem dX11_play_0 : decode cX11_play 0 = .ok (.aload_n 0, 1) := by decide +kernel
theorem dX11_play_1 : decode cX11_play 1 = .ok (.iload_n 1, 1) := by decide +kernel
theorem dX11_play_2 : decode cX11_play 2 = .ok (.invokevirtual 106, 3) := by decide +kernel
theorem dX11_play_5 : decode cX11_play 5 = .ok (.astore_n 2, 1) := by decide +kernel
theorem dX11_play_6 : decode cX11_play 6 = .ok (.aload_n 2, 1) := by decide +kernel
theorem dX11_play_7 : decode cX11_play 7 = .ok (.ifnonnull 5, 3) := by decide +kernel
theorem dX11_play_10 : decode cX11_play 10 = .ok (.iconst (-1), 1) := by decide +kernel
theorem dX11_play_11 : decode cX11_play 11 = .ok (.ireturn, 1) := by decide +kernel
theorem dX11_play_12 : decode cX11_play 12 = .ok (.aload_n 2, 1) := by decide +kernel
theorem dX11_play_13 : decode cX11_play 13 = .ok (.getfield 147, 3) := by decide +kernel
theorem dX11_play_16 : decode cX11_play 16 = .ok (.astore_n 3, 1) := by decide +kernel
theorem dX11_play_17 : decode cX11_play 17 = .ok (.aload_n 3, 1) := by decide +kernel
theorem dX11_play_18 : decode cX11_play 18 = .ok (.ifnull 11, 3) := by decide +kernel
theorem dX11_play_21 : decode cX11_play 21 = .ok (.aload_n 3, 1) := by decide +kernel
theorem dX11_play_22 : decode cX11_play 22 = .ok (.invokevirtual 199, 3) := by decide +kernel
theorem dX11_play_25 : decode cX11_play 25 = .ok (.iconst 1, 1) := by decide +kernel
theorem dX11_play_26 : decode cX11_play 26 = .ok (.if_icmp .eq 6, 3) := by decide +kernel
theorem dX11_play_29 : decode cX11_play 29 = .ok (.bipush (-3), 2) := by decide +kernel
theorem dX11_play_31 : decode cX11_play 31 = .ok (.ireturn, 1) := by decide +kernel
theorem dX11_play_32 : decode cX11_play 32 = .ok (.aload_n 0, 1) := by decide +kernel
theorem dX11_play_33 : decode cX11_play 33 = .ok (.aload_n 2, 1) := by decide +kernel
theorem dX11_play_34 : decode cX11_play 34 = .ok (.aload_n 3, 1) := by decide +kernel
theorem dX11_play_35 : decode cX11_play 35 = .ok (.invokevirtual 219, 3) := by decide +kernel
theorem dX11_play_38 : decode cX11_play 38 = .ok (.ireturn, 1) := by decide +kernel
theorem dX11_within_0 : decode cX11_within 0 = .ok (.iload_n 1, 1) := by decide +kernel
theorem dX11_within_1 : decode cX11_within 1 = .ok (.iconst 0, 1) := by decide +kernel
theorem dX11_within_2 : decode cX11_within 2 = .ok (.bipush 20, 2) := by decide +kernel
theorem dX11_within_4 : decode cX11_within 4 = .ok (.invokestatic 72, 3) := by decide +kernel
theorem dX11_within_7 : decode cX11_within 7 = .ok (.ifCond .ne 6, 3) := by decide +kernel
theorem dX11_within_10 : decode cX11_within 10 = .ok (.bipush (-2), 2) := by decide +kernel
theorem dX11_within_12 : decode cX11_within 12 = .ok (.ireturn, 1) := by decide +kernel
theorem dX11_within_13 : decode cX11_within 13 = .ok (.aload_n 0, 1) := by decide +kernel
theorem dX11_within_14 : decode cX11_within 14 = .ok (.getfield 222, 3) := by decide +kernel
theorem dX11_within_17 : decode cX11_within 17 = .ok (.istore_n 2, 1) := by decide +kernel
theorem dX11_within_18 : decode cX11_within 18 = .ok (.aload_n 0, 1) := by decide +kernel
theorem dX11_within_19 : decode cX11_within 19 = .ok (.iload_n 1, 1) := by decide +kernel
theorem dX11_within_20 : decode cX11_within 20 = .ok (.putfield 222, 3) := by decide +kernel
theorem dX11_within_23 : decode cX11_within 23 = .ok (.iload_n 2, 1) := by decide +kernel
theorem dX11_within_24 : decode cX11_within 24 = .ok (.ireturn, 1) := by decide +kernel
theorem dX11_way_0 : decode cX11_way 0 = .ok (.aload_n 0, 1) := by decide +kernel
theorem dX11_way_1 : decode cX11_way 1 = .ok (.iload_n 1, 1) := by decide +kernel
theorem dX11_way_2 : decode cX11_way 2 = .ok (.invokevirtual 106, 3) := by decide +kernel
theorem dX11_way_5 : decode cX11_way 5 = .ok (.astore_n 3, 1) := by decide +kernel
theorem dX11_way_6 : decode cX11_way 6 = .ok (.aload_n 3, 1) := by decide +kernel
theorem dX11_way_7 : decode cX11_way 7 = .ok (.ifnull 13, 3) := by decide +kernel
theorem dX11_way_10 : decode cX11_way 10 = .ok (.iload_n 2, 1) := by decide +kernel
theorem dX11_way_11 : decode cX11_way 11 = .ok (.iconst (-1), 1) := by decide +kernel
theorem dX11_way_12 : decode cX11_way 12 = .ok (.bipush 11, 2) := by decide +kernel
theorem dX11_way_14 : decode cX11_way 14 = .ok (.invokestatic 72, 3) := by decide +kernel
theorem dX11_way_17 : decode cX11_way 17 = .ok (.ifCond .ne 5, 3) := by decide +kernel
theorem dX11_way_20 : decode cX11_way 20 = .ok (.iconst (-1), 1) := by decide +kernel
theorem dX11_way_21 : decode cX11_way 21 = .ok (.ireturn, 1) := by decide +kernel
theorem dX11_way_22 : decode cX11_way 22 = .ok (.iconst 0, 1) := by decide +kernel
theorem dX11_way_23 : decode cX11_way 23 = .ok (.istore 4, 2) := by decide +kernel
theorem dX11_way_25 : decode cX11_way 25 = .ok (.aload_n 3, 1) := by decide +kernel
theorem dX11_way_26 : decode cX11_way 26 = .ok (.astore 5, 2) := by decide +kernel
theorem dX11_way_28 : decode cX11_way 28 = .ok (.aload 5, 2) := by decide +kernel
theorem dX11_way_30 : decode cX11_way 30 = .ok (.ifnull 28, 3) := by decide +kernel
theorem dX11_way_33 : decode cX11_way 33 = .ok (.iload 4, 2) := by decide +kernel
theorem dX11_way_35 : decode cX11_way 35 = .ok (.iload_n 2, 1) := by decide +kernel
theorem dX11_way_36 : decode cX11_way 36 = .ok (.if_icmp .ne 9, 3) := by decide +kernel
theorem dX11_way_39 : decode cX11_way 39 = .ok (.aload 5, 2) := by decide +kernel
theorem dX11_way_41 : decode cX11_way 41 = .ok (.getfield 103, 3) := by decide +kernel
theorem dX11_way_44 : decode cX11_way 44 = .ok (.ireturn, 1) := by decide +kernel
theorem dX11_way_45 : decode cX11_way 45 = .ok (.iinc 4 1, 3) := by decide +kernel
theorem dX11_way_48 : decode cX11_way 48 = .ok (.aload 5, 2) := by decide +kernel
theorem dX11_way_50 : decode cX11_way 50 = .ok (.invokevirtual 225, 3) := by decide +kernel
theorem dX11_way_53 : decode cX11_way 53 = .ok (.astore 5, 2) := by decide +kernel
theorem dX11_way_55 : decode cX11_way 55 = .ok (.goto (-27), 3) := by decide +kernel
theorem dX11_way_58 : decode cX11_way 58 = .ok (.iload_n 2, 1) := by decide +kernel
theorem dX11_way_59 : decode cX11_way 59 = .ok (.iconst (-1), 1) := by decide +kernel
theorem dX11_way_60 : decode cX11_way 60 = .ok (.if_icmp .ne 8, 3) := by decide +kernel
theorem dX11_way_63 : decode cX11_way 63 = .ok (.iload 4, 2) := by decide +kernel
theorem dX11_way_65 : decode cX11_way 65 = .ok (.goto 5, 3) := by decide +kernel
theorem dX11_way_68 : decode cX11_way 68 = .ok (.bipush (-9), 2) := by decide +kernel
theorem dX11_way_70 : decode cX11_way 70 = .ok (.ireturn, 1) := by decide +kernel
theorem dX11_doubt_0 : decode cX11_doubt 0 = .ok (.aload_n 0, 1) := by decide +kernel
theorem dX11_doubt_1 : decode cX11_doubt 1 = .ok (.iload_n 1, 1) := by decide +kernel
theorem dX11_doubt_2 : decode cX11_doubt 2 = .ok (.invokevirtual 106, 3) := by decide +kernel
theorem dX11_doubt_5 : decode cX11_doubt 5 = .ok (.astore_n 2, 1) := by decide +kernel
theorem dX11_doubt_6 : decode cX11_doubt 6 = .ok (.aload_n 2, 1) := by decide +kernel
theorem dX11_doubt_7 : decode cX11_doubt 7 = .ok (.ifnonnull 7, 3) := by decide +kernel
theorem dX11_doubt_10 : decode cX11_doubt 10 = .ok (.iconst (-1), 1) := by decide +kernel
theorem dX11_doubt_11 : decode cX11_doubt 11 = .ok (.goto 8, 3) := by decide +kernel
theorem dX11_doubt_14 : decode cX11_doubt 14 = .ok (.aload_n 0, 1) := by decide +kernel
theorem dX11_doubt_15 : decode cX11_doubt 15 = .ok (.aload_n 2, 1) := by decide +kernel
theorem dX11_doubt_16 : decode cX11_doubt 16 = .ok (.invokevirtual 226, 3) := by decide +kernel
theorem dX11_doubt_19 : decode cX11_doubt 19 = .ok (.ireturn, 1) := by decide +kernel
theorem dX11_whole_0 : decode cX11_whole 0 = .ok (.aload_n 0, 1) := by decide +kernel
theorem dX11_whole_1 : decode cX11_whole 1 = .ok (.iload_n 1, 1) := by decide +kernel
theorem dX11_whole_2 : decode cX11_whole 2 = .ok (.invokevirtual 106, 3) := by decide +kernel
theorem dX11_whole_5 : decode cX11_whole 5 = .ok (.astore_n 2, 1) := by decide +kernel
theorem dX11_whole_6 : decode cX11_whole 6 = .ok (.aload_n 2, 1) := by decide +kernel
theorem dX11_whole_7 : decode cX11_whole 7 = .ok (.ifnonnull 5, 3) := by decide +kernel
theorem dX11_whole_10 : decode cX11_whole 10 = .ok (.iconst (-1), 1) := by decide +kernel
theorem dX11_whole_11 : decode cX11_whole 11 = .ok (.ireturn, 1) := by decide +kernel
theorem dX11_whole_12 : decode cX11_whole 12 = .ok (.aload_n 0, 1) := by decide +kernel
theorem dX11_whole_13 : decode cX11_whole 13 = .ok (.aload_n 2, 1) := by decide +kernel
theorem dX11_whole_14 : decode cX11_whole 14 = .ok (.invokevirtual 226, 3) := by decide +kernel
theorem dX11_whole_17 : decode cX11_whole 17 = .ok (.bipush (-9), 2) := by decide +kernel
theorem dX11_whole_19 : decode cX11_whole 19 = .ok (.if_icmp .eq 5, 3) := by decide +kernel
theorem dX11_whole_22 : decode cX11_whole 22 = .ok (.iconst 0, 1) := by decide +kernel
theorem dX11_whole_23 : decode cX11_whole 23 = .ok (.ireturn, 1) := by decide +kernel
theorem dX11_whole_24 : decode cX11_whole 24 = .ok (.aload_n 2, 1) := by decide +kernel
theorem dX11_whole_25 : decode cX11_whole 25 = .ok (.astore_n 3, 1) := by decide +kernel
theorem dX11_whole_26 : decode cX11_whole 26 = .ok (.aload_n 3, 1) := by decide +kernel
theorem dX11_whole_27 : decode cX11_whole 27 = .ok (.ifnull 31, 3) := by decide +kernel
theorem dX11_whole_30 : decode cX11_whole 30 = .ok (.aload_n 3, 1) := by decide +kernel
theorem dX11_whole_31 : decode cX11_whole 31 = .ok (.getfield 147, 3) := by decide +kernel
theorem dX11_whole_34 : decode cX11_whole 34 = .ok (.ifnull 16, 3) := by decide +kernel
theorem dX11_whole_37 : decode cX11_whole 37 = .ok (.aload_n 3, 1) := by decide +kernel
theorem dX11_whole_38 : decode cX11_whole 38 = .ok (.getfield 147, 3) := by decide +kernel
theorem dX11_whole_41 : decode cX11_whole 41 = .ok (.invokevirtual 199, 3) := by decide +kernel
theorem dX11_whole_44 : decode cX11_whole 44 = .ok (.iconst 2, 1) := by decide +kernel
theorem dX11_whole_45 : decode cX11_whole 45 = .ok (.if_icmp .ne 5, 3) := by decide +kernel
theorem dX11_whole_48 : decode cX11_whole 48 = .ok (.iconst 0, 1) := by decide +kernel
theorem dX11_whole_49 : decode cX11_whole 49 = .ok (.ireturn, 1) := by decide +kernel
theorem dX11_whole_50 : decode cX11_whole 50 = .ok (.aload_n 3, 1) := by decide +kernel
theorem dX11_whole_51 : decode cX11_whole 51 = .ok (.invokevirtual 225, 3) := by decide +kernel
theorem dX11_whole_54 : decode cX11_whole 54 = .ok (.astore_n 3, 1) := by decide +kernel
theorem dX11_whole_55 : decode cX11_whole 55 = .ok (.goto (-29), 3) := by decide +kernel
theorem dX11_whole_58 : decode cX11_whole 58 = .ok (.iconst 1, 1) := by decide +kernel
theorem dX11_whole_59 : decode cX11_whole 59 = .ok (.ireturn, 1) := by decide +kernel
theorem dX11_proof_0 : decode cX11_proof 0 = .ok (.aload_n 0, 1) := by decide +kernel
theorem dX11_proof_1 : decode cX11_proof 1 = .ok (.iload_n 1, 1) := by decide +kernel
theorem dX11_proof_2 : decode cX11_proof 2 = .ok (.invokevirtual 106, 3) := by decide +kernel
theorem dX11_proof_5 : decode cX11_proof 5 = .ok (.astore 4, 2) := by decide +kernel
theorem dX11_proof_7 : decode cX11_proof 7 = .ok (.aload 4, 2) := by decide +kernel
theorem dX11_proof_9 : decode cX11_proof 9 = .ok (.ifnull 19, 3) := by decide +kernel
theorem dX11_proof_12 : decode cX11_proof 12 = .ok (.iload_n 2, 1) := by decide +kernel
theorem dX11_proof_13 : decode cX11_proof 13 = .ok (.invokestatic 229, 3) := by decide +kernel
theorem dX11_proof_16 : decode cX11_proof 16 = .ok (.ifCond .eq 12, 3) := by decide +kernel
theorem dX11_proof_19 : decode cX11_proof 19 = .ok (.iload_n 3, 1) := by decide +kernel
theorem dX11_proof_20 : decode cX11_proof 20 = .ok (.iconst 0, 1) := by decide +kernel
theorem dX11_proof_21 : decode cX11_proof 21 = .ok (.iconst 3, 1) := by decide +kernel
theorem dX11_proof_22 : decode cX11_proof 22 = .ok (.invokestatic 72, 3) := by decide +kernel
theorem dX11_proof_25 : decode cX11_proof 25 = .ok (.ifCond .ne 5, 3) := by decide +kernel
theorem dX11_proof_28 : decode cX11_proof 28 = .ok (.iconst (-1), 1) := by decide +kernel
theorem dX11_proof_29 : decode cX11_proof 29 = .ok (.ireturn, 1) := by decide +kernel
theorem dX11_proof_30 : decode cX11_proof 30 = .ok (.aload_n 0, 1) := by decide +kernel
theorem dX11_proof_31 : decode cX11_proof 31 = .ok (.getfield 38, 3) := by decide +kernel
theorem dX11_proof_34 : decode cX11_proof 34 = .ok (.aload 4, 2) := by decide +kernel
theorem dX11_proof_36 : decode cX11_proof 36 = .ok (.invokevirtual 120, 3) := by decide +kernel
theorem dX11_proof_39 : decode cX11_proof 39 = .ok (.pop, 1) := by decide +kernel
theorem dX11_proof_40 : decode cX11_proof 40 = .ok (.aload_n 0, 1) := by decide +kernel
theorem dX11_proof_41 : decode cX11_proof 41 = .ok (.getfield 38, 3) := by decide +kernel
theorem dX11_proof_44 : decode cX11_proof 44 = .ok (.iload_n 2, 1) := by decide +kernel
theorem dX11_proof_45 : decode cX11_proof 45 = .ok (.iload_n 3, 1) := by decide +kernel
theorem dX11_proof_46 : decode cX11_proof 46 = .ok (.invokevirtual 232, 3) := by decide +kernel
theorem dX11_proof_49 : decode cX11_proof 49 = .ok (.ireturn, 1) := by decide +kernel
theorem dX11_proves_0 : decode cX11_proves 0 = .ok (.aload_n 0, 1) := by decide +kernel
theorem dX11_proves_1 : decode cX11_proves 1 = .ok (.iconst 0, 1) := by decide +kernel
theorem dX11_proves_2 : decode cX11_proves 2 = .ok (.putfield 64, 3) := by decide +kernel
theorem dX11_proves_5 : decode cX11_proves 5 = .ok (.aload_n 0, 1) := by decide +kernel
theorem dX11_proves_6 : decode cX11_proves 6 = .ok (.iload 4, 2) := by decide +kernel
theorem dX11_proves_8 : decode cX11_proves 8 = .ok (.invokevirtual 68, 3) := by decide +kernel
theorem dX11_proves_11 : decode cX11_proves 11 = .ok (.astore 7, 2) := by decide +kernel
theorem dX11_proves_13 : decode cX11_proves 13 = .ok (.aload 7, 2) := by decide +kernel
theorem dX11_proves_15 : decode cX11_proves 15 = .ok (.ifnull 10, 3) := by decide +kernel
theorem dX11_proves_18 : decode cX11_proves 18 = .ok (.iload_n 1, 1) := by decide +kernel
theorem dX11_proves_19 : decode cX11_proves 19 = .ok (.invokestatic 229, 3) := by decide +kernel
theorem dX11_proves_22 : decode cX11_proves 22 = .ok (.ifCond .ne 5, 3) := by decide +kernel
theorem dX11_proves_25 : decode cX11_proves 25 = .ok (.iconst (-1), 1) := by decide +kernel
theorem dX11_proves_26 : decode cX11_proves 26 = .ok (.ireturn, 1) := by decide +kernel
theorem dX11_proves_27 : decode cX11_proves 27 = .ok (.iload_n 2, 1) := by decide +kernel
theorem dX11_proves_28 : decode cX11_proves 28 = .ok (.iconst (-1), 1) := by decide +kernel
theorem dX11_proves_29 : decode cX11_proves 29 = .ok (.bipush 99, 2) := by decide +kernel
theorem dX11_proves_31 : decode cX11_proves 31 = .ok (.invokestatic 72, 3) := by decide +kernel
theorem dX11_proves_34 : decode cX11_proves 34 = .ok (.ifCond .eq 11, 3) := by decide +kernel
theorem dX11_proves_37 : decode cX11_proves 37 = .ok (.iload 5, 2) := by decide +kernel
theorem dX11_proves_39 : decode cX11_proves 39 = .ok (.invokestatic 76, 3) := by decide +kernel
theorem dX11_proves_42 : decode cX11_proves 42 = .ok (.ifCond .ne 6, 3) := by decide +kernel
theorem dX11_proves_45 : decode cX11_proves 45 = .ok (.bipush (-2), 2) := by decide +kernel
theorem dX11_proves_47 : decode cX11_proves 47 = .ok (.ireturn, 1) := by decide +kernel
theorem dX11_proves_48 : decode cX11_proves 48 = .ok (.aload 7, 2) := by decide +kernel
theorem dX11_proves_50 : decode cX11_proves 50 = .ok (.iload 5, 2) := by decide +kernel
theorem dX11_proves_52 : decode cX11_proves 52 = .ok (.iload 6, 2) := by decide +kernel
theorem dX11_proves_54 : decode cX11_proves 54 = .ok (.iconst 4, 1) := by decide +kernel
theorem dX11_proves_55 : decode cX11_proves 55 = .ok (.invokevirtual 80, 3) := by decide +kernel
theorem dX11_proves_58 : decode cX11_proves 58 = .ok (.istore 8, 2) := by decide +kernel
theorem dX11_proves_60 : decode cX11_proves 60 = .ok (.iload 8, 2) := by decide +kernel
theorem dX11_proves_62 : decode cX11_proves 62 = .ok (.ifCond .eq 10, 3) := by decide +kernel
theorem dX11_proves_65 : decode cX11_proves 65 = .ok (.aload_n 0, 1) := by decide +kernel
theorem dX11_proves_66 : decode cX11_proves 66 = .ok (.iload 8, 2) := by decide +kernel
theorem dX11_proves_68 : decode cX11_proves 68 = .ok (.invokevirtual 84, 3) := by decide +kernel
theorem dX11_proves_71 : decode cX11_proves 71 = .ok (.ireturn, 1) := by decide +kernel
theorem dX11_proves_72 : decode cX11_proves 72 = .ok (.iload_n 2, 1) := by decide +kernel
theorem dX11_proves_73 : decode cX11_proves 73 = .ok (.iconst 1, 1) := by decide +kernel
theorem dX11_proves_74 : decode cX11_proves 74 = .ok (.iadd, 1) := by decide +kernel
theorem dX11_proves_75 : decode cX11_proves 75 = .ok (.istore 9, 2) := by decide +kernel
theorem dX11_proves_77 : decode cX11_proves 77 = .ok (.iconst 0, 1) := by decide +kernel
theorem dX11_proves_78 : decode cX11_proves 78 = .ok (.istore 10, 2) := by decide +kernel
theorem dX11_proves_80 : decode cX11_proves 80 = .ok (.iload 10, 2) := by decide +kernel
theorem dX11_proves_82 : decode cX11_proves 82 = .ok (.iconst 4, 1) := by decide +kernel
theorem dX11_proves_83 : decode cX11_proves 83 = .ok (.if_icmp .ge 75, 3) := by decide +kernel
theorem dX11_proves_86 : decode cX11_proves 86 = .ok (.aload 7, 2) := by decide +kernel
theorem dX11_proves_88 : decode cX11_proves 88 = .ok (.iload 6, 2) := by decide +kernel
theorem dX11_proves_90 : decode cX11_proves 90 = .ok (.iload 10, 2) := by decide +kernel
theorem dX11_proves_92 : decode cX11_proves 92 = .ok (.iadd, 1) := by decide +kernel
theorem dX11_proves_93 : decode cX11_proves 93 = .ok (.invokevirtual 236, 3) := by decide +kernel
theorem dX11_proves_96 : decode cX11_proves 96 = .ok (.istore 11, 2) := by decide +kernel
theorem dX11_proves_98 : decode cX11_proves 98 = .ok (.iload 11, 2) := by decide +kernel
theorem dX11_proves_100 : decode cX11_proves 100 = .ok (.iconst 0, 1) := by decide +kernel
theorem dX11_proves_101 : decode cX11_proves 101 = .ok (.sipush 9972, 3) := by decide +kernel
theorem dX11_proves_104 : decode cX11_proves 104 = .ok (.invokestatic 72, 3) := by decide +kernel
theorem dX11_proves_107 : decode cX11_proves 107 = .ok (.ifCond .ne 5, 3) := by decide +kernel
theorem dX11_proves_110 : decode cX11_proves 110 = .ok (.iconst 0, 1) := by decide +kernel
theorem dX11_proves_111 : decode cX11_proves 111 = .ok (.ireturn, 1) := by decide +kernel
theorem dX11_proves_112 : decode cX11_proves 112 = .ok (.iload_n 1, 1) := by decide +kernel
theorem dX11_proves_113 : decode cX11_proves 113 = .ok (.iload 10, 2) := by decide +kernel
theorem dX11_proves_115 : decode cX11_proves 115 = .ok (.ishr, 1) := by decide +kernel
theorem dX11_proves_116 : decode cX11_proves 116 = .ok (.iconst 1, 1) := by decide +kernel
theorem dX11_proves_117 : decode cX11_proves 117 = .ok (.iand, 1) := by decide +kernel
theorem dX11_proves_118 : decode cX11_proves 118 = .ok (.ifCond .ne 7, 3) := by decide +kernel
theorem dX11_proves_121 : decode cX11_proves 121 = .ok (.iconst 1, 1) := by decide +kernel
theorem dX11_proves_122 : decode cX11_proves 122 = .ok (.goto 4, 3) := by decide +kernel
theorem dX11_proves_125 : decode cX11_proves 125 = .ok (.iconst 0, 1) := by decide +kernel
theorem dX11_proves_126 : decode cX11_proves 126 = .ok (.istore 12, 2) := by decide +kernel
theorem dX11_proves_128 : decode cX11_proves 128 = .ok (.iload 12, 2) := by decide +kernel
theorem dX11_proves_130 : decode cX11_proves 130 = .ok (.ifCond .eq 13, 3) := by decide +kernel
theorem dX11_proves_133 : decode cX11_proves 133 = .ok (.iload 9, 2) := by decide +kernel
theorem dX11_proves_135 : decode cX11_proves 135 = .ok (.iload 11, 2) := by decide +kernel
theorem dX11_proves_137 : decode cX11_proves 137 = .ok (.invokestatic 239, 3) := by decide +kernel
theorem dX11_proves_140 : decode cX11_proves 140 = .ok (.goto 10, 3) := by decide +kernel
theorem dX11_proves_143 : decode cX11_proves 143 = .ok (.iload 11, 2) := by decide +kernel
theorem dX11_proves_145 : decode cX11_proves 145 = .ok (.iload 9, 2) := by decide +kernel
theorem dX11_proves_147 : decode cX11_proves 147 = .ok (.invokestatic 239, 3) := by decide +kernel
theorem dX11_proves_150 : decode cX11_proves 150 = .ok (.istore 9, 2) := by decide +kernel
theorem dX11_proves_152 : decode cX11_proves 152 = .ok (.iinc 10 1, 3) := by decide +kernel
theorem dX11_proves_155 : decode cX11_proves 155 = .ok (.goto (-75), 3) := by decide +kernel
theorem dX11_proves_158 : decode cX11_proves 158 = .ok (.iload 9, 2) := by decide +kernel
theorem dX11_proves_160 : decode cX11_proves 160 = .ok (.iload_n 3, 1) := by decide +kernel
theorem dX11_proves_161 : decode cX11_proves 161 = .ok (.if_icmp .ne 7, 3) := by decide +kernel
theorem dX11_proves_164 : decode cX11_proves 164 = .ok (.iconst 1, 1) := by decide +kernel
theorem dX11_proves_165 : decode cX11_proves 165 = .ok (.goto 4, 3) := by decide +kernel
theorem dX11_proves_168 : decode cX11_proves 168 = .ok (.iconst 0, 1) := by decide +kernel
theorem dX11_proves_169 : decode cX11_proves 169 = .ok (.ireturn, 1) := by decide +kernel
theorem dX11_hide_0 : decode cX11_hide 0 = .ok (.aload_n 0, 1) := by decide +kernel
theorem dX11_hide_1 : decode cX11_hide 1 = .ok (.iload_n 1, 1) := by decide +kernel
theorem dX11_hide_2 : decode cX11_hide 2 = .ok (.invokevirtual 106, 3) := by decide +kernel
theorem dX11_hide_5 : decode cX11_hide 5 = .ok (.astore_n 3, 1) := by decide +kernel
theorem dX11_hide_6 : decode cX11_hide 6 = .ok (.aload_n 3, 1) := by decide +kernel
theorem dX11_hide_7 : decode cX11_hide 7 = .ok (.ifnonnull 5, 3) := by decide +kernel
theorem dX11_hide_10 : decode cX11_hide 10 = .ok (.iconst (-1), 1) := by decide +kernel
theorem dX11_hide_11 : decode cX11_hide 11 = .ok (.ireturn, 1) := by decide +kernel
theorem dX11_hide_12 : decode cX11_hide 12 = .ok (.iload_n 2, 1) := by decide +kernel
theorem dX11_hide_13 : decode cX11_hide 13 = .ok (.invokestatic 242, 3) := by decide +kernel
theorem dX11_hide_16 : decode cX11_hide 16 = .ok (.ifCond .eq 11, 3) := by decide +kernel
theorem dX11_hide_19 : decode cX11_hide 19 = .ok (.aload_n 3, 1) := by decide +kernel
theorem dX11_hide_20 : decode cX11_hide 20 = .ok (.iload_n 2, 1) := by decide +kernel
theorem dX11_hide_21 : decode cX11_hide 21 = .ok (.invokevirtual 245, 3) := by decide +kernel
theorem dX11_hide_24 : decode cX11_hide 24 = .ok (.goto 5, 3) := by decide +kernel
theorem dX11_hide_27 : decode cX11_hide 27 = .ok (.bipush (-2), 2) := by decide +kernel
theorem dX11_hide_29 : decode cX11_hide 29 = .ok (.ireturn, 1) := by decide +kernel
theorem dX11_found_0 : decode cX11_found 0 = .ok (.aload_n 0, 1) := by decide +kernel
theorem dX11_found_1 : decode cX11_found 1 = .ok (.iload_n 1, 1) := by decide +kernel
theorem dX11_found_2 : decode cX11_found 2 = .ok (.invokevirtual 106, 3) := by decide +kernel
theorem dX11_found_5 : decode cX11_found 5 = .ok (.astore_n 3, 1) := by decide +kernel
theorem dX11_found_6 : decode cX11_found 6 = .ok (.aload_n 3, 1) := by decide +kernel
theorem dX11_found_7 : decode cX11_found 7 = .ok (.ifnonnull 5, 3) := by decide +kernel
theorem dX11_found_10 : decode cX11_found 10 = .ok (.iconst (-1), 1) := by decide +kernel
theorem dX11_found_11 : decode cX11_found 11 = .ok (.ireturn, 1) := by decide +kernel
theorem dX11_found_12 : decode cX11_found 12 = .ok (.iload_n 2, 1) := by decide +kernel
theorem dX11_found_13 : decode cX11_found 13 = .ok (.invokestatic 242, 3) := by decide +kernel
theorem dX11_found_16 : decode cX11_found 16 = .ok (.ifCond .eq 11, 3) := by decide +kernel
theorem dX11_found_19 : decode cX11_found 19 = .ok (.aload_n 3, 1) := by decide +kernel
theorem dX11_found_20 : decode cX11_found 20 = .ok (.iload_n 2, 1) := by decide +kernel
theorem dX11_found_21 : decode cX11_found 21 = .ok (.invokevirtual 248, 3) := by decide +kernel
theorem dX11_found_24 : decode cX11_found 24 = .ok (.goto 5, 3) := by decide +kernel
theorem dX11_found_27 : decode cX11_found 27 = .ok (.bipush (-2), 2) := by decide +kernel
theorem dX11_found_29 : decode cX11_found 29 = .ok (.ireturn, 1) := by decide +kernel
theorem dX11_falsely_0 : decode cX11_falsely 0 = .ok (.aload_n 0, 1) := by decide +kernel
theorem dX11_falsely_1 : decode cX11_falsely 1 = .ok (.iload_n 1, 1) := by decide +kernel
theorem dX11_falsely_2 : decode cX11_falsely 2 = .ok (.invokevirtual 106, 3) := by decide +kernel
theorem dX11_falsely_5 : decode cX11_falsely 5 = .ok (.astore 4, 2) := by decide +kernel
theorem dX11_falsely_7 : decode cX11_falsely 7 = .ok (.aload 4, 2) := by decide +kernel
theorem dX11_falsely_9 : decode cX11_falsely 9 = .ok (.ifnull 19, 3) := by decide +kernel
theorem dX11_falsely_12 : decode cX11_falsely 12 = .ok (.iload_n 2, 1) := by decide +kernel
theorem dX11_falsely_13 : decode cX11_falsely 13 = .ok (.invokestatic 242, 3) := by decide +kernel
theorem dX11_falsely_16 : decode cX11_falsely 16 = .ok (.ifCond .eq 12, 3) := by decide +kernel
theorem dX11_falsely_19 : decode cX11_falsely 19 = .ok (.iload_n 3, 1) := by decide +kernel
theorem dX11_falsely_20 : decode cX11_falsely 20 = .ok (.iconst 0, 1) := by decide +kernel
theorem dX11_falsely_21 : decode cX11_falsely 21 = .ok (.iconst 1, 1) := by decide +kernel
theorem dX11_falsely_22 : decode cX11_falsely 22 = .ok (.invokestatic 72, 3) := by decide +kernel
theorem dX11_falsely_25 : decode cX11_falsely 25 = .ok (.ifCond .ne 7, 3) := by decide +kernel
theorem dX11_falsely_28 : decode cX11_falsely 28 = .ok (.ldc2_w 251, 3) := by decide +kernel
theorem dX11_falsely_31 : decode cX11_falsely 31 = .ok (.lreturn, 1) := by decide +kernel
theorem dX11_falsely_32 : decode cX11_falsely 32 = .ok (.bipush 8, 2) := by decide +kernel
theorem dX11_falsely_34 : decode cX11_falsely 34 = .ok (.aload 4, 2) := by decide +kernel
theorem dX11_falsely_36 : decode cX11_falsely 36 = .ok (.getfield 110, 3) := by decide +kernel
theorem dX11_falsely_39 : decode cX11_falsely 39 = .ok (.aload 4, 2) := by decide +kernel
theorem dX11_falsely_41 : decode cX11_falsely 41 = .ok (.getfield 113, 3) := by decide +kernel
theorem dX11_falsely_44 : decode cX11_falsely 44 = .ok (.imul, 1) := by decide +kernel
theorem dX11_falsely_45 : decode cX11_falsely 45 = .ok (.invokestatic 253, 3) := by decide +kernel
theorem dX11_falsely_48 : decode cX11_falsely 48 = .ok (.istore 5, 2) := by decide +kernel
theorem dX11_falsely_50 : decode cX11_falsely 50 = .ok (.aload 4, 2) := by decide +kernel
theorem dX11_falsely_52 : decode cX11_falsely 52 = .ok (.iload_n 2, 1) := by decide +kernel
theorem dX11_falsely_53 : decode cX11_falsely 53 = .ok (.invokevirtual 248, 3) := by decide +kernel
theorem dX11_falsely_56 : decode cX11_falsely 56 = .ok (.iload 5, 2) := by decide +kernel
theorem dX11_falsely_58 : decode cX11_falsely 58 = .ok (.invokestatic 258, 3) := by decide +kernel
theorem dX11_falsely_61 : decode cX11_falsely 61 = .ok (.lstore 6, 2) := by decide +kernel
theorem dX11_falsely_63 : decode cX11_falsely 63 = .ok (.lconst 1, 1) := by decide +kernel
theorem dX11_falsely_64 : decode cX11_falsely 64 = .ok (.iload 5, 2) := by decide +kernel
theorem dX11_falsely_66 : decode cX11_falsely 66 = .ok (.lshl, 1) := by decide +kernel
theorem dX11_falsely_67 : decode cX11_falsely 67 = .ok (.lstore 8, 2) := by decide +kernel
theorem dX11_falsely_69 : decode cX11_falsely 69 = .ok (.iconst 0, 1) := by decide +kernel
theorem dX11_falsely_70 : decode cX11_falsely 70 = .ok (.istore 10, 2) := by decide +kernel
theorem dX11_falsely_72 : decode cX11_falsely 72 = .ok (.iload 10, 2) := by decide +kernel
theorem dX11_falsely_74 : decode cX11_falsely 74 = .ok (.iload 5, 2) := by decide +kernel
theorem dX11_falsely_76 : decode cX11_falsely 76 = .ok (.if_icmp .ge 47, 3) := by decide +kernel
theorem dX11_falsely_79 : decode cX11_falsely 79 = .ok (.lload 6, 2) := by decide +kernel
theorem dX11_falsely_81 : decode cX11_falsely 81 = .ok (.ldc2_w 262, 3) := by decide +kernel
theorem dX11_falsely_84 : decode cX11_falsely 84 = .ok (.lrem, 1) := by decide +kernel
theorem dX11_falsely_85 : decode cX11_falsely 85 = .ok (.lconst 0, 1) := by decide +kernel
theorem dX11_falsely_86 : decode cX11_falsely 86 = .ok (.lcmp, 1) := by decide +kernel
theorem dX11_falsely_87 : decode cX11_falsely 87 = .ok (.ifCond .ne 36, 3) := by decide +kernel
theorem dX11_falsely_90 : decode cX11_falsely 90 = .ok (.lload 8, 2) := by decide +kernel
theorem dX11_falsely_92 : decode cX11_falsely 92 = .ok (.ldc2_w 262, 3) := by decide +kernel
theorem dX11_falsely_95 : decode cX11_falsely 95 = .ok (.lrem, 1) := by decide +kernel
theorem dX11_falsely_96 : decode cX11_falsely 96 = .ok (.lconst 0, 1) := by decide +kernel
theorem dX11_falsely_97 : decode cX11_falsely 97 = .ok (.lcmp, 1) := by decide +kernel
theorem dX11_falsely_98 : decode cX11_falsely 98 = .ok (.ifCond .ne 25, 3) := by decide +kernel
theorem dX11_falsely_101 : decode cX11_falsely 101 = .ok (.lload 6, 2) := by decide +kernel
theorem dX11_falsely_103 : decode cX11_falsely 103 = .ok (.ldc2_w 262, 3) := by decide +kernel
theorem dX11_falsely_106 : decode cX11_falsely 106 = .ok (.ldiv, 1) := by decide +kernel
theorem dX11_falsely_107 : decode cX11_falsely 107 = .ok (.lstore 6, 2) := by decide +kernel
theorem dX11_falsely_109 : decode cX11_falsely 109 = .ok (.lload 8, 2) := by decide +kernel
theorem dX11_falsely_111 : decode cX11_falsely 111 = .ok (.ldc2_w 262, 3) := by decide +kernel
theorem dX11_falsely_114 : decode cX11_falsely 114 = .ok (.ldiv, 1) := by decide +kernel
theorem dX11_falsely_115 : decode cX11_falsely 115 = .ok (.lstore 8, 2) := by decide +kernel
theorem dX11_falsely_117 : decode cX11_falsely 117 = .ok (.iinc 10 1, 3) := by decide +kernel
theorem dX11_falsely_120 : decode cX11_falsely 120 = .ok (.goto (-48), 3) := by decide +kernel
theorem dX11_falsely_123 : decode cX11_falsely 123 = .ok (.iload_n 3, 1) := by decide +kernel
theorem dX11_falsely_124 : decode cX11_falsely 124 = .ok (.ifCond .ne 8, 3) := by decide +kernel
theorem dX11_falsely_127 : decode cX11_falsely 127 = .ok (.lload 6, 2) := by decide +kernel
theorem dX11_falsely_129 : decode cX11_falsely 129 = .ok (.goto 5, 3) := by decide +kernel
theorem dX11_falsely_132 : decode cX11_falsely 132 = .ok (.lload 8, 2) := by decide +kernel
theorem dX11_falsely_134 : decode cX11_falsely 134 = .ok (.lreturn, 1) := by decide +kernel
theorem dX11_like_0 : decode cX11_like 0 = .ok (.aload_n 0, 1) := by decide +kernel
theorem dX11_like_1 : decode cX11_like 1 = .ok (.iload_n 1, 1) := by decide +kernel
theorem dX11_like_2 : decode cX11_like 2 = .ok (.invokevirtual 106, 3) := by decide +kernel
theorem dX11_like_5 : decode cX11_like 5 = .ok (.astore_n 3, 1) := by decide +kernel
theorem dX11_like_6 : decode cX11_like 6 = .ok (.aload_n 0, 1) := by decide +kernel
theorem dX11_like_7 : decode cX11_like 7 = .ok (.iload_n 2, 1) := by decide +kernel
theorem dX11_like_8 : decode cX11_like 8 = .ok (.invokevirtual 106, 3) := by decide +kernel
theorem dX11_like_11 : decode cX11_like 11 = .ok (.astore 4, 2) := by decide +kernel
theorem dX11_like_13 : decode cX11_like 13 = .ok (.aload_n 3, 1) := by decide +kernel
theorem dX11_like_14 : decode cX11_like 14 = .ok (.ifnull 8, 3) := by decide +kernel
theorem dX11_like_17 : decode cX11_like 17 = .ok (.aload 4, 2) := by decide +kernel
theorem dX11_like_19 : decode cX11_like 19 = .ok (.ifnonnull 7, 3) := by decide +kernel
theorem dX11_like_22 : decode cX11_like 22 = .ok (.iconst (-1), 1) := by decide +kernel
theorem dX11_like_23 : decode cX11_like 23 = .ok (.goto 9, 3) := by decide +kernel
theorem dX11_like_26 : decode cX11_like 26 = .ok (.aload_n 3, 1) := by decide +kernel
theorem dX11_like_27 : decode cX11_like 27 = .ok (.aload 4, 2) := by decide +kernel
theorem dX11_like_29 : decode cX11_like 29 = .ok (.invokestatic 264, 3) := by decide +kernel
theorem dX11_like_32 : decode cX11_like 32 = .ok (.ireturn, 1) := by decide +kernel
theorem dX11_nearest_0 : decode cX11_nearest 0 = .ok (.aload_n 0, 1) := by decide +kernel
theorem dX11_nearest_1 : decode cX11_nearest 1 = .ok (.iload_n 1, 1) := by decide +kernel
theorem dX11_nearest_2 : decode cX11_nearest 2 = .ok (.invokevirtual 106, 3) := by decide +kernel
theorem dX11_nearest_5 : decode cX11_nearest 5 = .ok (.astore_n 3, 1) := by decide +kernel
theorem dX11_nearest_6 : decode cX11_nearest 6 = .ok (.aload_n 3, 1) := by decide +kernel
theorem dX11_nearest_7 : decode cX11_nearest 7 = .ok (.ifnull 13, 3) := by decide +kernel
theorem dX11_nearest_10 : decode cX11_nearest 10 = .ok (.iload_n 2, 1) := by decide +kernel
theorem dX11_nearest_11 : decode cX11_nearest 11 = .ok (.iconst 0, 1) := by decide +kernel
theorem dX11_nearest_12 : decode cX11_nearest 12 = .ok (.bipush 10, 2) := by decide +kernel
theorem dX11_nearest_14 : decode cX11_nearest 14 = .ok (.invokestatic 72, 3) := by decide +kernel
theorem dX11_nearest_17 : decode cX11_nearest 17 = .ok (.ifCond .ne 5, 3) := by decide +kernel
theorem dX11_nearest_20 : decode cX11_nearest 20 = .ok (.iconst (-1), 1) := by decide +kernel
theorem dX11_nearest_21 : decode cX11_nearest 21 = .ok (.ireturn, 1) := by decide +kernel
theorem dX11_nearest_22 : decode cX11_nearest 22 = .ok (.iconst 0, 1) := by decide +kernel
theorem dX11_nearest_23 : decode cX11_nearest 23 = .ok (.istore 4, 2) := by decide +kernel
theorem dX11_nearest_25 : decode cX11_nearest 25 = .ok (.iload 4, 2) := by decide +kernel
theorem dX11_nearest_27 : decode cX11_nearest 27 = .ok (.aload_n 0, 1) := by decide +kernel
theorem dX11_nearest_28 : decode cX11_nearest 28 = .ok (.getfield 92, 3) := by decide +kernel
theorem dX11_nearest_31 : decode cX11_nearest 31 = .ok (.if_icmp .ge 34, 3) := by decide +kernel
theorem dX11_nearest_34 : decode cX11_nearest 34 = .ok (.iload 4, 2) := by decide +kernel
theorem dX11_nearest_36 : decode cX11_nearest 36 = .ok (.iload_n 1, 1) := by decide +kernel
theorem dX11_nearest_37 : decode cX11_nearest 37 = .ok (.if_icmp .eq 22, 3) := by decide +kernel
theorem dX11_nearest_40 : decode cX11_nearest 40 = .ok (.aload_n 0, 1) := by decide +kernel
theorem dX11_nearest_41 : decode cX11_nearest 41 = .ok (.aload_n 3, 1) := by decide +kernel
theorem dX11_nearest_42 : decode cX11_nearest 42 = .ok (.aload_n 0, 1) := by decide +kernel
theorem dX11_nearest_43 : decode cX11_nearest 43 = .ok (.getfield 13, 3) := by decide +kernel
theorem dX11_nearest_46 : decode cX11_nearest 46 = .ok (.iload 4, 2) := by decide +kernel
theorem dX11_nearest_48 : decode cX11_nearest 48 = .ok (.aaload, 1) := by decide +kernel
theorem dX11_nearest_49 : decode cX11_nearest 49 = .ok (.invokevirtual 268, 3) := by decide +kernel
theorem dX11_nearest_52 : decode cX11_nearest 52 = .ok (.iload_n 2, 1) := by decide +kernel
theorem dX11_nearest_53 : decode cX11_nearest 53 = .ok (.if_icmp .ne 6, 3) := by decide +kernel
theorem dX11_nearest_56 : decode cX11_nearest 56 = .ok (.iload 4, 2) := by decide +kernel
theorem dX11_nearest_58 : decode cX11_nearest 58 = .ok (.ireturn, 1) := by decide +kernel
theorem dX11_nearest_59 : decode cX11_nearest 59 = .ok (.iinc 4 1, 3) := by decide +kernel
theorem dX11_nearest_62 : decode cX11_nearest 62 = .ok (.goto (-37), 3) := by decide +kernel
theorem dX11_nearest_65 : decode cX11_nearest 65 = .ok (.bipush (-9), 2) := by decide +kernel
theorem dX11_nearest_67 : decode cX11_nearest 67 = .ok (.ireturn, 1) := by decide +kernel
theorem dX11_coarse_0 : decode cX11_coarse 0 = .ok (.aload_n 0, 1) := by decide +kernel
theorem dX11_coarse_1 : decode cX11_coarse 1 = .ok (.iload_n 1, 1) := by decide +kernel
theorem dX11_coarse_2 : decode cX11_coarse 2 = .ok (.invokevirtual 106, 3) := by decide +kernel
theorem dX11_coarse_5 : decode cX11_coarse 5 = .ok (.astore_n 3, 1) := by decide +kernel
theorem dX11_coarse_6 : decode cX11_coarse 6 = .ok (.aload_n 3, 1) := by decide +kernel
theorem dX11_coarse_7 : decode cX11_coarse 7 = .ok (.ifnonnull 5, 3) := by decide +kernel
theorem dX11_coarse_10 : decode cX11_coarse 10 = .ok (.iconst (-1), 1) := by decide +kernel
theorem dX11_coarse_11 : decode cX11_coarse 11 = .ok (.ireturn, 1) := by decide +kernel
theorem dX11_coarse_12 : decode cX11_coarse 12 = .ok (.iload_n 2, 1) := by decide +kernel
theorem dX11_coarse_13 : decode cX11_coarse 13 = .ok (.iconst 1, 1) := by decide +kernel
theorem dX11_coarse_14 : decode cX11_coarse 14 = .ok (.bipush 24, 2) := by decide +kernel
theorem dX11_coarse_16 : decode cX11_coarse 16 = .ok (.invokestatic 72, 3) := by decide +kernel
theorem dX11_coarse_19 : decode cX11_coarse 19 = .ok (.ifCond .ne 6, 3) := by decide +kernel
theorem dX11_coarse_22 : decode cX11_coarse 22 = .ok (.bipush (-2), 2) := by decide +kernel
theorem dX11_coarse_24 : decode cX11_coarse 24 = .ok (.ireturn, 1) := by decide +kernel
theorem dX11_coarse_25 : decode cX11_coarse 25 = .ok (.aload_n 3, 1) := by decide +kernel
theorem dX11_coarse_26 : decode cX11_coarse 26 = .ok (.getfield 147, 3) := by decide +kernel
theorem dX11_coarse_29 : decode cX11_coarse 29 = .ok (.ifnonnull 8, 3) := by decide +kernel
theorem dX11_coarse_32 : decode cX11_coarse 32 = .ok (.bipush (-3), 2) := by decide +kernel
theorem dX11_coarse_34 : decode cX11_coarse 34 = .ok (.goto 14, 3) := by decide +kernel
theorem dX11_coarse_37 : decode cX11_coarse 37 = .ok (.aload_n 3, 1) := by decide +kernel
theorem dX11_coarse_38 : decode cX11_coarse 38 = .ok (.getfield 147, 3) := by decide +kernel
theorem dX11_coarse_41 : decode cX11_coarse 41 = .ok (.getfield 207, 3) := by decide +kernel
theorem dX11_coarse_44 : decode cX11_coarse 44 = .ok (.iload_n 2, 1) := by decide +kernel
theorem dX11_coarse_45 : decode cX11_coarse 45 = .ok (.idiv, 1) := by decide +kernel
theorem dX11_coarse_46 : decode cX11_coarse 46 = .ok (.iload_n 2, 1) := by decide +kernel
theorem dX11_coarse_47 : decode cX11_coarse 47 = .ok (.imul, 1) := by decide +kernel
theorem dX11_coarse_48 : decode cX11_coarse 48 = .ok (.ireturn, 1) := by decide +kernel
theorem dX11_look_0 : decode cX11_look 0 = .ok (.aload_n 0, 1) := by decide +kernel
theorem dX11_look_1 : decode cX11_look 1 = .ok (.iload_n 1, 1) := by decide +kernel
theorem dX11_look_2 : decode cX11_look 2 = .ok (.invokevirtual 106, 3) := by decide +kernel
theorem dX11_look_5 : decode cX11_look 5 = .ok (.astore 4, 2) := by decide +kernel
theorem dX11_look_7 : decode cX11_look 7 = .ok (.aload 4, 2) := by decide +kernel
theorem dX11_look_9 : decode cX11_look 9 = .ok (.ifnonnull 5, 3) := by decide +kernel
theorem dX11_look_12 : decode cX11_look 12 = .ok (.iconst (-1), 1) := by decide +kernel
theorem dX11_look_13 : decode cX11_look 13 = .ok (.ireturn, 1) := by decide +kernel
theorem dX11_look_14 : decode cX11_look 14 = .ok (.iload_n 2, 1) := by decide +kernel
theorem dX11_look_15 : decode cX11_look 15 = .ok (.iconst 1, 1) := by decide +kernel
theorem dX11_look_16 : decode cX11_look 16 = .ok (.bipush 9, 2) := by decide +kernel
theorem dX11_look_18 : decode cX11_look 18 = .ok (.invokestatic 72, 3) := by decide +kernel
theorem dX11_look_21 : decode cX11_look 21 = .ok (.ifCond .eq 13, 3) := by decide +kernel
theorem dX11_look_24 : decode cX11_look 24 = .ok (.iload_n 3, 1) := by decide +kernel
theorem dX11_look_25 : decode cX11_look 25 = .ok (.iconst 0, 1) := by decide +kernel
theorem dX11_look_26 : decode cX11_look 26 = .ok (.bipush 99, 2) := by decide +kernel
theorem dX11_look_28 : decode cX11_look 28 = .ok (.invokestatic 72, 3) := by decide +kernel
theorem dX11_look_31 : decode cX11_look 31 = .ok (.ifCond .ne 6, 3) := by decide +kernel
theorem dX11_look_34 : decode cX11_look 34 = .ok (.bipush (-2), 2) := by decide +kernel
theorem dX11_look_36 : decode cX11_look 36 = .ok (.ireturn, 1) := by decide +kernel
theorem dX11_look_37 : decode cX11_look 37 = .ok (.aload_n 0, 1) := by decide +kernel
theorem dX11_look_38 : decode cX11_look 38 = .ok (.getfield 271, 3) := by decide +kernel
theorem dX11_look_41 : decode cX11_look 41 = .ok (.bipush 9, 2) := by decide +kernel
theorem dX11_look_43 : decode cX11_look 43 = .ok (.if_icmp .lt 6, 3) := by decide +kernel
theorem dX11_look_46 : decode cX11_look 46 = .ok (.bipush (-4), 2) := by decide +kernel
theorem dX11_look_48 : decode cX11_look 48 = .ok (.ireturn, 1) := by decide +kernel
theorem dX11_look_49 : decode cX11_look 49 = .ok (.aload_n 0, 1) := by decide +kernel
theorem dX11_look_50 : decode cX11_look 50 = .ok (.getfield 25, 3) := by decide +kernel
theorem dX11_look_53 : decode cX11_look 53 = .ok (.aload_n 0, 1) := by decide +kernel
theorem dX11_look_54 : decode cX11_look 54 = .ok (.getfield 271, 3) := by decide +kernel
theorem dX11_look_57 : decode cX11_look 57 = .ok (.new 23, 3) := by decide +kernel
theorem dX11_look_60 : decode cX11_look 60 = .ok (.dup, 1) := by decide +kernel
theorem dX11_look_61 : decode cX11_look 61 = .ok (.aload 4, 2) := by decide +kernel
theorem dX11_look_63 : decode cX11_look 63 = .ok (.iload_n 2, 1) := by decide +kernel
theorem dX11_look_64 : decode cX11_look 64 = .ok (.iload_n 3, 1) := by decide +kernel
theorem dX11_look_65 : decode cX11_look 65 = .ok (.invokespecial 274, 3) := by decide +kernel
theorem dX11_look_68 : decode cX11_look 68 = .ok (.aastore, 1) := by decide +kernel
theorem dX11_look_69 : decode cX11_look 69 = .ok (.aload_n 0, 1) := by decide +kernel
theorem dX11_look_70 : decode cX11_look 70 = .ok (.dup, 1) := by decide +kernel
theorem dX11_look_71 : decode cX11_look 71 = .ok (.getfield 271, 3) := by decide +kernel
theorem dX11_look_74 : decode cX11_look 74 = .ok (.dup_x1, 1) := by decide +kernel
theorem dX11_look_75 : decode cX11_look 75 = .ok (.iconst 1, 1) := by decide +kernel
theorem dX11_look_76 : decode cX11_look 76 = .ok (.iadd, 1) := by decide +kernel
theorem dX11_look_77 : decode cX11_look 77 = .ok (.putfield 271, 3) := by decide +kernel
theorem dX11_look_80 : decode cX11_look 80 = .ok (.ireturn, 1) := by decide +kernel
theorem dX11_best_0 : decode cX11_best 0 = .ok (.iload_n 1, 1) := by decide +kernel
theorem dX11_best_1 : decode cX11_best 1 = .ok (.iconst 0, 1) := by decide +kernel
theorem dX11_best_2 : decode cX11_best 2 = .ok (.bipush 99, 2) := by decide +kernel
theorem dX11_best_4 : decode cX11_best 4 = .ok (.invokestatic 72, 3) := by decide +kernel
theorem dX11_best_7 : decode cX11_best 7 = .ok (.ifCond .eq 12, 3) := by decide +kernel
theorem dX11_best_10 : decode cX11_best 10 = .ok (.iload_n 2, 1) := by decide +kernel
theorem dX11_best_11 : decode cX11_best 11 = .ok (.iconst 0, 1) := by decide +kernel
theorem dX11_best_12 : decode cX11_best 12 = .ok (.iconst 2, 1) := by decide +kernel
theorem dX11_best_13 : decode cX11_best 13 = .ok (.invokestatic 72, 3) := by decide +kernel
theorem dX11_best_16 : decode cX11_best 16 = .ok (.ifCond .ne 6, 3) := by decide +kernel
theorem dX11_best_19 : decode cX11_best 19 = .ok (.bipush (-2), 2) := by decide +kernel
theorem dX11_best_21 : decode cX11_best 21 = .ok (.ireturn, 1) := by decide +kernel
theorem dX11_best_22 : decode cX11_best 22 = .ok (.iconst 0, 1) := by decide +kernel
theorem dX11_best_23 : decode cX11_best 23 = .ok (.istore_n 3, 1) := by decide +kernel
theorem dX11_best_24 : decode cX11_best 24 = .ok (.iconst 0, 1) := by decide +kernel
theorem dX11_best_25 : decode cX11_best 25 = .ok (.istore 4, 2) := by decide +kernel
theorem dX11_best_27 : decode cX11_best 27 = .ok (.iconst 0, 1) := by decide +kernel
theorem dX11_best_28 : decode cX11_best 28 = .ok (.istore 5, 2) := by decide +kernel
theorem dX11_best_30 : decode cX11_best 30 = .ok (.iconst 1, 1) := by decide +kernel
theorem dX11_best_31 : decode cX11_best 31 = .ok (.istore 6, 2) := by decide +kernel
theorem dX11_best_33 : decode cX11_best 33 = .ok (.iload 6, 2) := by decide +kernel
theorem dX11_best_35 : decode cX11_best 35 = .ok (.iconst 1, 1) := by decide +kernel
theorem dX11_best_36 : decode cX11_best 36 = .ok (.aload_n 0, 1) := by decide +kernel
theorem dX11_best_37 : decode cX11_best 37 = .ok (.getfield 271, 3) := by decide +kernel
theorem dX11_best_40 : decode cX11_best 40 = .ok (.ishl, 1) := by decide +kernel
theorem dX11_best_41 : decode cX11_best 41 = .ok (.if_icmp .ge 75, 3) := by decide +kernel
theorem dX11_best_44 : decode cX11_best 44 = .ok (.aload_n 0, 1) := by decide +kernel
theorem dX11_best_45 : decode cX11_best 45 = .ok (.iload 6, 2) := by decide +kernel
theorem dX11_best_47 : decode cX11_best 47 = .ok (.invokevirtual 277, 3) := by decide +kernel
theorem dX11_best_50 : decode cX11_best 50 = .ok (.istore 7, 2) := by decide +kernel
theorem dX11_best_52 : decode cX11_best 52 = .ok (.aload_n 0, 1) := by decide +kernel
theorem dX11_best_53 : decode cX11_best 53 = .ok (.iload 6, 2) := by decide +kernel
theorem dX11_best_55 : decode cX11_best 55 = .ok (.invokevirtual 280, 3) := by decide +kernel
theorem dX11_best_58 : decode cX11_best 58 = .ok (.istore 8, 2) := by decide +kernel
theorem dX11_best_60 : decode cX11_best 60 = .ok (.iload 8, 2) := by decide +kernel
theorem dX11_best_62 : decode cX11_best 62 = .ok (.iload 4, 2) := by decide +kernel
theorem dX11_best_64 : decode cX11_best 64 = .ok (.if_icmp .gt 17, 3) := by decide +kernel
theorem dX11_best_67 : decode cX11_best 67 = .ok (.iload 8, 2) := by decide +kernel
theorem dX11_best_69 : decode cX11_best 69 = .ok (.iload 4, 2) := by decide +kernel
theorem dX11_best_71 : decode cX11_best 71 = .ok (.if_icmp .ne 14, 3) := by decide +kernel
theorem dX11_best_74 : decode cX11_best 74 = .ok (.iload 7, 2) := by decide +kernel
theorem dX11_best_76 : decode cX11_best 76 = .ok (.iload 5, 2) := by decide +kernel
theorem dX11_best_78 : decode cX11_best 78 = .ok (.if_icmp .ge 7, 3) := by decide +kernel
theorem dX11_best_81 : decode cX11_best 81 = .ok (.iconst 1, 1) := by decide +kernel
theorem dX11_best_82 : decode cX11_best 82 = .ok (.goto 4, 3) := by decide +kernel
theorem dX11_best_85 : decode cX11_best 85 = .ok (.iconst 0, 1) := by decide +kernel
theorem dX11_best_86 : decode cX11_best 86 = .ok (.istore 9, 2) := by decide +kernel
theorem dX11_best_88 : decode cX11_best 88 = .ok (.iload 7, 2) := by decide +kernel
theorem dX11_best_90 : decode cX11_best 90 = .ok (.iload_n 1, 1) := by decide +kernel
theorem dX11_best_91 : decode cX11_best 91 = .ok (.if_icmp .gt 19, 3) := by decide +kernel
theorem dX11_best_94 : decode cX11_best 94 = .ok (.iload 9, 2) := by decide +kernel
theorem dX11_best_96 : decode cX11_best 96 = .ok (.ifCond .eq 14, 3) := by decide +kernel
theorem dX11_best_99 : decode cX11_best 99 = .ok (.iload 6, 2) := by decide +kernel
theorem dX11_best_101 : decode cX11_best 101 = .ok (.istore_n 3, 1) := by decide +kernel
theorem dX11_best_102 : decode cX11_best 102 = .ok (.iload 8, 2) := by decide +kernel
theorem dX11_best_104 : decode cX11_best 104 = .ok (.istore 4, 2) := by decide +kernel
theorem dX11_best_106 : decode cX11_best 106 = .ok (.iload 7, 2) := by decide +kernel
theorem dX11_best_108 : decode cX11_best 108 = .ok (.istore 5, 2) := by decide +kernel
theorem dX11_best_110 : decode cX11_best 110 = .ok (.iinc 6 1, 3) := by decide +kernel
theorem dX11_best_113 : decode cX11_best 113 = .ok (.goto (-80), 3) := by decide +kernel
theorem dX11_best_116 : decode cX11_best 116 = .ok (.iload_n 2, 1) := by decide +kernel
theorem dX11_best_117 : decode cX11_best 117 = .ok (.ifCond .ne 7, 3) := by decide +kernel
theorem dX11_best_120 : decode cX11_best 120 = .ok (.iload_n 3, 1) := by decide +kernel
theorem dX11_best_121 : decode cX11_best 121 = .ok (.goto 15, 3) := by decide +kernel
theorem dX11_best_124 : decode cX11_best 124 = .ok (.iload_n 2, 1) := by decide +kernel
theorem dX11_best_125 : decode cX11_best 125 = .ok (.iconst 1, 1) := by decide +kernel
theorem dX11_best_126 : decode cX11_best 126 = .ok (.if_icmp .ne 8, 3) := by decide +kernel
theorem dX11_best_129 : decode cX11_best 129 = .ok (.iload 4, 2) := by decide +kernel
theorem dX11_best_131 : decode cX11_best 131 = .ok (.goto 5, 3) := by decide +kernel
theorem dX11_best_134 : decode cX11_best 134 = .ok (.iload 5, 2) := by decide +kernel
theorem dX11_best_136 : decode cX11_best 136 = .ok (.ireturn, 1) := by decide +kernel
theorem dX11_doubtful_0 : decode cX11_doubtful 0 = .ok (.iconst 0, 1) := by decide +kernel
theorem dX11_doubtful_1 : decode cX11_doubtful 1 = .ok (.istore_n 1, 1) := by decide +kernel
theorem dX11_doubtful_2 : decode cX11_doubtful 2 = .ok (.iconst 0, 1) := by decide +kernel
theorem dX11_doubtful_3 : decode cX11_doubtful 3 = .ok (.istore_n 2, 1) := by decide +kernel
theorem dX11_doubtful_4 : decode cX11_doubtful 4 = .ok (.iload_n 2, 1) := by decide +kernel
theorem dX11_doubtful_5 : decode cX11_doubtful 5 = .ok (.aload_n 0, 1) := by decide +kernel
theorem dX11_doubtful_6 : decode cX11_doubtful 6 = .ok (.getfield 271, 3) := by decide +kernel
theorem dX11_doubtful_9 : decode cX11_doubtful 9 = .ok (.if_icmp .ge 33, 3) := by decide +kernel
theorem dX11_doubtful_12 : decode cX11_doubtful 12 = .ok (.aload_n 0, 1) := by decide +kernel
theorem dX11_doubtful_13 : decode cX11_doubtful 13 = .ok (.aload_n 0, 1) := by decide +kernel
theorem dX11_doubtful_14 : decode cX11_doubtful 14 = .ok (.getfield 25, 3) := by decide +kernel
theorem dX11_doubtful_17 : decode cX11_doubtful 17 = .ok (.iload_n 2, 1) := by decide +kernel
theorem dX11_doubtful_18 : decode cX11_doubtful 18 = .ok (.aaload, 1) := by decide +kernel
theorem dX11_doubtful_19 : decode cX11_doubtful 19 = .ok (.getfield 283, 3) := by decide +kernel
theorem dX11_doubtful_22 : decode cX11_doubtful 22 = .ok (.invokevirtual 226, 3) := by decide +kernel
theorem dX11_doubtful_25 : decode cX11_doubtful 25 = .ok (.bipush (-9), 2) := by decide +kernel
theorem dX11_doubtful_27 : decode cX11_doubtful 27 = .ok (.if_icmp .eq 9, 3) := by decide +kernel
theorem dX11_doubtful_30 : decode cX11_doubtful 30 = .ok (.iload_n 1, 1) := by decide +kernel
theorem dX11_doubtful_31 : decode cX11_doubtful 31 = .ok (.iconst 1, 1) := by decide +kernel
theorem dX11_doubtful_32 : decode cX11_doubtful 32 = .ok (.iload_n 2, 1) := by decide +kernel
theorem dX11_doubtful_33 : decode cX11_doubtful 33 = .ok (.ishl, 1) := by decide +kernel
theorem dX11_doubtful_34 : decode cX11_doubtful 34 = .ok (.ior, 1) := by decide +kernel
theorem dX11_doubtful_35 : decode cX11_doubtful 35 = .ok (.istore_n 1, 1) := by decide +kernel
theorem dX11_doubtful_36 : decode cX11_doubtful 36 = .ok (.iinc 2 1, 3) := by decide +kernel
theorem dX11_doubtful_39 : decode cX11_doubtful 39 = .ok (.goto (-35), 3) := by decide +kernel
theorem dX11_doubtful_42 : decode cX11_doubtful 42 = .ok (.iload_n 1, 1) := by decide +kernel
theorem dX11_doubtful_43 : decode cX11_doubtful 43 = .ok (.ireturn, 1) := by decide +kernel
theorem dX11_sheet_0 : decode cX11_sheet 0 = .ok (.aload_n 0, 1) := by decide +kernel
theorem dX11_sheet_1 : decode cX11_sheet 1 = .ok (.iconst 0, 1) := by decide +kernel
theorem dX11_sheet_2 : decode cX11_sheet 2 = .ok (.putfield 64, 3) := by decide +kernel
theorem dX11_sheet_5 : decode cX11_sheet 5 = .ok (.aload_n 0, 1) := by decide +kernel
theorem dX11_sheet_6 : decode cX11_sheet 6 = .ok (.iload_n 1, 1) := by decide +kernel
theorem dX11_sheet_7 : decode cX11_sheet 7 = .ok (.invokevirtual 68, 3) := by decide +kernel
theorem dX11_sheet_10 : decode cX11_sheet 10 = .ok (.astore 4, 2) := by decide +kernel
theorem dX11_sheet_12 : decode cX11_sheet 12 = .ok (.aload 4, 2) := by decide +kernel
theorem dX11_sheet_14 : decode cX11_sheet 14 = .ok (.ifnonnull 5, 3) := by decide +kernel
theorem dX11_sheet_17 : decode cX11_sheet 17 = .ok (.iconst (-1), 1) := by decide +kernel
theorem dX11_sheet_18 : decode cX11_sheet 18 = .ok (.ireturn, 1) := by decide +kernel
theorem dX11_sheet_19 : decode cX11_sheet 19 = .ok (.iload_n 2, 1) := by decide +kernel
theorem dX11_sheet_20 : decode cX11_sheet 20 = .ok (.invokestatic 76, 3) := by decide +kernel
theorem dX11_sheet_23 : decode cX11_sheet 23 = .ok (.ifCond .eq 9, 3) := by decide +kernel
theorem dX11_sheet_26 : decode cX11_sheet 26 = .ok (.iload_n 3, 1) := by decide +kernel
theorem dX11_sheet_27 : decode cX11_sheet 27 = .ok (.bipush 60, 2) := by decide +kernel
theorem dX11_sheet_29 : decode cX11_sheet 29 = .ok (.if_icmp .le 6, 3) := by decide +kernel
theorem dX11_sheet_32 : decode cX11_sheet 32 = .ok (.bipush (-2), 2) := by decide +kernel
theorem dX11_sheet_34 : decode cX11_sheet 34 = .ok (.ireturn, 1) := by decide +kernel
theorem dX11_sheet_35 : decode cX11_sheet 35 = .ok (.iload_n 3, 1) := by decide +kernel
theorem dX11_sheet_36 : decode cX11_sheet 36 = .ok (.ifCond .ge 9, 3) := by decide +kernel
theorem dX11_sheet_39 : decode cX11_sheet 39 = .ok (.aload_n 0, 1) := by decide +kernel
theorem dX11_sheet_40 : decode cX11_sheet 40 = .ok (.iconst 4, 1) := by decide +kernel
theorem dX11_sheet_41 : decode cX11_sheet 41 = .ok (.invokevirtual 84, 3) := by decide +kernel
theorem dX11_sheet_44 : decode cX11_sheet 44 = .ok (.ireturn, 1) := by decide +kernel
theorem dX11_sheet_45 : decode cX11_sheet 45 = .ok (.aload 4, 2) := by decide +kernel
theorem dX11_sheet_47 : decode cX11_sheet 47 = .ok (.iload_n 2, 1) := by decide +kernel
theorem dX11_sheet_48 : decode cX11_sheet 48 = .ok (.iload_n 3, 1) := by decide +kernel
theorem dX11_sheet_49 : decode cX11_sheet 49 = .ok (.invokevirtual 286, 3) := by decide +kernel
theorem dX11_sheet_52 : decode cX11_sheet 52 = .ok (.iconst 1, 1) := by decide +kernel
theorem dX11_sheet_53 : decode cX11_sheet 53 = .ok (.ireturn, 1) := by decide +kernel
theorem dX11_lose_0 : decode cX11_lose 0 = .ok (.aload_n 0, 1) := by decide +kernel
theorem dX11_lose_1 : decode cX11_lose 1 = .ok (.iload_n 1, 1) := by decide +kernel
theorem dX11_lose_2 : decode cX11_lose 2 = .ok (.invokevirtual 68, 3) := by decide +kernel
theorem dX11_lose_5 : decode cX11_lose 5 = .ok (.astore_n 2, 1) := by decide +kernel
theorem dX11_lose_6 : decode cX11_lose 6 = .ok (.aload_n 2, 1) := by decide +kernel
theorem dX11_lose_7 : decode cX11_lose 7 = .ok (.ifnonnull 5, 3) := by decide +kernel
theorem dX11_lose_10 : decode cX11_lose 10 = .ok (.iconst (-1), 1) := by decide +kernel
theorem dX11_lose_11 : decode cX11_lose 11 = .ok (.ireturn, 1) := by decide +kernel
theorem dX11_lose_12 : decode cX11_lose 12 = .ok (.aload_n 2, 1) := by decide +kernel
theorem dX11_lose_13 : decode cX11_lose 13 = .ok (.getfield 289, 3) := by decide +kernel
theorem dX11_lose_16 : decode cX11_lose 16 = .ok (.ifCond .ne 5, 3) := by decide +kernel
theorem dX11_lose_19 : decode cX11_lose 19 = .ok (.iconst 0, 1) := by decide +kernel
theorem dX11_lose_20 : decode cX11_lose 20 = .ok (.ireturn, 1) := by decide +kernel
theorem dX11_lose_21 : decode cX11_lose 21 = .ok (.aload_n 2, 1) := by decide +kernel
theorem dX11_lose_22 : decode cX11_lose 22 = .ok (.iconst 0, 1) := by decide +kernel
theorem dX11_lose_23 : decode cX11_lose 23 = .ok (.putfield 289, 3) := by decide +kernel
theorem dX11_lose_26 : decode cX11_lose 26 = .ok (.iconst 1, 1) := by decide +kernel
theorem dX11_lose_27 : decode cX11_lose 27 = .ok (.ireturn, 1) := by decide +kernel
theorem dX11_put_0 : decode cX11_put 0 = .ok (.aload_n 0, 1) := by decide +kernel
theorem dX11_put_1 : decode cX11_put 1 = .ok (.iconst 0, 1) := by decide +kernel
theorem dX11_put_2 : decode cX11_put 2 = .ok (.putfield 64, 3) := by decide +kernel
theorem dX11_put_5 : decode cX11_put 5 = .ok (.aload_n 0, 1) := by decide +kernel
theorem dX11_put_6 : decode cX11_put 6 = .ok (.iload_n 1, 1) := by decide +kernel
theorem dX11_put_7 : decode cX11_put 7 = .ok (.invokevirtual 68, 3) := by decide +kernel
theorem dX11_put_10 : decode cX11_put 10 = .ok (.astore 4, 2) := by decide +kernel
theorem dX11_put_12 : decode cX11_put 12 = .ok (.aload 4, 2) := by decide +kernel
theorem dX11_put_14 : decode cX11_put 14 = .ok (.ifnonnull 5, 3) := by decide +kernel
theorem dX11_put_17 : decode cX11_put 17 = .ok (.iconst (-1), 1) := by decide +kernel
theorem dX11_put_18 : decode cX11_put 18 = .ok (.ireturn, 1) := by decide +kernel
theorem dX11_put_19 : decode cX11_put 19 = .ok (.aload 4, 2) := by decide +kernel
theorem dX11_put_21 : decode cX11_put 21 = .ok (.aload 4, 2) := by decide +kernel
theorem dX11_put_23 : decode cX11_put 23 = .ok (.getfield 293, 3) := by decide +kernel
theorem dX11_put_26 : decode cX11_put 26 = .ok (.iload_n 2, 1) := by decide +kernel
theorem dX11_put_27 : decode cX11_put 27 = .ok (.iconst 1, 1) := by decide +kernel
theorem dX11_put_28 : decode cX11_put 28 = .ok (.invokevirtual 80, 3) := by decide +kernel
theorem dX11_put_31 : decode cX11_put 31 = .ok (.istore 5, 2) := by decide +kernel
theorem dX11_put_33 : decode cX11_put 33 = .ok (.iload 5, 2) := by decide +kernel
theorem dX11_put_35 : decode cX11_put 35 = .ok (.ifCond .eq 10, 3) := by decide +kernel
theorem dX11_put_38 : decode cX11_put 38 = .ok (.aload_n 0, 1) := by decide +kernel
theorem dX11_put_39 : decode cX11_put 39 = .ok (.iload 5, 2) := by decide +kernel
theorem dX11_put_41 : decode cX11_put 41 = .ok (.invokevirtual 84, 3) := by decide +kernel
theorem dX11_put_44 : decode cX11_put 44 = .ok (.ireturn, 1) := by decide +kernel
theorem dX11_put_45 : decode cX11_put 45 = .ok (.aload 4, 2) := by decide +kernel
theorem dX11_put_47 : decode cX11_put 47 = .ok (.iload_n 2, 1) := by decide +kernel
theorem dX11_put_48 : decode cX11_put 48 = .ok (.iload_n 3, 1) := by decide +kernel
theorem dX11_put_49 : decode cX11_put 49 = .ok (.invokevirtual 296, 3) := by decide +kernel
theorem dX11_put_52 : decode cX11_put 52 = .ok (.iconst 1, 1) := by decide +kernel
theorem dX11_put_53 : decode cX11_put 53 = .ok (.ireturn, 1) := by decide +kernel
theorem dX11_cell_0 : decode cX11_cell 0 = .ok (.aload_n 0, 1) := by decide +kernel
theorem dX11_cell_1 : decode cX11_cell 1 = .ok (.iconst 0, 1) := by decide +kernel
theorem dX11_cell_2 : decode cX11_cell 2 = .ok (.putfield 64, 3) := by decide +kernel
theorem dX11_cell_5 : decode cX11_cell 5 = .ok (.aload_n 0, 1) := by decide +kernel
theorem dX11_cell_6 : decode cX11_cell 6 = .ok (.iload_n 1, 1) := by decide +kernel
theorem dX11_cell_7 : decode cX11_cell 7 = .ok (.invokevirtual 68, 3) := by decide +kernel
theorem dX11_cell_10 : decode cX11_cell 10 = .ok (.astore 4, 2) := by decide +kernel
theorem dX11_cell_12 : decode cX11_cell 12 = .ok (.aload 4, 2) := by decide +kernel
theorem dX11_cell_14 : decode cX11_cell 14 = .ok (.ifnull 10, 3) := by decide +kernel
theorem dX11_cell_17 : decode cX11_cell 17 = .ok (.iload_n 3, 1) := by decide +kernel
theorem dX11_cell_18 : decode cX11_cell 18 = .ok (.invokestatic 76, 3) := by decide +kernel
theorem dX11_cell_21 : decode cX11_cell 21 = .ok (.ifCond .ne 7, 3) := by decide +kernel
theorem dX11_cell_24 : decode cX11_cell 24 = .ok (.ldc2_w 251, 3) := by decide +kernel
theorem dX11_cell_27 : decode cX11_cell 27 = .ok (.lreturn, 1) := by decide +kernel
theorem dX11_cell_28 : decode cX11_cell 28 = .ok (.aload 4, 2) := by decide +kernel
theorem dX11_cell_30 : decode cX11_cell 30 = .ok (.iload_n 3, 1) := by decide +kernel
theorem dX11_cell_31 : decode cX11_cell 31 = .ok (.iload_n 2, 1) := by decide +kernel
theorem dX11_cell_32 : decode cX11_cell 32 = .ok (.iconst 1, 1) := by decide +kernel
theorem dX11_cell_33 : decode cX11_cell 33 = .ok (.invokevirtual 80, 3) := by decide +kernel
theorem dX11_cell_36 : decode cX11_cell 36 = .ok (.istore 5, 2) := by decide +kernel
theorem dX11_cell_38 : decode cX11_cell 38 = .ok (.iload 5, 2) := by decide +kernel
theorem dX11_cell_40 : decode cX11_cell 40 = .ok (.ifCond .eq 13, 3) := by decide +kernel
theorem dX11_cell_43 : decode cX11_cell 43 = .ok (.aload_n 0, 1) := by decide +kernel
theorem dX11_cell_44 : decode cX11_cell 44 = .ok (.iload 5, 2) := by decide +kernel
theorem dX11_cell_46 : decode cX11_cell 46 = .ok (.putfield 64, 3) := by decide +kernel
theorem dX11_cell_49 : decode cX11_cell 49 = .ok (.ldc2_w 251, 3) := by decide +kernel
theorem dX11_cell_52 : decode cX11_cell 52 = .ok (.lreturn, 1) := by decide +kernel
theorem dX11_cell_53 : decode cX11_cell 53 = .ok (.aload 4, 2) := by decide +kernel
theorem dX11_cell_55 : decode cX11_cell 55 = .ok (.iload_n 2, 1) := by decide +kernel
theorem dX11_cell_56 : decode cX11_cell 56 = .ok (.invokevirtual 236, 3) := by decide +kernel
theorem dX11_cell_59 : decode cX11_cell 59 = .ok (.i2l, 1) := by decide +kernel
theorem dX11_cell_60 : decode cX11_cell 60 = .ok (.lreturn, 1) := by decide +kernel
theorem dX11_copy_0 : decode cX11_copy 0 = .ok (.aload_n 0, 1) := by decide +kernel
theorem dX11_copy_1 : decode cX11_copy 1 = .ok (.iconst 0, 1) := by decide +kernel
theorem dX11_copy_2 : decode cX11_copy 2 = .ok (.putfield 64, 3) := by decide +kernel
theorem dX11_copy_5 : decode cX11_copy 5 = .ok (.aload_n 0, 1) := by decide +kernel
theorem dX11_copy_6 : decode cX11_copy 6 = .ok (.iload_n 1, 1) := by decide +kernel
theorem dX11_copy_7 : decode cX11_copy 7 = .ok (.invokevirtual 68, 3) := by decide +kernel
theorem dX11_copy_10 : decode cX11_copy 10 = .ok (.astore 6, 2) := by decide +kernel
theorem dX11_copy_12 : decode cX11_copy 12 = .ok (.aload_n 0, 1) := by decide +kernel
theorem dX11_copy_13 : decode cX11_copy 13 = .ok (.iload_n 3, 1) := by decide +kernel
theorem dX11_copy_14 : decode cX11_copy 14 = .ok (.invokevirtual 68, 3) := by decide +kernel
theorem dX11_copy_17 : decode cX11_copy 17 = .ok (.astore 7, 2) := by decide +kernel
theorem dX11_copy_19 : decode cX11_copy 19 = .ok (.aload 6, 2) := by decide +kernel
theorem dX11_copy_21 : decode cX11_copy 21 = .ok (.ifnull 8, 3) := by decide +kernel
theorem dX11_copy_24 : decode cX11_copy 24 = .ok (.aload 7, 2) := by decide +kernel
theorem dX11_copy_26 : decode cX11_copy 26 = .ok (.ifnonnull 5, 3) := by decide +kernel
theorem dX11_copy_29 : decode cX11_copy 29 = .ok (.iconst (-1), 1) := by decide +kernel
theorem dX11_copy_30 : decode cX11_copy 30 = .ok (.ireturn, 1) := by decide +kernel
theorem dX11_copy_31 : decode cX11_copy 31 = .ok (.aload 6, 2) := by decide +kernel
theorem dX11_copy_33 : decode cX11_copy 33 = .ok (.getfield 289, 3) := by decide +kernel
theorem dX11_copy_36 : decode cX11_copy 36 = .ok (.ifCond .eq 11, 3) := by decide +kernel
theorem dX11_copy_39 : decode cX11_copy 39 = .ok (.aload 7, 2) := by decide +kernel
theorem dX11_copy_41 : decode cX11_copy 41 = .ok (.getfield 289, 3) := by decide +kernel
theorem dX11_copy_44 : decode cX11_copy 44 = .ok (.ifCond .ne 9, 3) := by decide +kernel
theorem dX11_copy_47 : decode cX11_copy 47 = .ok (.aload_n 0, 1) := by decide +kernel
theorem dX11_copy_48 : decode cX11_copy 48 = .ok (.iconst 1, 1) := by decide +kernel
theorem dX11_copy_49 : decode cX11_copy 49 = .ok (.invokevirtual 84, 3) := by decide +kernel
theorem dX11_copy_52 : decode cX11_copy 52 = .ok (.ireturn, 1) := by decide +kernel
theorem dX11_copy_53 : decode cX11_copy 53 = .ok (.aload 6, 2) := by decide +kernel
theorem dX11_copy_55 : decode cX11_copy 55 = .ok (.getfield 293, 3) := by decide +kernel
theorem dX11_copy_58 : decode cX11_copy 58 = .ok (.aload 7, 2) := by decide +kernel
theorem dX11_copy_60 : decode cX11_copy 60 = .ok (.getfield 293, 3) := by decide +kernel
theorem dX11_copy_63 : decode cX11_copy 63 = .ok (.if_icmp .eq 9, 3) := by decide +kernel
theorem dX11_copy_66 : decode cX11_copy 66 = .ok (.aload_n 0, 1) := by decide +kernel
theorem dX11_copy_67 : decode cX11_copy 67 = .ok (.iconst 2, 1) := by decide +kernel
theorem dX11_copy_68 : decode cX11_copy 68 = .ok (.invokevirtual 84, 3) := by decide +kernel
theorem dX11_copy_71 : decode cX11_copy 71 = .ok (.ireturn, 1) := by decide +kernel
theorem dX11_copy_72 : decode cX11_copy 72 = .ok (.iload 5, 2) := by decide +kernel
theorem dX11_copy_74 : decode cX11_copy 74 = .ok (.ifCond .lt 26, 3) := by decide +kernel
theorem dX11_copy_77 : decode cX11_copy 77 = .ok (.aload 6, 2) := by decide +kernel
theorem dX11_copy_79 : decode cX11_copy 79 = .ok (.iload_n 2, 1) := by decide +kernel
theorem dX11_copy_80 : decode cX11_copy 80 = .ok (.iload 5, 2) := by decide +kernel
theorem dX11_copy_82 : decode cX11_copy 82 = .ok (.invokevirtual 299, 3) := by decide +kernel
theorem dX11_copy_85 : decode cX11_copy 85 = .ok (.ifCond .ne 15, 3) := by decide +kernel
theorem dX11_copy_88 : decode cX11_copy 88 = .ok (.aload 7, 2) := by decide +kernel
theorem dX11_copy_90 : decode cX11_copy 90 = .ok (.iload 4, 2) := by decide +kernel
theorem dX11_copy_92 : decode cX11_copy 92 = .ok (.iload 5, 2) := by decide +kernel
theorem dX11_copy_94 : decode cX11_copy 94 = .ok (.invokevirtual 299, 3) := by decide +kernel
theorem dX11_copy_97 : decode cX11_copy 97 = .ok (.ifCond .eq 9, 3) := by decide +kernel
theorem dX11_copy_100 : decode cX11_copy 100 = .ok (.aload_n 0, 1) := by decide +kernel
theorem dX11_copy_101 : decode cX11_copy 101 = .ok (.iconst 3, 1) := by decide +kernel
theorem dX11_copy_102 : decode cX11_copy 102 = .ok (.invokevirtual 84, 3) := by decide +kernel
theorem dX11_copy_105 : decode cX11_copy 105 = .ok (.ireturn, 1) := by decide +kernel
theorem dX11_copy_106 : decode cX11_copy 106 = .ok (.aload 6, 2) := by decide +kernel
theorem dX11_copy_108 : decode cX11_copy 108 = .ok (.getfield 302, 3) := by decide +kernel
theorem dX11_copy_111 : decode cX11_copy 111 = .ok (.iload_n 2, 1) := by decide +kernel
theorem dX11_copy_112 : decode cX11_copy 112 = .ok (.aload 7, 2) := by decide +kernel
theorem dX11_copy_114 : decode cX11_copy 114 = .ok (.getfield 302, 3) := by decide +kernel
theorem dX11_copy_117 : decode cX11_copy 117 = .ok (.iload 4, 2) := by decide +kernel
theorem dX11_copy_119 : decode cX11_copy 119 = .ok (.iload 5, 2) := by decide +kernel
theorem dX11_copy_121 : decode cX11_copy 121 = .ok (.invokestatic 305, 3) := by decide +kernel
theorem dX11_copy_124 : decode cX11_copy 124 = .ok (.iload 5, 2) := by decide +kernel
theorem dX11_copy_126 : decode cX11_copy 126 = .ok (.ireturn, 1) := by decide +kernel
theorem dX11_tell_0 : decode cX11_tell 0 = .ok (.aload_n 0, 1) := by decide +kernel
theorem dX11_tell_1 : decode cX11_tell 1 = .ok (.iload_n 1, 1) := by decide +kernel
theorem dX11_tell_2 : decode cX11_tell 2 = .ok (.invokevirtual 106, 3) := by decide +kernel
theorem dX11_tell_5 : decode cX11_tell 5 = .ok (.astore_n 2, 1) := by decide +kernel
theorem dX11_tell_6 : decode cX11_tell 6 = .ok (.aload_n 2, 1) := by decide +kernel
theorem dX11_tell_7 : decode cX11_tell 7 = .ok (.ifnonnull 5, 3) := by decide +kernel
theorem dX11_tell_10 : decode cX11_tell 10 = .ok (.iconst (-1), 1) := by decide +kernel
theorem dX11_tell_11 : decode cX11_tell 11 = .ok (.ireturn, 1) := by decide +kernel
theorem dX11_tell_12 : decode cX11_tell 12 = .ok (.aload_n 2, 1) := by decide +kernel
theorem dX11_tell_13 : decode cX11_tell 13 = .ok (.getfield 147, 3) := by decide +kernel
theorem dX11_tell_16 : decode cX11_tell 16 = .ok (.ifnonnull 8, 3) := by decide +kernel
theorem dX11_tell_19 : decode cX11_tell 19 = .ok (.bipush (-3), 2) := by decide +kernel
theorem dX11_tell_21 : decode cX11_tell 21 = .ok (.goto 14, 3) := by decide +kernel
theorem dX11_tell_24 : decode cX11_tell 24 = .ok (.aload_n 2, 1) := by decide +kernel
theorem dX11_tell_25 : decode cX11_tell 25 = .ok (.getfield 147, 3) := by decide +kernel
theorem dX11_tell_28 : decode cX11_tell 28 = .ok (.aload_n 0, 1) := by decide +kernel
theorem dX11_tell_29 : decode cX11_tell 29 = .ok (.getfield 59, 3) := by decide +kernel
theorem dX11_tell_32 : decode cX11_tell 32 = .ok (.invokevirtual 311, 3) := by decide +kernel
theorem dX11_tell_35 : decode cX11_tell 35 = .ok (.ireturn, 1) := by decide +kernel
theorem dX11_show_0 : decode cX11_show 0 = .ok (.aload_n 0, 1) := by decide +kernel
theorem dX11_show_1 : decode cX11_show 1 = .ok (.iload_n 1, 1) := by decide +kernel
theorem dX11_show_2 : decode cX11_show 2 = .ok (.invokevirtual 106, 3) := by decide +kernel
theorem dX11_show_5 : decode cX11_show 5 = .ok (.astore_n 2, 1) := by decide +kernel
theorem dX11_show_6 : decode cX11_show 6 = .ok (.aload_n 2, 1) := by decide +kernel
theorem dX11_show_7 : decode cX11_show 7 = .ok (.ifnonnull 5, 3) := by decide +kernel
theorem dX11_show_10 : decode cX11_show 10 = .ok (.iconst (-1), 1) := by decide +kernel
theorem dX11_show_11 : decode cX11_show 11 = .ok (.ireturn, 1) := by decide +kernel
theorem dX11_show_12 : decode cX11_show 12 = .ok (.aload_n 2, 1) := by decide +kernel
theorem dX11_show_13 : decode cX11_show 13 = .ok (.getfield 147, 3) := by decide +kernel
theorem dX11_show_16 : decode cX11_show 16 = .ok (.ifnonnull 8, 3) := by decide +kernel
theorem dX11_show_19 : decode cX11_show 19 = .ok (.bipush (-3), 2) := by decide +kernel
theorem dX11_show_21 : decode cX11_show 21 = .ok (.goto 14, 3) := by decide +kernel
theorem dX11_show_24 : decode cX11_show 24 = .ok (.aload_n 2, 1) := by decide +kernel
theorem dX11_show_25 : decode cX11_show 25 = .ok (.getfield 147, 3) := by decide +kernel
theorem dX11_show_28 : decode cX11_show 28 = .ok (.aload_n 0, 1) := by decide +kernel
theorem dX11_show_29 : decode cX11_show 29 = .ok (.getfield 59, 3) := by decide +kernel
theorem dX11_show_32 : decode cX11_show 32 = .ok (.invokevirtual 315, 3) := by decide +kernel
theorem dX11_show_35 : decode cX11_show 35 = .ok (.ireturn, 1) := by decide +kernel
theorem dX11_as_0 : decode cX11_as 0 = .ok (.aload_n 0, 1) := by decide +kernel
theorem dX11_as_1 : decode cX11_as 1 = .ok (.iconst 0, 1) := by decide +kernel
theorem dX11_as_2 : decode cX11_as 2 = .ok (.putfield 64, 3) := by decide +kernel
theorem dX11_as_5 : decode cX11_as 5 = .ok (.aload_n 0, 1) := by decide +kernel
theorem dX11_as_6 : decode cX11_as 6 = .ok (.iload_n 1, 1) := by decide +kernel
theorem dX11_as_7 : decode cX11_as 7 = .ok (.invokevirtual 106, 3) := by decide +kernel
theorem dX11_as_10 : decode cX11_as 10 = .ok (.astore_n 3, 1) := by decide +kernel
theorem dX11_as_11 : decode cX11_as 11 = .ok (.aload_n 3, 1) := by decide +kernel
theorem dX11_as_12 : decode cX11_as 12 = .ok (.ifnonnull 5, 3) := by decide +kernel
theorem dX11_as_15 : decode cX11_as 15 = .ok (.iconst (-1), 1) := by decide +kernel
theorem dX11_as_16 : decode cX11_as 16 = .ok (.ireturn, 1) := by decide +kernel
theorem dX11_as_17 : decode cX11_as 17 = .ok (.iload_n 2, 1) := by decide +kernel
theorem dX11_as_18 : decode cX11_as 18 = .ok (.iconst 0, 1) := by decide +kernel
theorem dX11_as_19 : decode cX11_as 19 = .ok (.iconst 2, 1) := by decide +kernel
theorem dX11_as_20 : decode cX11_as 20 = .ok (.invokestatic 72, 3) := by decide +kernel
theorem dX11_as_23 : decode cX11_as 23 = .ok (.ifCond .ne 6, 3) := by decide +kernel
theorem dX11_as_26 : decode cX11_as 26 = .ok (.bipush (-2), 2) := by decide +kernel
theorem dX11_as_28 : decode cX11_as 28 = .ok (.ireturn, 1) := by decide +kernel
theorem dX11_as_29 : decode cX11_as 29 = .ok (.aload_n 3, 1) := by decide +kernel
theorem dX11_as_30 : decode cX11_as 30 = .ok (.getfield 147, 3) := by decide +kernel
theorem dX11_as_33 : decode cX11_as 33 = .ok (.ifnonnull 6, 3) := by decide +kernel
theorem dX11_as_36 : decode cX11_as 36 = .ok (.bipush (-3), 2) := by decide +kernel
theorem dX11_as_38 : decode cX11_as 38 = .ok (.ireturn, 1) := by decide +kernel
theorem dX11_as_39 : decode cX11_as 39 = .ok (.aload_n 3, 1) := by decide +kernel
theorem dX11_as_40 : decode cX11_as 40 = .ok (.getfield 147, 3) := by decide +kernel
theorem dX11_as_43 : decode cX11_as 43 = .ok (.invokevirtual 199, 3) := by decide +kernel
theorem dX11_as_46 : decode cX11_as 46 = .ok (.iload_n 2, 1) := by decide +kernel
theorem dX11_as_47 : decode cX11_as 47 = .ok (.if_icmp .ge 11, 3) := by decide +kernel
theorem dX11_as_50 : decode cX11_as 50 = .ok (.aload_n 0, 1) := by decide +kernel
theorem dX11_as_51 : decode cX11_as 51 = .ok (.iconst 2, 1) := by decide +kernel
theorem dX11_as_52 : decode cX11_as 52 = .ok (.invokevirtual 84, 3) := by decide +kernel
theorem dX11_as_55 : decode cX11_as 55 = .ok (.goto 4, 3) := by decide +kernel
theorem dX11_as_58 : decode cX11_as 58 = .ok (.iconst 1, 1) := by decide +kernel
theorem dX11_as_59 : decode cX11_as 59 = .ok (.ireturn, 1) := by decide +kernel
theorem dX11_trace_0 : decode cX11_trace 0 = .ok (.aload_n 0, 1) := by decide +kernel
theorem dX11_trace_1 : decode cX11_trace 1 = .ok (.getfield 59, 3) := by decide +kernel
theorem dX11_trace_4 : decode cX11_trace 4 = .ok (.getfield 318, 3) := by decide +kernel
theorem dX11_trace_7 : decode cX11_trace 7 = .ok (.ireturn, 1) := by decide +kernel
theorem dX11_fault_0 : decode cX11_fault 0 = .ok (.aload_n 0, 1) := by decide +kernel
theorem dX11_fault_1 : decode cX11_fault 1 = .ok (.getfield 64, 3) := by decide +kernel
theorem dX11_fault_4 : decode cX11_fault 4 = .ok (.ireturn, 1) := by decide +kernel
theorem dX11_many_0 : decode cX11_many 0 = .ok (.iload_n 1, 1) := by decide +kernel
theorem dX11_many_1 : decode cX11_many 1 = .ok (.tableswitch 51 0 3 #[31, 36, 41, 46], 31) := by decide +kernel
theorem dX11_many_32 : decode cX11_many 32 = .ok (.aload_n 0, 1) := by decide +kernel
theorem dX11_many_33 : decode cX11_many 33 = .ok (.getfield 92, 3) := by decide +kernel
theorem dX11_many_36 : decode cX11_many 36 = .ok (.ireturn, 1) := by decide +kernel
theorem dX11_many_37 : decode cX11_many 37 = .ok (.aload_n 0, 1) := by decide +kernel
theorem dX11_many_38 : decode cX11_many 38 = .ok (.getfield 131, 3) := by decide +kernel
theorem dX11_many_41 : decode cX11_many 41 = .ok (.ireturn, 1) := by decide +kernel
theorem dX11_many_42 : decode cX11_many 42 = .ok (.aload_n 0, 1) := by decide +kernel
theorem dX11_many_43 : decode cX11_many 43 = .ok (.invokevirtual 321, 3) := by decide +kernel
theorem dX11_many_46 : decode cX11_many 46 = .ok (.ireturn, 1) := by decide +kernel
theorem dX11_many_47 : decode cX11_many 47 = .ok (.aload_n 0, 1) := by decide +kernel
theorem dX11_many_48 : decode cX11_many 48 = .ok (.getfield 271, 3) := by decide +kernel
theorem dX11_many_51 : decode cX11_many 51 = .ok (.ireturn, 1) := by decide +kernel
theorem dX11_many_52 : decode cX11_many 52 = .ok (.bipush (-2), 2) := by decide +kernel
theorem dX11_many_54 : decode cX11_many 54 = .ok (.ireturn, 1) := by decide +kernel
theorem dX11_isIn_0 : decode cX11_isIn 0 = .ok (.iload_n 0, 1) := by decide +kernel
theorem dX11_isIn_1 : decode cX11_isIn 1 = .ok (.iload_n 1, 1) := by decide +kernel
theorem dX11_isIn_2 : decode cX11_isIn 2 = .ok (.if_icmp .lt 12, 3) := by decide +kernel
theorem dX11_isIn_5 : decode cX11_isIn 5 = .ok (.iload_n 0, 1) := by decide +kernel
theorem dX11_isIn_6 : decode cX11_isIn 6 = .ok (.iload_n 2, 1) := by decide +kernel
theorem dX11_isIn_7 : decode cX11_isIn 7 = .ok (.if_icmp .gt 7, 3) := by decide +kernel
theorem dX11_isIn_10 : decode cX11_isIn 10 = .ok (.iconst 1, 1) := by decide +kernel
theorem dX11_isIn_11 : decode cX11_isIn 11 = .ok (.goto 4, 3) := by decide +kernel
theorem dX11_isIn_14 : decode cX11_isIn 14 = .ok (.iconst 0, 1) := by decide +kernel
theorem dX11_isIn_15 : decode cX11_isIn 15 = .ok (.ireturn, 1) := by decide +kernel
theorem dX11_isLane_0 : decode cX11_isLane 0 = .ok (.iload_n 0, 1) := by decide +kernel
theorem dX11_isLane_1 : decode cX11_isLane 1 = .ok (.iconst 0, 1) := by decide +kernel
theorem dX11_isLane_2 : decode cX11_isLane 2 = .ok (.iconst 2, 1) := by decide +kernel
theorem dX11_isLane_3 : decode cX11_isLane 3 = .ok (.invokestatic 72, 3) := by decide +kernel
theorem dX11_isLane_6 : decode cX11_isLane 6 = .ok (.ireturn, 1) := by decide +kernel
theorem dX11_isHour_0 : decode cX11_isHour 0 = .ok (.iload_n 0, 1) := by decide +kernel
theorem dX11_isHour_1 : decode cX11_isHour 1 = .ok (.iconst 0, 1) := by decide +kernel
theorem dX11_isHour_2 : decode cX11_isHour 2 = .ok (.sipush 999, 3) := by decide +kernel
theorem dX11_isHour_5 : decode cX11_isHour 5 = .ok (.invokestatic 72, 3) := by decide +kernel
theorem dX11_isHour_8 : decode cX11_isHour 8 = .ok (.ireturn, 1) := by decide +kernel
theorem dX11_isPlace_0 : decode cX11_isPlace 0 = .ok (.iload_n 0, 1) := by decide +kernel
theorem dX11_isPlace_1 : decode cX11_isPlace 1 = .ok (.iconst 0, 1) := by decide +kernel
theorem dX11_isPlace_2 : decode cX11_isPlace 2 = .ok (.bipush 15, 2) := by decide +kernel
theorem dX11_isPlace_4 : decode cX11_isPlace 4 = .ok (.invokestatic 72, 3) := by decide +kernel
theorem dX11_isPlace_7 : decode cX11_isPlace 7 = .ok (.ireturn, 1) := by decide +kernel
theorem dX11_isMark_0 : decode cX11_isMark 0 = .ok (.iload_n 0, 1) := by decide +kernel
theorem dX11_isMark_1 : decode cX11_isMark 1 = .ok (.iconst 0, 1) := by decide +kernel
theorem dX11_isMark_2 : decode cX11_isMark 2 = .ok (.sipush 255, 3) := by decide +kernel
theorem dX11_isMark_5 : decode cX11_isMark 5 = .ok (.invokestatic 72, 3) := by decide +kernel
theorem dX11_isMark_8 : decode cX11_isMark 8 = .ok (.ireturn, 1) := by decide +kernel
theorem dX11_pictureAt_0 : decode cX11_pictureAt 0 = .ok (.iload_n 1, 1) := by decide +kernel
theorem dX11_pictureAt_1 : decode cX11_pictureAt 1 = .ok (.iconst 0, 1) := by decide +kernel
theorem dX11_pictureAt_2 : decode cX11_pictureAt 2 = .ok (.aload_n 0, 1) := by decide +kernel
theorem dX11_pictureAt_3 : decode cX11_pictureAt 3 = .ok (.getfield 92, 3) := by decide +kernel
theorem dX11_pictureAt_6 : decode cX11_pictureAt 6 = .ok (.iconst 1, 1) := by decide +kernel
theorem dX11_pictureAt_7 : decode cX11_pictureAt 7 = .ok (.isub, 1) := by decide +kernel
theorem dX11_pictureAt_8 : decode cX11_pictureAt 8 = .ok (.invokestatic 72, 3) := by decide +kernel
theorem dX11_pictureAt_11 : decode cX11_pictureAt 11 = .ok (.ifCond .eq 12, 3) := by decide +kernel
theorem dX11_pictureAt_14 : decode cX11_pictureAt 14 = .ok (.aload_n 0, 1) := by decide +kernel
theorem dX11_pictureAt_15 : decode cX11_pictureAt 15 = .ok (.getfield 13, 3) := by decide +kernel
theorem dX11_pictureAt_18 : decode cX11_pictureAt 18 = .ok (.iload_n 1, 1) := by decide +kernel
theorem dX11_pictureAt_19 : decode cX11_pictureAt 19 = .ok (.aaload, 1) := by decide +kernel
theorem dX11_pictureAt_20 : decode cX11_pictureAt 20 = .ok (.goto 4, 3) := by decide +kernel
theorem dX11_pictureAt_23 : decode cX11_pictureAt 23 = .ok (.aconst_null, 1) := by decide +kernel
theorem dX11_pictureAt_24 : decode cX11_pictureAt 24 = .ok (.areturn, 1) := by decide +kernel
theorem dX11_lensAt_0 : decode cX11_lensAt 0 = .ok (.iload_n 1, 1) := by decide +kernel
theorem dX11_lensAt_1 : decode cX11_lensAt 1 = .ok (.iconst 0, 1) := by decide +kernel
theorem dX11_lensAt_2 : decode cX11_lensAt 2 = .ok (.aload_n 0, 1) := by decide +kernel
theorem dX11_lensAt_3 : decode cX11_lensAt 3 = .ok (.getfield 131, 3) := by decide +kernel
theorem dX11_lensAt_6 : decode cX11_lensAt 6 = .ok (.iconst 1, 1) := by decide +kernel
theorem dX11_lensAt_7 : decode cX11_lensAt 7 = .ok (.isub, 1) := by decide +kernel
theorem dX11_lensAt_8 : decode cX11_lensAt 8 = .ok (.invokestatic 72, 3) := by decide +kernel
theorem dX11_lensAt_11 : decode cX11_lensAt 11 = .ok (.ifCond .eq 12, 3) := by decide +kernel
theorem dX11_lensAt_14 : decode cX11_lensAt 14 = .ok (.aload_n 0, 1) := by decide +kernel
theorem dX11_lensAt_15 : decode cX11_lensAt 15 = .ok (.getfield 19, 3) := by decide +kernel
theorem dX11_lensAt_18 : decode cX11_lensAt 18 = .ok (.iload_n 1, 1) := by decide +kernel
theorem dX11_lensAt_19 : decode cX11_lensAt 19 = .ok (.aaload, 1) := by decide +kernel
theorem dX11_lensAt_20 : decode cX11_lensAt 20 = .ok (.goto 4, 3) := by decide +kernel
theorem dX11_lensAt_23 : decode cX11_lensAt 23 = .ok (.aconst_null, 1) := by decide +kernel
theorem dX11_lensAt_24 : decode cX11_lensAt 24 = .ok (.areturn, 1) := by decide +kernel
theorem dX11_sheetAt_0 : decode cX11_sheetAt 0 = .ok (.iload_n 1, 1) := by decide +kernel
theorem dX11_sheetAt_1 : decode cX11_sheetAt 1 = .ok (.iconst 0, 1) := by decide +kernel
theorem dX11_sheetAt_2 : decode cX11_sheetAt 2 = .ok (.iconst 3, 1) := by decide +kernel
theorem dX11_sheetAt_3 : decode cX11_sheetAt 3 = .ok (.invokestatic 72, 3) := by decide +kernel
theorem dX11_sheetAt_6 : decode cX11_sheetAt 6 = .ok (.ifCond .eq 12, 3) := by decide +kernel
theorem dX11_sheetAt_9 : decode cX11_sheetAt 9 = .ok (.aload_n 0, 1) := by decide +kernel
theorem dX11_sheetAt_10 : decode cX11_sheetAt 10 = .ok (.getfield 31, 3) := by decide +kernel
theorem dX11_sheetAt_13 : decode cX11_sheetAt 13 = .ok (.iload_n 1, 1) := by decide +kernel
theorem dX11_sheetAt_14 : decode cX11_sheetAt 14 = .ok (.aaload, 1) := by decide +kernel
theorem dX11_sheetAt_15 : decode cX11_sheetAt 15 = .ok (.goto 4, 3) := by decide +kernel
theorem dX11_sheetAt_18 : decode cX11_sheetAt 18 = .ok (.aconst_null, 1) := by decide +kernel
theorem dX11_sheetAt_19 : decode cX11_sheetAt 19 = .ok (.areturn, 1) := by decide +kernel
theorem dX11_failed_0 : decode cX11_failed 0 = .ok (.aload_n 0, 1) := by decide +kernel
theorem dX11_failed_1 : decode cX11_failed 1 = .ok (.iload_n 1, 1) := by decide +kernel
theorem dX11_failed_2 : decode cX11_failed 2 = .ok (.putfield 64, 3) := by decide +kernel
theorem dX11_failed_5 : decode cX11_failed 5 = .ok (.bipush (-10), 2) := by decide +kernel
theorem dX11_failed_7 : decode cX11_failed 7 = .ok (.iload_n 1, 1) := by decide +kernel
theorem dX11_failed_8 : decode cX11_failed 8 = .ok (.isub, 1) := by decide +kernel
theorem dX11_failed_9 : decode cX11_failed 9 = .ok (.ireturn, 1) := by decide +kernel
theorem dX11_addPicture_0 : decode cX11_addPicture 0 = .ok (.new 11, 3) := by decide +kernel
theorem dX11_addPicture_3 : decode cX11_addPicture 3 = .ok (.dup, 1) := by decide +kernel
theorem dX11_addPicture_4 : decode cX11_addPicture 4 = .ok (.aload_n 0, 1) := by decide +kernel
theorem dX11_addPicture_5 : decode cX11_addPicture 5 = .ok (.getfield 92, 3) := by decide +kernel
theorem dX11_addPicture_8 : decode cX11_addPicture 8 = .ok (.invokespecial 324, 3) := by decide +kernel
theorem dX11_addPicture_11 : decode cX11_addPicture 11 = .ok (.astore_n 1, 1) := by decide +kernel
theorem dX11_addPicture_12 : decode cX11_addPicture 12 = .ok (.aload_n 0, 1) := by decide +kernel
theorem dX11_addPicture_13 : decode cX11_addPicture 13 = .ok (.getfield 13, 3) := by decide +kernel
theorem dX11_addPicture_16 : decode cX11_addPicture 16 = .ok (.aload_n 0, 1) := by decide +kernel
theorem dX11_addPicture_17 : decode cX11_addPicture 17 = .ok (.getfield 92, 3) := by decide +kernel
theorem dX11_addPicture_20 : decode cX11_addPicture 20 = .ok (.aload_n 1, 1) := by decide +kernel
theorem dX11_addPicture_21 : decode cX11_addPicture 21 = .ok (.aastore, 1) := by decide +kernel
theorem dX11_addPicture_22 : decode cX11_addPicture 22 = .ok (.aload_n 0, 1) := by decide +kernel
theorem dX11_addPicture_23 : decode cX11_addPicture 23 = .ok (.dup, 1) := by decide +kernel
theorem dX11_addPicture_24 : decode cX11_addPicture 24 = .ok (.getfield 92, 3) := by decide +kernel
theorem dX11_addPicture_27 : decode cX11_addPicture 27 = .ok (.iconst 1, 1) := by decide +kernel
theorem dX11_addPicture_28 : decode cX11_addPicture 28 = .ok (.iadd, 1) := by decide +kernel
theorem dX11_addPicture_29 : decode cX11_addPicture 29 = .ok (.putfield 92, 3) := by decide +kernel
theorem dX11_addPicture_32 : decode cX11_addPicture 32 = .ok (.aload_n 1, 1) := by decide +kernel
theorem dX11_addPicture_33 : decode cX11_addPicture 33 = .ok (.areturn, 1) := by decide +kernel
theorem dX11_readActs_0 : decode cX11_readActs 0 = .ok (.aload_n 1, 1) := by decide +kernel
theorem dX11_readActs_1 : decode cX11_readActs 1 = .ok (.iload_n 2, 1) := by decide +kernel
theorem dX11_readActs_2 : decode cX11_readActs 2 = .ok (.iload_n 3, 1) := by decide +kernel
theorem dX11_readActs_3 : decode cX11_readActs 3 = .ok (.iload 4, 2) := by decide +kernel
theorem dX11_readActs_5 : decode cX11_readActs 5 = .ok (.invokevirtual 80, 3) := by decide +kernel
theorem dX11_readActs_8 : decode cX11_readActs 8 = .ok (.istore 5, 2) := by decide +kernel
theorem dX11_readActs_10 : decode cX11_readActs 10 = .ok (.iload 5, 2) := by decide +kernel
theorem dX11_readActs_12 : decode cX11_readActs 12 = .ok (.ifCond .eq 10, 3) := by decide +kernel
theorem dX11_readActs_15 : decode cX11_readActs 15 = .ok (.aload_n 0, 1) := by decide +kernel
theorem dX11_readActs_16 : decode cX11_readActs 16 = .ok (.iload 5, 2) := by decide +kernel
theorem dX11_readActs_18 : decode cX11_readActs 18 = .ok (.invokevirtual 84, 3) := by decide +kernel
theorem dX11_readActs_21 : decode cX11_readActs 21 = .ok (.ireturn, 1) := by decide +kernel
theorem dX11_readActs_22 : decode cX11_readActs 22 = .ok (.aload_n 0, 1) := by decide +kernel
theorem dX11_readActs_23 : decode cX11_readActs 23 = .ok (.getfield 45, 3) := by decide +kernel
theorem dX11_readActs_26 : decode cX11_readActs 26 = .ok (.aload_n 1, 1) := by decide +kernel
theorem dX11_readActs_27 : decode cX11_readActs 27 = .ok (.iload_n 3, 1) := by decide +kernel
theorem dX11_readActs_28 : decode cX11_readActs 28 = .ok (.iload 4, 2) := by decide +kernel
theorem dX11_readActs_30 : decode cX11_readActs 30 = .ok (.invokevirtual 327, 3) := by decide +kernel
theorem dX11_readActs_33 : decode cX11_readActs 33 = .ok (.istore 6, 2) := by decide +kernel
theorem dX11_readActs_35 : decode cX11_readActs 35 = .ok (.iload 6, 2) := by decide +kernel
theorem dX11_readActs_37 : decode cX11_readActs 37 = .ok (.iconst (-1), 1) := by decide +kernel
theorem dX11_readActs_38 : decode cX11_readActs 38 = .ok (.if_icmp .ne 7, 3) := by decide +kernel
theorem dX11_readActs_41 : decode cX11_readActs 41 = .ok (.iconst 0, 1) := by decide +kernel
theorem dX11_readActs_42 : decode cX11_readActs 42 = .ok (.goto 8, 3) := by decide +kernel
theorem dX11_readActs_45 : decode cX11_readActs 45 = .ok (.bipush (-100), 2) := by decide +kernel
theorem dX11_readActs_47 : decode cX11_readActs 47 = .ok (.iload 6, 2) := by decide +kernel
theorem dX11_readActs_49 : decode cX11_readActs 49 = .ok (.isub, 1) := by decide +kernel
theorem dX11_readActs_50 : decode cX11_readActs 50 = .ok (.ireturn, 1) := by decide +kernel
theorem dX11_sealOf_0 : decode cX11_sealOf 0 = .ok (.aload_n 0, 1) := by decide +kernel
theorem dX11_sealOf_1 : decode cX11_sealOf 1 = .ok (.getfield 38, 3) := by decide +kernel
theorem dX11_sealOf_4 : decode cX11_sealOf 4 = .ok (.aload_n 1, 1) := by decide +kernel
theorem dX11_sealOf_5 : decode cX11_sealOf 5 = .ok (.invokevirtual 120, 3) := by decide +kernel
theorem dX11_sealOf_8 : decode cX11_sealOf 8 = .ok (.aload_n 2, 1) := by decide +kernel
theorem dX11_sealOf_9 : decode cX11_sealOf 9 = .ok (.getfield 331, 3) := by decide +kernel
theorem dX11_sealOf_12 : decode cX11_sealOf 12 = .ok (.imul, 1) := by decide +kernel
theorem dX11_sealOf_13 : decode cX11_sealOf 13 = .ok (.bipush 13, 2) := by decide +kernel
theorem dX11_sealOf_15 : decode cX11_sealOf 15 = .ok (.iload_n 3, 1) := by decide +kernel
theorem dX11_sealOf_16 : decode cX11_sealOf 16 = .ok (.imul, 1) := by decide +kernel
theorem dX11_sealOf_17 : decode cX11_sealOf 17 = .ok (.iadd, 1) := by decide +kernel
theorem dX11_sealOf_18 : decode cX11_sealOf 18 = .ok (.iconst 5, 1) := by decide +kernel
theorem dX11_sealOf_19 : decode cX11_sealOf 19 = .ok (.aload_n 1, 1) := by decide +kernel
theorem dX11_sealOf_20 : decode cX11_sealOf 20 = .ok (.getfield 110, 3) := by decide +kernel
theorem dX11_sealOf_23 : decode cX11_sealOf 23 = .ok (.imul, 1) := by decide +kernel
theorem dX11_sealOf_24 : decode cX11_sealOf 24 = .ok (.iadd, 1) := by decide +kernel
theorem dX11_sealOf_25 : decode cX11_sealOf 25 = .ok (.aload_n 1, 1) := by decide +kernel
theorem dX11_sealOf_26 : decode cX11_sealOf 26 = .ok (.getfield 113, 3) := by decide +kernel
theorem dX11_sealOf_29 : decode cX11_sealOf 29 = .ok (.iadd, 1) := by decide +kernel
theorem dX11_sealOf_30 : decode cX11_sealOf 30 = .ok (.sipush 9973, 3) := by decide +kernel
theorem dX11_sealOf_33 : decode cX11_sealOf 33 = .ok (.irem, 1) := by decide +kernel
theorem dX11_sealOf_34 : decode cX11_sealOf 34 = .ok (.ireturn, 1) := by decide +kernel
theorem dX11_voiceOf_0 : decode cX11_voiceOf 0 = .ok (.aload_n 2, 1) := by decide +kernel
theorem dX11_voiceOf_1 : decode cX11_voiceOf 1 = .ok (.getfield 202, 3) := by decide +kernel
theorem dX11_voiceOf_4 : decode cX11_voiceOf 4 = .ok (.getfield 141, 3) := by decide +kernel
theorem dX11_voiceOf_7 : decode cX11_voiceOf 7 = .ok (.aload_n 2, 1) := by decide +kernel
theorem dX11_voiceOf_8 : decode cX11_voiceOf 8 = .ok (.getfield 207, 3) := by decide +kernel
theorem dX11_voiceOf_11 : decode cX11_voiceOf 11 = .ok (.if_icmp .gt 5, 3) := by decide +kernel
theorem dX11_voiceOf_14 : decode cX11_voiceOf 14 = .ok (.iconst 3, 1) := by decide +kernel
theorem dX11_voiceOf_15 : decode cX11_voiceOf 15 = .ok (.ireturn, 1) := by decide +kernel
theorem dX11_voiceOf_16 : decode cX11_voiceOf 16 = .ok (.aload_n 0, 1) := by decide +kernel
theorem dX11_voiceOf_17 : decode cX11_voiceOf 17 = .ok (.aload_n 1, 1) := by decide +kernel
theorem dX11_voiceOf_18 : decode cX11_voiceOf 18 = .ok (.aload_n 2, 1) := by decide +kernel
theorem dX11_voiceOf_19 : decode cX11_voiceOf 19 = .ok (.getfield 202, 3) := by decide +kernel
theorem dX11_voiceOf_22 : decode cX11_voiceOf 22 = .ok (.aload_n 2, 1) := by decide +kernel
theorem dX11_voiceOf_23 : decode cX11_voiceOf 23 = .ok (.getfield 207, 3) := by decide +kernel
theorem dX11_voiceOf_26 : decode cX11_voiceOf 26 = .ok (.invokevirtual 153, 3) := by decide +kernel
theorem dX11_voiceOf_29 : decode cX11_voiceOf 29 = .ok (.aload_n 2, 1) := by decide +kernel
theorem dX11_voiceOf_30 : decode cX11_voiceOf 30 = .ok (.getfield 160, 3) := by decide +kernel
theorem dX11_voiceOf_33 : decode cX11_voiceOf 33 = .ok (.if_icmp .eq 5, 3) := by decide +kernel
theorem dX11_voiceOf_36 : decode cX11_voiceOf 36 = .ok (.iconst 2, 1) := by decide +kernel
theorem dX11_voiceOf_37 : decode cX11_voiceOf 37 = .ok (.ireturn, 1) := by decide +kernel
theorem dX11_voiceOf_38 : decode cX11_voiceOf 38 = .ok (.aload_n 2, 1) := by decide +kernel
theorem dX11_voiceOf_39 : decode cX11_voiceOf 39 = .ok (.invokevirtual 199, 3) := by decide +kernel
theorem dX11_voiceOf_42 : decode cX11_voiceOf 42 = .ok (.iconst 1, 1) := by decide +kernel
theorem dX11_voiceOf_43 : decode cX11_voiceOf 43 = .ok (.if_icmp .ne 16, 3) := by decide +kernel
theorem dX11_voiceOf_46 : decode cX11_voiceOf 46 = .ok (.aload_n 0, 1) := by decide +kernel
theorem dX11_voiceOf_47 : decode cX11_voiceOf 47 = .ok (.aload_n 1, 1) := by decide +kernel
theorem dX11_voiceOf_48 : decode cX11_voiceOf 48 = .ok (.aload_n 2, 1) := by decide +kernel
theorem dX11_voiceOf_49 : decode cX11_voiceOf 49 = .ok (.invokevirtual 219, 3) := by decide +kernel
theorem dX11_voiceOf_52 : decode cX11_voiceOf 52 = .ok (.bipush (-9), 2) := by decide +kernel
theorem dX11_voiceOf_54 : decode cX11_voiceOf 54 = .ok (.if_icmp .eq 5, 3) := by decide +kernel
theorem dX11_voiceOf_57 : decode cX11_voiceOf 57 = .ok (.iconst 4, 1) := by decide +kernel
theorem dX11_voiceOf_58 : decode cX11_voiceOf 58 = .ok (.ireturn, 1) := by decide +kernel
theorem dX11_voiceOf_59 : decode cX11_voiceOf 59 = .ok (.aload_n 2, 1) := by decide +kernel
theorem dX11_voiceOf_60 : decode cX11_voiceOf 60 = .ok (.invokevirtual 199, 3) := by decide +kernel
theorem dX11_voiceOf_63 : decode cX11_voiceOf 63 = .ok (.iconst 2, 1) := by decide +kernel
theorem dX11_voiceOf_64 : decode cX11_voiceOf 64 = .ok (.if_icmp .ne 7, 3) := by decide +kernel
theorem dX11_voiceOf_67 : decode cX11_voiceOf 67 = .ok (.iconst 1, 1) := by decide +kernel
theorem dX11_voiceOf_68 : decode cX11_voiceOf 68 = .ok (.goto 4, 3) := by decide +kernel
theorem dX11_voiceOf_71 : decode cX11_voiceOf 71 = .ok (.iconst 0, 1) := by decide +kernel
theorem dX11_voiceOf_72 : decode cX11_voiceOf 72 = .ok (.ireturn, 1) := by decide +kernel
theorem dX11_firstFarPlace_0 : decode cX11_firstFarPlace 0 = .ok (.aload_n 2, 1) := by decide +kernel
theorem dX11_firstFarPlace_1 : decode cX11_firstFarPlace 1 = .ok (.invokevirtual 210, 3) := by decide +kernel
theorem dX11_firstFarPlace_4 : decode cX11_firstFarPlace 4 = .ok (.astore_n 3, 1) := by decide +kernel
theorem dX11_firstFarPlace_5 : decode cX11_firstFarPlace 5 = .ok (.aload_n 3, 1) := by decide +kernel
theorem dX11_firstFarPlace_6 : decode cX11_firstFarPlace 6 = .ok (.ifnull 23, 3) := by decide +kernel
theorem dX11_firstFarPlace_9 : decode cX11_firstFarPlace 9 = .ok (.aload_n 0, 1) := by decide +kernel
theorem dX11_firstFarPlace_10 : decode cX11_firstFarPlace 10 = .ok (.getfield 52, 3) := by decide +kernel
theorem dX11_firstFarPlace_13 : decode cX11_firstFarPlace 13 = .ok (.aload_n 3, 1) := by decide +kernel
theorem dX11_firstFarPlace_14 : decode cX11_firstFarPlace 14 = .ok (.aload_n 2, 1) := by decide +kernel
theorem dX11_firstFarPlace_15 : decode cX11_firstFarPlace 15 = .ok (.invokevirtual 213, 3) := by decide +kernel
theorem dX11_firstFarPlace_18 : decode cX11_firstFarPlace 18 = .ok (.aload_n 2, 1) := by decide +kernel
theorem dX11_firstFarPlace_19 : decode cX11_firstFarPlace 19 = .ok (.invokevirtual 213, 3) := by decide +kernel
theorem dX11_firstFarPlace_22 : decode cX11_firstFarPlace 22 = .ok (.arraylength, 1) := by decide +kernel
theorem dX11_firstFarPlace_23 : decode cX11_firstFarPlace 23 = .ok (.invokevirtual 187, 3) := by decide +kernel
theorem dX11_firstFarPlace_26 : decode cX11_firstFarPlace 26 = .ok (.ifCond .ne 6, 3) := by decide +kernel
theorem dX11_firstFarPlace_29 : decode cX11_firstFarPlace 29 = .ok (.bipush (-20), 2) := by decide +kernel
theorem dX11_firstFarPlace_31 : decode cX11_firstFarPlace 31 = .ok (.ireturn, 1) := by decide +kernel
theorem dX11_firstFarPlace_32 : decode cX11_firstFarPlace 32 = .ok (.aload_n 0, 1) := by decide +kernel
theorem dX11_firstFarPlace_33 : decode cX11_firstFarPlace 33 = .ok (.getfield 52, 3) := by decide +kernel
theorem dX11_firstFarPlace_36 : decode cX11_firstFarPlace 36 = .ok (.getfield 191, 3) := by decide +kernel
theorem dX11_firstFarPlace_39 : decode cX11_firstFarPlace 39 = .ok (.astore 4, 2) := by decide +kernel
theorem dX11_firstFarPlace_41 : decode cX11_firstFarPlace 41 = .ok (.aload 4, 2) := by decide +kernel
theorem dX11_firstFarPlace_43 : decode cX11_firstFarPlace 43 = .ok (.getfield 110, 3) := by decide +kernel
theorem dX11_firstFarPlace_46 : decode cX11_firstFarPlace 46 = .ok (.aload_n 1, 1) := by decide +kernel
theorem dX11_firstFarPlace_47 : decode cX11_firstFarPlace 47 = .ok (.getfield 110, 3) := by decide +kernel
theorem dX11_firstFarPlace_50 : decode cX11_firstFarPlace 50 = .ok (.if_icmp .ne 15, 3) := by decide +kernel
theorem dX11_firstFarPlace_53 : decode cX11_firstFarPlace 53 = .ok (.aload 4, 2) := by decide +kernel
theorem dX11_firstFarPlace_55 : decode cX11_firstFarPlace 55 = .ok (.getfield 113, 3) := by decide +kernel
theorem dX11_firstFarPlace_58 : decode cX11_firstFarPlace 58 = .ok (.aload_n 1, 1) := by decide +kernel
theorem dX11_firstFarPlace_59 : decode cX11_firstFarPlace 59 = .ok (.getfield 113, 3) := by decide +kernel
theorem dX11_firstFarPlace_62 : decode cX11_firstFarPlace 62 = .ok (.if_icmp .eq 6, 3) := by decide +kernel
theorem dX11_firstFarPlace_65 : decode cX11_firstFarPlace 65 = .ok (.bipush (-21), 2) := by decide +kernel
theorem dX11_firstFarPlace_67 : decode cX11_firstFarPlace 67 = .ok (.ireturn, 1) := by decide +kernel
theorem dX11_firstFarPlace_68 : decode cX11_firstFarPlace 68 = .ok (.iconst 0, 1) := by decide +kernel
theorem dX11_firstFarPlace_69 : decode cX11_firstFarPlace 69 = .ok (.istore 5, 2) := by decide +kernel
theorem dX11_firstFarPlace_71 : decode cX11_firstFarPlace 71 = .ok (.iload 5, 2) := by decide +kernel
theorem dX11_firstFarPlace_73 : decode cX11_firstFarPlace 73 = .ok (.bipush 16, 2) := by decide +kernel
theorem dX11_firstFarPlace_75 : decode cX11_firstFarPlace 75 = .ok (.if_icmp .ge 38, 3) := by decide +kernel
theorem dX11_firstFarPlace_78 : decode cX11_firstFarPlace 78 = .ok (.aload 4, 2) := by decide +kernel
theorem dX11_firstFarPlace_80 : decode cX11_firstFarPlace 80 = .ok (.getfield 127, 3) := by decide +kernel
theorem dX11_firstFarPlace_83 : decode cX11_firstFarPlace 83 = .ok (.iload 5, 2) := by decide +kernel
theorem dX11_firstFarPlace_85 : decode cX11_firstFarPlace 85 = .ok (.iaload, 1) := by decide +kernel
theorem dX11_firstFarPlace_86 : decode cX11_firstFarPlace 86 = .ok (.aload_n 1, 1) := by decide +kernel
theorem dX11_firstFarPlace_87 : decode cX11_firstFarPlace 87 = .ok (.getfield 127, 3) := by decide +kernel
theorem dX11_firstFarPlace_90 : decode cX11_firstFarPlace 90 = .ok (.iload 5, 2) := by decide +kernel
theorem dX11_firstFarPlace_92 : decode cX11_firstFarPlace 92 = .ok (.iaload, 1) := by decide +kernel
theorem dX11_firstFarPlace_93 : decode cX11_firstFarPlace 93 = .ok (.isub, 1) := by decide +kernel
theorem dX11_firstFarPlace_94 : decode cX11_firstFarPlace 94 = .ok (.invokestatic 334, 3) := by decide +kernel
theorem dX11_firstFarPlace_97 : decode cX11_firstFarPlace 97 = .ok (.aload_n 0, 1) := by decide +kernel
theorem dX11_firstFarPlace_98 : decode cX11_firstFarPlace 98 = .ok (.getfield 222, 3) := by decide +kernel
theorem dX11_firstFarPlace_101 : decode cX11_firstFarPlace 101 = .ok (.if_icmp .le 6, 3) := by decide +kernel
theorem dX11_firstFarPlace_104 : decode cX11_firstFarPlace 104 = .ok (.iload 5, 2) := by decide +kernel
theorem dX11_firstFarPlace_106 : decode cX11_firstFarPlace 106 = .ok (.ireturn, 1) := by decide +kernel
theorem dX11_firstFarPlace_107 : decode cX11_firstFarPlace 107 = .ok (.iinc 5 1, 3) := by decide +kernel
theorem dX11_firstFarPlace_110 : decode cX11_firstFarPlace 110 = .ok (.goto (-39), 3) := by decide +kernel
theorem dX11_firstFarPlace_113 : decode cX11_firstFarPlace 113 = .ok (.bipush (-9), 2) := by decide +kernel
theorem dX11_firstFarPlace_115 : decode cX11_firstFarPlace 115 = .ok (.ireturn, 1) := by decide +kernel
theorem dX11_firstDoubt_0 : decode cX11_firstDoubt 0 = .ok (.aload_n 1, 1) := by decide +kernel
theorem dX11_firstDoubt_1 : decode cX11_firstDoubt 1 = .ok (.astore_n 2, 1) := by decide +kernel
theorem dX11_firstDoubt_2 : decode cX11_firstDoubt 2 = .ok (.aload_n 2, 1) := by decide +kernel
theorem dX11_firstDoubt_3 : decode cX11_firstDoubt 3 = .ok (.ifnull 36, 3) := by decide +kernel
theorem dX11_firstDoubt_6 : decode cX11_firstDoubt 6 = .ok (.aload_n 2, 1) := by decide +kernel
theorem dX11_firstDoubt_7 : decode cX11_firstDoubt 7 = .ok (.getfield 147, 3) := by decide +kernel
theorem dX11_firstDoubt_10 : decode cX11_firstDoubt 10 = .ok (.ifnull 16, 3) := by decide +kernel
theorem dX11_firstDoubt_13 : decode cX11_firstDoubt 13 = .ok (.aload_n 0, 1) := by decide +kernel
theorem dX11_firstDoubt_14 : decode cX11_firstDoubt 14 = .ok (.aload_n 2, 1) := by decide +kernel
theorem dX11_firstDoubt_15 : decode cX11_firstDoubt 15 = .ok (.aload_n 2, 1) := by decide +kernel
theorem dX11_firstDoubt_16 : decode cX11_firstDoubt 16 = .ok (.getfield 147, 3) := by decide +kernel
theorem dX11_firstDoubt_19 : decode cX11_firstDoubt 19 = .ok (.invokevirtual 215, 3) := by decide +kernel
theorem dX11_firstDoubt_22 : decode cX11_firstDoubt 22 = .ok (.iconst 2, 1) := by decide +kernel
theorem dX11_firstDoubt_23 : decode cX11_firstDoubt 23 = .ok (.if_icmp .lt 8, 3) := by decide +kernel
theorem dX11_firstDoubt_26 : decode cX11_firstDoubt 26 = .ok (.aload_n 2, 1) := by decide +kernel
theorem dX11_firstDoubt_27 : decode cX11_firstDoubt 27 = .ok (.getfield 103, 3) := by decide +kernel
theorem dX11_firstDoubt_30 : decode cX11_firstDoubt 30 = .ok (.ireturn, 1) := by decide +kernel
theorem dX11_firstDoubt_31 : decode cX11_firstDoubt 31 = .ok (.aload_n 2, 1) := by decide +kernel
theorem dX11_firstDoubt_32 : decode cX11_firstDoubt 32 = .ok (.invokevirtual 225, 3) := by decide +kernel
theorem dX11_firstDoubt_35 : decode cX11_firstDoubt 35 = .ok (.astore_n 2, 1) := by decide +kernel
theorem dX11_firstDoubt_36 : decode cX11_firstDoubt 36 = .ok (.goto (-34), 3) := by decide +kernel
theorem dX11_firstDoubt_39 : decode cX11_firstDoubt 39 = .ok (.bipush (-9), 2) := by decide +kernel
theorem dX11_firstDoubt_41 : decode cX11_firstDoubt 41 = .ok (.ireturn, 1) := by decide +kernel
theorem dX11_waysOfAtLeast_0 : decode cX11_waysOfAtLeast 0 = .ok (.lconst 0, 1) := by decide +kernel
theorem dX11_waysOfAtLeast_1 : decode cX11_waysOfAtLeast 1 = .ok (.lstore_n 2, 1) := by decide +kernel
theorem dX11_waysOfAtLeast_2 : decode cX11_waysOfAtLeast 2 = .ok (.lconst 1, 1) := by decide +kernel
theorem dX11_waysOfAtLeast_3 : decode cX11_waysOfAtLeast 3 = .ok (.lstore 4, 2) := by decide +kernel
theorem dX11_waysOfAtLeast_5 : decode cX11_waysOfAtLeast 5 = .ok (.iconst 0, 1) := by decide +kernel
theorem dX11_waysOfAtLeast_6 : decode cX11_waysOfAtLeast 6 = .ok (.istore 6, 2) := by decide +kernel
theorem dX11_waysOfAtLeast_8 : decode cX11_waysOfAtLeast 8 = .ok (.iload 6, 2) := by decide +kernel
theorem dX11_waysOfAtLeast_10 : decode cX11_waysOfAtLeast 10 = .ok (.iload_n 1, 1) := by decide +kernel
theorem dX11_waysOfAtLeast_11 : decode cX11_waysOfAtLeast 11 = .ok (.if_icmp .gt 36, 3) := by decide +kernel
theorem dX11_waysOfAtLeast_14 : decode cX11_waysOfAtLeast 14 = .ok (.iload 6, 2) := by decide +kernel
theorem dX11_waysOfAtLeast_16 : decode cX11_waysOfAtLeast 16 = .ok (.iload_n 0, 1) := by decide +kernel
theorem dX11_waysOfAtLeast_17 : decode cX11_waysOfAtLeast 17 = .ok (.if_icmp .lt 8, 3) := by decide +kernel
theorem dX11_waysOfAtLeast_20 : decode cX11_waysOfAtLeast 20 = .ok (.lload_n 2, 1) := by decide +kernel
theorem dX11_waysOfAtLeast_21 : decode cX11_waysOfAtLeast 21 = .ok (.lload 4, 2) := by decide +kernel
theorem dX11_waysOfAtLeast_23 : decode cX11_waysOfAtLeast 23 = .ok (.ladd, 1) := by decide +kernel
theorem dX11_waysOfAtLeast_24 : decode cX11_waysOfAtLeast 24 = .ok (.lstore_n 2, 1) := by decide +kernel
theorem dX11_waysOfAtLeast_25 : decode cX11_waysOfAtLeast 25 = .ok (.lload 4, 2) := by decide +kernel
theorem dX11_waysOfAtLeast_27 : decode cX11_waysOfAtLeast 27 = .ok (.iload_n 1, 1) := by decide +kernel
theorem dX11_waysOfAtLeast_28 : decode cX11_waysOfAtLeast 28 = .ok (.iload 6, 2) := by decide +kernel
theorem dX11_waysOfAtLeast_30 : decode cX11_waysOfAtLeast 30 = .ok (.isub, 1) := by decide +kernel
theorem dX11_waysOfAtLeast_31 : decode cX11_waysOfAtLeast 31 = .ok (.i2l, 1) := by decide +kernel
theorem dX11_waysOfAtLeast_32 : decode cX11_waysOfAtLeast 32 = .ok (.lmul, 1) := by decide +kernel
theorem dX11_waysOfAtLeast_33 : decode cX11_waysOfAtLeast 33 = .ok (.iload 6, 2) := by decide +kernel
theorem dX11_waysOfAtLeast_35 : decode cX11_waysOfAtLeast 35 = .ok (.iconst 1, 1) := by decide +kernel
theorem dX11_waysOfAtLeast_36 : decode cX11_waysOfAtLeast 36 = .ok (.iadd, 1) := by decide +kernel
theorem dX11_waysOfAtLeast_37 : decode cX11_waysOfAtLeast 37 = .ok (.i2l, 1) := by decide +kernel
theorem dX11_waysOfAtLeast_38 : decode cX11_waysOfAtLeast 38 = .ok (.ldiv, 1) := by decide +kernel
theorem dX11_waysOfAtLeast_39 : decode cX11_waysOfAtLeast 39 = .ok (.lstore 4, 2) := by decide +kernel
theorem dX11_waysOfAtLeast_41 : decode cX11_waysOfAtLeast 41 = .ok (.iinc 6 1, 3) := by decide +kernel
theorem dX11_waysOfAtLeast_44 : decode cX11_waysOfAtLeast 44 = .ok (.goto (-36), 3) := by decide +kernel
theorem dX11_waysOfAtLeast_47 : decode cX11_waysOfAtLeast 47 = .ok (.lload_n 2, 1) := by decide +kernel
theorem dX11_waysOfAtLeast_48 : decode cX11_waysOfAtLeast 48 = .ok (.lreturn, 1) := by decide +kernel
theorem dX11_likeness_0 : decode cX11_likeness 0 = .ok (.aload_n 0, 1) := by decide +kernel
theorem dX11_likeness_1 : decode cX11_likeness 1 = .ok (.invokevirtual 337, 3) := by decide +kernel
theorem dX11_likeness_4 : decode cX11_likeness 4 = .ok (.aload_n 1, 1) := by decide +kernel
theorem dX11_likeness_5 : decode cX11_likeness 5 = .ok (.invokevirtual 337, 3) := by decide +kernel
theorem dX11_likeness_8 : decode cX11_likeness 8 = .ok (.isub, 1) := by decide +kernel
theorem dX11_likeness_9 : decode cX11_likeness 9 = .ok (.invokestatic 334, 3) := by decide +kernel
theorem dX11_likeness_12 : decode cX11_likeness 12 = .ok (.aload_n 0, 1) := by decide +kernel
theorem dX11_likeness_13 : decode cX11_likeness 13 = .ok (.invokevirtual 340, 3) := by decide +kernel
theorem dX11_likeness_16 : decode cX11_likeness 16 = .ok (.aload_n 1, 1) := by decide +kernel
theorem dX11_likeness_17 : decode cX11_likeness 17 = .ok (.invokevirtual 340, 3) := by decide +kernel
theorem dX11_likeness_20 : decode cX11_likeness 20 = .ok (.isub, 1) := by decide +kernel
theorem dX11_likeness_21 : decode cX11_likeness 21 = .ok (.invokestatic 334, 3) := by decide +kernel
theorem dX11_likeness_24 : decode cX11_likeness 24 = .ok (.iadd, 1) := by decide +kernel
theorem dX11_likeness_25 : decode cX11_likeness 25 = .ok (.aload_n 0, 1) := by decide +kernel
theorem dX11_likeness_26 : decode cX11_likeness 26 = .ok (.invokevirtual 343, 3) := by decide +kernel
theorem dX11_likeness_29 : decode cX11_likeness 29 = .ok (.aload_n 1, 1) := by decide +kernel
theorem dX11_likeness_30 : decode cX11_likeness 30 = .ok (.invokevirtual 343, 3) := by decide +kernel
theorem dX11_likeness_33 : decode cX11_likeness 33 = .ok (.isub, 1) := by decide +kernel
theorem dX11_likeness_34 : decode cX11_likeness 34 = .ok (.invokestatic 334, 3) := by decide +kernel
theorem dX11_likeness_37 : decode cX11_likeness 37 = .ok (.iadd, 1) := by decide +kernel
theorem dX11_likeness_38 : decode cX11_likeness 38 = .ok (.ireturn, 1) := by decide +kernel
theorem dX11_countNearer_0 : decode cX11_countNearer 0 = .ok (.aload_n 1, 1) := by decide +kernel
theorem dX11_countNearer_1 : decode cX11_countNearer 1 = .ok (.aload_n 2, 1) := by decide +kernel
theorem dX11_countNearer_2 : decode cX11_countNearer 2 = .ok (.invokestatic 264, 3) := by decide +kernel
theorem dX11_countNearer_5 : decode cX11_countNearer 5 = .ok (.istore_n 3, 1) := by decide +kernel
theorem dX11_countNearer_6 : decode cX11_countNearer 6 = .ok (.iconst 0, 1) := by decide +kernel
theorem dX11_countNearer_7 : decode cX11_countNearer 7 = .ok (.istore 4, 2) := by decide +kernel
theorem dX11_countNearer_9 : decode cX11_countNearer 9 = .ok (.iconst 0, 1) := by decide +kernel
theorem dX11_countNearer_10 : decode cX11_countNearer 10 = .ok (.istore 5, 2) := by decide +kernel
theorem dX11_countNearer_12 : decode cX11_countNearer 12 = .ok (.iload 5, 2) := by decide +kernel
theorem dX11_countNearer_14 : decode cX11_countNearer 14 = .ok (.aload_n 0, 1) := by decide +kernel
theorem dX11_countNearer_15 : decode cX11_countNearer 15 = .ok (.getfield 92, 3) := by decide +kernel
theorem dX11_countNearer_18 : decode cX11_countNearer 18 = .ok (.if_icmp .ge 67, 3) := by decide +kernel
theorem dX11_countNearer_21 : decode cX11_countNearer 21 = .ok (.iload 5, 2) := by decide +kernel
theorem dX11_countNearer_23 : decode cX11_countNearer 23 = .ok (.aload_n 1, 1) := by decide +kernel
theorem dX11_countNearer_24 : decode cX11_countNearer 24 = .ok (.getfield 103, 3) := by decide +kernel
theorem dX11_countNearer_27 : decode cX11_countNearer 27 = .ok (.if_icmp .eq 52, 3) := by decide +kernel
theorem dX11_countNearer_30 : decode cX11_countNearer 30 = .ok (.iload 5, 2) := by decide +kernel
theorem dX11_countNearer_32 : decode cX11_countNearer 32 = .ok (.aload_n 2, 1) := by decide +kernel
theorem dX11_countNearer_33 : decode cX11_countNearer 33 = .ok (.getfield 103, 3) := by decide +kernel
theorem dX11_countNearer_36 : decode cX11_countNearer 36 = .ok (.if_icmp .ne 6, 3) := by decide +kernel
theorem dX11_countNearer_39 : decode cX11_countNearer 39 = .ok (.goto 40, 3) := by decide +kernel
theorem dX11_countNearer_42 : decode cX11_countNearer 42 = .ok (.aload_n 1, 1) := by decide +kernel
theorem dX11_countNearer_43 : decode cX11_countNearer 43 = .ok (.aload_n 0, 1) := by decide +kernel
theorem dX11_countNearer_44 : decode cX11_countNearer 44 = .ok (.getfield 13, 3) := by decide +kernel
theorem dX11_countNearer_47 : decode cX11_countNearer 47 = .ok (.iload 5, 2) := by decide +kernel
theorem dX11_countNearer_49 : decode cX11_countNearer 49 = .ok (.aaload, 1) := by decide +kernel
theorem dX11_countNearer_50 : decode cX11_countNearer 50 = .ok (.invokestatic 264, 3) := by decide +kernel
theorem dX11_countNearer_53 : decode cX11_countNearer 53 = .ok (.istore 6, 2) := by decide +kernel
theorem dX11_countNearer_55 : decode cX11_countNearer 55 = .ok (.iload 6, 2) := by decide +kernel
theorem dX11_countNearer_57 : decode cX11_countNearer 57 = .ok (.iload_n 3, 1) := by decide +kernel
theorem dX11_countNearer_58 : decode cX11_countNearer 58 = .ok (.if_icmp .lt 18, 3) := by decide +kernel
theorem dX11_countNearer_61 : decode cX11_countNearer 61 = .ok (.iload 6, 2) := by decide +kernel
theorem dX11_countNearer_63 : decode cX11_countNearer 63 = .ok (.iload_n 3, 1) := by decide +kernel
theorem dX11_countNearer_64 : decode cX11_countNearer 64 = .ok (.if_icmp .ne 15, 3) := by decide +kernel
theorem dX11_countNearer_67 : decode cX11_countNearer 67 = .ok (.iload 5, 2) := by decide +kernel
theorem dX11_countNearer_69 : decode cX11_countNearer 69 = .ok (.aload_n 2, 1) := by decide +kernel
theorem dX11_countNearer_70 : decode cX11_countNearer 70 = .ok (.getfield 103, 3) := by decide +kernel
theorem dX11_countNearer_73 : decode cX11_countNearer 73 = .ok (.if_icmp .ge 6, 3) := by decide +kernel
theorem dX11_countNearer_76 : decode cX11_countNearer 76 = .ok (.iinc 4 1, 3) := by decide +kernel
theorem dX11_countNearer_79 : decode cX11_countNearer 79 = .ok (.iinc 5 1, 3) := by decide +kernel
theorem dX11_countNearer_82 : decode cX11_countNearer 82 = .ok (.goto (-70), 3) := by decide +kernel
theorem dX11_countNearer_85 : decode cX11_countNearer 85 = .ok (.iload 4, 2) := by decide +kernel
theorem dX11_countNearer_87 : decode cX11_countNearer 87 = .ok (.ireturn, 1) := by decide +kernel
theorem dX11_hoursOf_0 : decode cX11_hoursOf 0 = .ok (.iconst 0, 1) := by decide +kernel
theorem dX11_hoursOf_1 : decode cX11_hoursOf 1 = .ok (.istore_n 2, 1) := by decide +kernel
theorem dX11_hoursOf_2 : decode cX11_hoursOf 2 = .ok (.iconst 0, 1) := by decide +kernel
theorem dX11_hoursOf_3 : decode cX11_hoursOf 3 = .ok (.istore_n 3, 1) := by decide +kernel
theorem dX11_hoursOf_4 : decode cX11_hoursOf 4 = .ok (.iload_n 3, 1) := by decide +kernel
theorem dX11_hoursOf_5 : decode cX11_hoursOf 5 = .ok (.aload_n 0, 1) := by decide +kernel
theorem dX11_hoursOf_6 : decode cX11_hoursOf 6 = .ok (.getfield 271, 3) := by decide +kernel
theorem dX11_hoursOf_9 : decode cX11_hoursOf 9 = .ok (.if_icmp .ge 27, 3) := by decide +kernel
theorem dX11_hoursOf_12 : decode cX11_hoursOf 12 = .ok (.iload_n 2, 1) := by decide +kernel
theorem dX11_hoursOf_13 : decode cX11_hoursOf 13 = .ok (.iload_n 1, 1) := by decide +kernel
theorem dX11_hoursOf_14 : decode cX11_hoursOf 14 = .ok (.iload_n 3, 1) := by decide +kernel
theorem dX11_hoursOf_15 : decode cX11_hoursOf 15 = .ok (.ishr, 1) := by decide +kernel
theorem dX11_hoursOf_16 : decode cX11_hoursOf 16 = .ok (.iconst 1, 1) := by decide +kernel
theorem dX11_hoursOf_17 : decode cX11_hoursOf 17 = .ok (.iand, 1) := by decide +kernel
theorem dX11_hoursOf_18 : decode cX11_hoursOf 18 = .ok (.aload_n 0, 1) := by decide +kernel
theorem dX11_hoursOf_19 : decode cX11_hoursOf 19 = .ok (.getfield 25, 3) := by decide +kernel
theorem dX11_hoursOf_22 : decode cX11_hoursOf 22 = .ok (.iload_n 3, 1) := by decide +kernel
theorem dX11_hoursOf_23 : decode cX11_hoursOf 23 = .ok (.aaload, 1) := by decide +kernel
theorem dX11_hoursOf_24 : decode cX11_hoursOf 24 = .ok (.getfield 346, 3) := by decide +kernel
theorem dX11_hoursOf_27 : decode cX11_hoursOf 27 = .ok (.imul, 1) := by decide +kernel
theorem dX11_hoursOf_28 : decode cX11_hoursOf 28 = .ok (.iadd, 1) := by decide +kernel
theorem dX11_hoursOf_29 : decode cX11_hoursOf 29 = .ok (.istore_n 2, 1) := by decide +kernel
theorem dX11_hoursOf_30 : decode cX11_hoursOf 30 = .ok (.iinc 3 1, 3) := by decide +kernel
theorem dX11_hoursOf_33 : decode cX11_hoursOf 33 = .ok (.goto (-29), 3) := by decide +kernel
theorem dX11_hoursOf_36 : decode cX11_hoursOf 36 = .ok (.iload_n 2, 1) := by decide +kernel
theorem dX11_hoursOf_37 : decode cX11_hoursOf 37 = .ok (.ireturn, 1) := by decide +kernel
theorem dX11_worthOf_0 : decode cX11_worthOf 0 = .ok (.iconst 0, 1) := by decide +kernel
theorem dX11_worthOf_1 : decode cX11_worthOf 1 = .ok (.istore_n 2, 1) := by decide +kernel
theorem dX11_worthOf_2 : decode cX11_worthOf 2 = .ok (.iconst 0, 1) := by decide +kernel
theorem dX11_worthOf_3 : decode cX11_worthOf 3 = .ok (.istore_n 3, 1) := by decide +kernel
theorem dX11_worthOf_4 : decode cX11_worthOf 4 = .ok (.iload_n 3, 1) := by decide +kernel
theorem dX11_worthOf_5 : decode cX11_worthOf 5 = .ok (.aload_n 0, 1) := by decide +kernel
theorem dX11_worthOf_6 : decode cX11_worthOf 6 = .ok (.getfield 271, 3) := by decide +kernel
theorem dX11_worthOf_9 : decode cX11_worthOf 9 = .ok (.if_icmp .ge 27, 3) := by decide +kernel
theorem dX11_worthOf_12 : decode cX11_worthOf 12 = .ok (.iload_n 2, 1) := by decide +kernel
theorem dX11_worthOf_13 : decode cX11_worthOf 13 = .ok (.iload_n 1, 1) := by decide +kernel
theorem dX11_worthOf_14 : decode cX11_worthOf 14 = .ok (.iload_n 3, 1) := by decide +kernel
theorem dX11_worthOf_15 : decode cX11_worthOf 15 = .ok (.ishr, 1) := by decide +kernel
theorem dX11_worthOf_16 : decode cX11_worthOf 16 = .ok (.iconst 1, 1) := by decide +kernel
theorem dX11_worthOf_17 : decode cX11_worthOf 17 = .ok (.iand, 1) := by decide +kernel
theorem dX11_worthOf_18 : decode cX11_worthOf 18 = .ok (.aload_n 0, 1) := by decide +kernel
theorem dX11_worthOf_19 : decode cX11_worthOf 19 = .ok (.getfield 25, 3) := by decide +kernel
theorem dX11_worthOf_22 : decode cX11_worthOf 22 = .ok (.iload_n 3, 1) := by decide +kernel
theorem dX11_worthOf_23 : decode cX11_worthOf 23 = .ok (.aaload, 1) := by decide +kernel
theorem dX11_worthOf_24 : decode cX11_worthOf 24 = .ok (.getfield 349, 3) := by decide +kernel
theorem dX11_worthOf_27 : decode cX11_worthOf 27 = .ok (.imul, 1) := by decide +kernel
theorem dX11_worthOf_28 : decode cX11_worthOf 28 = .ok (.iadd, 1) := by decide +kernel
theorem dX11_worthOf_29 : decode cX11_worthOf 29 = .ok (.istore_n 2, 1) := by decide +kernel
theorem dX11_worthOf_30 : decode cX11_worthOf 30 = .ok (.iinc 3 1, 3) := by decide +kernel
theorem dX11_worthOf_33 : decode cX11_worthOf 33 = .ok (.goto (-29), 3) := by decide +kernel
theorem dX11_worthOf_36 : decode cX11_worthOf 36 = .ok (.iload_n 2, 1) := by decide +kernel
theorem dX11_worthOf_37 : decode cX11_worthOf 37 = .ok (.ireturn, 1) := by decide +kernel
theorem dX11_countPapers_0 : decode cX11_countPapers 0 = .ok (.iconst 0, 1) := by decide +kernel
theorem dX11_countPapers_1 : decode cX11_countPapers 1 = .ok (.istore_n 1, 1) := by decide +kernel
theorem dX11_countPapers_2 : decode cX11_countPapers 2 = .ok (.iconst 0, 1) := by decide +kernel
theorem dX11_countPapers_3 : decode cX11_countPapers 3 = .ok (.istore_n 2, 1) := by decide +kernel
theorem dX11_countPapers_4 : decode cX11_countPapers 4 = .ok (.iload_n 2, 1) := by decide +kernel
theorem dX11_countPapers_5 : decode cX11_countPapers 5 = .ok (.aload_n 0, 1) := by decide +kernel
theorem dX11_countPapers_6 : decode cX11_countPapers 6 = .ok (.getfield 92, 3) := by decide +kernel
theorem dX11_countPapers_9 : decode cX11_countPapers 9 = .ok (.if_icmp .ge 24, 3) := by decide +kernel
theorem dX11_countPapers_12 : decode cX11_countPapers 12 = .ok (.aload_n 0, 1) := by decide +kernel
theorem dX11_countPapers_13 : decode cX11_countPapers 13 = .ok (.getfield 13, 3) := by decide +kernel
theorem dX11_countPapers_16 : decode cX11_countPapers 16 = .ok (.iload_n 2, 1) := by decide +kernel
theorem dX11_countPapers_17 : decode cX11_countPapers 17 = .ok (.aaload, 1) := by decide +kernel
theorem dX11_countPapers_18 : decode cX11_countPapers 18 = .ok (.getfield 147, 3) := by decide +kernel
theorem dX11_countPapers_21 : decode cX11_countPapers 21 = .ok (.ifnull 6, 3) := by decide +kernel
theorem dX11_countPapers_24 : decode cX11_countPapers 24 = .ok (.iinc 1 1, 3) := by decide +kernel
theorem dX11_countPapers_27 : decode cX11_countPapers 27 = .ok (.iinc 2 1, 3) := by decide +kernel
theorem dX11_countPapers_30 : decode cX11_countPapers 30 = .ok (.goto (-26), 3) := by decide +kernel
theorem dX11_countPapers_33 : decode cX11_countPapers 33 = .ok (.iload_n 1, 1) := by decide +kernel
theorem dX11_countPapers_34 : decode cX11_countPapers 34 = .ok (.ireturn, 1) := by decide +kernel
