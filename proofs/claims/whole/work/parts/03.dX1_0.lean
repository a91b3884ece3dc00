theorem dX1_init_0 : decode cX1_init 0 = .ok (.aload_n 0, 1) := by decide +kernel
theorem dX1_init_1 : decode cX1_init 1 = .ok (.invokespecial 1, 3) := by decide +kernel
theorem dX1_init_4 : decode cX1_init 4 = .ok (.aload_n 0, 1) := by decide +kernel
theorem dX1_init_5 : decode cX1_init 5 = .ok (.bipush 40, 2) := by decide +kernel
theorem dX1_init_7 : decode cX1_init 7 = .ok (.newarray .int, 2) := by decide +kernel
theorem dX1_init_9 : decode cX1_init 9 = .ok (.putfield 9, 3) := by decide +kernel
theorem dX1_init_12 : decode cX1_init 12 = .ok (.aload_n 0, 1) := by decide +kernel
theorem dX1_init_13 : decode cX1_init 13 = .ok (.bipush 40, 2) := by decide +kernel
theorem dX1_init_15 : decode cX1_init 15 = .ok (.newarray .int, 2) := by decide +kernel
theorem dX1_init_17 : decode cX1_init 17 = .ok (.putfield 13, 3) := by decide +kernel
theorem dX1_init_20 : decode cX1_init 20 = .ok (.aload_n 0, 1) := by decide +kernel
theorem dX1_init_21 : decode cX1_init 21 = .ok (.bipush 40, 2) := by decide +kernel
theorem dX1_init_23 : decode cX1_init 23 = .ok (.newarray .int, 2) := by decide +kernel
theorem dX1_init_25 : decode cX1_init 25 = .ok (.putfield 16, 3) := by decide +kernel
theorem dX1_init_28 : decode cX1_init 28 = .ok (.aload_n 0, 1) := by decide +kernel
theorem dX1_init_29 : decode cX1_init 29 = .ok (.bipush 40, 2) := by decide +kernel
theorem dX1_init_31 : decode cX1_init 31 = .ok (.newarray .int, 2) := by decide +kernel
theorem dX1_init_33 : decode cX1_init 33 = .ok (.putfield 19, 3) := by decide +kernel
theorem dX1_init_36 : decode cX1_init 36 = .ok (.return_, 1) := by decide +kernel
theorem dX1_note_0 : decode cX1_note 0 = .ok (.iload_n 3, 1) := by decide +kernel
theorem dX1_note_1 : decode cX1_note 1 = .ok (.iload 4, 2) := by decide +kernel
theorem dX1_note_3 : decode cX1_note 3 = .ok (.if_icmp .ne 4, 3) := by decide +kernel
theorem dX1_note_6 : decode cX1_note 6 = .ok (.return_, 1) := by decide +kernel
theorem dX1_note_7 : decode cX1_note 7 = .ok (.aload_n 0, 1) := by decide +kernel
theorem dX1_note_8 : decode cX1_note 8 = .ok (.getfield 22, 3) := by decide +kernel
theorem dX1_note_11 : decode cX1_note 11 = .ok (.bipush 40, 2) := by decide +kernel
theorem dX1_note_13 : decode cX1_note 13 = .ok (.if_icmp .lt 7, 3) := by decide +kernel
theorem dX1_note_16 : decode cX1_note 16 = .ok (.aload_n 0, 1) := by decide +kernel
theorem dX1_note_17 : decode cX1_note 17 = .ok (.invokevirtual 26, 3) := by decide +kernel
theorem dX1_note_20 : decode cX1_note 20 = .ok (.aload_n 0, 1) := by decide +kernel
theorem dX1_note_21 : decode cX1_note 21 = .ok (.getfield 9, 3) := by decide +kernel
theorem dX1_note_24 : decode cX1_note 24 = .ok (.aload_n 0, 1) := by decide +kernel
theorem dX1_note_25 : decode cX1_note 25 = .ok (.getfield 22, 3) := by decide +kernel
theorem dX1_note_28 : decode cX1_note 28 = .ok (.iload_n 1, 1) := by decide +kernel
theorem dX1_note_29 : decode cX1_note 29 = .ok (.iastore, 1) := by decide +kernel
theorem dX1_note_30 : decode cX1_note 30 = .ok (.aload_n 0, 1) := by decide +kernel
theorem dX1_note_31 : decode cX1_note 31 = .ok (.getfield 13, 3) := by decide +kernel
theorem dX1_note_34 : decode cX1_note 34 = .ok (.aload_n 0, 1) := by decide +kernel
theorem dX1_note_35 : decode cX1_note 35 = .ok (.getfield 22, 3) := by decide +kernel
theorem dX1_note_38 : decode cX1_note 38 = .ok (.iload_n 2, 1) := by decide +kernel
theorem dX1_note_39 : decode cX1_note 39 = .ok (.iastore, 1) := by decide +kernel
theorem dX1_note_40 : decode cX1_note 40 = .ok (.aload_n 0, 1) := by decide +kernel
theorem dX1_note_41 : decode cX1_note 41 = .ok (.getfield 16, 3) := by decide +kernel
theorem dX1_note_44 : decode cX1_note 44 = .ok (.aload_n 0, 1) := by decide +kernel
theorem dX1_note_45 : decode cX1_note 45 = .ok (.getfield 22, 3) := by decide +kernel
theorem dX1_note_48 : decode cX1_note 48 = .ok (.iload_n 3, 1) := by decide +kernel
theorem dX1_note_49 : decode cX1_note 49 = .ok (.iastore, 1) := by decide +kernel
theorem dX1_note_50 : decode cX1_note 50 = .ok (.aload_n 0, 1) := by decide +kernel
theorem dX1_note_51 : decode cX1_note 51 = .ok (.getfield 19, 3) := by decide +kernel
theorem dX1_note_54 : decode cX1_note 54 = .ok (.aload_n 0, 1) := by decide +kernel
theorem dX1_note_55 : decode cX1_note 55 = .ok (.getfield 22, 3) := by decide +kernel
theorem dX1_note_58 : decode cX1_note 58 = .ok (.iload 4, 2) := by decide +kernel
theorem dX1_note_60 : decode cX1_note 60 = .ok (.iastore, 1) := by decide +kernel
theorem dX1_note_61 : decode cX1_note 61 = .ok (.aload_n 0, 1) := by decide +kernel
theorem dX1_note_62 : decode cX1_note 62 = .ok (.dup, 1) := by decide +kernel
theorem dX1_note_63 : decode cX1_note 63 = .ok (.getfield 22, 3) := by decide +kernel
theorem dX1_note_66 : decode cX1_note 66 = .ok (.iconst 1, 1) := by decide +kernel
theorem dX1_note_67 : decode cX1_note 67 = .ok (.iadd, 1) := by decide +kernel
theorem dX1_note_68 : decode cX1_note 68 = .ok (.putfield 22, 3) := by decide +kernel
theorem dX1_note_71 : decode cX1_note 71 = .ok (.aload_n 0, 1) := by decide +kernel
theorem dX1_note_72 : decode cX1_note 72 = .ok (.aload_n 0, 1) := by decide +kernel
theorem dX1_note_73 : decode cX1_note 73 = .ok (.getfield 22, 3) := by decide +kernel
theorem dX1_note_76 : decode cX1_note 76 = .ok (.putfield 29, 3) := by decide +kernel
theorem dX1_note_79 : decode cX1_note 79 = .ok (.return_, 1) := by decide +kernel
theorem dX1_forgetFirst_0 : decode cX1_forgetFirst 0 = .ok (.aload_n 0, 1) := by decide +kernel
theorem dX1_forgetFirst_1 : decode cX1_forgetFirst 1 = .ok (.getfield 9, 3) := by decide +kernel
theorem dX1_forgetFirst_4 : decode cX1_forgetFirst 4 = .ok (.iconst 1, 1) := by decide +kernel
theorem dX1_forgetFirst_5 : decode cX1_forgetFirst 5 = .ok (.aload_n 0, 1) := by decide +kernel
theorem dX1_forgetFirst_6 : decode cX1_forgetFirst 6 = .ok (.getfield 9, 3) := by decide +kernel
theorem dX1_forgetFirst_9 : decode cX1_forgetFirst 9 = .ok (.iconst 0, 1) := by decide +kernel
theorem dX1_forgetFirst_10 : decode cX1_forgetFirst 10 = .ok (.bipush 39, 2) := by decide +kernel
theorem dX1_forgetFirst_12 : decode cX1_forgetFirst 12 = .ok (.invokestatic 32, 3) := by decide +kernel
theorem dX1_forgetFirst_15 : decode cX1_forgetFirst 15 = .ok (.aload_n 0, 1) := by decide +kernel
theorem dX1_forgetFirst_16 : decode cX1_forgetFirst 16 = .ok (.getfield 13, 3) := by decide +kernel
theorem dX1_forgetFirst_19 : decode cX1_forgetFirst 19 = .ok (.iconst 1, 1) := by decide +kernel
theorem dX1_forgetFirst_20 : decode cX1_forgetFirst 20 = .ok (.aload_n 0, 1) := by decide +kernel
theorem dX1_forgetFirst_21 : decode cX1_forgetFirst 21 = .ok (.getfield 13, 3) := by decide +kernel
theorem dX1_forgetFirst_24 : decode cX1_forgetFirst 24 = .ok (.iconst 0, 1) := by decide +kernel
theorem dX1_forgetFirst_25 : decode cX1_forgetFirst 25 = .ok (.bipush 39, 2) := by decide +kernel
theorem dX1_forgetFirst_27 : decode cX1_forgetFirst 27 = .ok (.invokestatic 32, 3) := by decide +kernel
theorem dX1_forgetFirst_30 : decode cX1_forgetFirst 30 = .ok (.aload_n 0, 1) := by decide +kernel
theorem dX1_forgetFirst_31 : decode cX1_forgetFirst 31 = .ok (.getfield 16, 3) := by decide +kernel
theorem dX1_forgetFirst_34 : decode cX1_forgetFirst 34 = .ok (.iconst 1, 1) := by decide +kernel
theorem dX1_forgetFirst_35 : decode cX1_forgetFirst 35 = .ok (.aload_n 0, 1) := by decide +kernel
theorem dX1_forgetFirst_36 : decode cX1_forgetFirst 36 = .ok (.getfield 16, 3) := by decide +kernel
theorem dX1_forgetFirst_39 : decode cX1_forgetFirst 39 = .ok (.iconst 0, 1) := by decide +kernel
theorem dX1_forgetFirst_40 : decode cX1_forgetFirst 40 = .ok (.bipush 39, 2) := by decide +kernel
theorem dX1_forgetFirst_42 : decode cX1_forgetFirst 42 = .ok (.invokestatic 32, 3) := by decide +kernel
theorem dX1_forgetFirst_45 : decode cX1_forgetFirst 45 = .ok (.aload_n 0, 1) := by decide +kernel
theorem dX1_forgetFirst_46 : decode cX1_forgetFirst 46 = .ok (.getfield 19, 3) := by decide +kernel
theorem dX1_forgetFirst_49 : decode cX1_forgetFirst 49 = .ok (.iconst 1, 1) := by decide +kernel
theorem dX1_forgetFirst_50 : decode cX1_forgetFirst 50 = .ok (.aload_n 0, 1) := by decide +kernel
theorem dX1_forgetFirst_51 : decode cX1_forgetFirst 51 = .ok (.getfield 19, 3) := by decide +kernel
theorem dX1_forgetFirst_54 : decode cX1_forgetFirst 54 = .ok (.iconst 0, 1) := by decide +kernel
theorem dX1_forgetFirst_55 : decode cX1_forgetFirst 55 = .ok (.bipush 39, 2) := by decide +kernel
theorem dX1_forgetFirst_57 : decode cX1_forgetFirst 57 = .ok (.invokestatic 32, 3) := by decide +kernel
theorem dX1_forgetFirst_60 : decode cX1_forgetFirst 60 = .ok (.aload_n 0, 1) := by decide +kernel
theorem dX1_forgetFirst_61 : decode cX1_forgetFirst 61 = .ok (.bipush 39, 2) := by decide +kernel
theorem dX1_forgetFirst_63 : decode cX1_forgetFirst 63 = .ok (.putfield 22, 3) := by decide +kernel
theorem dX1_forgetFirst_66 : decode cX1_forgetFirst 66 = .ok (.return_, 1) := by decide +kernel
