theorem dX21_init_56 : decode cX21_init 56 = .ok (.iconst 2, 1) := by decide +kernel
theorem dX21_init_57 : decode cX21_init 57 = .ok (.iconst (-1), 1) := by decide +kernel
theorem dX21_init_58 : decode cX21_init 58 = .ok (.iastore, 1) := by decide +kernel
theorem dX21_init_59 : decode cX21_init 59 = .ok (.dup, 1) := by decide +kernel
theorem dX21_init_60 : decode cX21_init 60 = .ok (.iconst 3, 1) := by decide +kernel
theorem dX21_init_61 : decode cX21_init 61 = .ok (.iconst (-1), 1) := by decide +kernel
theorem dX21_init_62 : decode cX21_init 62 = .ok (.iastore, 1) := by decide +kernel
theorem dX21_init_63 : decode cX21_init 63 = .ok (.putfield 20, 3) := by decide +kernel
theorem dX21_init_66 : decode cX21_init 66 = .ok (.aload_n 0, 1) := by decide +kernel
theorem dX21_init_67 : decode cX21_init 67 = .ok (.iconst 4, 1) := by decide +kernel
theorem dX21_init_68 : decode cX21_init 68 = .ok (.newarray .int, 2) := by decide +kernel
theorem dX21_init_70 : decode cX21_init 70 = .ok (.dup, 1) := by decide +kernel
theorem dX21_init_71 : decode cX21_init 71 = .ok (.iconst 0, 1) := by decide +kernel
theorem dX21_init_72 : decode cX21_init 72 = .ok (.iconst (-1), 1) := by decide +kernel
theorem dX21_init_73 : decode cX21_init 73 = .ok (.iastore, 1) := by decide +kernel
theorem dX21_init_74 : decode cX21_init 74 = .ok (.dup, 1) := by decide +kernel
theorem dX21_init_75 : decode cX21_init 75 = .ok (.iconst 1, 1) := by decide +kernel
theorem dX21_init_76 : decode cX21_init 76 = .ok (.iconst (-1), 1) := by decide +kernel
theorem dX21_init_77 : decode cX21_init 77 = .ok (.iastore, 1) := by decide +kernel
theorem dX21_init_78 : decode cX21_init 78 = .ok (.dup, 1) := by decide +kernel
theorem dX21_init_79 : decode cX21_init 79 = .ok (.iconst 2, 1) := by decide +kernel
theorem dX21_init_80 : decode cX21_init 80 = .ok (.iconst (-1), 1) := by decide +kernel
theorem dX21_init_81 : decode cX21_init 81 = .ok (.iastore, 1) := by decide +kernel
theorem dX21_init_82 : decode cX21_init 82 = .ok (.dup, 1) := by decide +kernel
theorem dX21_init_83 : decode cX21_init 83 = .ok (.iconst 3, 1) := by decide +kernel
theorem dX21_init_84 : decode cX21_init 84 = .ok (.iconst (-1), 1) := by decide +kernel
theorem dX21_init_85 : decode cX21_init 85 = .ok (.iastore, 1) := by decide +kernel
theorem dX21_init_86 : decode cX21_init 86 = .ok (.putfield 23, 3) := by decide +kernel
theorem dX21_init_89 : decode cX21_init 89 = .ok (.aload_n 0, 1) := by decide +kernel
theorem dX21_init_90 : decode cX21_init 90 = .ok (.iconst 4, 1) := by decide +kernel
theorem dX21_init_91 : decode cX21_init 91 = .ok (.newarray .int, 2) := by decide +kernel
theorem dX21_init_93 : decode cX21_init 93 = .ok (.dup, 1) := by decide +kernel
theorem dX21_init_94 : decode cX21_init 94 = .ok (.iconst 0, 1) := by decide +kernel
theorem dX21_init_95 : decode cX21_init 95 = .ok (.iconst (-1), 1) := by decide +kernel
theorem dX21_init_96 : decode cX21_init 96 = .ok (.iastore, 1) := by decide +kernel
theorem dX21_init_97 : decode cX21_init 97 = .ok (.dup, 1) := by decide +kernel
theorem dX21_init_98 : decode cX21_init 98 = .ok (.iconst 1, 1) := by decide +kernel
theorem dX21_init_99 : decode cX21_init 99 = .ok (.iconst (-1), 1) := by decide +kernel
theorem dX21_init_100 : decode cX21_init 100 = .ok (.iastore, 1) := by decide +kernel
theorem dX21_init_101 : decode cX21_init 101 = .ok (.dup, 1) := by decide +kernel
