abbrev cX21_init : ByteArray := prog_15_method_1_code
theorem dX21_init_4 : decode cX21_init 4 = .ok (.aload_n 0, 1) := by decide +kernel
theorem dX21_init_5 : decode cX21_init 5 = .ok (.iconst 4, 1) := by decide +kernel
theorem dX21_init_6 : decode cX21_init 6 = .ok (.newarray .int, 2) := by decide +kernel
theorem dX21_init_8 : decode cX21_init 8 = .ok (.putfield 7, 3) := by decide +kernel
theorem dX21_init_11 : decode cX21_init 11 = .ok (.aload_n 0, 1) := by decide +kernel
theorem dX21_init_12 : decode cX21_init 12 = .ok (.sipush 1600, 3) := by decide +kernel
theorem dX21_init_15 : decode cX21_init 15 = .ok (.newarray .byte, 2) := by decide +kernel
theorem dX21_init_17 : decode cX21_init 17 = .ok (.putfield 13, 3) := by decide +kernel
theorem dX21_init_20 : decode cX21_init 20 = .ok (.aload_n 0, 1) := by decide +kernel
theorem dX21_init_21 : decode cX21_init 21 = .ok (.iconst 4, 1) := by decide +kernel
theorem dX21_init_22 : decode cX21_init 22 = .ok (.newarray .int, 2) := by decide +kernel
theorem dX21_init_24 : decode cX21_init 24 = .ok (.dup, 1) := by decide +kernel
theorem dX21_init_25 : decode cX21_init 25 = .ok (.iconst 0, 1) := by decide +kernel
theorem dX21_init_26 : decode cX21_init 26 = .ok (.iconst (-1), 1) := by decide +kernel
theorem dX21_init_27 : decode cX21_init 27 = .ok (.iastore, 1) := by decide +kernel
theorem dX21_init_28 : decode cX21_init 28 = .ok (.dup, 1) := by decide +kernel
theorem dX21_init_29 : decode cX21_init 29 = .ok (.iconst 1, 1) := by decide +kernel
theorem dX21_init_30 : decode cX21_init 30 = .ok (.iconst (-1), 1) := by decide +kernel
theorem dX21_init_31 : decode cX21_init 31 = .ok (.iastore, 1) := by decide +kernel
theorem dX21_init_32 : decode cX21_init 32 = .ok (.dup, 1) := by decide +kernel
theorem dX21_init_33 : decode cX21_init 33 = .ok (.iconst 2, 1) := by decide +kernel
theorem dX21_init_34 : decode cX21_init 34 = .ok (.iconst (-1), 1) := by decide +kernel
theorem dX21_init_35 : decode cX21_init 35 = .ok (.iastore, 1) := by decide +kernel
theorem dX21_init_36 : decode cX21_init 36 = .ok (.dup, 1) := by decide +kernel
theorem dX21_init_37 : decode cX21_init 37 = .ok (.iconst 3, 1) := by decide +kernel
theorem dX21_init_38 : decode cX21_init 38 = .ok (.iconst (-1), 1) := by decide +kernel
theorem dX21_init_39 : decode cX21_init 39 = .ok (.iastore, 1) := by decide +kernel
theorem dX21_init_40 : decode cX21_init 40 = .ok (.putfield 17, 3) := by decide +kernel
theorem dX21_init_43 : decode cX21_init 43 = .ok (.aload_n 0, 1) := by decide +kernel
theorem dX21_init_44 : decode cX21_init 44 = .ok (.iconst 4, 1) := by decide +kernel
theorem dX21_init_45 : decode cX21_init 45 = .ok (.newarray .int, 2) := by decide +kernel
theorem dX21_init_47 : decode cX21_init 47 = .ok (.dup, 1) := by decide +kernel
theorem dX21_init_48 : decode cX21_init 48 = .ok (.iconst 0, 1) := by decide +kernel
theorem dX21_init_49 : decode cX21_init 49 = .ok (.iconst (-1), 1) := by decide +kernel
theorem dX21_init_50 : decode cX21_init 50 = .ok (.iastore, 1) := by decide +kernel
theorem dX21_init_51 : decode cX21_init 51 = .ok (.dup, 1) := by decide +kernel
theorem dX21_init_52 : decode cX21_init 52 = .ok (.iconst 1, 1) := by decide +kernel
theorem dX21_init_53 : decode cX21_init 53 = .ok (.iconst (-1), 1) := by decide +kernel
theorem dX21_init_54 : decode cX21_init 54 = .ok (.iastore, 1) := by decide +kernel
theorem dX21_init_55 : decode cX21_init 55 = .ok (.dup, 1) := by decide +kernel
