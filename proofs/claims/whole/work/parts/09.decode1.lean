theorem dX0_init_0 : decode cX0_init 0 = .ok (.aload_n 0, 1) := by decide +kernel
theorem dX0_init_1 : decode cX0_init 1 = .ok (.invokespecial 1, 3) := by decide +kernel
theorem dX0_init_4 : decode cX0_init 4 = .ok (.aload_n 0, 1) := by decide +kernel
theorem dX0_init_5 : decode cX0_init 5 = .ok (.bipush 8, 2) := by decide +kernel
theorem dX0_init_7 : decode cX0_init 7 = .ok (.anewarray 9, 3) := by decide +kernel
theorem dX0_init_10 : decode cX0_init 10 = .ok (.putfield 11, 3) := by decide +kernel
theorem dX0_init_13 : decode cX0_init 13 = .ok (.aload_n 0, 1) := by decide +kernel
theorem dX0_init_14 : decode cX0_init 14 = .ok (.bipush 8, 2) := by decide +kernel
theorem dX0_init_16 : decode cX0_init 16 = .ok (.anewarray 15, 3) := by decide +kernel
theorem dX0_init_19 : decode cX0_init 19 = .ok (.putfield 17, 3) := by decide +kernel
theorem dX0_init_22 : decode cX0_init 22 = .ok (.aload_n 0, 1) := by decide +kernel
theorem dX0_init_23 : decode cX0_init 23 = .ok (.bipush 8, 2) := by decide +kernel
theorem dX0_init_25 : decode cX0_init 25 = .ok (.anewarray 21, 3) := by decide +kernel
theorem dX0_init_28 : decode cX0_init 28 = .ok (.putfield 23, 3) := by decide +kernel
theorem dX0_init_31 : decode cX0_init 31 = .ok (.aload_n 0, 1) := by decide +kernel
theorem dX0_init_32 : decode cX0_init 32 = .ok (.bipush 20, 2) := by decide +kernel
theorem dX0_init_34 : decode cX0_init 34 = .ok (.anewarray 27, 3) := by decide +kernel
theorem dX0_init_37 : decode cX0_init 37 = .ok (.putfield 29, 3) := by decide +kernel
theorem dX0_init_40 : decode cX0_init 40 = .ok (.aload_n 0, 1) := by decide +kernel
theorem dX0_init_41 : decode cX0_init 41 = .ok (.iconst 0, 1) := by decide +kernel
theorem dX0_init_42 : decode cX0_init 42 = .ok (.putfield 33, 3) := by decide +kernel
theorem dX0_init_45 : decode cX0_init 45 = .ok (.aload_n 0, 1) := by decide +kernel
theorem dX0_init_46 : decode cX0_init 46 = .ok (.iconst 0, 1) := by decide +kernel
theorem dX0_init_47 : decode cX0_init 47 = .ok (.putfield 37, 3) := by decide +kernel
theorem dX0_init_50 : decode cX0_init 50 = .ok (.aload_n 0, 1) := by decide +kernel
theorem dX0_init_51 : decode cX0_init 51 = .ok (.iconst 0, 1) := by decide +kernel
theorem dX0_init_52 : decode cX0_init 52 = .ok (.putfield 40, 3) := by decide +kernel
theorem dX0_init_55 : decode cX0_init 55 = .ok (.aload_n 0, 1) := by decide +kernel
theorem dX0_init_56 : decode cX0_init 56 = .ok (.iconst 0, 1) := by decide +kernel
theorem dX0_init_57 : decode cX0_init 57 = .ok (.putfield 43, 3) := by decide +kernel
theorem dX0_init_60 : decode cX0_init 60 = .ok (.aload_n 0, 1) := by decide +kernel
theorem dX0_init_61 : decode cX0_init 61 = .ok (.iconst 0, 1) := by decide +kernel
theorem dX0_init_62 : decode cX0_init 62 = .ok (.putfield 46, 3) := by decide +kernel
theorem dX0_init_65 : decode cX0_init 65 = .ok (.aload_n 0, 1) := by decide +kernel
theorem dX0_init_66 : decode cX0_init 66 = .ok (.iconst 0, 1) := by decide +kernel
theorem dX0_init_67 : decode cX0_init 67 = .ok (.putfield 49, 3) := by decide +kernel
theorem dX0_init_70 : decode cX0_init 70 = .ok (.return_, 1) := by decide +kernel
theorem dX0_foamAt_0 : decode cX0_foamAt 0 = .ok (.iload_n 1, 1) := by decide +kernel
theorem dX0_foamAt_1 : decode cX0_foamAt 1 = .ok (.ifCond .lt 17, 3) := by decide +kernel
theorem dX0_foamAt_4 : decode cX0_foamAt 4 = .ok (.iload_n 1, 1) := by decide +kernel
theorem dX0_foamAt_5 : decode cX0_foamAt 5 = .ok (.aload_n 0, 1) := by decide +kernel
theorem dX0_foamAt_6 : decode cX0_foamAt 6 = .ok (.getfield 33, 3) := by decide +kernel
theorem dX0_foamAt_9 : decode cX0_foamAt 9 = .ok (.if_icmp .ge 9, 3) := by decide +kernel
theorem dX0_foamAt_12 : decode cX0_foamAt 12 = .ok (.iload_n 1, 1) := by decide +kernel
theorem dX0_foamAt_13 : decode cX0_foamAt 13 = .ok (.bipush 8, 2) := by decide +kernel
theorem dX0_foamAt_15 : decode cX0_foamAt 15 = .ok (.if_icmp .lt 7, 3) := by decide +kernel
theorem dX0_foamAt_18 : decode cX0_foamAt 18 = .ok (.aconst_null, 1) := by decide +kernel
theorem dX0_foamAt_19 : decode cX0_foamAt 19 = .ok (.goto 9, 3) := by decide +kernel
theorem dX0_foamAt_22 : decode cX0_foamAt 22 = .ok (.aload_n 0, 1) := by decide +kernel
theorem dX0_foamAt_23 : decode cX0_foamAt 23 = .ok (.getfield 11, 3) := by decide +kernel
theorem dX0_foamAt_26 : decode cX0_foamAt 26 = .ok (.iload_n 1, 1) := by decide +kernel
theorem dX0_foamAt_27 : decode cX0_foamAt 27 = .ok (.aaload, 1) := by decide +kernel
theorem dX0_foamAt_28 : decode cX0_foamAt 28 = .ok (.areturn, 1) := by decide +kernel
theorem dX0_thingAt_0 : decode cX0_thingAt 0 = .ok (.iload_n 1, 1) := by decide +kernel
theorem dX0_thingAt_1 : decode cX0_thingAt 1 = .ok (.ifCond .lt 17, 3) := by decide +kernel
theorem dX0_thingAt_4 : decode cX0_thingAt 4 = .ok (.iload_n 1, 1) := by decide +kernel
theorem dX0_thingAt_5 : decode cX0_thingAt 5 = .ok (.aload_n 0, 1) := by decide +kernel
theorem dX0_thingAt_6 : decode cX0_thingAt 6 = .ok (.getfield 37, 3) := by decide +kernel
theorem dX0_thingAt_9 : decode cX0_thingAt 9 = .ok (.if_icmp .ge 9, 3) := by decide +kernel
theorem dX0_thingAt_12 : decode cX0_thingAt 12 = .ok (.iload_n 1, 1) := by decide +kernel
theorem dX0_thingAt_13 : decode cX0_thingAt 13 = .ok (.bipush 8, 2) := by decide +kernel
theorem dX0_thingAt_15 : decode cX0_thingAt 15 = .ok (.if_icmp .lt 7, 3) := by decide +kernel
theorem dX0_thingAt_18 : decode cX0_thingAt 18 = .ok (.aconst_null, 1) := by decide +kernel
theorem dX0_thingAt_19 : decode cX0_thingAt 19 = .ok (.goto 9, 3) := by decide +kernel
theorem dX0_thingAt_22 : decode cX0_thingAt 22 = .ok (.aload_n 0, 1) := by decide +kernel
theorem dX0_thingAt_23 : decode cX0_thingAt 23 = .ok (.getfield 17, 3) := by decide +kernel
theorem dX0_thingAt_26 : decode cX0_thingAt 26 = .ok (.iload_n 1, 1) := by decide +kernel
theorem dX0_thingAt_27 : decode cX0_thingAt 27 = .ok (.aaload, 1) := by decide +kernel
theorem dX0_thingAt_28 : decode cX0_thingAt 28 = .ok (.areturn, 1) := by decide +kernel
theorem dX0_boxAt_0 : decode cX0_boxAt 0 = .ok (.iload_n 1, 1) := by decide +kernel
theorem dX0_boxAt_1 : decode cX0_boxAt 1 = .ok (.ifCond .lt 17, 3) := by decide +kernel
theorem dX0_boxAt_4 : decode cX0_boxAt 4 = .ok (.iload_n 1, 1) := by decide +kernel
theorem dX0_boxAt_5 : decode cX0_boxAt 5 = .ok (.aload_n 0, 1) := by decide +kernel
theorem dX0_boxAt_6 : decode cX0_boxAt 6 = .ok (.getfield 40, 3) := by decide +kernel
theorem dX0_boxAt_9 : decode cX0_boxAt 9 = .ok (.if_icmp .ge 9, 3) := by decide +kernel
theorem dX0_boxAt_12 : decode cX0_boxAt 12 = .ok (.iload_n 1, 1) := by decide +kernel
theorem dX0_boxAt_13 : decode cX0_boxAt 13 = .ok (.bipush 8, 2) := by decide +kernel
theorem dX0_boxAt_15 : decode cX0_boxAt 15 = .ok (.if_icmp .lt 7, 3) := by decide +kernel
theorem dX0_boxAt_18 : decode cX0_boxAt 18 = .ok (.aconst_null, 1) := by decide +kernel
theorem dX0_boxAt_19 : decode cX0_boxAt 19 = .ok (.goto 9, 3) := by decide +kernel
theorem dX0_boxAt_22 : decode cX0_boxAt 22 = .ok (.aload_n 0, 1) := by decide +kernel
theorem dX0_boxAt_23 : decode cX0_boxAt 23 = .ok (.getfield 23, 3) := by decide +kernel
theorem dX0_boxAt_26 : decode cX0_boxAt 26 = .ok (.iload_n 1, 1) := by decide +kernel
theorem dX0_boxAt_27 : decode cX0_boxAt 27 = .ok (.aaload, 1) := by decide +kernel
theorem dX0_boxAt_28 : decode cX0_boxAt 28 = .ok (.areturn, 1) := by decide +kernel
theorem dX0_dropAt_0 : decode cX0_dropAt 0 = .ok (.iload_n 1, 1) := by decide +kernel
theorem dX0_dropAt_1 : decode cX0_dropAt 1 = .ok (.ifCond .lt 17, 3) := by decide +kernel
theorem dX0_dropAt_4 : decode cX0_dropAt 4 = .ok (.iload_n 1, 1) := by decide +kernel
theorem dX0_dropAt_5 : decode cX0_dropAt 5 = .ok (.aload_n 0, 1) := by decide +kernel
theorem dX0_dropAt_6 : decode cX0_dropAt 6 = .ok (.getfield 43, 3) := by decide +kernel
theorem dX0_dropAt_9 : decode cX0_dropAt 9 = .ok (.if_icmp .ge 9, 3) := by decide +kernel
theorem dX0_dropAt_12 : decode cX0_dropAt 12 = .ok (.iload_n 1, 1) := by decide +kernel
theorem dX0_dropAt_13 : decode cX0_dropAt 13 = .ok (.bipush 20, 2) := by decide +kernel
theorem dX0_dropAt_15 : decode cX0_dropAt 15 = .ok (.if_icmp .lt 7, 3) := by decide +kernel
theorem dX0_dropAt_18 : decode cX0_dropAt 18 = .ok (.aconst_null, 1) := by decide +kernel
theorem dX0_dropAt_19 : decode cX0_dropAt 19 = .ok (.goto 9, 3) := by decide +kernel
theorem dX0_dropAt_22 : decode cX0_dropAt 22 = .ok (.aload_n 0, 1) := by decide +kernel
theorem dX0_dropAt_23 : decode cX0_dropAt 23 = .ok (.getfield 29, 3) := by decide +kernel
theorem dX0_dropAt_26 : decode cX0_dropAt 26 = .ok (.iload_n 1, 1) := by decide +kernel
theorem dX0_dropAt_27 : decode cX0_dropAt 27 = .ok (.aaload, 1) := by decide +kernel
theorem dX0_dropAt_28 : decode cX0_dropAt 28 = .ok (.areturn, 1) := by decide +kernel
theorem dX0_addFoam_0 : decode cX0_addFoam 0 = .ok (.aload_n 0, 1) := by decide +kernel
theorem dX0_addFoam_1 : decode cX0_addFoam 1 = .ok (.getfield 33, 3) := by decide +kernel
theorem dX0_addFoam_4 : decode cX0_addFoam 4 = .ok (.bipush 8, 2) := by decide +kernel
theorem dX0_addFoam_6 : decode cX0_addFoam 6 = .ok (.if_icmp .ge 23, 3) := by decide +kernel
theorem dX0_addFoam_9 : decode cX0_addFoam 9 = .ok (.aload_n 0, 1) := by decide +kernel
theorem dX0_addFoam_10 : decode cX0_addFoam 10 = .ok (.getfield 11, 3) := by decide +kernel
theorem dX0_addFoam_13 : decode cX0_addFoam 13 = .ok (.aload_n 0, 1) := by decide +kernel
theorem dX0_addFoam_14 : decode cX0_addFoam 14 = .ok (.getfield 33, 3) := by decide +kernel
theorem dX0_addFoam_17 : decode cX0_addFoam 17 = .ok (.aload_n 1, 1) := by decide +kernel
theorem dX0_addFoam_18 : decode cX0_addFoam 18 = .ok (.aastore, 1) := by decide +kernel
theorem dX0_addFoam_19 : decode cX0_addFoam 19 = .ok (.aload_n 0, 1) := by decide +kernel
theorem dX0_addFoam_20 : decode cX0_addFoam 20 = .ok (.dup, 1) := by decide +kernel
theorem dX0_addFoam_21 : decode cX0_addFoam 21 = .ok (.getfield 33, 3) := by decide +kernel
theorem dX0_addFoam_24 : decode cX0_addFoam 24 = .ok (.iconst 1, 1) := by decide +kernel
theorem dX0_addFoam_25 : decode cX0_addFoam 25 = .ok (.iadd, 1) := by decide +kernel
theorem dX0_addFoam_26 : decode cX0_addFoam 26 = .ok (.putfield 33, 3) := by decide +kernel
theorem dX0_addFoam_29 : decode cX0_addFoam 29 = .ok (.return_, 1) := by decide +kernel
theorem dX0_addThing_0 : decode cX0_addThing 0 = .ok (.aload_n 0, 1) := by decide +kernel
theorem dX0_addThing_1 : decode cX0_addThing 1 = .ok (.getfield 37, 3) := by decide +kernel
theorem dX0_addThing_4 : decode cX0_addThing 4 = .ok (.bipush 8, 2) := by decide +kernel
theorem dX0_addThing_6 : decode cX0_addThing 6 = .ok (.if_icmp .ge 23, 3) := by decide +kernel
theorem dX0_addThing_9 : decode cX0_addThing 9 = .ok (.aload_n 0, 1) := by decide +kernel
theorem dX0_addThing_10 : decode cX0_addThing 10 = .ok (.getfield 17, 3) := by decide +kernel
theorem dX0_addThing_13 : decode cX0_addThing 13 = .ok (.aload_n 0, 1) := by decide +kernel
theorem dX0_addThing_14 : decode cX0_addThing 14 = .ok (.getfield 37, 3) := by decide +kernel
theorem dX0_addThing_17 : decode cX0_addThing 17 = .ok (.aload_n 1, 1) := by decide +kernel
theorem dX0_addThing_18 : decode cX0_addThing 18 = .ok (.aastore, 1) := by decide +kernel
theorem dX0_addThing_19 : decode cX0_addThing 19 = .ok (.aload_n 0, 1) := by decide +kernel
theorem dX0_addThing_20 : decode cX0_addThing 20 = .ok (.dup, 1) := by decide +kernel
theorem dX0_addThing_21 : decode cX0_addThing 21 = .ok (.getfield 37, 3) := by decide +kernel
theorem dX0_addThing_24 : decode cX0_addThing 24 = .ok (.iconst 1, 1) := by decide +kernel
theorem dX0_addThing_25 : decode cX0_addThing 25 = .ok (.iadd, 1) := by decide +kernel
theorem dX0_addThing_26 : decode cX0_addThing 26 = .ok (.putfield 37, 3) := by decide +kernel
theorem dX0_addThing_29 : decode cX0_addThing 29 = .ok (.return_, 1) := by decide +kernel
theorem dX0_addBox_0 : decode cX0_addBox 0 = .ok (.aload_n 0, 1) := by decide +kernel
theorem dX0_addBox_1 : decode cX0_addBox 1 = .ok (.getfield 40, 3) := by decide +kernel
theorem dX0_addBox_4 : decode cX0_addBox 4 = .ok (.bipush 8, 2) := by decide +kernel
theorem dX0_addBox_6 : decode cX0_addBox 6 = .ok (.if_icmp .ge 23, 3) := by decide +kernel
theorem dX0_addBox_9 : decode cX0_addBox 9 = .ok (.aload_n 0, 1) := by decide +kernel
theorem dX0_addBox_10 : decode cX0_addBox 10 = .ok (.getfield 23, 3) := by decide +kernel
theorem dX0_addBox_13 : decode cX0_addBox 13 = .ok (.aload_n 0, 1) := by decide +kernel
theorem dX0_addBox_14 : decode cX0_addBox 14 = .ok (.getfield 40, 3) := by decide +kernel
theorem dX0_addBox_17 : decode cX0_addBox 17 = .ok (.aload_n 1, 1) := by decide +kernel
theorem dX0_addBox_18 : decode cX0_addBox 18 = .ok (.aastore, 1) := by decide +kernel
theorem dX0_addBox_19 : decode cX0_addBox 19 = .ok (.aload_n 0, 1) := by decide +kernel
theorem dX0_addBox_20 : decode cX0_addBox 20 = .ok (.dup, 1) := by decide +kernel
theorem dX0_addBox_21 : decode cX0_addBox 21 = .ok (.getfield 40, 3) := by decide +kernel
theorem dX0_addBox_24 : decode cX0_addBox 24 = .ok (.iconst 1, 1) := by decide +kernel
theorem dX0_addBox_25 : decode cX0_addBox 25 = .ok (.iadd, 1) := by decide +kernel
theorem dX0_addBox_26 : decode cX0_addBox 26 = .ok (.putfield 40, 3) := by decide +kernel
theorem dX0_addBox_29 : decode cX0_addBox 29 = .ok (.return_, 1) := by decide +kernel
theorem dX0_addDrop_0 : decode cX0_addDrop 0 = .ok (.aload_n 0, 1) := by decide +kernel
theorem dX0_addDrop_1 : decode cX0_addDrop 1 = .ok (.getfield 43, 3) := by decide +kernel
theorem dX0_addDrop_4 : decode cX0_addDrop 4 = .ok (.bipush 20, 2) := by decide +kernel
theorem dX0_addDrop_6 : decode cX0_addDrop 6 = .ok (.if_icmp .ge 23, 3) := by decide +kernel
theorem dX0_addDrop_9 : decode cX0_addDrop 9 = .ok (.aload_n 0, 1) := by decide +kernel
theorem dX0_addDrop_10 : decode cX0_addDrop 10 = .ok (.getfield 29, 3) := by decide +kernel
theorem dX0_addDrop_13 : decode cX0_addDrop 13 = .ok (.aload_n 0, 1) := by decide +kernel
theorem dX0_addDrop_14 : decode cX0_addDrop 14 = .ok (.getfield 43, 3) := by decide +kernel
theorem dX0_addDrop_17 : decode cX0_addDrop 17 = .ok (.aload_n 1, 1) := by decide +kernel
theorem dX0_addDrop_18 : decode cX0_addDrop 18 = .ok (.aastore, 1) := by decide +kernel
theorem dX0_addDrop_19 : decode cX0_addDrop 19 = .ok (.aload_n 0, 1) := by decide +kernel
theorem dX0_addDrop_20 : decode cX0_addDrop 20 = .ok (.dup, 1) := by decide +kernel
theorem dX0_addDrop_21 : decode cX0_addDrop 21 = .ok (.getfield 43, 3) := by decide +kernel
theorem dX0_addDrop_24 : decode cX0_addDrop 24 = .ok (.iconst 1, 1) := by decide +kernel
theorem dX0_addDrop_25 : decode cX0_addDrop 25 = .ok (.iadd, 1) := by decide +kernel
theorem dX0_addDrop_26 : decode cX0_addDrop 26 = .ok (.putfield 43, 3) := by decide +kernel
theorem dX0_addDrop_29 : decode cX0_addDrop 29 = .ok (.return_, 1) := by decide +kernel
theorem dX1_init_0 : decode cX1_init 0 = .ok (.aload_n 0, 1) := by decide +kernel
theorem dX1_init_1 : decode cX1_init 1 = .ok (.invokespecial 5, 3) := by decide +kernel
theorem dX1_init_4 : decode cX1_init 4 = .ok (.aload_n 0, 1) := by decide +kernel
theorem dX1_init_5 : decode cX1_init 5 = .ok (.new 11, 3) := by decide +kernel
theorem dX1_init_8 : decode cX1_init 8 = .ok (.dup, 1) := by decide +kernel
theorem dX1_init_9 : decode cX1_init 9 = .ok (.invokespecial 13, 3) := by decide +kernel
theorem dX1_init_12 : decode cX1_init 12 = .ok (.putfield 14, 3) := by decide +kernel
theorem dX1_init_15 : decode cX1_init 15 = .ok (.aload_n 0, 1) := by decide +kernel
theorem dX1_init_16 : decode cX1_init 16 = .ok (.bipush 24, 2) := by decide +kernel
theorem dX1_init_18 : decode cX1_init 18 = .ok (.newarray .long, 2) := by decide +kernel
theorem dX1_init_20 : decode cX1_init 20 = .ok (.putfield 20, 3) := by decide +kernel
theorem dX1_init_23 : decode cX1_init 23 = .ok (.aload_n 0, 1) := by decide +kernel
theorem dX1_init_24 : decode cX1_init 24 = .ok (.bipush 24, 2) := by decide +kernel
theorem dX1_init_26 : decode cX1_init 26 = .ok (.newarray .int, 2) := by decide +kernel
theorem dX1_init_28 : decode cX1_init 28 = .ok (.putfield 24, 3) := by decide +kernel
theorem dX1_init_31 : decode cX1_init 31 = .ok (.aload_n 0, 1) := by decide +kernel
theorem dX1_init_32 : decode cX1_init 32 = .ok (.bipush 24, 2) := by decide +kernel
theorem dX1_init_34 : decode cX1_init 34 = .ok (.newarray .int, 2) := by decide +kernel
theorem dX1_init_36 : decode cX1_init 36 = .ok (.putfield 28, 3) := by decide +kernel
theorem dX1_init_39 : decode cX1_init 39 = .ok (.aload_n 0, 1) := by decide +kernel
theorem dX1_init_40 : decode cX1_init 40 = .ok (.iconst 0, 1) := by decide +kernel
theorem dX1_init_41 : decode cX1_init 41 = .ok (.putfield 31, 3) := by decide +kernel
theorem dX1_init_44 : decode cX1_init 44 = .ok (.aload_n 0, 1) := by decide +kernel
theorem dX1_init_45 : decode cX1_init 45 = .ok (.iconst 0, 1) := by decide +kernel
theorem dX1_init_46 : decode cX1_init 46 = .ok (.putfield 35, 3) := by decide +kernel
theorem dX1_init_49 : decode cX1_init 49 = .ok (.aload_n 0, 1) := by decide +kernel
theorem dX1_init_50 : decode cX1_init 50 = .ok (.iconst 0, 1) := by decide +kernel
theorem dX1_init_51 : decode cX1_init 51 = .ok (.putfield 38, 3) := by decide +kernel
theorem dX1_init_54 : decode cX1_init 54 = .ok (.aload_n 0, 1) := by decide +kernel
theorem dX1_init_55 : decode cX1_init 55 = .ok (.iconst 0, 1) := by decide +kernel
theorem dX1_init_56 : decode cX1_init 56 = .ok (.putfield 41, 3) := by decide +kernel
theorem dX1_init_59 : decode cX1_init 59 = .ok (.aload_n 0, 1) := by decide +kernel
theorem dX1_init_60 : decode cX1_init 60 = .ok (.iconst 0, 1) := by decide +kernel
theorem dX1_init_61 : decode cX1_init 61 = .ok (.putfield 44, 3) := by decide +kernel
theorem dX1_init_64 : decode cX1_init 64 = .ok (.return_, 1) := by decide +kernel
theorem dX1_readBook_0 : decode cX1_readBook 0 = .ok (.new 1, 3) := by decide +kernel
theorem dX1_readBook_3 : decode cX1_readBook 3 = .ok (.dup, 1) := by decide +kernel
theorem dX1_readBook_4 : decode cX1_readBook 4 = .ok (.invokespecial 47, 3) := by decide +kernel
theorem dX1_readBook_7 : decode cX1_readBook 7 = .ok (.astore_n 2, 1) := by decide +kernel
theorem dX1_readBook_8 : decode cX1_readBook 8 = .ok (.aload_n 0, 1) := by decide +kernel
theorem dX1_readBook_9 : decode cX1_readBook 9 = .ok (.iconst 0, 1) := by decide +kernel
theorem dX1_readBook_10 : decode cX1_readBook 10 = .ok (.putfield 31, 3) := by decide +kernel
theorem dX1_readBook_13 : decode cX1_readBook 13 = .ok (.aload_n 0, 1) := by decide +kernel
theorem dX1_readBook_14 : decode cX1_readBook 14 = .ok (.iconst 0, 1) := by decide +kernel
theorem dX1_readBook_15 : decode cX1_readBook 15 = .ok (.putfield 44, 3) := by decide +kernel
theorem dX1_readBook_18 : decode cX1_readBook 18 = .ok (.aload_n 0, 1) := by decide +kernel
theorem dX1_readBook_19 : decode cX1_readBook 19 = .ok (.iconst 0, 1) := by decide +kernel
theorem dX1_readBook_20 : decode cX1_readBook 20 = .ok (.putfield 41, 3) := by decide +kernel
theorem dX1_readBook_23 : decode cX1_readBook 23 = .ok (.aload_n 0, 1) := by decide +kernel
theorem dX1_readBook_24 : decode cX1_readBook 24 = .ok (.iconst 0, 1) := by decide +kernel
theorem dX1_readBook_25 : decode cX1_readBook 25 = .ok (.putfield 35, 3) := by decide +kernel
theorem dX1_readBook_28 : decode cX1_readBook 28 = .ok (.aload_n 0, 1) := by decide +kernel
theorem dX1_readBook_29 : decode cX1_readBook 29 = .ok (.getfield 14, 3) := by decide +kernel
theorem dX1_readBook_32 : decode cX1_readBook 32 = .ok (.aload_n 1, 1) := by decide +kernel
theorem dX1_readBook_33 : decode cX1_readBook 33 = .ok (.invokevirtual 48, 3) := by decide +kernel
theorem dX1_readBook_36 : decode cX1_readBook 36 = .ok (.aload_n 0, 1) := by decide +kernel
theorem dX1_readBook_37 : decode cX1_readBook 37 = .ok (.bipush 22, 2) := by decide +kernel
theorem dX1_readBook_39 : decode cX1_readBook 39 = .ok (.invokevirtual 52, 3) := by decide +kernel
theorem dX1_readBook_42 : decode cX1_readBook 42 = .ok (.ifCond .ne 45, 3) := by decide +kernel
theorem dX1_readBook_45 : decode cX1_readBook 45 = .ok (.aload_n 2, 1) := by decide +kernel
theorem dX1_readBook_46 : decode cX1_readBook 46 = .ok (.getfield 56, 3) := by decide +kernel
theorem dX1_readBook_49 : decode cX1_readBook 49 = .ok (.sipush 640, 3) := by decide +kernel
theorem dX1_readBook_52 : decode cX1_readBook 52 = .ok (.if_icmp .ge 35, 3) := by decide +kernel
theorem dX1_readBook_55 : decode cX1_readBook 55 = .ok (.aload_n 0, 1) := by decide +kernel
theorem dX1_readBook_56 : decode cX1_readBook 56 = .ok (.aload_n 2, 1) := by decide +kernel
theorem dX1_readBook_57 : decode cX1_readBook 57 = .ok (.invokevirtual 61, 3) := by decide +kernel
theorem dX1_readBook_60 : decode cX1_readBook 60 = .ok (.ifCond .eq 12, 3) := by decide +kernel
theorem dX1_readBook_63 : decode cX1_readBook 63 = .ok (.aload_n 0, 1) := by decide +kernel
theorem dX1_readBook_64 : decode cX1_readBook 64 = .ok (.bipush 19, 2) := by decide +kernel
theorem dX1_readBook_66 : decode cX1_readBook 66 = .ok (.invokevirtual 65, 3) := by decide +kernel
theorem dX1_readBook_69 : decode cX1_readBook 69 = .ok (.ifCond .ne 5, 3) := by decide +kernel
theorem dX1_readBook_72 : decode cX1_readBook 72 = .ok (.aconst_null, 1) := by decide +kernel
theorem dX1_readBook_73 : decode cX1_readBook 73 = .ok (.areturn, 1) := by decide +kernel
theorem dX1_readBook_74 : decode cX1_readBook 74 = .ok (.aload_n 2, 1) := by decide +kernel
theorem dX1_readBook_75 : decode cX1_readBook 75 = .ok (.dup, 1) := by decide +kernel
theorem dX1_readBook_76 : decode cX1_readBook 76 = .ok (.getfield 56, 3) := by decide +kernel
theorem dX1_readBook_79 : decode cX1_readBook 79 = .ok (.iconst 1, 1) := by decide +kernel
theorem dX1_readBook_80 : decode cX1_readBook 80 = .ok (.iadd, 1) := by decide +kernel
theorem dX1_readBook_81 : decode cX1_readBook 81 = .ok (.putfield 56, 3) := by decide +kernel
theorem dX1_readBook_84 : decode cX1_readBook 84 = .ok (.goto (-48), 3) := by decide +kernel
theorem dX1_readBook_87 : decode cX1_readBook 87 = .ok (.aload_n 1, 1) := by decide +kernel
theorem dX1_readBook_88 : decode cX1_readBook 88 = .ok (.getfield 68, 3) := by decide +kernel
theorem dX1_readBook_91 : decode cX1_readBook 91 = .ok (.sipush 600, 3) := by decide +kernel
theorem dX1_readBook_94 : decode cX1_readBook 94 = .ok (.if_icmp .le 15, 3) := by decide +kernel
theorem dX1_readBook_97 : decode cX1_readBook 97 = .ok (.aload_n 0, 1) := by decide +kernel
theorem dX1_readBook_98 : decode cX1_readBook 98 = .ok (.aload_n 0, 1) := by decide +kernel
theorem dX1_readBook_99 : decode cX1_readBook 99 = .ok (.getfield 35, 3) := by decide +kernel
theorem dX1_readBook_102 : decode cX1_readBook 102 = .ok (.iconst 1, 1) := by decide +kernel
theorem dX1_readBook_103 : decode cX1_readBook 103 = .ok (.invokevirtual 71, 3) := by decide +kernel
theorem dX1_readBook_106 : decode cX1_readBook 106 = .ok (.pop, 1) := by decide +kernel
theorem dX1_readBook_107 : decode cX1_readBook 107 = .ok (.aconst_null, 1) := by decide +kernel
theorem dX1_readBook_108 : decode cX1_readBook 108 = .ok (.areturn, 1) := by decide +kernel
theorem dX1_readBook_109 : decode cX1_readBook 109 = .ok (.aload_n 2, 1) := by decide +kernel
theorem dX1_readBook_110 : decode cX1_readBook 110 = .ok (.areturn, 1) := by decide +kernel
theorem dX1_placeOfFault_0 : decode cX1_placeOfFault 0 = .ok (.aload_n 0, 1) := by decide +kernel
theorem dX1_placeOfFault_1 : decode cX1_placeOfFault 1 = .ok (.getfield 14, 3) := by decide +kernel
theorem dX1_placeOfFault_4 : decode cX1_placeOfFault 4 = .ok (.aload_n 0, 1) := by decide +kernel
theorem dX1_placeOfFault_5 : decode cX1_placeOfFault 5 = .ok (.getfield 41, 3) := by decide +kernel
theorem dX1_placeOfFault_8 : decode cX1_placeOfFault 8 = .ok (.invokevirtual 75, 3) := by decide +kernel
theorem dX1_placeOfFault_11 : decode cX1_placeOfFault 11 = .ok (.ireturn, 1) := by decide +kernel
theorem dX1_refuse_0 : decode cX1_refuse 0 = .ok (.aload_n 0, 1) := by decide +kernel
theorem dX1_refuse_1 : decode cX1_refuse 1 = .ok (.iload_n 2, 1) := by decide +kernel
theorem dX1_refuse_2 : decode cX1_refuse 2 = .ok (.putfield 44, 3) := by decide +kernel
theorem dX1_refuse_5 : decode cX1_refuse 5 = .ok (.aload_n 0, 1) := by decide +kernel
theorem dX1_refuse_6 : decode cX1_refuse 6 = .ok (.iload_n 1, 1) := by decide +kernel
theorem dX1_refuse_7 : decode cX1_refuse 7 = .ok (.putfield 41, 3) := by decide +kernel
theorem dX1_refuse_10 : decode cX1_refuse 10 = .ok (.iconst 0, 1) := by decide +kernel
theorem dX1_refuse_11 : decode cX1_refuse 11 = .ok (.ireturn, 1) := by decide +kernel
theorem dX1_isNow_0 : decode cX1_isNow 0 = .ok (.aload_n 0, 1) := by decide +kernel
theorem dX1_isNow_1 : decode cX1_isNow 1 = .ok (.getfield 14, 3) := by decide +kernel
theorem dX1_isNow_4 : decode cX1_isNow 4 = .ok (.aload_n 0, 1) := by decide +kernel
theorem dX1_isNow_5 : decode cX1_isNow 5 = .ok (.getfield 35, 3) := by decide +kernel
theorem dX1_isNow_8 : decode cX1_isNow 8 = .ok (.invokevirtual 79, 3) := by decide +kernel
theorem dX1_isNow_11 : decode cX1_isNow 11 = .ok (.iload_n 1, 1) := by decide +kernel
theorem dX1_isNow_12 : decode cX1_isNow 12 = .ok (.if_icmp .ne 7, 3) := by decide +kernel
theorem dX1_isNow_15 : decode cX1_isNow 15 = .ok (.iconst 1, 1) := by decide +kernel
theorem dX1_isNow_16 : decode cX1_isNow 16 = .ok (.goto 4, 3) := by decide +kernel
theorem dX1_isNow_19 : decode cX1_isNow 19 = .ok (.iconst 0, 1) := by decide +kernel
theorem dX1_isNow_20 : decode cX1_isNow 20 = .ok (.ireturn, 1) := by decide +kernel
theorem dX1_readLine_0 : decode cX1_readLine 0 = .ok (.aload_n 0, 1) := by decide +kernel
theorem dX1_readLine_1 : decode cX1_readLine 1 = .ok (.getfield 14, 3) := by decide +kernel
theorem dX1_readLine_4 : decode cX1_readLine 4 = .ok (.aload_n 0, 1) := by decide +kernel
theorem dX1_readLine_5 : decode cX1_readLine 5 = .ok (.getfield 35, 3) := by decide +kernel
theorem dX1_readLine_8 : decode cX1_readLine 8 = .ok (.invokevirtual 79, 3) := by decide +kernel
theorem dX1_readLine_11 : decode cX1_readLine 11 = .ok (.tableswitch 63 0 4 #[33, 39, 45, 51, 57], 33) := by decide +kernel
theorem dX1_readLine_44 : decode cX1_readLine 44 = .ok (.aload_n 0, 1) := by decide +kernel
theorem dX1_readLine_45 : decode cX1_readLine 45 = .ok (.aload_n 1, 1) := by decide +kernel
theorem dX1_readLine_46 : decode cX1_readLine 46 = .ok (.invokevirtual 82, 3) := by decide +kernel
theorem dX1_readLine_49 : decode cX1_readLine 49 = .ok (.ireturn, 1) := by decide +kernel
theorem dX1_readLine_50 : decode cX1_readLine 50 = .ok (.aload_n 0, 1) := by decide +kernel
theorem dX1_readLine_51 : decode cX1_readLine 51 = .ok (.aload_n 1, 1) := by decide +kernel
theorem dX1_readLine_52 : decode cX1_readLine 52 = .ok (.invokevirtual 85, 3) := by decide +kernel
theorem dX1_readLine_55 : decode cX1_readLine 55 = .ok (.ireturn, 1) := by decide +kernel
theorem dX1_readLine_56 : decode cX1_readLine 56 = .ok (.aload_n 0, 1) := by decide +kernel
theorem dX1_readLine_57 : decode cX1_readLine 57 = .ok (.aload_n 1, 1) := by decide +kernel
theorem dX1_readLine_58 : decode cX1_readLine 58 = .ok (.invokevirtual 88, 3) := by decide +kernel
theorem dX1_readLine_61 : decode cX1_readLine 61 = .ok (.ireturn, 1) := by decide +kernel
theorem dX1_readLine_62 : decode cX1_readLine 62 = .ok (.aload_n 0, 1) := by decide +kernel
theorem dX1_readLine_63 : decode cX1_readLine 63 = .ok (.aload_n 1, 1) := by decide +kernel
theorem dX1_readLine_64 : decode cX1_readLine 64 = .ok (.invokevirtual 91, 3) := by decide +kernel
theorem dX1_readLine_67 : decode cX1_readLine 67 = .ok (.ireturn, 1) := by decide +kernel
theorem dX1_readLine_68 : decode cX1_readLine 68 = .ok (.aload_n 0, 1) := by decide +kernel
theorem dX1_readLine_69 : decode cX1_readLine 69 = .ok (.aload_n 1, 1) := by decide +kernel
theorem dX1_readLine_70 : decode cX1_readLine 70 = .ok (.invokevirtual 94, 3) := by decide +kernel
theorem dX1_readLine_73 : decode cX1_readLine 73 = .ok (.ireturn, 1) := by decide +kernel
theorem dX1_readLine_74 : decode cX1_readLine 74 = .ok (.aload_n 0, 1) := by decide +kernel
theorem dX1_readLine_75 : decode cX1_readLine 75 = .ok (.aload_n 0, 1) := by decide +kernel
theorem dX1_readLine_76 : decode cX1_readLine 76 = .ok (.getfield 35, 3) := by decide +kernel
theorem dX1_readLine_79 : decode cX1_readLine 79 = .ok (.iconst 1, 1) := by decide +kernel
theorem dX1_readLine_80 : decode cX1_readLine 80 = .ok (.invokevirtual 71, 3) := by decide +kernel
theorem dX1_readLine_83 : decode cX1_readLine 83 = .ok (.ireturn, 1) := by decide +kernel
theorem dX1_readFoam_0 : decode cX1_readFoam 0 = .ok (.aload_n 0, 1) := by decide +kernel
theorem dX1_readFoam_1 : decode cX1_readFoam 1 = .ok (.aload_n 1, 1) := by decide +kernel
theorem dX1_readFoam_2 : decode cX1_readFoam 2 = .ok (.getfield 97, 3) := by decide +kernel
theorem dX1_readFoam_5 : decode cX1_readFoam 5 = .ok (.bipush 8, 2) := by decide +kernel
theorem dX1_readFoam_7 : decode cX1_readFoam 7 = .ok (.invokevirtual 100, 3) := by decide +kernel
theorem dX1_readFoam_10 : decode cX1_readFoam 10 = .ok (.ifCond .eq 15, 3) := by decide +kernel
theorem dX1_readFoam_13 : decode cX1_readFoam 13 = .ok (.aload_n 0, 1) := by decide +kernel
theorem dX1_readFoam_14 : decode cX1_readFoam 14 = .ok (.iconst 0, 1) := by decide +kernel
theorem dX1_readFoam_15 : decode cX1_readFoam 15 = .ok (.aload_n 1, 1) := by decide +kernel
theorem dX1_readFoam_16 : decode cX1_readFoam 16 = .ok (.getfield 97, 3) := by decide +kernel
theorem dX1_readFoam_19 : decode cX1_readFoam 19 = .ok (.invokevirtual 103, 3) := by decide +kernel
theorem dX1_readFoam_22 : decode cX1_readFoam 22 = .ok (.ifCond .ne 5, 3) := by decide +kernel
theorem dX1_readFoam_25 : decode cX1_readFoam 25 = .ok (.iconst 0, 1) := by decide +kernel
theorem dX1_readFoam_26 : decode cX1_readFoam 26 = .ok (.ireturn, 1) := by decide +kernel
theorem dX1_readFoam_27 : decode cX1_readFoam 27 = .ok (.new 106, 3) := by decide +kernel
theorem dX1_readFoam_30 : decode cX1_readFoam 30 = .ok (.dup, 1) := by decide +kernel
theorem dX1_readFoam_31 : decode cX1_readFoam 31 = .ok (.invokespecial 108, 3) := by decide +kernel
theorem dX1_readFoam_34 : decode cX1_readFoam 34 = .ok (.astore_n 2, 1) := by decide +kernel
theorem dX1_readFoam_35 : decode cX1_readFoam 35 = .ok (.iconst 0, 1) := by decide +kernel
theorem dX1_readFoam_36 : decode cX1_readFoam 36 = .ok (.istore_n 3, 1) := by decide +kernel
theorem dX1_readFoam_37 : decode cX1_readFoam 37 = .ok (.iload_n 3, 1) := by decide +kernel
theorem dX1_readFoam_38 : decode cX1_readFoam 38 = .ok (.bipush 8, 2) := by decide +kernel
theorem dX1_readFoam_40 : decode cX1_readFoam 40 = .ok (.if_icmp .gt 33, 3) := by decide +kernel
theorem dX1_readFoam_43 : decode cX1_readFoam 43 = .ok (.iload_n 3, 1) := by decide +kernel
theorem dX1_readFoam_44 : decode cX1_readFoam 44 = .ok (.iconst 2, 1) := by decide +kernel
theorem dX1_readFoam_45 : decode cX1_readFoam 45 = .ok (.if_icmp .lt 12, 3) := by decide +kernel
theorem dX1_readFoam_48 : decode cX1_readFoam 48 = .ok (.aload_n 0, 1) := by decide +kernel
theorem dX1_readFoam_49 : decode cX1_readFoam 49 = .ok (.bipush 18, 2) := by decide +kernel
theorem dX1_readFoam_51 : decode cX1_readFoam 51 = .ok (.invokevirtual 52, 3) := by decide +kernel
theorem dX1_readFoam_54 : decode cX1_readFoam 54 = .ok (.ifCond .eq 19, 3) := by decide +kernel
theorem dX1_readFoam_57 : decode cX1_readFoam 57 = .ok (.aload_n 0, 1) := by decide +kernel
theorem dX1_readFoam_58 : decode cX1_readFoam 58 = .ok (.aload_n 2, 1) := by decide +kernel
theorem dX1_readFoam_59 : decode cX1_readFoam 59 = .ok (.invokevirtual 109, 3) := by decide +kernel
theorem dX1_readFoam_62 : decode cX1_readFoam 62 = .ok (.ifCond .ne 5, 3) := by decide +kernel
theorem dX1_readFoam_65 : decode cX1_readFoam 65 = .ok (.iconst 0, 1) := by decide +kernel
theorem dX1_readFoam_66 : decode cX1_readFoam 66 = .ok (.ireturn, 1) := by decide +kernel
theorem dX1_readFoam_67 : decode cX1_readFoam 67 = .ok (.iinc 3 1, 3) := by decide +kernel
theorem dX1_readFoam_70 : decode cX1_readFoam 70 = .ok (.goto (-33), 3) := by decide +kernel
theorem dX1_readFoam_73 : decode cX1_readFoam 73 = .ok (.aload_n 0, 1) := by decide +kernel
theorem dX1_readFoam_74 : decode cX1_readFoam 74 = .ok (.iconst 5, 1) := by decide +kernel
theorem dX1_readFoam_75 : decode cX1_readFoam 75 = .ok (.iconst 0, 1) := by decide +kernel
theorem dX1_readFoam_76 : decode cX1_readFoam 76 = .ok (.bipush 100, 2) := by decide +kernel
theorem dX1_readFoam_78 : decode cX1_readFoam 78 = .ok (.invokevirtual 113, 3) := by decide +kernel
theorem dX1_readFoam_81 : decode cX1_readFoam 81 = .ok (.ifCond .ne 5, 3) := by decide +kernel
theorem dX1_readFoam_84 : decode cX1_readFoam 84 = .ok (.iconst 0, 1) := by decide +kernel
theorem dX1_readFoam_85 : decode cX1_readFoam 85 = .ok (.ireturn, 1) := by decide +kernel
theorem dX1_readFoam_86 : decode cX1_readFoam 86 = .ok (.aload_n 2, 1) := by decide +kernel
theorem dX1_readFoam_87 : decode cX1_readFoam 87 = .ok (.aload_n 0, 1) := by decide +kernel
theorem dX1_readFoam_88 : decode cX1_readFoam 88 = .ok (.getfield 38, 3) := by decide +kernel
theorem dX1_readFoam_91 : decode cX1_readFoam 91 = .ok (.putfield 117, 3) := by decide +kernel
theorem dX1_readFoam_94 : decode cX1_readFoam 94 = .ok (.aload_n 0, 1) := by decide +kernel
theorem dX1_readFoam_95 : decode cX1_readFoam 95 = .ok (.bipush 6, 2) := by decide +kernel
theorem dX1_readFoam_97 : decode cX1_readFoam 97 = .ok (.iconst 0, 1) := by decide +kernel
theorem dX1_readFoam_98 : decode cX1_readFoam 98 = .ok (.bipush 100, 2) := by decide +kernel
theorem dX1_readFoam_100 : decode cX1_readFoam 100 = .ok (.invokevirtual 113, 3) := by decide +kernel
theorem dX1_readFoam_103 : decode cX1_readFoam 103 = .ok (.ifCond .ne 5, 3) := by decide +kernel
theorem dX1_readFoam_106 : decode cX1_readFoam 106 = .ok (.iconst 0, 1) := by decide +kernel
theorem dX1_readFoam_107 : decode cX1_readFoam 107 = .ok (.ireturn, 1) := by decide +kernel
theorem dX1_readFoam_108 : decode cX1_readFoam 108 = .ok (.aload_n 2, 1) := by decide +kernel
theorem dX1_readFoam_109 : decode cX1_readFoam 109 = .ok (.aload_n 0, 1) := by decide +kernel
theorem dX1_readFoam_110 : decode cX1_readFoam 110 = .ok (.getfield 38, 3) := by decide +kernel
theorem dX1_readFoam_113 : decode cX1_readFoam 113 = .ok (.putfield 120, 3) := by decide +kernel
theorem dX1_readFoam_116 : decode cX1_readFoam 116 = .ok (.aload_n 1, 1) := by decide +kernel
theorem dX1_readFoam_117 : decode cX1_readFoam 117 = .ok (.aload_n 2, 1) := by decide +kernel
theorem dX1_readFoam_118 : decode cX1_readFoam 118 = .ok (.invokevirtual 123, 3) := by decide +kernel
theorem dX1_readFoam_121 : decode cX1_readFoam 121 = .ok (.iconst 1, 1) := by decide +kernel
theorem dX1_readFoam_122 : decode cX1_readFoam 122 = .ok (.ireturn, 1) := by decide +kernel
theorem dX1_readPoint_0 : decode cX1_readPoint 0 = .ok (.aload_n 0, 1) := by decide +kernel
theorem dX1_readPoint_1 : decode cX1_readPoint 1 = .ok (.aload_n 1, 1) := by decide +kernel
theorem dX1_readPoint_2 : decode cX1_readPoint 2 = .ok (.invokevirtual 127, 3) := by decide +kernel
theorem dX1_readPoint_5 : decode cX1_readPoint 5 = .ok (.aload_n 1, 1) := by decide +kernel
theorem dX1_readPoint_6 : decode cX1_readPoint 6 = .ok (.getfield 131, 3) := by decide +kernel
theorem dX1_readPoint_9 : decode cX1_readPoint 9 = .ok (.ifCond .ne 7, 3) := by decide +kernel
theorem dX1_readPoint_12 : decode cX1_readPoint 12 = .ok (.iconst 0, 1) := by decide +kernel
theorem dX1_readPoint_13 : decode cX1_readPoint 13 = .ok (.goto 5, 3) := by decide +kernel
theorem dX1_readPoint_16 : decode cX1_readPoint 16 = .ok (.bipush 95, 2) := by decide +kernel
theorem dX1_readPoint_18 : decode cX1_readPoint 18 = .ok (.invokevirtual 134, 3) := by decide +kernel
theorem dX1_readPoint_21 : decode cX1_readPoint 21 = .ok (.ifCond .ne 5, 3) := by decide +kernel
theorem dX1_readPoint_24 : decode cX1_readPoint 24 = .ok (.iconst 0, 1) := by decide +kernel
theorem dX1_readPoint_25 : decode cX1_readPoint 25 = .ok (.ireturn, 1) := by decide +kernel
theorem dX1_readPoint_26 : decode cX1_readPoint 26 = .ok (.aload_n 1, 1) := by decide +kernel
theorem dX1_readPoint_27 : decode cX1_readPoint 27 = .ok (.getfield 131, 3) := by decide +kernel
theorem dX1_readPoint_30 : decode cX1_readPoint 30 = .ok (.bipush 8, 2) := by decide +kernel
theorem dX1_readPoint_32 : decode cX1_readPoint 32 = .ok (.if_icmp .lt 15, 3) := by decide +kernel
theorem dX1_readPoint_35 : decode cX1_readPoint 35 = .ok (.aload_n 0, 1) := by decide +kernel
theorem dX1_readPoint_36 : decode cX1_readPoint 36 = .ok (.aload_n 0, 1) := by decide +kernel
theorem dX1_readPoint_37 : decode cX1_readPoint 37 = .ok (.getfield 35, 3) := by decide +kernel
theorem dX1_readPoint_40 : decode cX1_readPoint 40 = .ok (.iconst 1, 1) := by decide +kernel
theorem dX1_readPoint_41 : decode cX1_readPoint 41 = .ok (.isub, 1) := by decide +kernel
theorem dX1_readPoint_42 : decode cX1_readPoint 42 = .ok (.iconst 4, 1) := by decide +kernel
theorem dX1_readPoint_43 : decode cX1_readPoint 43 = .ok (.invokevirtual 71, 3) := by decide +kernel
theorem dX1_readPoint_46 : decode cX1_readPoint 46 = .ok (.ireturn, 1) := by decide +kernel
theorem dX1_readPoint_47 : decode cX1_readPoint 47 = .ok (.aload_n 0, 1) := by decide +kernel
theorem dX1_readPoint_48 : decode cX1_readPoint 48 = .ok (.getfield 38, 3) := by decide +kernel
theorem dX1_readPoint_51 : decode cX1_readPoint 51 = .ok (.istore_n 2, 1) := by decide +kernel
theorem dX1_readPoint_52 : decode cX1_readPoint 52 = .ok (.aload_n 0, 1) := by decide +kernel
theorem dX1_readPoint_53 : decode cX1_readPoint 53 = .ok (.bipush 20, 2) := by decide +kernel
theorem dX1_readPoint_55 : decode cX1_readPoint 55 = .ok (.invokevirtual 65, 3) := by decide +kernel
theorem dX1_readPoint_58 : decode cX1_readPoint 58 = .ok (.ifCond .eq 16, 3) := by decide +kernel
theorem dX1_readPoint_61 : decode cX1_readPoint 61 = .ok (.aload_n 0, 1) := by decide +kernel
theorem dX1_readPoint_62 : decode cX1_readPoint 62 = .ok (.aload_n 1, 1) := by decide +kernel
theorem dX1_readPoint_63 : decode cX1_readPoint 63 = .ok (.invokevirtual 137, 3) := by decide +kernel
theorem dX1_readPoint_66 : decode cX1_readPoint 66 = .ok (.ldc 140, 2) := by decide +kernel
theorem dX1_readPoint_68 : decode cX1_readPoint 68 = .ok (.invokevirtual 134, 3) := by decide +kernel
theorem dX1_readPoint_71 : decode cX1_readPoint 71 = .ok (.ifCond .ne 5, 3) := by decide +kernel
theorem dX1_readPoint_74 : decode cX1_readPoint 74 = .ok (.iconst 0, 1) := by decide +kernel
theorem dX1_readPoint_75 : decode cX1_readPoint 75 = .ok (.ireturn, 1) := by decide +kernel
theorem dX1_readPoint_76 : decode cX1_readPoint 76 = .ok (.aload_n 1, 1) := by decide +kernel
theorem dX1_readPoint_77 : decode cX1_readPoint 77 = .ok (.iload_n 2, 1) := by decide +kernel
theorem dX1_readPoint_78 : decode cX1_readPoint 78 = .ok (.aload_n 0, 1) := by decide +kernel
theorem dX1_readPoint_79 : decode cX1_readPoint 79 = .ok (.getfield 38, 3) := by decide +kernel
theorem dX1_readPoint_82 : decode cX1_readPoint 82 = .ok (.invokevirtual 141, 3) := by decide +kernel
theorem dX1_readPoint_85 : decode cX1_readPoint 85 = .ok (.iconst 1, 1) := by decide +kernel
theorem dX1_readPoint_86 : decode cX1_readPoint 86 = .ok (.ireturn, 1) := by decide +kernel
theorem dX1_readThing_0 : decode cX1_readThing 0 = .ok (.aload_n 0, 1) := by decide +kernel
theorem dX1_readThing_1 : decode cX1_readThing 1 = .ok (.aload_n 1, 1) := by decide +kernel
theorem dX1_readThing_2 : decode cX1_readThing 2 = .ok (.getfield 145, 3) := by decide +kernel
theorem dX1_readThing_5 : decode cX1_readThing 5 = .ok (.bipush 8, 2) := by decide +kernel
theorem dX1_readThing_7 : decode cX1_readThing 7 = .ok (.invokevirtual 100, 3) := by decide +kernel
theorem dX1_readThing_10 : decode cX1_readThing 10 = .ok (.ifCond .eq 27, 3) := by decide +kernel
theorem dX1_readThing_13 : decode cX1_readThing 13 = .ok (.aload_n 0, 1) := by decide +kernel
theorem dX1_readThing_14 : decode cX1_readThing 14 = .ok (.iconst 1, 1) := by decide +kernel
theorem dX1_readThing_15 : decode cX1_readThing 15 = .ok (.aload_n 1, 1) := by decide +kernel
theorem dX1_readThing_16 : decode cX1_readThing 16 = .ok (.getfield 145, 3) := by decide +kernel
theorem dX1_readThing_19 : decode cX1_readThing 19 = .ok (.invokevirtual 103, 3) := by decide +kernel
theorem dX1_readThing_22 : decode cX1_readThing 22 = .ok (.ifCond .eq 15, 3) := by decide +kernel
theorem dX1_readThing_25 : decode cX1_readThing 25 = .ok (.aload_n 0, 1) := by decide +kernel
theorem dX1_readThing_26 : decode cX1_readThing 26 = .ok (.bipush 7, 2) := by decide +kernel
theorem dX1_readThing_28 : decode cX1_readThing 28 = .ok (.iconst 1, 1) := by decide +kernel
theorem dX1_readThing_29 : decode cX1_readThing 29 = .ok (.ldc 140, 2) := by decide +kernel
theorem dX1_readThing_31 : decode cX1_readThing 31 = .ok (.invokevirtual 113, 3) := by decide +kernel
theorem dX1_readThing_34 : decode cX1_readThing 34 = .ok (.ifCond .ne 5, 3) := by decide +kernel
theorem dX1_readThing_37 : decode cX1_readThing 37 = .ok (.iconst 0, 1) := by decide +kernel
theorem dX1_readThing_38 : decode cX1_readThing 38 = .ok (.ireturn, 1) := by decide +kernel
theorem dX1_readThing_39 : decode cX1_readThing 39 = .ok (.new 148, 3) := by decide +kernel
theorem dX1_readThing_42 : decode cX1_readThing 42 = .ok (.dup, 1) := by decide +kernel
theorem dX1_readThing_43 : decode cX1_readThing 43 = .ok (.invokespecial 150, 3) := by decide +kernel
theorem dX1_readThing_46 : decode cX1_readThing 46 = .ok (.astore_n 2, 1) := by decide +kernel
theorem dX1_readThing_47 : decode cX1_readThing 47 = .ok (.aload_n 2, 1) := by decide +kernel
theorem dX1_readThing_48 : decode cX1_readThing 48 = .ok (.aload_n 0, 1) := by decide +kernel
theorem dX1_readThing_49 : decode cX1_readThing 49 = .ok (.getfield 38, 3) := by decide +kernel
theorem dX1_readThing_52 : decode cX1_readThing 52 = .ok (.putfield 151, 3) := by decide +kernel
theorem dX1_readThing_55 : decode cX1_readThing 55 = .ok (.aload_n 0, 1) := by decide +kernel
theorem dX1_readThing_56 : decode cX1_readThing 56 = .ok (.bipush 8, 2) := by decide +kernel
theorem dX1_readThing_58 : decode cX1_readThing 58 = .ok (.aload_n 2, 1) := by decide +kernel
theorem dX1_readThing_59 : decode cX1_readThing 59 = .ok (.getfield 154, 3) := by decide +kernel
theorem dX1_readThing_62 : decode cX1_readThing 62 = .ok (.invokevirtual 157, 3) := by decide +kernel
theorem dX1_readThing_65 : decode cX1_readThing 65 = .ok (.ifCond .eq 15, 3) := by decide +kernel
theorem dX1_readThing_68 : decode cX1_readThing 68 = .ok (.aload_n 0, 1) := by decide +kernel
theorem dX1_readThing_69 : decode cX1_readThing 69 = .ok (.bipush 9, 2) := by decide +kernel
theorem dX1_readThing_71 : decode cX1_readThing 71 = .ok (.iconst 1, 1) := by decide +kernel
theorem dX1_readThing_72 : decode cX1_readThing 72 = .ok (.ldc 140, 2) := by decide +kernel
theorem dX1_readThing_74 : decode cX1_readThing 74 = .ok (.invokevirtual 113, 3) := by decide +kernel
theorem dX1_readThing_77 : decode cX1_readThing 77 = .ok (.ifCond .ne 5, 3) := by decide +kernel
theorem dX1_readThing_80 : decode cX1_readThing 80 = .ok (.iconst 0, 1) := by decide +kernel
theorem dX1_readThing_81 : decode cX1_readThing 81 = .ok (.ireturn, 1) := by decide +kernel
theorem dX1_readThing_82 : decode cX1_readThing 82 = .ok (.aload_n 2, 1) := by decide +kernel
theorem dX1_readThing_83 : decode cX1_readThing 83 = .ok (.aload_n 0, 1) := by decide +kernel
theorem dX1_readThing_84 : decode cX1_readThing 84 = .ok (.getfield 38, 3) := by decide +kernel
theorem dX1_readThing_87 : decode cX1_readThing 87 = .ok (.putfield 161, 3) := by decide +kernel
theorem dX1_readThing_90 : decode cX1_readThing 90 = .ok (.aload_n 1, 1) := by decide +kernel
theorem dX1_readThing_91 : decode cX1_readThing 91 = .ok (.aload_n 2, 1) := by decide +kernel
theorem dX1_readThing_92 : decode cX1_readThing 92 = .ok (.invokevirtual 164, 3) := by decide +kernel
theorem dX1_readThing_95 : decode cX1_readThing 95 = .ok (.iconst 1, 1) := by decide +kernel
theorem dX1_readThing_96 : decode cX1_readThing 96 = .ok (.ireturn, 1) := by decide +kernel
theorem dX1_readBox_0 : decode cX1_readBox 0 = .ok (.aload_n 0, 1) := by decide +kernel
theorem dX1_readBox_1 : decode cX1_readBox 1 = .ok (.aload_n 1, 1) := by decide +kernel
theorem dX1_readBox_2 : decode cX1_readBox 2 = .ok (.getfield 168, 3) := by decide +kernel
theorem dX1_readBox_5 : decode cX1_readBox 5 = .ok (.bipush 8, 2) := by decide +kernel
theorem dX1_readBox_7 : decode cX1_readBox 7 = .ok (.invokevirtual 100, 3) := by decide +kernel
theorem dX1_readBox_10 : decode cX1_readBox 10 = .ok (.ifCond .eq 15, 3) := by decide +kernel
theorem dX1_readBox_13 : decode cX1_readBox 13 = .ok (.aload_n 0, 1) := by decide +kernel
theorem dX1_readBox_14 : decode cX1_readBox 14 = .ok (.iconst 2, 1) := by decide +kernel
theorem dX1_readBox_15 : decode cX1_readBox 15 = .ok (.aload_n 1, 1) := by decide +kernel
theorem dX1_readBox_16 : decode cX1_readBox 16 = .ok (.getfield 168, 3) := by decide +kernel
theorem dX1_readBox_19 : decode cX1_readBox 19 = .ok (.invokevirtual 103, 3) := by decide +kernel
theorem dX1_readBox_22 : decode cX1_readBox 22 = .ok (.ifCond .ne 5, 3) := by decide +kernel
theorem dX1_readBox_25 : decode cX1_readBox 25 = .ok (.iconst 0, 1) := by decide +kernel
theorem dX1_readBox_26 : decode cX1_readBox 26 = .ok (.ireturn, 1) := by decide +kernel
theorem dX1_readBox_27 : decode cX1_readBox 27 = .ok (.new 171, 3) := by decide +kernel
theorem dX1_readBox_30 : decode cX1_readBox 30 = .ok (.dup, 1) := by decide +kernel
theorem dX1_readBox_31 : decode cX1_readBox 31 = .ok (.invokespecial 173, 3) := by decide +kernel
theorem dX1_readBox_34 : decode cX1_readBox 34 = .ok (.astore_n 2, 1) := by decide +kernel
theorem dX1_readBox_35 : decode cX1_readBox 35 = .ok (.aload_n 0, 1) := by decide +kernel
theorem dX1_readBox_36 : decode cX1_readBox 36 = .ok (.bipush 10, 2) := by decide +kernel
theorem dX1_readBox_38 : decode cX1_readBox 38 = .ok (.aload_n 2, 1) := by decide +kernel
theorem dX1_readBox_39 : decode cX1_readBox 39 = .ok (.getfield 174, 3) := by decide +kernel
theorem dX1_readBox_42 : decode cX1_readBox 42 = .ok (.invokevirtual 157, 3) := by decide +kernel
theorem dX1_readBox_45 : decode cX1_readBox 45 = .ok (.ifCond .eq 16, 3) := by decide +kernel
theorem dX1_readBox_48 : decode cX1_readBox 48 = .ok (.aload_n 0, 1) := by decide +kernel
theorem dX1_readBox_49 : decode cX1_readBox 49 = .ok (.bipush 6, 2) := by decide +kernel
theorem dX1_readBox_51 : decode cX1_readBox 51 = .ok (.iconst 0, 1) := by decide +kernel
theorem dX1_readBox_52 : decode cX1_readBox 52 = .ok (.sipush 10000, 3) := by decide +kernel
theorem dX1_readBox_55 : decode cX1_readBox 55 = .ok (.invokevirtual 113, 3) := by decide +kernel
theorem dX1_readBox_58 : decode cX1_readBox 58 = .ok (.ifCond .ne 5, 3) := by decide +kernel
theorem dX1_readBox_61 : decode cX1_readBox 61 = .ok (.iconst 0, 1) := by decide +kernel
theorem dX1_readBox_62 : decode cX1_readBox 62 = .ok (.ireturn, 1) := by decide +kernel
theorem dX1_readBox_63 : decode cX1_readBox 63 = .ok (.aload_n 2, 1) := by decide +kernel
theorem dX1_readBox_64 : decode cX1_readBox 64 = .ok (.aload_n 0, 1) := by decide +kernel
theorem dX1_readBox_65 : decode cX1_readBox 65 = .ok (.getfield 38, 3) := by decide +kernel
theorem dX1_readBox_68 : decode cX1_readBox 68 = .ok (.putfield 177, 3) := by decide +kernel
theorem dX1_readBox_71 : decode cX1_readBox 71 = .ok (.aload_n 0, 1) := by decide +kernel
theorem dX1_readBox_72 : decode cX1_readBox 72 = .ok (.bipush 11, 2) := by decide +kernel
theorem dX1_readBox_74 : decode cX1_readBox 74 = .ok (.iconst 1, 1) := by decide +kernel
theorem dX1_readBox_75 : decode cX1_readBox 75 = .ok (.ldc 140, 2) := by decide +kernel
theorem dX1_readBox_77 : decode cX1_readBox 77 = .ok (.invokevirtual 113, 3) := by decide +kernel
theorem dX1_readBox_80 : decode cX1_readBox 80 = .ok (.ifCond .ne 5, 3) := by decide +kernel
theorem dX1_readBox_83 : decode cX1_readBox 83 = .ok (.iconst 0, 1) := by decide +kernel
theorem dX1_readBox_84 : decode cX1_readBox 84 = .ok (.ireturn, 1) := by decide +kernel
theorem dX1_readBox_85 : decode cX1_readBox 85 = .ok (.aload_n 2, 1) := by decide +kernel
theorem dX1_readBox_86 : decode cX1_readBox 86 = .ok (.aload_n 0, 1) := by decide +kernel
theorem dX1_readBox_87 : decode cX1_readBox 87 = .ok (.getfield 38, 3) := by decide +kernel
theorem dX1_readBox_90 : decode cX1_readBox 90 = .ok (.putfield 178, 3) := by decide +kernel
theorem dX1_readBox_93 : decode cX1_readBox 93 = .ok (.aload_n 1, 1) := by decide +kernel
theorem dX1_readBox_94 : decode cX1_readBox 94 = .ok (.aload_n 2, 1) := by decide +kernel
theorem dX1_readBox_95 : decode cX1_readBox 95 = .ok (.invokevirtual 181, 3) := by decide +kernel
theorem dX1_readBox_98 : decode cX1_readBox 98 = .ok (.iconst 1, 1) := by decide +kernel
theorem dX1_readBox_99 : decode cX1_readBox 99 = .ok (.ireturn, 1) := by decide +kernel
theorem dX1_readPad_0 : decode cX1_readPad 0 = .ok (.aload_n 0, 1) := by decide +kernel
theorem dX1_readPad_1 : decode cX1_readPad 1 = .ok (.iconst 3, 1) := by decide +kernel
theorem dX1_readPad_2 : decode cX1_readPad 2 = .ok (.invokevirtual 65, 3) := by decide +kernel
theorem dX1_readPad_5 : decode cX1_readPad 5 = .ok (.ifCond .eq 11, 3) := by decide +kernel
theorem dX1_readPad_8 : decode cX1_readPad 8 = .ok (.aload_n 0, 1) := by decide +kernel
theorem dX1_readPad_9 : decode cX1_readPad 9 = .ok (.iconst 1, 1) := by decide +kernel
theorem dX1_readPad_10 : decode cX1_readPad 10 = .ok (.invokevirtual 185, 3) := by decide +kernel
theorem dX1_readPad_13 : decode cX1_readPad 13 = .ok (.ifCond .ne 5, 3) := by decide +kernel
theorem dX1_readPad_16 : decode cX1_readPad 16 = .ok (.iconst 0, 1) := by decide +kernel
theorem dX1_readPad_17 : decode cX1_readPad 17 = .ok (.ireturn, 1) := by decide +kernel
theorem dX1_readPad_18 : decode cX1_readPad 18 = .ok (.aload_n 1, 1) := by decide +kernel
theorem dX1_readPad_19 : decode cX1_readPad 19 = .ok (.aload_n 0, 1) := by decide +kernel
theorem dX1_readPad_20 : decode cX1_readPad 20 = .ok (.getfield 38, 3) := by decide +kernel
theorem dX1_readPad_23 : decode cX1_readPad 23 = .ok (.invokevirtual 188, 3) := by decide +kernel
theorem dX1_readPad_26 : decode cX1_readPad 26 = .ok (.astore_n 2, 1) := by decide +kernel
theorem dX1_readPad_27 : decode cX1_readPad 27 = .ok (.aload_n 2, 1) := by decide +kernel
theorem dX1_readPad_28 : decode cX1_readPad 28 = .ok (.ifnull 14, 3) := by decide +kernel
theorem dX1_readPad_31 : decode cX1_readPad 31 = .ok (.aload_n 0, 1) := by decide +kernel
theorem dX1_readPad_32 : decode cX1_readPad 32 = .ok (.bipush 12, 2) := by decide +kernel
theorem dX1_readPad_34 : decode cX1_readPad 34 = .ok (.iconst 0, 1) := by decide +kernel
theorem dX1_readPad_35 : decode cX1_readPad 35 = .ok (.iconst 5, 1) := by decide +kernel
theorem dX1_readPad_36 : decode cX1_readPad 36 = .ok (.invokevirtual 113, 3) := by decide +kernel
theorem dX1_readPad_39 : decode cX1_readPad 39 = .ok (.ifCond .ne 5, 3) := by decide +kernel
theorem dX1_readPad_42 : decode cX1_readPad 42 = .ok (.iconst 0, 1) := by decide +kernel
theorem dX1_readPad_43 : decode cX1_readPad 43 = .ok (.ireturn, 1) := by decide +kernel
theorem dX1_readPad_44 : decode cX1_readPad 44 = .ok (.aload_n 0, 1) := by decide +kernel
theorem dX1_readPad_45 : decode cX1_readPad 45 = .ok (.getfield 38, 3) := by decide +kernel
theorem dX1_readPad_48 : decode cX1_readPad 48 = .ok (.istore_n 3, 1) := by decide +kernel
theorem dX1_readPad_49 : decode cX1_readPad 49 = .ok (.aload_n 2, 1) := by decide +kernel
theorem dX1_readPad_50 : decode cX1_readPad 50 = .ok (.iload_n 3, 1) := by decide +kernel
theorem dX1_readPad_51 : decode cX1_readPad 51 = .ok (.invokevirtual 192, 3) := by decide +kernel
theorem dX1_readPad_54 : decode cX1_readPad 54 = .ok (.ifnull 15, 3) := by decide +kernel
theorem dX1_readPad_57 : decode cX1_readPad 57 = .ok (.aload_n 0, 1) := by decide +kernel
theorem dX1_readPad_58 : decode cX1_readPad 58 = .ok (.aload_n 0, 1) := by decide +kernel
theorem dX1_readPad_59 : decode cX1_readPad 59 = .ok (.getfield 35, 3) := by decide +kernel
theorem dX1_readPad_62 : decode cX1_readPad 62 = .ok (.iconst 1, 1) := by decide +kernel
theorem dX1_readPad_63 : decode cX1_readPad 63 = .ok (.isub, 1) := by decide +kernel
theorem dX1_readPad_64 : decode cX1_readPad 64 = .ok (.iconst 4, 1) := by decide +kernel
theorem dX1_readPad_65 : decode cX1_readPad 65 = .ok (.invokevirtual 71, 3) := by decide +kernel
theorem dX1_readPad_68 : decode cX1_readPad 68 = .ok (.ireturn, 1) := by decide +kernel
theorem dX1_readPad_69 : decode cX1_readPad 69 = .ok (.aload_n 0, 1) := by decide +kernel
theorem dX1_readPad_70 : decode cX1_readPad 70 = .ok (.iconst 0, 1) := by decide +kernel
theorem dX1_readPad_71 : decode cX1_readPad 71 = .ok (.invokevirtual 185, 3) := by decide +kernel
theorem dX1_readPad_74 : decode cX1_readPad 74 = .ok (.ifCond .ne 5, 3) := by decide +kernel
theorem dX1_readPad_77 : decode cX1_readPad 77 = .ok (.iconst 0, 1) := by decide +kernel
theorem dX1_readPad_78 : decode cX1_readPad 78 = .ok (.ireturn, 1) := by decide +kernel
theorem dX1_readPad_79 : decode cX1_readPad 79 = .ok (.aload_n 1, 1) := by decide +kernel
theorem dX1_readPad_80 : decode cX1_readPad 80 = .ok (.aload_n 0, 1) := by decide +kernel
theorem dX1_readPad_81 : decode cX1_readPad 81 = .ok (.getfield 38, 3) := by decide +kernel
theorem dX1_readPad_84 : decode cX1_readPad 84 = .ok (.invokevirtual 196, 3) := by decide +kernel
theorem dX1_readPad_87 : decode cX1_readPad 87 = .ok (.astore 4, 2) := by decide +kernel
theorem dX1_readPad_89 : decode cX1_readPad 89 = .ok (.aload_n 0, 1) := by decide +kernel
theorem dX1_readPad_90 : decode cX1_readPad 90 = .ok (.bipush 13, 2) := by decide +kernel
theorem dX1_readPad_92 : decode cX1_readPad 92 = .ok (.bipush 10, 2) := by decide +kernel
theorem dX1_readPad_94 : decode cX1_readPad 94 = .ok (.sipush 600, 3) := by decide +kernel
theorem dX1_readPad_97 : decode cX1_readPad 97 = .ok (.invokevirtual 113, 3) := by decide +kernel
theorem dX1_readPad_100 : decode cX1_readPad 100 = .ok (.ifCond .ne 5, 3) := by decide +kernel
theorem dX1_readPad_103 : decode cX1_readPad 103 = .ok (.iconst 0, 1) := by decide +kernel
theorem dX1_readPad_104 : decode cX1_readPad 104 = .ok (.ireturn, 1) := by decide +kernel
theorem dX1_readPad_105 : decode cX1_readPad 105 = .ok (.aload_n 0, 1) := by decide +kernel
theorem dX1_readPad_106 : decode cX1_readPad 106 = .ok (.getfield 38, 3) := by decide +kernel
theorem dX1_readPad_109 : decode cX1_readPad 109 = .ok (.istore 5, 2) := by decide +kernel
theorem dX1_readPad_111 : decode cX1_readPad 111 = .ok (.aload_n 0, 1) := by decide +kernel
theorem dX1_readPad_112 : decode cX1_readPad 112 = .ok (.bipush 14, 2) := by decide +kernel
theorem dX1_readPad_114 : decode cX1_readPad 114 = .ok (.iconst 1, 1) := by decide +kernel
theorem dX1_readPad_115 : decode cX1_readPad 115 = .ok (.sipush 2000, 3) := by decide +kernel
theorem dX1_readPad_118 : decode cX1_readPad 118 = .ok (.invokevirtual 113, 3) := by decide +kernel
theorem dX1_readPad_121 : decode cX1_readPad 121 = .ok (.ifCond .ne 5, 3) := by decide +kernel
theorem dX1_readPad_124 : decode cX1_readPad 124 = .ok (.iconst 0, 1) := by decide +kernel
theorem dX1_readPad_125 : decode cX1_readPad 125 = .ok (.ireturn, 1) := by decide +kernel
theorem dX1_readPad_126 : decode cX1_readPad 126 = .ok (.aload_n 2, 1) := by decide +kernel
theorem dX1_readPad_127 : decode cX1_readPad 127 = .ok (.iload_n 3, 1) := by decide +kernel
theorem dX1_readPad_128 : decode cX1_readPad 128 = .ok (.aload 4, 2) := by decide +kernel
theorem dX1_readPad_130 : decode cX1_readPad 130 = .ok (.iload 5, 2) := by decide +kernel
theorem dX1_readPad_132 : decode cX1_readPad 132 = .ok (.aload_n 0, 1) := by decide +kernel
theorem dX1_readPad_133 : decode cX1_readPad 133 = .ok (.getfield 38, 3) := by decide +kernel
theorem dX1_readPad_136 : decode cX1_readPad 136 = .ok (.invokevirtual 199, 3) := by decide +kernel
theorem dX1_readPad_139 : decode cX1_readPad 139 = .ok (.iconst 1, 1) := by decide +kernel
theorem dX1_readPad_140 : decode cX1_readPad 140 = .ok (.ireturn, 1) := by decide +kernel
theorem dX1_readDrop_0 : decode cX1_readDrop 0 = .ok (.aload_n 0, 1) := by decide +kernel
theorem dX1_readDrop_1 : decode cX1_readDrop 1 = .ok (.aload_n 1, 1) := by decide +kernel
theorem dX1_readDrop_2 : decode cX1_readDrop 2 = .ok (.getfield 203, 3) := by decide +kernel
theorem dX1_readDrop_5 : decode cX1_readDrop 5 = .ok (.bipush 20, 2) := by decide +kernel
theorem dX1_readDrop_7 : decode cX1_readDrop 7 = .ok (.invokevirtual 100, 3) := by decide +kernel
theorem dX1_readDrop_10 : decode cX1_readDrop 10 = .ok (.ifCond .eq 11, 3) := by decide +kernel
theorem dX1_readDrop_13 : decode cX1_readDrop 13 = .ok (.aload_n 0, 1) := by decide +kernel
theorem dX1_readDrop_14 : decode cX1_readDrop 14 = .ok (.iconst 1, 1) := by decide +kernel
theorem dX1_readDrop_15 : decode cX1_readDrop 15 = .ok (.invokevirtual 185, 3) := by decide +kernel
theorem dX1_readDrop_18 : decode cX1_readDrop 18 = .ok (.ifCond .ne 5, 3) := by decide +kernel
theorem dX1_readDrop_21 : decode cX1_readDrop 21 = .ok (.iconst 0, 1) := by decide +kernel
theorem dX1_readDrop_22 : decode cX1_readDrop 22 = .ok (.ireturn, 1) := by decide +kernel
theorem dX1_readDrop_23 : decode cX1_readDrop 23 = .ok (.new 206, 3) := by decide +kernel
theorem dX1_readDrop_26 : decode cX1_readDrop 26 = .ok (.dup, 1) := by decide +kernel
theorem dX1_readDrop_27 : decode cX1_readDrop 27 = .ok (.invokespecial 208, 3) := by decide +kernel
theorem dX1_readDrop_30 : decode cX1_readDrop 30 = .ok (.astore_n 2, 1) := by decide +kernel
theorem dX1_readDrop_31 : decode cX1_readDrop 31 = .ok (.aload_n 2, 1) := by decide +kernel
theorem dX1_readDrop_32 : decode cX1_readDrop 32 = .ok (.aload_n 0, 1) := by decide +kernel
theorem dX1_readDrop_33 : decode cX1_readDrop 33 = .ok (.getfield 38, 3) := by decide +kernel
theorem dX1_readDrop_36 : decode cX1_readDrop 36 = .ok (.putfield 209, 3) := by decide +kernel
theorem dX1_readDrop_39 : decode cX1_readDrop 39 = .ok (.aload_n 0, 1) := by decide +kernel
theorem dX1_readDrop_40 : decode cX1_readDrop 40 = .ok (.bipush 12, 2) := by decide +kernel
theorem dX1_readDrop_42 : decode cX1_readDrop 42 = .ok (.iconst 0, 1) := by decide +kernel
theorem dX1_readDrop_43 : decode cX1_readDrop 43 = .ok (.iconst 5, 1) := by decide +kernel
theorem dX1_readDrop_44 : decode cX1_readDrop 44 = .ok (.invokevirtual 113, 3) := by decide +kernel
theorem dX1_readDrop_47 : decode cX1_readDrop 47 = .ok (.ifCond .ne 5, 3) := by decide +kernel
theorem dX1_readDrop_50 : decode cX1_readDrop 50 = .ok (.iconst 0, 1) := by decide +kernel
theorem dX1_readDrop_51 : decode cX1_readDrop 51 = .ok (.ireturn, 1) := by decide +kernel
theorem dX1_readDrop_52 : decode cX1_readDrop 52 = .ok (.aload_n 2, 1) := by decide +kernel
theorem dX1_readDrop_53 : decode cX1_readDrop 53 = .ok (.aload_n 0, 1) := by decide +kernel
theorem dX1_readDrop_54 : decode cX1_readDrop 54 = .ok (.getfield 38, 3) := by decide +kernel
theorem dX1_readDrop_57 : decode cX1_readDrop 57 = .ok (.putfield 212, 3) := by decide +kernel
theorem dX1_readDrop_60 : decode cX1_readDrop 60 = .ok (.aload_n 0, 1) := by decide +kernel
theorem dX1_readDrop_61 : decode cX1_readDrop 61 = .ok (.bipush 15, 2) := by decide +kernel
theorem dX1_readDrop_63 : decode cX1_readDrop 63 = .ok (.iconst 0, 1) := by decide +kernel
theorem dX1_readDrop_64 : decode cX1_readDrop 64 = .ok (.sipush 30000, 3) := by decide +kernel
theorem dX1_readDrop_67 : decode cX1_readDrop 67 = .ok (.invokevirtual 113, 3) := by decide +kernel
theorem dX1_readDrop_70 : decode cX1_readDrop 70 = .ok (.ifCond .ne 5, 3) := by decide +kernel
theorem dX1_readDrop_73 : decode cX1_readDrop 73 = .ok (.iconst 0, 1) := by decide +kernel
theorem dX1_readDrop_74 : decode cX1_readDrop 74 = .ok (.ireturn, 1) := by decide +kernel
theorem dX1_readDrop_75 : decode cX1_readDrop 75 = .ok (.aload_n 2, 1) := by decide +kernel
theorem dX1_readDrop_76 : decode cX1_readDrop 76 = .ok (.aload_n 0, 1) := by decide +kernel
theorem dX1_readDrop_77 : decode cX1_readDrop 77 = .ok (.getfield 38, 3) := by decide +kernel
theorem dX1_readDrop_80 : decode cX1_readDrop 80 = .ok (.putfield 215, 3) := by decide +kernel
theorem dX1_readDrop_83 : decode cX1_readDrop 83 = .ok (.aload_n 0, 1) := by decide +kernel
theorem dX1_readDrop_84 : decode cX1_readDrop 84 = .ok (.bipush 16, 2) := by decide +kernel
theorem dX1_readDrop_86 : decode cX1_readDrop 86 = .ok (.invokevirtual 52, 3) := by decide +kernel
theorem dX1_readDrop_89 : decode cX1_readDrop 89 = .ok (.ifCond .eq 25, 3) := by decide +kernel
theorem dX1_readDrop_92 : decode cX1_readDrop 92 = .ok (.aload_n 0, 1) := by decide +kernel
theorem dX1_readDrop_93 : decode cX1_readDrop 93 = .ok (.bipush 16, 2) := by decide +kernel
theorem dX1_readDrop_95 : decode cX1_readDrop 95 = .ok (.iconst 1, 1) := by decide +kernel
theorem dX1_readDrop_96 : decode cX1_readDrop 96 = .ok (.bipush 20, 2) := by decide +kernel
theorem dX1_readDrop_98 : decode cX1_readDrop 98 = .ok (.invokevirtual 113, 3) := by decide +kernel
theorem dX1_readDrop_101 : decode cX1_readDrop 101 = .ok (.ifCond .ne 5, 3) := by decide +kernel
theorem dX1_readDrop_104 : decode cX1_readDrop 104 = .ok (.iconst 0, 1) := by decide +kernel
theorem dX1_readDrop_105 : decode cX1_readDrop 105 = .ok (.ireturn, 1) := by decide +kernel
theorem dX1_readDrop_106 : decode cX1_readDrop 106 = .ok (.aload_n 2, 1) := by decide +kernel
theorem dX1_readDrop_107 : decode cX1_readDrop 107 = .ok (.aload_n 0, 1) := by decide +kernel
theorem dX1_readDrop_108 : decode cX1_readDrop 108 = .ok (.getfield 38, 3) := by decide +kernel
theorem dX1_readDrop_111 : decode cX1_readDrop 111 = .ok (.putfield 218, 3) := by decide +kernel
theorem dX1_readDrop_114 : decode cX1_readDrop 114 = .ok (.aload_n 1, 1) := by decide +kernel
theorem dX1_readDrop_115 : decode cX1_readDrop 115 = .ok (.aload_n 2, 1) := by decide +kernel
theorem dX1_readDrop_116 : decode cX1_readDrop 116 = .ok (.invokevirtual 221, 3) := by decide +kernel
theorem dX1_readDrop_119 : decode cX1_readDrop 119 = .ok (.iconst 1, 1) := by decide +kernel
theorem dX1_readDrop_120 : decode cX1_readDrop 120 = .ok (.ireturn, 1) := by decide +kernel
theorem dX1_readFirstWord_0 : decode cX1_readFirstWord 0 = .ok (.iload_n 1, 1) := by decide +kernel
theorem dX1_readFirstWord_1 : decode cX1_readFirstWord 1 = .ok (.iload_n 2, 1) := by decide +kernel
theorem dX1_readFirstWord_2 : decode cX1_readFirstWord 2 = .ok (.if_icmp .lt 13, 3) := by decide +kernel
theorem dX1_readFirstWord_5 : decode cX1_readFirstWord 5 = .ok (.aload_n 0, 1) := by decide +kernel
theorem dX1_readFirstWord_6 : decode cX1_readFirstWord 6 = .ok (.aload_n 0, 1) := by decide +kernel
theorem dX1_readFirstWord_7 : decode cX1_readFirstWord 7 = .ok (.getfield 35, 3) := by decide +kernel
theorem dX1_readFirstWord_10 : decode cX1_readFirstWord 10 = .ok (.iconst 4, 1) := by decide +kernel
theorem dX1_readFirstWord_11 : decode cX1_readFirstWord 11 = .ok (.invokevirtual 71, 3) := by decide +kernel
theorem dX1_readFirstWord_14 : decode cX1_readFirstWord 14 = .ok (.ireturn, 1) := by decide +kernel
theorem dX1_readFirstWord_15 : decode cX1_readFirstWord 15 = .ok (.aload_n 0, 1) := by decide +kernel
theorem dX1_readFirstWord_16 : decode cX1_readFirstWord 16 = .ok (.dup, 1) := by decide +kernel
theorem dX1_readFirstWord_17 : decode cX1_readFirstWord 17 = .ok (.getfield 35, 3) := by decide +kernel
theorem dX1_readFirstWord_20 : decode cX1_readFirstWord 20 = .ok (.iconst 1, 1) := by decide +kernel
theorem dX1_readFirstWord_21 : decode cX1_readFirstWord 21 = .ok (.iadd, 1) := by decide +kernel
theorem dX1_readFirstWord_22 : decode cX1_readFirstWord 22 = .ok (.putfield 35, 3) := by decide +kernel
theorem dX1_readFirstWord_25 : decode cX1_readFirstWord 25 = .ok (.iconst 1, 1) := by decide +kernel
theorem dX1_readFirstWord_26 : decode cX1_readFirstWord 26 = .ok (.ireturn, 1) := by decide +kernel
theorem dX1_readNewName_0 : decode cX1_readNewName 0 = .ok (.aload_n 0, 1) := by decide +kernel
theorem dX1_readNewName_1 : decode cX1_readNewName 1 = .ok (.bipush 17, 2) := by decide +kernel
theorem dX1_readNewName_3 : decode cX1_readNewName 3 = .ok (.invokevirtual 65, 3) := by decide +kernel
theorem dX1_readNewName_6 : decode cX1_readNewName 6 = .ok (.ifCond .ne 5, 3) := by decide +kernel
theorem dX1_readNewName_9 : decode cX1_readNewName 9 = .ok (.iconst 0, 1) := by decide +kernel
theorem dX1_readNewName_10 : decode cX1_readNewName 10 = .ok (.ireturn, 1) := by decide +kernel
theorem dX1_readNewName_11 : decode cX1_readNewName 11 = .ok (.aload_n 0, 1) := by decide +kernel
theorem dX1_readNewName_12 : decode cX1_readNewName 12 = .ok (.getfield 14, 3) := by decide +kernel
theorem dX1_readNewName_15 : decode cX1_readNewName 15 = .ok (.aload_n 0, 1) := by decide +kernel
theorem dX1_readNewName_16 : decode cX1_readNewName 16 = .ok (.getfield 35, 3) := by decide +kernel
theorem dX1_readNewName_19 : decode cX1_readNewName 19 = .ok (.iconst 1, 1) := by decide +kernel
theorem dX1_readNewName_20 : decode cX1_readNewName 20 = .ok (.isub, 1) := by decide +kernel
theorem dX1_readNewName_21 : decode cX1_readNewName 21 = .ok (.invokevirtual 225, 3) := by decide +kernel
theorem dX1_readNewName_24 : decode cX1_readNewName 24 = .ok (.lstore_n 3, 1) := by decide +kernel
theorem dX1_readNewName_25 : decode cX1_readNewName 25 = .ok (.aload_n 0, 1) := by decide +kernel
theorem dX1_readNewName_26 : decode cX1_readNewName 26 = .ok (.lload_n 3, 1) := by decide +kernel
theorem dX1_readNewName_27 : decode cX1_readNewName 27 = .ok (.invokevirtual 229, 3) := by decide +kernel
theorem dX1_readNewName_30 : decode cX1_readNewName 30 = .ok (.iconst (-1), 1) := by decide +kernel
theorem dX1_readNewName_31 : decode cX1_readNewName 31 = .ok (.if_icmp .ne 12, 3) := by decide +kernel
theorem dX1_readNewName_34 : decode cX1_readNewName 34 = .ok (.aload_n 0, 1) := by decide +kernel
theorem dX1_readNewName_35 : decode cX1_readNewName 35 = .ok (.getfield 31, 3) := by decide +kernel
theorem dX1_readNewName_38 : decode cX1_readNewName 38 = .ok (.bipush 24, 2) := by decide +kernel
theorem dX1_readNewName_40 : decode cX1_readNewName 40 = .ok (.if_icmp .lt 15, 3) := by decide +kernel
theorem dX1_readNewName_43 : decode cX1_readNewName 43 = .ok (.aload_n 0, 1) := by decide +kernel
theorem dX1_readNewName_44 : decode cX1_readNewName 44 = .ok (.aload_n 0, 1) := by decide +kernel
theorem dX1_readNewName_45 : decode cX1_readNewName 45 = .ok (.getfield 35, 3) := by decide +kernel
theorem dX1_readNewName_48 : decode cX1_readNewName 48 = .ok (.iconst 1, 1) := by decide +kernel
theorem dX1_readNewName_49 : decode cX1_readNewName 49 = .ok (.isub, 1) := by decide +kernel
theorem dX1_readNewName_50 : decode cX1_readNewName 50 = .ok (.iconst 3, 1) := by decide +kernel
theorem dX1_readNewName_51 : decode cX1_readNewName 51 = .ok (.invokevirtual 71, 3) := by decide +kernel
theorem dX1_readNewName_54 : decode cX1_readNewName 54 = .ok (.ireturn, 1) := by decide +kernel
theorem dX1_readNewName_55 : decode cX1_readNewName 55 = .ok (.aload_n 0, 1) := by decide +kernel
theorem dX1_readNewName_56 : decode cX1_readNewName 56 = .ok (.getfield 20, 3) := by decide +kernel
theorem dX1_readNewName_59 : decode cX1_readNewName 59 = .ok (.aload_n 0, 1) := by decide +kernel
theorem dX1_readNewName_60 : decode cX1_readNewName 60 = .ok (.getfield 31, 3) := by decide +kernel
theorem dX1_readNewName_63 : decode cX1_readNewName 63 = .ok (.lload_n 3, 1) := by decide +kernel
theorem dX1_readNewName_64 : decode cX1_readNewName 64 = .ok (.lastore, 1) := by decide +kernel
theorem dX1_readNewName_65 : decode cX1_readNewName 65 = .ok (.aload_n 0, 1) := by decide +kernel
theorem dX1_readNewName_66 : decode cX1_readNewName 66 = .ok (.getfield 24, 3) := by decide +kernel
theorem dX1_readNewName_69 : decode cX1_readNewName 69 = .ok (.aload_n 0, 1) := by decide +kernel
theorem dX1_readNewName_70 : decode cX1_readNewName 70 = .ok (.getfield 31, 3) := by decide +kernel
theorem dX1_readNewName_73 : decode cX1_readNewName 73 = .ok (.iload_n 1, 1) := by decide +kernel
theorem dX1_readNewName_74 : decode cX1_readNewName 74 = .ok (.iastore, 1) := by decide +kernel
theorem dX1_readNewName_75 : decode cX1_readNewName 75 = .ok (.aload_n 0, 1) := by decide +kernel
theorem dX1_readNewName_76 : decode cX1_readNewName 76 = .ok (.getfield 28, 3) := by decide +kernel
theorem dX1_readNewName_79 : decode cX1_readNewName 79 = .ok (.aload_n 0, 1) := by decide +kernel
theorem dX1_readNewName_80 : decode cX1_readNewName 80 = .ok (.getfield 31, 3) := by decide +kernel
theorem dX1_readNewName_83 : decode cX1_readNewName 83 = .ok (.iload_n 2, 1) := by decide +kernel
theorem dX1_readNewName_84 : decode cX1_readNewName 84 = .ok (.iastore, 1) := by decide +kernel
theorem dX1_readNewName_85 : decode cX1_readNewName 85 = .ok (.aload_n 0, 1) := by decide +kernel
theorem dX1_readNewName_86 : decode cX1_readNewName 86 = .ok (.dup, 1) := by decide +kernel
theorem dX1_readNewName_87 : decode cX1_readNewName 87 = .ok (.getfield 31, 3) := by decide +kernel
theorem dX1_readNewName_90 : decode cX1_readNewName 90 = .ok (.iconst 1, 1) := by decide +kernel
theorem dX1_readNewName_91 : decode cX1_readNewName 91 = .ok (.iadd, 1) := by decide +kernel
theorem dX1_readNewName_92 : decode cX1_readNewName 92 = .ok (.putfield 31, 3) := by decide +kernel
theorem dX1_readNewName_95 : decode cX1_readNewName 95 = .ok (.iconst 1, 1) := by decide +kernel
theorem dX1_readNewName_96 : decode cX1_readNewName 96 = .ok (.ireturn, 1) := by decide +kernel
theorem dX1_readToldName_0 : decode cX1_readToldName 0 = .ok (.aload_n 0, 1) := by decide +kernel
theorem dX1_readToldName_1 : decode cX1_readToldName 1 = .ok (.bipush 17, 2) := by decide +kernel
theorem dX1_readToldName_3 : decode cX1_readToldName 3 = .ok (.invokevirtual 65, 3) := by decide +kernel
theorem dX1_readToldName_6 : decode cX1_readToldName 6 = .ok (.ifCond .ne 5, 3) := by decide +kernel
theorem dX1_readToldName_9 : decode cX1_readToldName 9 = .ok (.iconst 0, 1) := by decide +kernel
theorem dX1_readToldName_10 : decode cX1_readToldName 10 = .ok (.ireturn, 1) := by decide +kernel
theorem dX1_readToldName_11 : decode cX1_readToldName 11 = .ok (.aload_n 0, 1) := by decide +kernel
theorem dX1_readToldName_12 : decode cX1_readToldName 12 = .ok (.aload_n 0, 1) := by decide +kernel
theorem dX1_readToldName_13 : decode cX1_readToldName 13 = .ok (.getfield 14, 3) := by decide +kernel
theorem dX1_readToldName_16 : decode cX1_readToldName 16 = .ok (.aload_n 0, 1) := by decide +kernel
theorem dX1_readToldName_17 : decode cX1_readToldName 17 = .ok (.getfield 35, 3) := by decide +kernel
theorem dX1_readToldName_20 : decode cX1_readToldName 20 = .ok (.iconst 1, 1) := by decide +kernel
theorem dX1_readToldName_21 : decode cX1_readToldName 21 = .ok (.isub, 1) := by decide +kernel
theorem dX1_readToldName_22 : decode cX1_readToldName 22 = .ok (.invokevirtual 225, 3) := by decide +kernel
theorem dX1_readToldName_25 : decode cX1_readToldName 25 = .ok (.invokevirtual 229, 3) := by decide +kernel
theorem dX1_readToldName_28 : decode cX1_readToldName 28 = .ok (.istore_n 2, 1) := by decide +kernel
theorem dX1_readToldName_29 : decode cX1_readToldName 29 = .ok (.iload_n 2, 1) := by decide +kernel
theorem dX1_readToldName_30 : decode cX1_readToldName 30 = .ok (.ifCond .lt 19, 3) := by decide +kernel
theorem dX1_readToldName_33 : decode cX1_readToldName 33 = .ok (.iload_n 2, 1) := by decide +kernel
theorem dX1_readToldName_34 : decode cX1_readToldName 34 = .ok (.bipush 24, 2) := by decide +kernel
theorem dX1_readToldName_36 : decode cX1_readToldName 36 = .ok (.if_icmp .ge 13, 3) := by decide +kernel
theorem dX1_readToldName_39 : decode cX1_readToldName 39 = .ok (.aload_n 0, 1) := by decide +kernel
theorem dX1_readToldName_40 : decode cX1_readToldName 40 = .ok (.getfield 24, 3) := by decide +kernel
theorem dX1_readToldName_43 : decode cX1_readToldName 43 = .ok (.iload_n 2, 1) := by decide +kernel
theorem dX1_readToldName_44 : decode cX1_readToldName 44 = .ok (.iaload, 1) := by decide +kernel
theorem dX1_readToldName_45 : decode cX1_readToldName 45 = .ok (.iload_n 1, 1) := by decide +kernel
theorem dX1_readToldName_46 : decode cX1_readToldName 46 = .ok (.if_icmp .eq 15, 3) := by decide +kernel
theorem dX1_readToldName_49 : decode cX1_readToldName 49 = .ok (.aload_n 0, 1) := by decide +kernel
theorem dX1_readToldName_50 : decode cX1_readToldName 50 = .ok (.aload_n 0, 1) := by decide +kernel
theorem dX1_readToldName_51 : decode cX1_readToldName 51 = .ok (.getfield 35, 3) := by decide +kernel
theorem dX1_readToldName_54 : decode cX1_readToldName 54 = .ok (.iconst 1, 1) := by decide +kernel
theorem dX1_readToldName_55 : decode cX1_readToldName 55 = .ok (.isub, 1) := by decide +kernel
theorem dX1_readToldName_56 : decode cX1_readToldName 56 = .ok (.iconst 3, 1) := by decide +kernel
theorem dX1_readToldName_57 : decode cX1_readToldName 57 = .ok (.invokevirtual 71, 3) := by decide +kernel
theorem dX1_readToldName_60 : decode cX1_readToldName 60 = .ok (.ireturn, 1) := by decide +kernel
theorem dX1_readToldName_61 : decode cX1_readToldName 61 = .ok (.aload_n 0, 1) := by decide +kernel
theorem dX1_readToldName_62 : decode cX1_readToldName 62 = .ok (.aload_n 0, 1) := by decide +kernel
theorem dX1_readToldName_63 : decode cX1_readToldName 63 = .ok (.getfield 28, 3) := by decide +kernel
theorem dX1_readToldName_66 : decode cX1_readToldName 66 = .ok (.iload_n 2, 1) := by decide +kernel
theorem dX1_readToldName_67 : decode cX1_readToldName 67 = .ok (.iaload, 1) := by decide +kernel
theorem dX1_readToldName_68 : decode cX1_readToldName 68 = .ok (.putfield 38, 3) := by decide +kernel
theorem dX1_readToldName_71 : decode cX1_readToldName 71 = .ok (.iconst 1, 1) := by decide +kernel
theorem dX1_readToldName_72 : decode cX1_readToldName 72 = .ok (.ireturn, 1) := by decide +kernel
theorem dX1_placeOfName_0 : decode cX1_placeOfName 0 = .ok (.iconst 0, 1) := by decide +kernel
theorem dX1_placeOfName_1 : decode cX1_placeOfName 1 = .ok (.istore_n 3, 1) := by decide +kernel
theorem dX1_placeOfName_2 : decode cX1_placeOfName 2 = .ok (.iload_n 3, 1) := by decide +kernel
theorem dX1_placeOfName_3 : decode cX1_placeOfName 3 = .ok (.aload_n 0, 1) := by decide +kernel
theorem dX1_placeOfName_4 : decode cX1_placeOfName 4 = .ok (.getfield 31, 3) := by decide +kernel
theorem dX1_placeOfName_7 : decode cX1_placeOfName 7 = .ok (.if_icmp .ge 28, 3) := by decide +kernel
theorem dX1_placeOfName_10 : decode cX1_placeOfName 10 = .ok (.iload_n 3, 1) := by decide +kernel
theorem dX1_placeOfName_11 : decode cX1_placeOfName 11 = .ok (.bipush 24, 2) := by decide +kernel
theorem dX1_placeOfName_13 : decode cX1_placeOfName 13 = .ok (.if_icmp .ge 22, 3) := by decide +kernel
theorem dX1_placeOfName_16 : decode cX1_placeOfName 16 = .ok (.aload_n 0, 1) := by decide +kernel
theorem dX1_placeOfName_17 : decode cX1_placeOfName 17 = .ok (.getfield 20, 3) := by decide +kernel
theorem dX1_placeOfName_20 : decode cX1_placeOfName 20 = .ok (.iload_n 3, 1) := by decide +kernel
theorem dX1_placeOfName_21 : decode cX1_placeOfName 21 = .ok (.laload, 1) := by decide +kernel
theorem dX1_placeOfName_22 : decode cX1_placeOfName 22 = .ok (.lload_n 1, 1) := by decide +kernel
theorem dX1_placeOfName_23 : decode cX1_placeOfName 23 = .ok (.lcmp, 1) := by decide +kernel
theorem dX1_placeOfName_24 : decode cX1_placeOfName 24 = .ok (.ifCond .ne 5, 3) := by decide +kernel
theorem dX1_placeOfName_27 : decode cX1_placeOfName 27 = .ok (.iload_n 3, 1) := by decide +kernel
theorem dX1_placeOfName_28 : decode cX1_placeOfName 28 = .ok (.ireturn, 1) := by decide +kernel
theorem dX1_placeOfName_29 : decode cX1_placeOfName 29 = .ok (.iinc 3 1, 3) := by decide +kernel
theorem dX1_placeOfName_32 : decode cX1_placeOfName 32 = .ok (.goto (-30), 3) := by decide +kernel
theorem dX1_placeOfName_35 : decode cX1_placeOfName 35 = .ok (.iconst (-1), 1) := by decide +kernel
theorem dX1_placeOfName_36 : decode cX1_placeOfName 36 = .ok (.ireturn, 1) := by decide +kernel
theorem dX1_readSizesOf_0 : decode cX1_readSizesOf 0 = .ok (.aload_n 0, 1) := by decide +kernel
theorem dX1_readSizesOf_1 : decode cX1_readSizesOf 1 = .ok (.iload_n 1, 1) := by decide +kernel
theorem dX1_readSizesOf_2 : decode cX1_readSizesOf 2 = .ok (.invokevirtual 65, 3) := by decide +kernel
theorem dX1_readSizesOf_5 : decode cX1_readSizesOf 5 = .ok (.ifCond .ne 5, 3) := by decide +kernel
theorem dX1_readSizesOf_8 : decode cX1_readSizesOf 8 = .ok (.iconst 0, 1) := by decide +kernel
theorem dX1_readSizesOf_9 : decode cX1_readSizesOf 9 = .ok (.ireturn, 1) := by decide +kernel
theorem dX1_readSizesOf_10 : decode cX1_readSizesOf 10 = .ok (.iconst 0, 1) := by decide +kernel
theorem dX1_readSizesOf_11 : decode cX1_readSizesOf 11 = .ok (.istore_n 3, 1) := by decide +kernel
theorem dX1_readSizesOf_12 : decode cX1_readSizesOf 12 = .ok (.iload_n 3, 1) := by decide +kernel
theorem dX1_readSizesOf_13 : decode cX1_readSizesOf 13 = .ok (.aload_n 2, 1) := by decide +kernel
theorem dX1_readSizesOf_14 : decode cX1_readSizesOf 14 = .ok (.arraylength, 1) := by decide +kernel
theorem dX1_readSizesOf_15 : decode cX1_readSizesOf 15 = .ok (.if_icmp .ge 29, 3) := by decide +kernel
theorem dX1_readSizesOf_18 : decode cX1_readSizesOf 18 = .ok (.aload_n 0, 1) := by decide +kernel
theorem dX1_readSizesOf_19 : decode cX1_readSizesOf 19 = .ok (.iconst 1, 1) := by decide +kernel
theorem dX1_readSizesOf_20 : decode cX1_readSizesOf 20 = .ok (.sipush 9999, 3) := by decide +kernel
theorem dX1_readSizesOf_23 : decode cX1_readSizesOf 23 = .ok (.invokevirtual 134, 3) := by decide +kernel
theorem dX1_readSizesOf_26 : decode cX1_readSizesOf 26 = .ok (.ifCond .ne 5, 3) := by decide +kernel
theorem dX1_readSizesOf_29 : decode cX1_readSizesOf 29 = .ok (.iconst 0, 1) := by decide +kernel
theorem dX1_readSizesOf_30 : decode cX1_readSizesOf 30 = .ok (.ireturn, 1) := by decide +kernel
theorem dX1_readSizesOf_31 : decode cX1_readSizesOf 31 = .ok (.aload_n 2, 1) := by decide +kernel
theorem dX1_readSizesOf_32 : decode cX1_readSizesOf 32 = .ok (.iload_n 3, 1) := by decide +kernel
theorem dX1_readSizesOf_33 : decode cX1_readSizesOf 33 = .ok (.aload_n 0, 1) := by decide +kernel
theorem dX1_readSizesOf_34 : decode cX1_readSizesOf 34 = .ok (.getfield 38, 3) := by decide +kernel
theorem dX1_readSizesOf_37 : decode cX1_readSizesOf 37 = .ok (.iastore, 1) := by decide +kernel
theorem dX1_readSizesOf_38 : decode cX1_readSizesOf 38 = .ok (.iinc 3 1, 3) := by decide +kernel
theorem dX1_readSizesOf_41 : decode cX1_readSizesOf 41 = .ok (.goto (-29), 3) := by decide +kernel
theorem dX1_readSizesOf_44 : decode cX1_readSizesOf 44 = .ok (.iconst 1, 1) := by decide +kernel
theorem dX1_readSizesOf_45 : decode cX1_readSizesOf 45 = .ok (.ireturn, 1) := by decide +kernel
theorem dX1_readNumberOf_0 : decode cX1_readNumberOf 0 = .ok (.aload_n 0, 1) := by decide +kernel
theorem dX1_readNumberOf_1 : decode cX1_readNumberOf 1 = .ok (.iload_n 1, 1) := by decide +kernel
theorem dX1_readNumberOf_2 : decode cX1_readNumberOf 2 = .ok (.invokevirtual 65, 3) := by decide +kernel
theorem dX1_readNumberOf_5 : decode cX1_readNumberOf 5 = .ok (.ifCond .eq 16, 3) := by decide +kernel
theorem dX1_readNumberOf_8 : decode cX1_readNumberOf 8 = .ok (.aload_n 0, 1) := by decide +kernel
theorem dX1_readNumberOf_9 : decode cX1_readNumberOf 9 = .ok (.iload_n 2, 1) := by decide +kernel
theorem dX1_readNumberOf_10 : decode cX1_readNumberOf 10 = .ok (.iload_n 3, 1) := by decide +kernel
theorem dX1_readNumberOf_11 : decode cX1_readNumberOf 11 = .ok (.invokevirtual 134, 3) := by decide +kernel
theorem dX1_readNumberOf_14 : decode cX1_readNumberOf 14 = .ok (.ifCond .eq 7, 3) := by decide +kernel
theorem dX1_readNumberOf_17 : decode cX1_readNumberOf 17 = .ok (.iconst 1, 1) := by decide +kernel
theorem dX1_readNumberOf_18 : decode cX1_readNumberOf 18 = .ok (.goto 4, 3) := by decide +kernel
theorem dX1_readNumberOf_21 : decode cX1_readNumberOf 21 = .ok (.iconst 0, 1) := by decide +kernel
theorem dX1_readNumberOf_22 : decode cX1_readNumberOf 22 = .ok (.ireturn, 1) := by decide +kernel
theorem dX1_readNumber_0 : decode cX1_readNumber 0 = .ok (.aload_n 0, 1) := by decide +kernel
theorem dX1_readNumber_1 : decode cX1_readNumber 1 = .ok (.getfield 14, 3) := by decide +kernel
theorem dX1_readNumber_4 : decode cX1_readNumber 4 = .ok (.aload_n 0, 1) := by decide +kernel
theorem dX1_readNumber_5 : decode cX1_readNumber 5 = .ok (.getfield 35, 3) := by decide +kernel
theorem dX1_readNumber_8 : decode cX1_readNumber 8 = .ok (.invokevirtual 79, 3) := by decide +kernel
theorem dX1_readNumber_11 : decode cX1_readNumber 11 = .ok (.bipush 18, 2) := by decide +kernel
theorem dX1_readNumber_13 : decode cX1_readNumber 13 = .ok (.if_icmp .eq 13, 3) := by decide +kernel
theorem dX1_readNumber_16 : decode cX1_readNumber 16 = .ok (.aload_n 0, 1) := by decide +kernel
theorem dX1_readNumber_17 : decode cX1_readNumber 17 = .ok (.aload_n 0, 1) := by decide +kernel
theorem dX1_readNumber_18 : decode cX1_readNumber 18 = .ok (.getfield 35, 3) := by decide +kernel
theorem dX1_readNumber_21 : decode cX1_readNumber 21 = .ok (.iconst 1, 1) := by decide +kernel
theorem dX1_readNumber_22 : decode cX1_readNumber 22 = .ok (.invokevirtual 71, 3) := by decide +kernel
theorem dX1_readNumber_25 : decode cX1_readNumber 25 = .ok (.ireturn, 1) := by decide +kernel
theorem dX1_readNumber_26 : decode cX1_readNumber 26 = .ok (.aload_n 0, 1) := by decide +kernel
theorem dX1_readNumber_27 : decode cX1_readNumber 27 = .ok (.aload_n 0, 1) := by decide +kernel
theorem dX1_readNumber_28 : decode cX1_readNumber 28 = .ok (.getfield 14, 3) := by decide +kernel
theorem dX1_readNumber_31 : decode cX1_readNumber 31 = .ok (.aload_n 0, 1) := by decide +kernel
theorem dX1_readNumber_32 : decode cX1_readNumber 32 = .ok (.getfield 35, 3) := by decide +kernel
theorem dX1_readNumber_35 : decode cX1_readNumber 35 = .ok (.invokevirtual 225, 3) := by decide +kernel
theorem dX1_readNumber_38 : decode cX1_readNumber 38 = .ok (.l2i, 1) := by decide +kernel
theorem dX1_readNumber_39 : decode cX1_readNumber 39 = .ok (.putfield 38, 3) := by decide +kernel
theorem dX1_readNumber_42 : decode cX1_readNumber 42 = .ok (.aload_n 0, 1) := by decide +kernel
theorem dX1_readNumber_43 : decode cX1_readNumber 43 = .ok (.getfield 38, 3) := by decide +kernel
theorem dX1_readNumber_46 : decode cX1_readNumber 46 = .ok (.iload_n 1, 1) := by decide +kernel
theorem dX1_readNumber_47 : decode cX1_readNumber 47 = .ok (.if_icmp .lt 11, 3) := by decide +kernel
theorem dX1_readNumber_50 : decode cX1_readNumber 50 = .ok (.aload_n 0, 1) := by decide +kernel
theorem dX1_readNumber_51 : decode cX1_readNumber 51 = .ok (.getfield 38, 3) := by decide +kernel
theorem dX1_readNumber_54 : decode cX1_readNumber 54 = .ok (.iload_n 2, 1) := by decide +kernel
theorem dX1_readNumber_55 : decode cX1_readNumber 55 = .ok (.if_icmp .le 13, 3) := by decide +kernel
theorem dX1_readNumber_58 : decode cX1_readNumber 58 = .ok (.aload_n 0, 1) := by decide +kernel
theorem dX1_readNumber_59 : decode cX1_readNumber 59 = .ok (.aload_n 0, 1) := by decide +kernel
theorem dX1_readNumber_60 : decode cX1_readNumber 60 = .ok (.getfield 35, 3) := by decide +kernel
theorem dX1_readNumber_63 : decode cX1_readNumber 63 = .ok (.iconst 2, 1) := by decide +kernel
theorem dX1_readNumber_64 : decode cX1_readNumber 64 = .ok (.invokevirtual 71, 3) := by decide +kernel
theorem dX1_readNumber_67 : decode cX1_readNumber 67 = .ok (.ireturn, 1) := by decide +kernel
theorem dX1_readNumber_68 : decode cX1_readNumber 68 = .ok (.aload_n 0, 1) := by decide +kernel
theorem dX1_readNumber_69 : decode cX1_readNumber 69 = .ok (.dup, 1) := by decide +kernel
theorem dX1_readNumber_70 : decode cX1_readNumber 70 = .ok (.getfield 35, 3) := by decide +kernel
theorem dX1_readNumber_73 : decode cX1_readNumber 73 = .ok (.iconst 1, 1) := by decide +kernel
theorem dX1_readNumber_74 : decode cX1_readNumber 74 = .ok (.iadd, 1) := by decide +kernel
theorem dX1_readNumber_75 : decode cX1_readNumber 75 = .ok (.putfield 35, 3) := by decide +kernel
theorem dX1_readNumber_78 : decode cX1_readNumber 78 = .ok (.iconst 1, 1) := by decide +kernel
theorem dX1_readNumber_79 : decode cX1_readNumber 79 = .ok (.ireturn, 1) := by decide +kernel
theorem dX1_readToken_0 : decode cX1_readToken 0 = .ok (.aload_n 0, 1) := by decide +kernel
theorem dX1_readToken_1 : decode cX1_readToken 1 = .ok (.getfield 14, 3) := by decide +kernel
theorem dX1_readToken_4 : decode cX1_readToken 4 = .ok (.aload_n 0, 1) := by decide +kernel
theorem dX1_readToken_5 : decode cX1_readToken 5 = .ok (.getfield 35, 3) := by decide +kernel
theorem dX1_readToken_8 : decode cX1_readToken 8 = .ok (.invokevirtual 79, 3) := by decide +kernel
theorem dX1_readToken_11 : decode cX1_readToken 11 = .ok (.iload_n 1, 1) := by decide +kernel
theorem dX1_readToken_12 : decode cX1_readToken 12 = .ok (.if_icmp .eq 13, 3) := by decide +kernel
theorem dX1_readToken_15 : decode cX1_readToken 15 = .ok (.aload_n 0, 1) := by decide +kernel
theorem dX1_readToken_16 : decode cX1_readToken 16 = .ok (.aload_n 0, 1) := by decide +kernel
theorem dX1_readToken_17 : decode cX1_readToken 17 = .ok (.getfield 35, 3) := by decide +kernel
theorem dX1_readToken_20 : decode cX1_readToken 20 = .ok (.iconst 1, 1) := by decide +kernel
theorem dX1_readToken_21 : decode cX1_readToken 21 = .ok (.invokevirtual 71, 3) := by decide +kernel
theorem dX1_readToken_24 : decode cX1_readToken 24 = .ok (.ireturn, 1) := by decide +kernel
theorem dX1_readToken_25 : decode cX1_readToken 25 = .ok (.aload_n 0, 1) := by decide +kernel
theorem dX1_readToken_26 : decode cX1_readToken 26 = .ok (.dup, 1) := by decide +kernel
theorem dX1_readToken_27 : decode cX1_readToken 27 = .ok (.getfield 35, 3) := by decide +kernel
theorem dX1_readToken_30 : decode cX1_readToken 30 = .ok (.iconst 1, 1) := by decide +kernel
theorem dX1_readToken_31 : decode cX1_readToken 31 = .ok (.iadd, 1) := by decide +kernel
theorem dX1_readToken_32 : decode cX1_readToken 32 = .ok (.putfield 35, 3) := by decide +kernel
theorem dX1_readToken_35 : decode cX1_readToken 35 = .ok (.iconst 1, 1) := by decide +kernel
theorem dX1_readToken_36 : decode cX1_readToken 36 = .ok (.ireturn, 1) := by decide +kernel
theorem dX2_init_0 : decode cX2_init 0 = .ok (.aload_n 0, 1) := by decide +kernel
theorem dX2_init_1 : decode cX2_init 1 = .ok (.invokespecial 3, 3) := by decide +kernel
theorem dX2_init_4 : decode cX2_init 4 = .ok (.aload_n 0, 1) := by decide +kernel
theorem dX2_init_5 : decode cX2_init 5 = .ok (.iconst 3, 1) := by decide +kernel
theorem dX2_init_6 : decode cX2_init 6 = .ok (.newarray .int, 2) := by decide +kernel
theorem dX2_init_8 : decode cX2_init 8 = .ok (.putfield 9, 3) := by decide +kernel
theorem dX2_init_11 : decode cX2_init 11 = .ok (.aload_n 0, 1) := by decide +kernel
theorem dX2_init_12 : decode cX2_init 12 = .ok (.iconst 0, 1) := by decide +kernel
theorem dX2_init_13 : decode cX2_init 13 = .ok (.putfield 15, 3) := by decide +kernel
theorem dX2_init_16 : decode cX2_init 16 = .ok (.aload_n 0, 1) := by decide +kernel
theorem dX2_init_17 : decode cX2_init 17 = .ok (.iconst 0, 1) := by decide +kernel
theorem dX2_init_18 : decode cX2_init 18 = .ok (.putfield 19, 3) := by decide +kernel
theorem dX2_init_21 : decode cX2_init 21 = .ok (.return_, 1) := by decide +kernel
theorem dX3_init_0 : decode cX3_init 0 = .ok (.aload_n 0, 1) := by decide +kernel
theorem dX3_init_1 : decode cX3_init 1 = .ok (.invokespecial 3, 3) := by decide +kernel
theorem dX3_init_4 : decode cX3_init 4 = .ok (.aload_n 0, 1) := by decide +kernel
theorem dX3_init_5 : decode cX3_init 5 = .ok (.bipush 8, 2) := by decide +kernel
theorem dX3_init_7 : decode cX3_init 7 = .ok (.newarray .int, 2) := by decide +kernel
theorem dX3_init_9 : decode cX3_init 9 = .ok (.putfield 11, 3) := by decide +kernel
theorem dX3_init_12 : decode cX3_init 12 = .ok (.aload_n 0, 1) := by decide +kernel
theorem dX3_init_13 : decode cX3_init 13 = .ok (.bipush 8, 2) := by decide +kernel
theorem dX3_init_15 : decode cX3_init 15 = .ok (.newarray .int, 2) := by decide +kernel
theorem dX3_init_17 : decode cX3_init 17 = .ok (.putfield 17, 3) := by decide +kernel
theorem dX3_init_20 : decode cX3_init 20 = .ok (.aload_n 0, 1) := by decide +kernel
theorem dX3_init_21 : decode cX3_init 21 = .ok (.iconst 0, 1) := by decide +kernel
theorem dX3_init_22 : decode cX3_init 22 = .ok (.putfield 20, 3) := by decide +kernel
theorem dX3_init_25 : decode cX3_init 25 = .ok (.aload_n 0, 1) := by decide +kernel
theorem dX3_init_26 : decode cX3_init 26 = .ok (.iconst 0, 1) := by decide +kernel
theorem dX3_init_27 : decode cX3_init 27 = .ok (.putfield 24, 3) := by decide +kernel
theorem dX3_init_30 : decode cX3_init 30 = .ok (.aload_n 0, 1) := by decide +kernel
theorem dX3_init_31 : decode cX3_init 31 = .ok (.iconst 0, 1) := by decide +kernel
theorem dX3_init_32 : decode cX3_init 32 = .ok (.putfield 27, 3) := by decide +kernel
theorem dX3_init_35 : decode cX3_init 35 = .ok (.return_, 1) := by decide +kernel
theorem dX3_take_0 : decode cX3_take 0 = .ok (.aload_n 0, 1) := by decide +kernel
theorem dX3_take_1 : decode cX3_take 1 = .ok (.aload_n 1, 1) := by decide +kernel
theorem dX3_take_2 : decode cX3_take 2 = .ok (.getfield 30, 3) := by decide +kernel
theorem dX3_take_5 : decode cX3_take 5 = .ok (.bipush 8, 2) := by decide +kernel
theorem dX3_take_7 : decode cX3_take 7 = .ok (.invokestatic 31, 3) := by decide +kernel
theorem dX3_take_10 : decode cX3_take 10 = .ok (.putfield 20, 3) := by decide +kernel
theorem dX3_take_13 : decode cX3_take 13 = .ok (.aload_n 0, 1) := by decide +kernel
theorem dX3_take_14 : decode cX3_take 14 = .ok (.aload_n 1, 1) := by decide +kernel
theorem dX3_take_15 : decode cX3_take 15 = .ok (.getfield 37, 3) := by decide +kernel
theorem dX3_take_18 : decode cX3_take 18 = .ok (.bipush 8, 2) := by decide +kernel
theorem dX3_take_20 : decode cX3_take 20 = .ok (.invokestatic 31, 3) := by decide +kernel
theorem dX3_take_23 : decode cX3_take 23 = .ok (.putfield 24, 3) := by decide +kernel
theorem dX3_take_26 : decode cX3_take 26 = .ok (.iconst 0, 1) := by decide +kernel
theorem dX3_take_27 : decode cX3_take 27 = .ok (.istore_n 3, 1) := by decide +kernel
theorem dX3_take_28 : decode cX3_take 28 = .ok (.iload_n 3, 1) := by decide +kernel
theorem dX3_take_29 : decode cX3_take 29 = .ok (.aload_n 0, 1) := by decide +kernel
theorem dX3_take_30 : decode cX3_take 30 = .ok (.getfield 20, 3) := by decide +kernel
theorem dX3_take_33 : decode cX3_take 33 = .ok (.if_icmp .ge 16, 3) := by decide +kernel
theorem dX3_take_36 : decode cX3_take 36 = .ok (.aload_n 0, 1) := by decide +kernel
theorem dX3_take_37 : decode cX3_take 37 = .ok (.getfield 11, 3) := by decide +kernel
theorem dX3_take_40 : decode cX3_take 40 = .ok (.iload_n 3, 1) := by decide +kernel
theorem dX3_take_41 : decode cX3_take 41 = .ok (.iconst 0, 1) := by decide +kernel
theorem dX3_take_42 : decode cX3_take 42 = .ok (.iastore, 1) := by decide +kernel
theorem dX3_take_43 : decode cX3_take 43 = .ok (.iinc 3 1, 3) := by decide +kernel
theorem dX3_take_46 : decode cX3_take 46 = .ok (.goto (-18), 3) := by decide +kernel
theorem dX3_take_49 : decode cX3_take 49 = .ok (.iconst 0, 1) := by decide +kernel
theorem dX3_take_50 : decode cX3_take 50 = .ok (.istore_n 3, 1) := by decide +kernel
theorem dX3_take_51 : decode cX3_take 51 = .ok (.iload_n 3, 1) := by decide +kernel
theorem dX3_take_52 : decode cX3_take 52 = .ok (.aload_n 0, 1) := by decide +kernel
theorem dX3_take_53 : decode cX3_take 53 = .ok (.getfield 24, 3) := by decide +kernel
theorem dX3_take_56 : decode cX3_take 56 = .ok (.if_icmp .ge 96, 3) := by decide +kernel
theorem dX3_take_59 : decode cX3_take 59 = .ok (.aload_n 1, 1) := by decide +kernel
theorem dX3_take_60 : decode cX3_take 60 = .ok (.iload_n 3, 1) := by decide +kernel
theorem dX3_take_61 : decode cX3_take 61 = .ok (.invokevirtual 38, 3) := by decide +kernel
theorem dX3_take_64 : decode cX3_take 64 = .ok (.astore 4, 2) := by decide +kernel
theorem dX3_take_66 : decode cX3_take 66 = .ok (.aload_n 0, 1) := by decide +kernel
theorem dX3_take_67 : decode cX3_take 67 = .ok (.getfield 17, 3) := by decide +kernel
theorem dX3_take_70 : decode cX3_take 70 = .ok (.iload_n 3, 1) := by decide +kernel
theorem dX3_take_71 : decode cX3_take 71 = .ok (.aload 4, 2) := by decide +kernel
theorem dX3_take_73 : decode cX3_take 73 = .ok (.ifnonnull 7, 3) := by decide +kernel
theorem dX3_take_76 : decode cX3_take 76 = .ok (.iconst 0, 1) := by decide +kernel
theorem dX3_take_77 : decode cX3_take 77 = .ok (.goto 8, 3) := by decide +kernel
theorem dX3_take_80 : decode cX3_take 80 = .ok (.aload 4, 2) := by decide +kernel
theorem dX3_take_82 : decode cX3_take 82 = .ok (.getfield 42, 3) := by decide +kernel
theorem dX3_take_85 : decode cX3_take 85 = .ok (.iastore, 1) := by decide +kernel
theorem dX3_take_86 : decode cX3_take 86 = .ok (.iconst 0, 1) := by decide +kernel
theorem dX3_take_87 : decode cX3_take 87 = .ok (.istore 5, 2) := by decide +kernel
theorem dX3_take_89 : decode cX3_take 89 = .ok (.iload 5, 2) := by decide +kernel
theorem dX3_take_91 : decode cX3_take 91 = .ok (.aload_n 0, 1) := by decide +kernel
theorem dX3_take_92 : decode cX3_take 92 = .ok (.getfield 20, 3) := by decide +kernel
theorem dX3_take_95 : decode cX3_take 95 = .ok (.if_icmp .ge 51, 3) := by decide +kernel
theorem dX3_take_98 : decode cX3_take 98 = .ok (.aload_n 1, 1) := by decide +kernel
theorem dX3_take_99 : decode cX3_take 99 = .ok (.iload 5, 2) := by decide +kernel
theorem dX3_take_101 : decode cX3_take 101 = .ok (.invokevirtual 47, 3) := by decide +kernel
theorem dX3_take_104 : decode cX3_take 104 = .ok (.astore 6, 2) := by decide +kernel
theorem dX3_take_106 : decode cX3_take 106 = .ok (.aload 4, 2) := by decide +kernel
theorem dX3_take_108 : decode cX3_take 108 = .ok (.ifnull 32, 3) := by decide +kernel
theorem dX3_take_111 : decode cX3_take 111 = .ok (.aload 6, 2) := by decide +kernel
theorem dX3_take_113 : decode cX3_take 113 = .ok (.ifnull 27, 3) := by decide +kernel
theorem dX3_take_116 : decode cX3_take 116 = .ok (.aload 6, 2) := by decide +kernel
theorem dX3_take_118 : decode cX3_take 118 = .ok (.aload 4, 2) := by decide +kernel
theorem dX3_take_120 : decode cX3_take 120 = .ok (.iload_n 2, 1) := by decide +kernel
theorem dX3_take_121 : decode cX3_take 121 = .ok (.invokevirtual 51, 3) := by decide +kernel
theorem dX3_take_124 : decode cX3_take 124 = .ok (.ifCond .eq 16, 3) := by decide +kernel
theorem dX3_take_127 : decode cX3_take 127 = .ok (.aload_n 0, 1) := by decide +kernel
theorem dX3_take_128 : decode cX3_take 128 = .ok (.getfield 11, 3) := by decide +kernel
theorem dX3_take_131 : decode cX3_take 131 = .ok (.iload 5, 2) := by decide +kernel
theorem dX3_take_133 : decode cX3_take 133 = .ok (.dup2, 1) := by decide +kernel
theorem dX3_take_134 : decode cX3_take 134 = .ok (.iaload, 1) := by decide +kernel
theorem dX3_take_135 : decode cX3_take 135 = .ok (.iconst 1, 1) := by decide +kernel
theorem dX3_take_136 : decode cX3_take 136 = .ok (.iload_n 3, 1) := by decide +kernel
theorem dX3_take_137 : decode cX3_take 137 = .ok (.ishl, 1) := by decide +kernel
theorem dX3_take_138 : decode cX3_take 138 = .ok (.ior, 1) := by decide +kernel
theorem dX3_take_139 : decode cX3_take 139 = .ok (.iastore, 1) := by decide +kernel
theorem dX3_take_140 : decode cX3_take 140 = .ok (.iinc 5 1, 3) := by decide +kernel
theorem dX3_take_143 : decode cX3_take 143 = .ok (.goto (-54), 3) := by decide +kernel
theorem dX3_take_146 : decode cX3_take 146 = .ok (.iinc 3 1, 3) := by decide +kernel
theorem dX3_take_149 : decode cX3_take 149 = .ok (.goto (-98), 3) := by decide +kernel
theorem dX3_take_152 : decode cX3_take 152 = .ok (.return_, 1) := by decide +kernel
theorem dX3_choose_0 : decode cX3_choose 0 = .ok (.iconst (-1), 1) := by decide +kernel
theorem dX3_choose_1 : decode cX3_choose 1 = .ok (.istore_n 2, 1) := by decide +kernel
theorem dX3_choose_2 : decode cX3_choose 2 = .ok (.iconst 0, 1) := by decide +kernel
theorem dX3_choose_3 : decode cX3_choose 3 = .ok (.istore_n 3, 1) := by decide +kernel
theorem dX3_choose_4 : decode cX3_choose 4 = .ok (.iconst 1, 1) := by decide +kernel
theorem dX3_choose_5 : decode cX3_choose 5 = .ok (.istore 4, 2) := by decide +kernel
theorem dX3_choose_7 : decode cX3_choose 7 = .ok (.iload 4, 2) := by decide +kernel
theorem dX3_choose_9 : decode cX3_choose 9 = .ok (.iconst 1, 1) := by decide +kernel
theorem dX3_choose_10 : decode cX3_choose 10 = .ok (.aload_n 0, 1) := by decide +kernel
theorem dX3_choose_11 : decode cX3_choose 11 = .ok (.getfield 24, 3) := by decide +kernel
theorem dX3_choose_14 : decode cX3_choose 14 = .ok (.ishl, 1) := by decide +kernel
theorem dX3_choose_15 : decode cX3_choose 15 = .ok (.if_icmp .ge 53, 3) := by decide +kernel
theorem dX3_choose_18 : decode cX3_choose 18 = .ok (.iload 4, 2) := by decide +kernel
theorem dX3_choose_20 : decode cX3_choose 20 = .ok (.invokestatic 57, 3) := by decide +kernel
theorem dX3_choose_23 : decode cX3_choose 23 = .ok (.iload_n 1, 1) := by decide +kernel
theorem dX3_choose_24 : decode cX3_choose 24 = .ok (.if_icmp .le 7, 3) := by decide +kernel
theorem dX3_choose_27 : decode cX3_choose 27 = .ok (.iconst (-1), 1) := by decide +kernel
theorem dX3_choose_28 : decode cX3_choose 28 = .ok (.goto 9, 3) := by decide +kernel
theorem dX3_choose_31 : decode cX3_choose 31 = .ok (.aload_n 0, 1) := by decide +kernel
theorem dX3_choose_32 : decode cX3_choose 32 = .ok (.iload 4, 2) := by decide +kernel
theorem dX3_choose_34 : decode cX3_choose 34 = .ok (.invokevirtual 63, 3) := by decide +kernel
theorem dX3_choose_37 : decode cX3_choose 37 = .ok (.istore 5, 2) := by decide +kernel
theorem dX3_choose_39 : decode cX3_choose 39 = .ok (.iload 5, 2) := by decide +kernel
theorem dX3_choose_41 : decode cX3_choose 41 = .ok (.iconst (-1), 1) := by decide +kernel
theorem dX3_choose_42 : decode cX3_choose 42 = .ok (.if_icmp .eq 20, 3) := by decide +kernel
theorem dX3_choose_45 : decode cX3_choose 45 = .ok (.iload_n 2, 1) := by decide +kernel
theorem dX3_choose_46 : decode cX3_choose 46 = .ok (.iconst (-1), 1) := by decide +kernel
theorem dX3_choose_47 : decode cX3_choose 47 = .ok (.if_icmp .eq 9, 3) := by decide +kernel
theorem dX3_choose_50 : decode cX3_choose 50 = .ok (.iload 5, 2) := by decide +kernel
theorem dX3_choose_52 : decode cX3_choose 52 = .ok (.iload_n 2, 1) := by decide +kernel
theorem dX3_choose_53 : decode cX3_choose 53 = .ok (.if_icmp .ge 9, 3) := by decide +kernel
theorem dX3_choose_56 : decode cX3_choose 56 = .ok (.iload 5, 2) := by decide +kernel
theorem dX3_choose_58 : decode cX3_choose 58 = .ok (.istore_n 2, 1) := by decide +kernel
theorem dX3_choose_59 : decode cX3_choose 59 = .ok (.iload 4, 2) := by decide +kernel
theorem dX3_choose_61 : decode cX3_choose 61 = .ok (.istore_n 3, 1) := by decide +kernel
theorem dX3_choose_62 : decode cX3_choose 62 = .ok (.iinc 4 1, 3) := by decide +kernel
theorem dX3_choose_65 : decode cX3_choose 65 = .ok (.goto (-58), 3) := by decide +kernel
theorem dX3_choose_68 : decode cX3_choose 68 = .ok (.iload_n 2, 1) := by decide +kernel
theorem dX3_choose_69 : decode cX3_choose 69 = .ok (.iconst (-1), 1) := by decide +kernel
theorem dX3_choose_70 : decode cX3_choose 70 = .ok (.if_icmp .eq 8, 3) := by decide +kernel
theorem dX3_choose_73 : decode cX3_choose 73 = .ok (.aload_n 0, 1) := by decide +kernel
theorem dX3_choose_74 : decode cX3_choose 74 = .ok (.iload_n 3, 1) := by decide +kernel
theorem dX3_choose_75 : decode cX3_choose 75 = .ok (.putfield 27, 3) := by decide +kernel
theorem dX3_choose_78 : decode cX3_choose 78 = .ok (.iload_n 2, 1) := by decide +kernel
theorem dX3_choose_79 : decode cX3_choose 79 = .ok (.ireturn, 1) := by decide +kernel
theorem dX3_costOf_0 : decode cX3_costOf 0 = .ok (.iconst 0, 1) := by decide +kernel
theorem dX3_costOf_1 : decode cX3_costOf 1 = .ok (.istore_n 2, 1) := by decide +kernel
theorem dX3_costOf_2 : decode cX3_costOf 2 = .ok (.iconst 0, 1) := by decide +kernel
theorem dX3_costOf_3 : decode cX3_costOf 3 = .ok (.istore_n 3, 1) := by decide +kernel
theorem dX3_costOf_4 : decode cX3_costOf 4 = .ok (.iload_n 3, 1) := by decide +kernel
theorem dX3_costOf_5 : decode cX3_costOf 5 = .ok (.aload_n 0, 1) := by decide +kernel
theorem dX3_costOf_6 : decode cX3_costOf 6 = .ok (.getfield 20, 3) := by decide +kernel
theorem dX3_costOf_9 : decode cX3_costOf 9 = .ok (.if_icmp .ge 36, 3) := by decide +kernel
theorem dX3_costOf_12 : decode cX3_costOf 12 = .ok (.aload_n 0, 1) := by decide +kernel
theorem dX3_costOf_13 : decode cX3_costOf 13 = .ok (.aload_n 0, 1) := by decide +kernel
theorem dX3_costOf_14 : decode cX3_costOf 14 = .ok (.getfield 11, 3) := by decide +kernel
theorem dX3_costOf_17 : decode cX3_costOf 17 = .ok (.iload_n 3, 1) := by decide +kernel
theorem dX3_costOf_18 : decode cX3_costOf 18 = .ok (.iaload, 1) := by decide +kernel
theorem dX3_costOf_19 : decode cX3_costOf 19 = .ok (.iload_n 1, 1) := by decide +kernel
theorem dX3_costOf_20 : decode cX3_costOf 20 = .ok (.iand, 1) := by decide +kernel
theorem dX3_costOf_21 : decode cX3_costOf 21 = .ok (.invokevirtual 66, 3) := by decide +kernel
theorem dX3_costOf_24 : decode cX3_costOf 24 = .ok (.istore 4, 2) := by decide +kernel
theorem dX3_costOf_26 : decode cX3_costOf 26 = .ok (.iload 4, 2) := by decide +kernel
theorem dX3_costOf_28 : decode cX3_costOf 28 = .ok (.iconst (-1), 1) := by decide +kernel
theorem dX3_costOf_29 : decode cX3_costOf 29 = .ok (.if_icmp .ne 5, 3) := by decide +kernel
theorem dX3_costOf_32 : decode cX3_costOf 32 = .ok (.iconst (-1), 1) := by decide +kernel
theorem dX3_costOf_33 : decode cX3_costOf 33 = .ok (.ireturn, 1) := by decide +kernel
theorem dX3_costOf_34 : decode cX3_costOf 34 = .ok (.iload_n 2, 1) := by decide +kernel
theorem dX3_costOf_35 : decode cX3_costOf 35 = .ok (.iload 4, 2) := by decide +kernel
theorem dX3_costOf_37 : decode cX3_costOf 37 = .ok (.iadd, 1) := by decide +kernel
theorem dX3_costOf_38 : decode cX3_costOf 38 = .ok (.istore_n 2, 1) := by decide +kernel
theorem dX3_costOf_39 : decode cX3_costOf 39 = .ok (.iinc 3 1, 3) := by decide +kernel
theorem dX3_costOf_42 : decode cX3_costOf 42 = .ok (.goto (-38), 3) := by decide +kernel
theorem dX3_costOf_45 : decode cX3_costOf 45 = .ok (.iload_n 2, 1) := by decide +kernel
theorem dX3_costOf_46 : decode cX3_costOf 46 = .ok (.ireturn, 1) := by decide +kernel
theorem dX3_cheapestOf_0 : decode cX3_cheapestOf 0 = .ok (.iconst (-1), 1) := by decide +kernel
theorem dX3_cheapestOf_1 : decode cX3_cheapestOf 1 = .ok (.istore_n 2, 1) := by decide +kernel
theorem dX3_cheapestOf_2 : decode cX3_cheapestOf 2 = .ok (.iconst 0, 1) := by decide +kernel
theorem dX3_cheapestOf_3 : decode cX3_cheapestOf 3 = .ok (.istore_n 3, 1) := by decide +kernel
theorem dX3_cheapestOf_4 : decode cX3_cheapestOf 4 = .ok (.iload_n 3, 1) := by decide +kernel
theorem dX3_cheapestOf_5 : decode cX3_cheapestOf 5 = .ok (.aload_n 0, 1) := by decide +kernel
theorem dX3_cheapestOf_6 : decode cX3_cheapestOf 6 = .ok (.getfield 24, 3) := by decide +kernel
theorem dX3_cheapestOf_9 : decode cX3_cheapestOf 9 = .ok (.if_icmp .ge 40, 3) := by decide +kernel
theorem dX3_cheapestOf_12 : decode cX3_cheapestOf 12 = .ok (.iload_n 1, 1) := by decide +kernel
theorem dX3_cheapestOf_13 : decode cX3_cheapestOf 13 = .ok (.iload_n 3, 1) := by decide +kernel
theorem dX3_cheapestOf_14 : decode cX3_cheapestOf 14 = .ok (.ishr, 1) := by decide +kernel
theorem dX3_cheapestOf_15 : decode cX3_cheapestOf 15 = .ok (.iconst 1, 1) := by decide +kernel
theorem dX3_cheapestOf_16 : decode cX3_cheapestOf 16 = .ok (.iand, 1) := by decide +kernel
theorem dX3_cheapestOf_17 : decode cX3_cheapestOf 17 = .ok (.iconst 1, 1) := by decide +kernel
theorem dX3_cheapestOf_18 : decode cX3_cheapestOf 18 = .ok (.if_icmp .ne 25, 3) := by decide +kernel
theorem dX3_cheapestOf_21 : decode cX3_cheapestOf 21 = .ok (.iload_n 2, 1) := by decide +kernel
theorem dX3_cheapestOf_22 : decode cX3_cheapestOf 22 = .ok (.iconst (-1), 1) := by decide +kernel
theorem dX3_cheapestOf_23 : decode cX3_cheapestOf 23 = .ok (.if_icmp .eq 13, 3) := by decide +kernel
theorem dX3_cheapestOf_26 : decode cX3_cheapestOf 26 = .ok (.aload_n 0, 1) := by decide +kernel
theorem dX3_cheapestOf_27 : decode cX3_cheapestOf 27 = .ok (.getfield 17, 3) := by decide +kernel
theorem dX3_cheapestOf_30 : decode cX3_cheapestOf 30 = .ok (.iload_n 3, 1) := by decide +kernel
theorem dX3_cheapestOf_31 : decode cX3_cheapestOf 31 = .ok (.iaload, 1) := by decide +kernel
theorem dX3_cheapestOf_32 : decode cX3_cheapestOf 32 = .ok (.iload_n 2, 1) := by decide +kernel
theorem dX3_cheapestOf_33 : decode cX3_cheapestOf 33 = .ok (.if_icmp .ge 10, 3) := by decide +kernel
theorem dX3_cheapestOf_36 : decode cX3_cheapestOf 36 = .ok (.aload_n 0, 1) := by decide +kernel
theorem dX3_cheapestOf_37 : decode cX3_cheapestOf 37 = .ok (.getfield 17, 3) := by decide +kernel
theorem dX3_cheapestOf_40 : decode cX3_cheapestOf 40 = .ok (.iload_n 3, 1) := by decide +kernel
theorem dX3_cheapestOf_41 : decode cX3_cheapestOf 41 = .ok (.iaload, 1) := by decide +kernel
theorem dX3_cheapestOf_42 : decode cX3_cheapestOf 42 = .ok (.istore_n 2, 1) := by decide +kernel
theorem dX3_cheapestOf_43 : decode cX3_cheapestOf 43 = .ok (.iinc 3 1, 3) := by decide +kernel
theorem dX3_cheapestOf_46 : decode cX3_cheapestOf 46 = .ok (.goto (-42), 3) := by decide +kernel
theorem dX3_cheapestOf_49 : decode cX3_cheapestOf 49 = .ok (.iload_n 2, 1) := by decide +kernel
theorem dX3_cheapestOf_50 : decode cX3_cheapestOf 50 = .ok (.ireturn, 1) := by decide +kernel
theorem dX4_init_0 : decode cX4_init 0 = .ok (.aload_n 0, 1) := by decide +kernel
theorem dX4_init_1 : decode cX4_init 1 = .ok (.invokespecial 3, 3) := by decide +kernel
theorem dX4_init_4 : decode cX4_init 4 = .ok (.aload_n 0, 1) := by decide +kernel
theorem dX4_init_5 : decode cX4_init 5 = .ok (.bipush 96, 2) := by decide +kernel
theorem dX4_init_7 : decode cX4_init 7 = .ok (.newarray .int, 2) := by decide +kernel
theorem dX4_init_9 : decode cX4_init 9 = .ok (.putfield 11, 3) := by decide +kernel
theorem dX4_init_12 : decode cX4_init 12 = .ok (.aload_n 0, 1) := by decide +kernel
theorem dX4_init_13 : decode cX4_init 13 = .ok (.bipush 96, 2) := by decide +kernel
theorem dX4_init_15 : decode cX4_init 15 = .ok (.newarray .int, 2) := by decide +kernel
theorem dX4_init_17 : decode cX4_init 17 = .ok (.putfield 15, 3) := by decide +kernel
theorem dX4_init_20 : decode cX4_init 20 = .ok (.aload_n 0, 1) := by decide +kernel
theorem dX4_init_21 : decode cX4_init 21 = .ok (.bipush 96, 2) := by decide +kernel
theorem dX4_init_23 : decode cX4_init 23 = .ok (.newarray .long, 2) := by decide +kernel
theorem dX4_init_25 : decode cX4_init 25 = .ok (.putfield 18, 3) := by decide +kernel
theorem dX4_init_28 : decode cX4_init 28 = .ok (.aload_n 0, 1) := by decide +kernel
theorem dX4_init_29 : decode cX4_init 29 = .ok (.iconst (-1), 1) := by decide +kernel
theorem dX4_init_30 : decode cX4_init 30 = .ok (.putfield 22, 3) := by decide +kernel
theorem dX4_init_33 : decode cX4_init 33 = .ok (.aload_n 0, 1) := by decide +kernel
theorem dX4_init_34 : decode cX4_init 34 = .ok (.lconst 0, 1) := by decide +kernel
theorem dX4_init_35 : decode cX4_init 35 = .ok (.putfield 26, 3) := by decide +kernel
theorem dX4_init_38 : decode cX4_init 38 = .ok (.aload_n 0, 1) := by decide +kernel
theorem dX4_init_39 : decode cX4_init 39 = .ok (.lconst 0, 1) := by decide +kernel
theorem dX4_init_40 : decode cX4_init 40 = .ok (.putfield 30, 3) := by decide +kernel
theorem dX4_init_43 : decode cX4_init 43 = .ok (.aload_n 0, 1) := by decide +kernel
theorem dX4_init_44 : decode cX4_init 44 = .ok (.iconst 0, 1) := by decide +kernel
theorem dX4_init_45 : decode cX4_init 45 = .ok (.putfield 33, 3) := by decide +kernel
theorem dX4_init_48 : decode cX4_init 48 = .ok (.aload_n 0, 1) := by decide +kernel
theorem dX4_init_49 : decode cX4_init 49 = .ok (.bipush 100, 2) := by decide +kernel
theorem dX4_init_51 : decode cX4_init 51 = .ok (.putfield 36, 3) := by decide +kernel
theorem dX4_init_54 : decode cX4_init 54 = .ok (.return_, 1) := by decide +kernel
theorem dX4_layPad_0 : decode cX4_layPad 0 = .ok (.iload_n 2, 1) := by decide +kernel
theorem dX4_layPad_1 : decode cX4_layPad 1 = .ok (.invokestatic 39, 3) := by decide +kernel
theorem dX4_layPad_4 : decode cX4_layPad 4 = .ok (.ifCond .eq 25, 3) := by decide +kernel
theorem dX4_layPad_7 : decode cX4_layPad 7 = .ok (.aload_n 0, 1) := by decide +kernel
theorem dX4_layPad_8 : decode cX4_layPad 8 = .ok (.aload_n 1, 1) := by decide +kernel
theorem dX4_layPad_9 : decode cX4_layPad 9 = .ok (.getfield 43, 3) := by decide +kernel
theorem dX4_layPad_12 : decode cX4_layPad 12 = .ok (.iload_n 2, 1) := by decide +kernel
theorem dX4_layPad_13 : decode cX4_layPad 13 = .ok (.aaload, 1) := by decide +kernel
theorem dX4_layPad_14 : decode cX4_layPad 14 = .ok (.aload_n 1, 1) := by decide +kernel
theorem dX4_layPad_15 : decode cX4_layPad 15 = .ok (.getfield 49, 3) := by decide +kernel
theorem dX4_layPad_18 : decode cX4_layPad 18 = .ok (.iload_n 2, 1) := by decide +kernel
theorem dX4_layPad_19 : decode cX4_layPad 19 = .ok (.iaload, 1) := by decide +kernel
theorem dX4_layPad_20 : decode cX4_layPad 20 = .ok (.aload_n 1, 1) := by decide +kernel
theorem dX4_layPad_21 : decode cX4_layPad 21 = .ok (.getfield 52, 3) := by decide +kernel
theorem dX4_layPad_24 : decode cX4_layPad 24 = .ok (.iload_n 2, 1) := by decide +kernel
theorem dX4_layPad_25 : decode cX4_layPad 25 = .ok (.iaload, 1) := by decide +kernel
theorem dX4_layPad_26 : decode cX4_layPad 26 = .ok (.invokevirtual 55, 3) := by decide +kernel
theorem dX4_layPad_29 : decode cX4_layPad 29 = .ok (.return_, 1) := by decide +kernel
theorem dX4_layFoam_0 : decode cX4_layFoam 0 = .ok (.aload_n 0, 1) := by decide +kernel
theorem dX4_layFoam_1 : decode cX4_layFoam 1 = .ok (.iload_n 2, 1) := by decide +kernel
theorem dX4_layFoam_2 : decode cX4_layFoam 2 = .ok (.i2l, 1) := by decide +kernel
theorem dX4_layFoam_3 : decode cX4_layFoam 3 = .ok (.putfield 26, 3) := by decide +kernel
theorem dX4_layFoam_6 : decode cX4_layFoam 6 = .ok (.aload_n 0, 1) := by decide +kernel
theorem dX4_layFoam_7 : decode cX4_layFoam 7 = .ok (.iload_n 3, 1) := by decide +kernel
theorem dX4_layFoam_8 : decode cX4_layFoam 8 = .ok (.i2l, 1) := by decide +kernel
theorem dX4_layFoam_9 : decode cX4_layFoam 9 = .ok (.putfield 30, 3) := by decide +kernel
theorem dX4_layFoam_12 : decode cX4_layFoam 12 = .ok (.aload_n 0, 1) := by decide +kernel
theorem dX4_layFoam_13 : decode cX4_layFoam 13 = .ok (.aload_n 1, 1) := by decide +kernel
theorem dX4_layFoam_14 : decode cX4_layFoam 14 = .ok (.ifnonnull 7, 3) := by decide +kernel
theorem dX4_layFoam_17 : decode cX4_layFoam 17 = .ok (.iconst 0, 1) := by decide +kernel
theorem dX4_layFoam_18 : decode cX4_layFoam 18 = .ok (.goto 7, 3) := by decide +kernel
theorem dX4_layFoam_21 : decode cX4_layFoam 21 = .ok (.aload_n 1, 1) := by decide +kernel
theorem dX4_layFoam_22 : decode cX4_layFoam 22 = .ok (.getfield 59, 3) := by decide +kernel
theorem dX4_layFoam_25 : decode cX4_layFoam 25 = .ok (.putfield 33, 3) := by decide +kernel
theorem dX4_layFoam_28 : decode cX4_layFoam 28 = .ok (.aload_n 0, 1) := by decide +kernel
theorem dX4_layFoam_29 : decode cX4_layFoam 29 = .ok (.aload_n 1, 1) := by decide +kernel
theorem dX4_layFoam_30 : decode cX4_layFoam 30 = .ok (.ifnonnull 7, 3) := by decide +kernel
theorem dX4_layFoam_33 : decode cX4_layFoam 33 = .ok (.iconst (-1), 1) := by decide +kernel
theorem dX4_layFoam_34 : decode cX4_layFoam 34 = .ok (.goto 12, 3) := by decide +kernel
theorem dX4_layFoam_37 : decode cX4_layFoam 37 = .ok (.aload_n 1, 1) := by decide +kernel
theorem dX4_layFoam_38 : decode cX4_layFoam 38 = .ok (.invokevirtual 62, 3) := by decide +kernel
theorem dX4_layFoam_41 : decode cX4_layFoam 41 = .ok (.bipush 95, 2) := by decide +kernel
theorem dX4_layFoam_43 : decode cX4_layFoam 43 = .ok (.invokestatic 66, 3) := by decide +kernel
theorem dX4_layFoam_46 : decode cX4_layFoam 46 = .ok (.putfield 22, 3) := by decide +kernel
theorem dX4_layFoam_49 : decode cX4_layFoam 49 = .ok (.iconst 0, 1) := by decide +kernel
theorem dX4_layFoam_50 : decode cX4_layFoam 50 = .ok (.istore 4, 2) := by decide +kernel
theorem dX4_layFoam_52 : decode cX4_layFoam 52 = .ok (.aload_n 1, 1) := by decide +kernel
theorem dX4_layFoam_53 : decode cX4_layFoam 53 = .ok (.ifnull 31, 3) := by decide +kernel
theorem dX4_layFoam_56 : decode cX4_layFoam 56 = .ok (.iload 4, 2) := by decide +kernel
theorem dX4_layFoam_58 : decode cX4_layFoam 58 = .ok (.aload_n 0, 1) := by decide +kernel
theorem dX4_layFoam_59 : decode cX4_layFoam 59 = .ok (.getfield 22, 3) := by decide +kernel
theorem dX4_layFoam_62 : decode cX4_layFoam 62 = .ok (.if_icmp .gt 22, 3) := by decide +kernel
theorem dX4_layFoam_65 : decode cX4_layFoam 65 = .ok (.aload_n 0, 1) := by decide +kernel
theorem dX4_layFoam_66 : decode cX4_layFoam 66 = .ok (.getfield 11, 3) := by decide +kernel
theorem dX4_layFoam_69 : decode cX4_layFoam 69 = .ok (.iload 4, 2) := by decide +kernel
theorem dX4_layFoam_71 : decode cX4_layFoam 71 = .ok (.aload_n 1, 1) := by decide +kernel
theorem dX4_layFoam_72 : decode cX4_layFoam 72 = .ok (.iload 4, 2) := by decide +kernel
theorem dX4_layFoam_74 : decode cX4_layFoam 74 = .ok (.invokevirtual 72, 3) := by decide +kernel
theorem dX4_layFoam_77 : decode cX4_layFoam 77 = .ok (.iastore, 1) := by decide +kernel
theorem dX4_layFoam_78 : decode cX4_layFoam 78 = .ok (.iinc 4 1, 3) := by decide +kernel
theorem dX4_layFoam_81 : decode cX4_layFoam 81 = .ok (.goto (-29), 3) := by decide +kernel
theorem dX4_layFoam_84 : decode cX4_layFoam 84 = .ok (.aload_n 0, 1) := by decide +kernel
theorem dX4_layFoam_85 : decode cX4_layFoam 85 = .ok (.bipush 100, 2) := by decide +kernel
theorem dX4_layFoam_87 : decode cX4_layFoam 87 = .ok (.invokevirtual 76, 3) := by decide +kernel
theorem dX4_layFoam_90 : decode cX4_layFoam 90 = .ok (.return_, 1) := by decide +kernel
theorem dX4_wearTo_0 : decode cX4_wearTo 0 = .ok (.aload_n 0, 1) := by decide +kernel
theorem dX4_wearTo_1 : decode cX4_wearTo 1 = .ok (.iload_n 1, 1) := by decide +kernel
theorem dX4_wearTo_2 : decode cX4_wearTo 2 = .ok (.putfield 36, 3) := by decide +kernel
theorem dX4_wearTo_5 : decode cX4_wearTo 5 = .ok (.iconst 0, 1) := by decide +kernel
theorem dX4_wearTo_6 : decode cX4_wearTo 6 = .ok (.istore_n 2, 1) := by decide +kernel
theorem dX4_wearTo_7 : decode cX4_wearTo 7 = .ok (.iload_n 2, 1) := by decide +kernel
theorem dX4_wearTo_8 : decode cX4_wearTo 8 = .ok (.aload_n 0, 1) := by decide +kernel
theorem dX4_wearTo_9 : decode cX4_wearTo 9 = .ok (.getfield 22, 3) := by decide +kernel
theorem dX4_wearTo_12 : decode cX4_wearTo 12 = .ok (.if_icmp .gt 69, 3) := by decide +kernel
theorem dX4_wearTo_15 : decode cX4_wearTo 15 = .ok (.aload_n 0, 1) := by decide +kernel
theorem dX4_wearTo_16 : decode cX4_wearTo 16 = .ok (.getfield 15, 3) := by decide +kernel
theorem dX4_wearTo_19 : decode cX4_wearTo 19 = .ok (.iload_n 2, 1) := by decide +kernel
theorem dX4_wearTo_20 : decode cX4_wearTo 20 = .ok (.aload_n 0, 1) := by decide +kernel
theorem dX4_wearTo_21 : decode cX4_wearTo 21 = .ok (.getfield 11, 3) := by decide +kernel
theorem dX4_wearTo_24 : decode cX4_wearTo 24 = .ok (.iload_n 2, 1) := by decide +kernel
theorem dX4_wearTo_25 : decode cX4_wearTo 25 = .ok (.iaload, 1) := by decide +kernel
theorem dX4_wearTo_26 : decode cX4_wearTo 26 = .ok (.aload_n 0, 1) := by decide +kernel
theorem dX4_wearTo_27 : decode cX4_wearTo 27 = .ok (.getfield 36, 3) := by decide +kernel
theorem dX4_wearTo_30 : decode cX4_wearTo 30 = .ok (.imul, 1) := by decide +kernel
theorem dX4_wearTo_31 : decode cX4_wearTo 31 = .ok (.bipush 100, 2) := by decide +kernel
theorem dX4_wearTo_33 : decode cX4_wearTo 33 = .ok (.idiv, 1) := by decide +kernel
theorem dX4_wearTo_34 : decode cX4_wearTo 34 = .ok (.iastore, 1) := by decide +kernel
theorem dX4_wearTo_35 : decode cX4_wearTo 35 = .ok (.aload_n 0, 1) := by decide +kernel
theorem dX4_wearTo_36 : decode cX4_wearTo 36 = .ok (.getfield 18, 3) := by decide +kernel
theorem dX4_wearTo_39 : decode cX4_wearTo 39 = .ok (.iload_n 2, 1) := by decide +kernel
theorem dX4_wearTo_40 : decode cX4_wearTo 40 = .ok (.iload_n 2, 1) := by decide +kernel
theorem dX4_wearTo_41 : decode cX4_wearTo 41 = .ok (.ifCond .ne 7, 3) := by decide +kernel
theorem dX4_wearTo_44 : decode cX4_wearTo 44 = .ok (.lconst 0, 1) := by decide +kernel
theorem dX4_wearTo_45 : decode cX4_wearTo 45 = .ok (.goto 29, 3) := by decide +kernel
theorem dX4_wearTo_48 : decode cX4_wearTo 48 = .ok (.aload_n 0, 1) := by decide +kernel
theorem dX4_wearTo_49 : decode cX4_wearTo 49 = .ok (.getfield 18, 3) := by decide +kernel
theorem dX4_wearTo_52 : decode cX4_wearTo 52 = .ok (.iload_n 2, 1) := by decide +kernel
theorem dX4_wearTo_53 : decode cX4_wearTo 53 = .ok (.iconst 1, 1) := by decide +kernel
theorem dX4_wearTo_54 : decode cX4_wearTo 54 = .ok (.isub, 1) := by decide +kernel
theorem dX4_wearTo_55 : decode cX4_wearTo 55 = .ok (.laload, 1) := by decide +kernel
theorem dX4_wearTo_56 : decode cX4_wearTo 56 = .ok (.aload_n 0, 1) := by decide +kernel
theorem dX4_wearTo_57 : decode cX4_wearTo 57 = .ok (.getfield 15, 3) := by decide +kernel
theorem dX4_wearTo_60 : decode cX4_wearTo 60 = .ok (.iload_n 2, 1) := by decide +kernel
theorem dX4_wearTo_61 : decode cX4_wearTo 61 = .ok (.iconst 1, 1) := by decide +kernel
theorem dX4_wearTo_62 : decode cX4_wearTo 62 = .ok (.isub, 1) := by decide +kernel
theorem dX4_wearTo_63 : decode cX4_wearTo 63 = .ok (.iaload, 1) := by decide +kernel
theorem dX4_wearTo_64 : decode cX4_wearTo 64 = .ok (.i2l, 1) := by decide +kernel
theorem dX4_wearTo_65 : decode cX4_wearTo 65 = .ok (.ladd, 1) := by decide +kernel
theorem dX4_wearTo_66 : decode cX4_wearTo 66 = .ok (.aload_n 0, 1) := by decide +kernel
theorem dX4_wearTo_67 : decode cX4_wearTo 67 = .ok (.getfield 15, 3) := by decide +kernel
theorem dX4_wearTo_70 : decode cX4_wearTo 70 = .ok (.iload_n 2, 1) := by decide +kernel
theorem dX4_wearTo_71 : decode cX4_wearTo 71 = .ok (.iaload, 1) := by decide +kernel
theorem dX4_wearTo_72 : decode cX4_wearTo 72 = .ok (.i2l, 1) := by decide +kernel
theorem dX4_wearTo_73 : decode cX4_wearTo 73 = .ok (.ladd, 1) := by decide +kernel
theorem dX4_wearTo_74 : decode cX4_wearTo 74 = .ok (.lastore, 1) := by decide +kernel
theorem dX4_wearTo_75 : decode cX4_wearTo 75 = .ok (.iinc 2 1, 3) := by decide +kernel
theorem dX4_wearTo_78 : decode cX4_wearTo 78 = .ok (.goto (-71), 3) := by decide +kernel
theorem dX4_wearTo_81 : decode cX4_wearTo 81 = .ok (.return_, 1) := by decide +kernel
theorem dX4_wearByBlow_0 : decode cX4_wearByBlow 0 = .ok (.aload_n 0, 1) := by decide +kernel
theorem dX4_wearByBlow_1 : decode cX4_wearByBlow 1 = .ok (.aload_n 0, 1) := by decide +kernel
theorem dX4_wearByBlow_2 : decode cX4_wearByBlow 2 = .ok (.getfield 36, 3) := by decide +kernel
theorem dX4_wearByBlow_5 : decode cX4_wearByBlow 5 = .ok (.aload_n 0, 1) := by decide +kernel
theorem dX4_wearByBlow_6 : decode cX4_wearByBlow 6 = .ok (.getfield 33, 3) := by decide +kernel
theorem dX4_wearByBlow_9 : decode cX4_wearByBlow 9 = .ok (.imul, 1) := by decide +kernel
theorem dX4_wearByBlow_10 : decode cX4_wearByBlow 10 = .ok (.bipush 100, 2) := by decide +kernel
theorem dX4_wearByBlow_12 : decode cX4_wearByBlow 12 = .ok (.idiv, 1) := by decide +kernel
theorem dX4_wearByBlow_13 : decode cX4_wearByBlow 13 = .ok (.invokevirtual 76, 3) := by decide +kernel
theorem dX4_wearByBlow_16 : decode cX4_wearByBlow 16 = .ok (.return_, 1) := by decide +kernel
theorem dX4_squeezeOf_0 : decode cX4_squeezeOf 0 = .ok (.iload_n 3, 1) := by decide +kernel
theorem dX4_squeezeOf_1 : decode cX4_squeezeOf 1 = .ok (.iconst 0, 1) := by decide +kernel
theorem dX4_squeezeOf_2 : decode cX4_squeezeOf 2 = .ok (.invokestatic 80, 3) := by decide +kernel
theorem dX4_squeezeOf_5 : decode cX4_squeezeOf 5 = .ok (.istore 4, 2) := by decide +kernel
theorem dX4_squeezeOf_7 : decode cX4_squeezeOf 7 = .ok (.iload 4, 2) := by decide +kernel
theorem dX4_squeezeOf_9 : decode cX4_squeezeOf 9 = .ok (.aload_n 0, 1) := by decide +kernel
theorem dX4_squeezeOf_10 : decode cX4_squeezeOf 10 = .ok (.getfield 22, 3) := by decide +kernel
theorem dX4_squeezeOf_13 : decode cX4_squeezeOf 13 = .ok (.if_icmp .gt 55, 3) := by decide +kernel
theorem dX4_squeezeOf_16 : decode cX4_squeezeOf 16 = .ok (.aload_n 0, 1) := by decide +kernel
theorem dX4_squeezeOf_17 : decode cX4_squeezeOf 17 = .ok (.getfield 18, 3) := by decide +kernel
theorem dX4_squeezeOf_20 : decode cX4_squeezeOf 20 = .ok (.iload 4, 2) := by decide +kernel
theorem dX4_squeezeOf_22 : decode cX4_squeezeOf 22 = .ok (.laload, 1) := by decide +kernel
theorem dX4_squeezeOf_23 : decode cX4_squeezeOf 23 = .ok (.aload_n 0, 1) := by decide +kernel
theorem dX4_squeezeOf_24 : decode cX4_squeezeOf 24 = .ok (.getfield 30, 3) := by decide +kernel
theorem dX4_squeezeOf_27 : decode cX4_squeezeOf 27 = .ok (.lmul, 1) := by decide +kernel
theorem dX4_squeezeOf_28 : decode cX4_squeezeOf 28 = .ok (.aload_n 0, 1) := by decide +kernel
theorem dX4_squeezeOf_29 : decode cX4_squeezeOf 29 = .ok (.getfield 26, 3) := by decide +kernel
theorem dX4_squeezeOf_32 : decode cX4_squeezeOf 32 = .ok (.lmul, 1) := by decide +kernel
theorem dX4_squeezeOf_33 : decode cX4_squeezeOf 33 = .ok (.ldc2_w 83, 3) := by decide +kernel
theorem dX4_squeezeOf_36 : decode cX4_squeezeOf 36 = .ok (.iload_n 1, 1) := by decide +kernel
theorem dX4_squeezeOf_37 : decode cX4_squeezeOf 37 = .ok (.i2l, 1) := by decide +kernel
theorem dX4_squeezeOf_38 : decode cX4_squeezeOf 38 = .ok (.lmul, 1) := by decide +kernel
theorem dX4_squeezeOf_39 : decode cX4_squeezeOf 39 = .ok (.ldc2_w 85, 3) := by decide +kernel
theorem dX4_squeezeOf_42 : decode cX4_squeezeOf 42 = .ok (.iload_n 2, 1) := by decide +kernel
theorem dX4_squeezeOf_43 : decode cX4_squeezeOf 43 = .ok (.i2l, 1) := by decide +kernel
theorem dX4_squeezeOf_44 : decode cX4_squeezeOf 44 = .ok (.lmul, 1) := by decide +kernel
theorem dX4_squeezeOf_45 : decode cX4_squeezeOf 45 = .ok (.iload 4, 2) := by decide +kernel
theorem dX4_squeezeOf_47 : decode cX4_squeezeOf 47 = .ok (.i2l, 1) := by decide +kernel
theorem dX4_squeezeOf_48 : decode cX4_squeezeOf 48 = .ok (.aload_n 0, 1) := by decide +kernel
theorem dX4_squeezeOf_49 : decode cX4_squeezeOf 49 = .ok (.getfield 26, 3) := by decide +kernel
theorem dX4_squeezeOf_52 : decode cX4_squeezeOf 52 = .ok (.lmul, 1) := by decide +kernel
theorem dX4_squeezeOf_53 : decode cX4_squeezeOf 53 = .ok (.ladd, 1) := by decide +kernel
theorem dX4_squeezeOf_54 : decode cX4_squeezeOf 54 = .ok (.lmul, 1) := by decide +kernel
theorem dX4_squeezeOf_55 : decode cX4_squeezeOf 55 = .ok (.lcmp, 1) := by decide +kernel
theorem dX4_squeezeOf_56 : decode cX4_squeezeOf 56 = .ok (.ifCond .lt 6, 3) := by decide +kernel
theorem dX4_squeezeOf_59 : decode cX4_squeezeOf 59 = .ok (.iload 4, 2) := by decide +kernel
theorem dX4_squeezeOf_61 : decode cX4_squeezeOf 61 = .ok (.ireturn, 1) := by decide +kernel
theorem dX4_squeezeOf_62 : decode cX4_squeezeOf 62 = .ok (.iinc 4 1, 3) := by decide +kernel
theorem dX4_squeezeOf_65 : decode cX4_squeezeOf 65 = .ok (.goto (-58), 3) := by decide +kernel
theorem dX4_squeezeOf_68 : decode cX4_squeezeOf 68 = .ok (.bipush (-2), 2) := by decide +kernel
theorem dX4_squeezeOf_70 : decode cX4_squeezeOf 70 = .ok (.ireturn, 1) := by decide +kernel
theorem dX4_blowOf_0 : decode cX4_blowOf 0 = .ok (.aload_n 0, 1) := by decide +kernel
theorem dX4_blowOf_1 : decode cX4_blowOf 1 = .ok (.aload_n 0, 1) := by decide +kernel
theorem dX4_blowOf_2 : decode cX4_blowOf 2 = .ok (.iload_n 1, 1) := by decide +kernel
theorem dX4_blowOf_3 : decode cX4_blowOf 3 = .ok (.iload_n 2, 1) := by decide +kernel
theorem dX4_blowOf_4 : decode cX4_blowOf 4 = .ok (.iconst 0, 1) := by decide +kernel
theorem dX4_blowOf_5 : decode cX4_blowOf 5 = .ok (.invokevirtual 87, 3) := by decide +kernel
theorem dX4_blowOf_8 : decode cX4_blowOf 8 = .ok (.iload_n 1, 1) := by decide +kernel
theorem dX4_blowOf_9 : decode cX4_blowOf 9 = .ok (.invokevirtual 91, 3) := by decide +kernel
theorem dX4_blowOf_12 : decode cX4_blowOf 12 = .ok (.ireturn, 1) := by decide +kernel
theorem dX4_blowAt_0 : decode cX4_blowAt 0 = .ok (.iload_n 1, 1) := by decide +kernel
theorem dX4_blowAt_1 : decode cX4_blowAt 1 = .ok (.ifCond .lt 16, 3) := by decide +kernel
theorem dX4_blowAt_4 : decode cX4_blowAt 4 = .ok (.iload_n 1, 1) := by decide +kernel
theorem dX4_blowAt_5 : decode cX4_blowAt 5 = .ok (.aload_n 0, 1) := by decide +kernel
theorem dX4_blowAt_6 : decode cX4_blowAt 6 = .ok (.getfield 22, 3) := by decide +kernel
theorem dX4_blowAt_9 : decode cX4_blowAt 9 = .ok (.if_icmp .gt 8, 3) := by decide +kernel
theorem dX4_blowAt_12 : decode cX4_blowAt 12 = .ok (.iload_n 2, 1) := by decide +kernel
theorem dX4_blowAt_13 : decode cX4_blowAt 13 = .ok (.iconst 1, 1) := by decide +kernel
theorem dX4_blowAt_14 : decode cX4_blowAt 14 = .ok (.if_icmp .ge 6, 3) := by decide +kernel
theorem dX4_blowAt_17 : decode cX4_blowAt 17 = .ok (.bipush (-2), 2) := by decide +kernel
theorem dX4_blowAt_19 : decode cX4_blowAt 19 = .ok (.ireturn, 1) := by decide +kernel
theorem dX4_blowAt_20 : decode cX4_blowAt 20 = .ok (.ldc2_w 94, 3) := by decide +kernel
theorem dX4_blowAt_23 : decode cX4_blowAt 23 = .ok (.aload_n 0, 1) := by decide +kernel
theorem dX4_blowAt_24 : decode cX4_blowAt 24 = .ok (.getfield 15, 3) := by decide +kernel
theorem dX4_blowAt_27 : decode cX4_blowAt 27 = .ok (.iload_n 1, 1) := by decide +kernel
theorem dX4_blowAt_28 : decode cX4_blowAt 28 = .ok (.iaload, 1) := by decide +kernel
theorem dX4_blowAt_29 : decode cX4_blowAt 29 = .ok (.i2l, 1) := by decide +kernel
theorem dX4_blowAt_30 : decode cX4_blowAt 30 = .ok (.aload_n 0, 1) := by decide +kernel
theorem dX4_blowAt_31 : decode cX4_blowAt 31 = .ok (.getfield 30, 3) := by decide +kernel
theorem dX4_blowAt_34 : decode cX4_blowAt 34 = .ok (.lmul, 1) := by decide +kernel
theorem dX4_blowAt_35 : decode cX4_blowAt 35 = .ok (.ldc2_w 96, 3) := by decide +kernel
theorem dX4_blowAt_38 : decode cX4_blowAt 38 = .ok (.lmul, 1) := by decide +kernel
theorem dX4_blowAt_39 : decode cX4_blowAt 39 = .ok (.iload_n 2, 1) := by decide +kernel
theorem dX4_blowAt_40 : decode cX4_blowAt 40 = .ok (.i2l, 1) := by decide +kernel
theorem dX4_blowAt_41 : decode cX4_blowAt 41 = .ok (.ldiv, 1) := by decide +kernel
theorem dX4_blowAt_42 : decode cX4_blowAt 42 = .ok (.invokestatic 98, 3) := by decide +kernel
theorem dX4_blowAt_45 : decode cX4_blowAt 45 = .ok (.l2i, 1) := by decide +kernel
theorem dX4_blowAt_46 : decode cX4_blowAt 46 = .ok (.ireturn, 1) := by decide +kernel
theorem dX4_holds_0 : decode cX4_holds 0 = .ok (.aload_n 0, 1) := by decide +kernel
theorem dX4_holds_1 : decode cX4_holds 1 = .ok (.aload_n 1, 1) := by decide +kernel
theorem dX4_holds_2 : decode cX4_holds 2 = .ok (.getfield 101, 3) := by decide +kernel
theorem dX4_holds_5 : decode cX4_holds 5 = .ok (.iload_n 2, 1) := by decide +kernel
theorem dX4_holds_6 : decode cX4_holds 6 = .ok (.invokevirtual 104, 3) := by decide +kernel
theorem dX4_holds_9 : decode cX4_holds 9 = .ok (.istore_n 3, 1) := by decide +kernel
theorem dX4_holds_10 : decode cX4_holds 10 = .ok (.iload_n 3, 1) := by decide +kernel
theorem dX4_holds_11 : decode cX4_holds 11 = .ok (.bipush (-2), 2) := by decide +kernel
theorem dX4_holds_13 : decode cX4_holds 13 = .ok (.if_icmp .eq 15, 3) := by decide +kernel
theorem dX4_holds_16 : decode cX4_holds 16 = .ok (.iload_n 3, 1) := by decide +kernel
theorem dX4_holds_17 : decode cX4_holds 17 = .ok (.aload_n 1, 1) := by decide +kernel
theorem dX4_holds_18 : decode cX4_holds 18 = .ok (.getfield 107, 3) := by decide +kernel
theorem dX4_holds_21 : decode cX4_holds 21 = .ok (.if_icmp .gt 7, 3) := by decide +kernel
theorem dX4_holds_24 : decode cX4_holds 24 = .ok (.iconst 1, 1) := by decide +kernel
theorem dX4_holds_25 : decode cX4_holds 25 = .ok (.goto 4, 3) := by decide +kernel
theorem dX4_holds_28 : decode cX4_holds 28 = .ok (.iconst 0, 1) := by decide +kernel
theorem dX4_holds_29 : decode cX4_holds 29 = .ok (.ireturn, 1) := by decide +kernel
theorem dX4_greatestHeight_0 : decode cX4_greatestHeight 0 = .ok (.aload_n 0, 1) := by decide +kernel
theorem dX4_greatestHeight_1 : decode cX4_greatestHeight 1 = .ok (.iload_n 1, 1) := by decide +kernel
theorem dX4_greatestHeight_2 : decode cX4_greatestHeight 2 = .ok (.iconst 0, 1) := by decide +kernel
theorem dX4_greatestHeight_3 : decode cX4_greatestHeight 3 = .ok (.lload_n 2, 1) := by decide +kernel
theorem dX4_greatestHeight_4 : decode cX4_greatestHeight 4 = .ok (.invokevirtual 110, 3) := by decide +kernel
theorem dX4_greatestHeight_7 : decode cX4_greatestHeight 7 = .ok (.ifCond .ne 5, 3) := by decide +kernel
theorem dX4_greatestHeight_10 : decode cX4_greatestHeight 10 = .ok (.iconst (-1), 1) := by decide +kernel
theorem dX4_greatestHeight_11 : decode cX4_greatestHeight 11 = .ok (.ireturn, 1) := by decide +kernel
theorem dX4_greatestHeight_12 : decode cX4_greatestHeight 12 = .ok (.iconst 0, 1) := by decide +kernel
theorem dX4_greatestHeight_13 : decode cX4_greatestHeight 13 = .ok (.istore 4, 2) := by decide +kernel
theorem dX4_greatestHeight_15 : decode cX4_greatestHeight 15 = .ok (.sipush 16384, 3) := by decide +kernel
theorem dX4_greatestHeight_18 : decode cX4_greatestHeight 18 = .ok (.istore 5, 2) := by decide +kernel
theorem dX4_greatestHeight_20 : decode cX4_greatestHeight 20 = .ok (.iload 5, 2) := by decide +kernel
theorem dX4_greatestHeight_22 : decode cX4_greatestHeight 22 = .ok (.ifCond .le 44, 3) := by decide +kernel
theorem dX4_greatestHeight_25 : decode cX4_greatestHeight 25 = .ok (.iload 4, 2) := by decide +kernel
theorem dX4_greatestHeight_27 : decode cX4_greatestHeight 27 = .ok (.iload 5, 2) := by decide +kernel
theorem dX4_greatestHeight_29 : decode cX4_greatestHeight 29 = .ok (.iadd, 1) := by decide +kernel
theorem dX4_greatestHeight_30 : decode cX4_greatestHeight 30 = .ok (.sipush 30000, 3) := by decide +kernel
theorem dX4_greatestHeight_33 : decode cX4_greatestHeight 33 = .ok (.if_icmp .gt 24, 3) := by decide +kernel
theorem dX4_greatestHeight_36 : decode cX4_greatestHeight 36 = .ok (.aload_n 0, 1) := by decide +kernel
theorem dX4_greatestHeight_37 : decode cX4_greatestHeight 37 = .ok (.iload_n 1, 1) := by decide +kernel
theorem dX4_greatestHeight_38 : decode cX4_greatestHeight 38 = .ok (.iload 4, 2) := by decide +kernel
theorem dX4_greatestHeight_40 : decode cX4_greatestHeight 40 = .ok (.iload 5, 2) := by decide +kernel
theorem dX4_greatestHeight_42 : decode cX4_greatestHeight 42 = .ok (.iadd, 1) := by decide +kernel
theorem dX4_greatestHeight_43 : decode cX4_greatestHeight 43 = .ok (.lload_n 2, 1) := by decide +kernel
theorem dX4_greatestHeight_44 : decode cX4_greatestHeight 44 = .ok (.invokevirtual 110, 3) := by decide +kernel
theorem dX4_greatestHeight_47 : decode cX4_greatestHeight 47 = .ok (.ifCond .eq 10, 3) := by decide +kernel
theorem dX4_greatestHeight_50 : decode cX4_greatestHeight 50 = .ok (.iload 4, 2) := by decide +kernel
theorem dX4_greatestHeight_52 : decode cX4_greatestHeight 52 = .ok (.iload 5, 2) := by decide +kernel
theorem dX4_greatestHeight_54 : decode cX4_greatestHeight 54 = .ok (.iadd, 1) := by decide +kernel
theorem dX4_greatestHeight_55 : decode cX4_greatestHeight 55 = .ok (.istore 4, 2) := by decide +kernel
theorem dX4_greatestHeight_57 : decode cX4_greatestHeight 57 = .ok (.iload 5, 2) := by decide +kernel
theorem dX4_greatestHeight_59 : decode cX4_greatestHeight 59 = .ok (.iconst 2, 1) := by decide +kernel
theorem dX4_greatestHeight_60 : decode cX4_greatestHeight 60 = .ok (.idiv, 1) := by decide +kernel
theorem dX4_greatestHeight_61 : decode cX4_greatestHeight 61 = .ok (.istore 5, 2) := by decide +kernel
theorem dX4_greatestHeight_63 : decode cX4_greatestHeight 63 = .ok (.goto (-43), 3) := by decide +kernel
theorem dX4_greatestHeight_66 : decode cX4_greatestHeight 66 = .ok (.iload 4, 2) := by decide +kernel
theorem dX4_greatestHeight_68 : decode cX4_greatestHeight 68 = .ok (.ireturn, 1) := by decide +kernel
theorem dX4_isWithin_0 : decode cX4_isWithin 0 = .ok (.aload_n 0, 1) := by decide +kernel
theorem dX4_isWithin_1 : decode cX4_isWithin 1 = .ok (.iload_n 1, 1) := by decide +kernel
theorem dX4_isWithin_2 : decode cX4_isWithin 2 = .ok (.iload_n 2, 1) := by decide +kernel
theorem dX4_isWithin_3 : decode cX4_isWithin 3 = .ok (.invokevirtual 104, 3) := by decide +kernel
theorem dX4_isWithin_6 : decode cX4_isWithin 6 = .ok (.istore 5, 2) := by decide +kernel
theorem dX4_isWithin_8 : decode cX4_isWithin 8 = .ok (.iload 5, 2) := by decide +kernel
theorem dX4_isWithin_10 : decode cX4_isWithin 10 = .ok (.bipush (-2), 2) := by decide +kernel
theorem dX4_isWithin_12 : decode cX4_isWithin 12 = .ok (.if_icmp .eq 15, 3) := by decide +kernel
theorem dX4_isWithin_15 : decode cX4_isWithin 15 = .ok (.iload 5, 2) := by decide +kernel
theorem dX4_isWithin_17 : decode cX4_isWithin 17 = .ok (.i2l, 1) := by decide +kernel
theorem dX4_isWithin_18 : decode cX4_isWithin 18 = .ok (.lload_n 3, 1) := by decide +kernel
theorem dX4_isWithin_19 : decode cX4_isWithin 19 = .ok (.lcmp, 1) := by decide +kernel
theorem dX4_isWithin_20 : decode cX4_isWithin 20 = .ok (.ifCond .gt 7, 3) := by decide +kernel
theorem dX4_isWithin_23 : decode cX4_isWithin 23 = .ok (.iconst 1, 1) := by decide +kernel
theorem dX4_isWithin_24 : decode cX4_isWithin 24 = .ok (.goto 4, 3) := by decide +kernel
theorem dX4_isWithin_27 : decode cX4_isWithin 27 = .ok (.iconst 0, 1) := by decide +kernel
theorem dX4_isWithin_28 : decode cX4_isWithin 28 = .ok (.ireturn, 1) := by decide +kernel
theorem dX5_init_0 : decode cX5_init 0 = .ok (.aload_n 0, 1) := by decide +kernel
theorem dX5_init_1 : decode cX5_init 1 = .ok (.invokespecial 1, 3) := by decide +kernel
theorem dX5_init_4 : decode cX5_init 4 = .ok (.aload_n 0, 1) := by decide +kernel
theorem dX5_init_5 : decode cX5_init 5 = .ok (.iconst 0, 1) := by decide +kernel
theorem dX5_init_6 : decode cX5_init 6 = .ok (.putfield 7, 3) := by decide +kernel
theorem dX5_init_9 : decode cX5_init 9 = .ok (.aload_n 0, 1) := by decide +kernel
theorem dX5_init_10 : decode cX5_init 10 = .ok (.iconst 0, 1) := by decide +kernel
theorem dX5_init_11 : decode cX5_init 11 = .ok (.putfield 13, 3) := by decide +kernel
theorem dX5_init_14 : decode cX5_init 14 = .ok (.aload_n 0, 1) := by decide +kernel
theorem dX5_init_15 : decode cX5_init 15 = .ok (.iconst 0, 1) := by decide +kernel
theorem dX5_init_16 : decode cX5_init 16 = .ok (.putfield 16, 3) := by decide +kernel
theorem dX5_init_19 : decode cX5_init 19 = .ok (.aload_n 0, 1) := by decide +kernel
theorem dX5_init_20 : decode cX5_init 20 = .ok (.iconst 1, 1) := by decide +kernel
theorem dX5_init_21 : decode cX5_init 21 = .ok (.putfield 19, 3) := by decide +kernel
theorem dX5_init_24 : decode cX5_init 24 = .ok (.return_, 1) := by decide +kernel
theorem dX6_init_0 : decode cX6_init 0 = .ok (.aload_n 0, 1) := by decide +kernel
theorem dX6_init_1 : decode cX6_init 1 = .ok (.invokespecial 3, 3) := by decide +kernel
theorem dX6_init_4 : decode cX6_init 4 = .ok (.aload_n 0, 1) := by decide +kernel
theorem dX6_init_5 : decode cX6_init 5 = .ok (.bipush 8, 2) := by decide +kernel
theorem dX6_init_7 : decode cX6_init 7 = .ok (.newarray .int, 2) := by decide +kernel
theorem dX6_init_9 : decode cX6_init 9 = .ok (.putfield 11, 3) := by decide +kernel
theorem dX6_init_12 : decode cX6_init 12 = .ok (.aload_n 0, 1) := by decide +kernel
theorem dX6_init_13 : decode cX6_init 13 = .ok (.bipush 8, 2) := by decide +kernel
theorem dX6_init_15 : decode cX6_init 15 = .ok (.newarray .int, 2) := by decide +kernel
theorem dX6_init_17 : decode cX6_init 17 = .ok (.putfield 15, 3) := by decide +kernel
theorem dX6_init_20 : decode cX6_init 20 = .ok (.aload_n 0, 1) := by decide +kernel
theorem dX6_init_21 : decode cX6_init 21 = .ok (.iconst 0, 1) := by decide +kernel
theorem dX6_init_22 : decode cX6_init 22 = .ok (.putfield 18, 3) := by decide +kernel
theorem dX6_init_25 : decode cX6_init 25 = .ok (.aload_n 0, 1) := by decide +kernel
theorem dX6_init_26 : decode cX6_init 26 = .ok (.iconst 0, 1) := by decide +kernel
theorem dX6_init_27 : decode cX6_init 27 = .ok (.putfield 22, 3) := by decide +kernel
theorem dX6_init_30 : decode cX6_init 30 = .ok (.aload_n 0, 1) := by decide +kernel
theorem dX6_init_31 : decode cX6_init 31 = .ok (.iconst 0, 1) := by decide +kernel
theorem dX6_init_32 : decode cX6_init 32 = .ok (.putfield 25, 3) := by decide +kernel
theorem dX6_init_35 : decode cX6_init 35 = .ok (.return_, 1) := by decide +kernel
theorem dX6_addPoint_0 : decode cX6_addPoint 0 = .ok (.aload_n 0, 1) := by decide +kernel
theorem dX6_addPoint_1 : decode cX6_addPoint 1 = .ok (.getfield 18, 3) := by decide +kernel
theorem dX6_addPoint_4 : decode cX6_addPoint 4 = .ok (.bipush 8, 2) := by decide +kernel
theorem dX6_addPoint_6 : decode cX6_addPoint 6 = .ok (.if_icmp .ge 33, 3) := by decide +kernel
theorem dX6_addPoint_9 : decode cX6_addPoint 9 = .ok (.aload_n 0, 1) := by decide +kernel
theorem dX6_addPoint_10 : decode cX6_addPoint 10 = .ok (.getfield 11, 3) := by decide +kernel
theorem dX6_addPoint_13 : decode cX6_addPoint 13 = .ok (.aload_n 0, 1) := by decide +kernel
theorem dX6_addPoint_14 : decode cX6_addPoint 14 = .ok (.getfield 18, 3) := by decide +kernel
theorem dX6_addPoint_17 : decode cX6_addPoint 17 = .ok (.iload_n 1, 1) := by decide +kernel
theorem dX6_addPoint_18 : decode cX6_addPoint 18 = .ok (.iastore, 1) := by decide +kernel
theorem dX6_addPoint_19 : decode cX6_addPoint 19 = .ok (.aload_n 0, 1) := by decide +kernel
theorem dX6_addPoint_20 : decode cX6_addPoint 20 = .ok (.getfield 15, 3) := by decide +kernel
theorem dX6_addPoint_23 : decode cX6_addPoint 23 = .ok (.aload_n 0, 1) := by decide +kernel
theorem dX6_addPoint_24 : decode cX6_addPoint 24 = .ok (.getfield 18, 3) := by decide +kernel
theorem dX6_addPoint_27 : decode cX6_addPoint 27 = .ok (.iload_n 2, 1) := by decide +kernel
theorem dX6_addPoint_28 : decode cX6_addPoint 28 = .ok (.iastore, 1) := by decide +kernel
theorem dX6_addPoint_29 : decode cX6_addPoint 29 = .ok (.aload_n 0, 1) := by decide +kernel
theorem dX6_addPoint_30 : decode cX6_addPoint 30 = .ok (.dup, 1) := by decide +kernel
theorem dX6_addPoint_31 : decode cX6_addPoint 31 = .ok (.getfield 18, 3) := by decide +kernel
theorem dX6_addPoint_34 : decode cX6_addPoint 34 = .ok (.iconst 1, 1) := by decide +kernel
theorem dX6_addPoint_35 : decode cX6_addPoint 35 = .ok (.iadd, 1) := by decide +kernel
theorem dX6_addPoint_36 : decode cX6_addPoint 36 = .ok (.putfield 18, 3) := by decide +kernel
theorem dX6_addPoint_39 : decode cX6_addPoint 39 = .ok (.return_, 1) := by decide +kernel
theorem dX6_leastPercent_0 : decode cX6_leastPercent 0 = .ok (.aload_n 0, 1) := by decide +kernel
theorem dX6_leastPercent_1 : decode cX6_leastPercent 1 = .ok (.getfield 18, 3) := by decide +kernel
theorem dX6_leastPercent_4 : decode cX6_leastPercent 4 = .ok (.iconst 1, 1) := by decide +kernel
theorem dX6_leastPercent_5 : decode cX6_leastPercent 5 = .ok (.if_icmp .lt 12, 3) := by decide +kernel
theorem dX6_leastPercent_8 : decode cX6_leastPercent 8 = .ok (.aload_n 0, 1) := by decide +kernel
theorem dX6_leastPercent_9 : decode cX6_leastPercent 9 = .ok (.getfield 18, 3) := by decide +kernel
theorem dX6_leastPercent_12 : decode cX6_leastPercent 12 = .ok (.bipush 8, 2) := by decide +kernel
theorem dX6_leastPercent_14 : decode cX6_leastPercent 14 = .ok (.if_icmp .le 7, 3) := by decide +kernel
theorem dX6_leastPercent_17 : decode cX6_leastPercent 17 = .ok (.iconst 0, 1) := by decide +kernel
theorem dX6_leastPercent_18 : decode cX6_leastPercent 18 = .ok (.goto 16, 3) := by decide +kernel
theorem dX6_leastPercent_21 : decode cX6_leastPercent 21 = .ok (.aload_n 0, 1) := by decide +kernel
theorem dX6_leastPercent_22 : decode cX6_leastPercent 22 = .ok (.getfield 11, 3) := by decide +kernel
theorem dX6_leastPercent_25 : decode cX6_leastPercent 25 = .ok (.aload_n 0, 1) := by decide +kernel
theorem dX6_leastPercent_26 : decode cX6_leastPercent 26 = .ok (.getfield 18, 3) := by decide +kernel
theorem dX6_leastPercent_29 : decode cX6_leastPercent 29 = .ok (.iconst 1, 1) := by decide +kernel
theorem dX6_leastPercent_30 : decode cX6_leastPercent 30 = .ok (.isub, 1) := by decide +kernel
theorem dX6_leastPercent_31 : decode cX6_leastPercent 31 = .ok (.iaload, 1) := by decide +kernel
theorem dX6_leastPercent_32 : decode cX6_leastPercent 32 = .ok (.iconst 1, 1) := by decide +kernel
theorem dX6_leastPercent_33 : decode cX6_leastPercent 33 = .ok (.iadd, 1) := by decide +kernel
theorem dX6_leastPercent_34 : decode cX6_leastPercent 34 = .ok (.ireturn, 1) := by decide +kernel
theorem dX6_leastPush_0 : decode cX6_leastPush 0 = .ok (.aload_n 0, 1) := by decide +kernel
theorem dX6_leastPush_1 : decode cX6_leastPush 1 = .ok (.getfield 18, 3) := by decide +kernel
theorem dX6_leastPush_4 : decode cX6_leastPush 4 = .ok (.iconst 1, 1) := by decide +kernel
theorem dX6_leastPush_5 : decode cX6_leastPush 5 = .ok (.if_icmp .lt 12, 3) := by decide +kernel
theorem dX6_leastPush_8 : decode cX6_leastPush 8 = .ok (.aload_n 0, 1) := by decide +kernel
theorem dX6_leastPush_9 : decode cX6_leastPush 9 = .ok (.getfield 18, 3) := by decide +kernel
theorem dX6_leastPush_12 : decode cX6_leastPush 12 = .ok (.bipush 8, 2) := by decide +kernel
theorem dX6_leastPush_14 : decode cX6_leastPush 14 = .ok (.if_icmp .le 7, 3) := by decide +kernel
theorem dX6_leastPush_17 : decode cX6_leastPush 17 = .ok (.iconst 0, 1) := by decide +kernel
theorem dX6_leastPush_18 : decode cX6_leastPush 18 = .ok (.goto 14, 3) := by decide +kernel
theorem dX6_leastPush_21 : decode cX6_leastPush 21 = .ok (.aload_n 0, 1) := by decide +kernel
theorem dX6_leastPush_22 : decode cX6_leastPush 22 = .ok (.getfield 15, 3) := by decide +kernel
theorem dX6_leastPush_25 : decode cX6_leastPush 25 = .ok (.aload_n 0, 1) := by decide +kernel
theorem dX6_leastPush_26 : decode cX6_leastPush 26 = .ok (.getfield 18, 3) := by decide +kernel
theorem dX6_leastPush_29 : decode cX6_leastPush 29 = .ok (.iconst 1, 1) := by decide +kernel
theorem dX6_leastPush_30 : decode cX6_leastPush 30 = .ok (.isub, 1) := by decide +kernel
theorem dX6_leastPush_31 : decode cX6_leastPush 31 = .ok (.iaload, 1) := by decide +kernel
theorem dX6_leastPush_32 : decode cX6_leastPush 32 = .ok (.ireturn, 1) := by decide +kernel
theorem dX6_lastPercent_0 : decode cX6_lastPercent 0 = .ok (.aload_n 0, 1) := by decide +kernel
theorem dX6_lastPercent_1 : decode cX6_lastPercent 1 = .ok (.invokevirtual 28, 3) := by decide +kernel
theorem dX6_lastPercent_4 : decode cX6_lastPercent 4 = .ok (.iconst 1, 1) := by decide +kernel
theorem dX6_lastPercent_5 : decode cX6_lastPercent 5 = .ok (.isub, 1) := by decide +kernel
theorem dX6_lastPercent_6 : decode cX6_lastPercent 6 = .ok (.ireturn, 1) := by decide +kernel
theorem dX6_pushAt_0 : decode cX6_pushAt 0 = .ok (.iload_n 1, 1) := by decide +kernel
theorem dX6_pushAt_1 : decode cX6_pushAt 1 = .ok (.ifCond .ge 5, 3) := by decide +kernel
theorem dX6_pushAt_4 : decode cX6_pushAt 4 = .ok (.iconst (-1), 1) := by decide +kernel
theorem dX6_pushAt_5 : decode cX6_pushAt 5 = .ok (.ireturn, 1) := by decide +kernel
theorem dX6_pushAt_6 : decode cX6_pushAt 6 = .ok (.iconst 1, 1) := by decide +kernel
theorem dX6_pushAt_7 : decode cX6_pushAt 7 = .ok (.istore_n 2, 1) := by decide +kernel
theorem dX6_pushAt_8 : decode cX6_pushAt 8 = .ok (.iload_n 2, 1) := by decide +kernel
theorem dX6_pushAt_9 : decode cX6_pushAt 9 = .ok (.aload_n 0, 1) := by decide +kernel
theorem dX6_pushAt_10 : decode cX6_pushAt 10 = .ok (.getfield 18, 3) := by decide +kernel
theorem dX6_pushAt_13 : decode cX6_pushAt 13 = .ok (.if_icmp .ge 87, 3) := by decide +kernel
theorem dX6_pushAt_16 : decode cX6_pushAt 16 = .ok (.iload_n 2, 1) := by decide +kernel
theorem dX6_pushAt_17 : decode cX6_pushAt 17 = .ok (.bipush 8, 2) := by decide +kernel
theorem dX6_pushAt_19 : decode cX6_pushAt 19 = .ok (.if_icmp .ge 81, 3) := by decide +kernel
theorem dX6_pushAt_22 : decode cX6_pushAt 22 = .ok (.aload_n 0, 1) := by decide +kernel
theorem dX6_pushAt_23 : decode cX6_pushAt 23 = .ok (.getfield 11, 3) := by decide +kernel
theorem dX6_pushAt_26 : decode cX6_pushAt 26 = .ok (.iload_n 2, 1) := by decide +kernel
theorem dX6_pushAt_27 : decode cX6_pushAt 27 = .ok (.iaload, 1) := by decide +kernel
theorem dX6_pushAt_28 : decode cX6_pushAt 28 = .ok (.aload_n 0, 1) := by decide +kernel
theorem dX6_pushAt_29 : decode cX6_pushAt 29 = .ok (.getfield 11, 3) := by decide +kernel
theorem dX6_pushAt_32 : decode cX6_pushAt 32 = .ok (.iload_n 2, 1) := by decide +kernel
theorem dX6_pushAt_33 : decode cX6_pushAt 33 = .ok (.iconst 1, 1) := by decide +kernel
theorem dX6_pushAt_34 : decode cX6_pushAt 34 = .ok (.isub, 1) := by decide +kernel
theorem dX6_pushAt_35 : decode cX6_pushAt 35 = .ok (.iaload, 1) := by decide +kernel
theorem dX6_pushAt_36 : decode cX6_pushAt 36 = .ok (.isub, 1) := by decide +kernel
theorem dX6_pushAt_37 : decode cX6_pushAt 37 = .ok (.istore_n 3, 1) := by decide +kernel
theorem dX6_pushAt_38 : decode cX6_pushAt 38 = .ok (.iload_n 1, 1) := by decide +kernel
theorem dX6_pushAt_39 : decode cX6_pushAt 39 = .ok (.aload_n 0, 1) := by decide +kernel
theorem dX6_pushAt_40 : decode cX6_pushAt 40 = .ok (.getfield 11, 3) := by decide +kernel
theorem dX6_pushAt_43 : decode cX6_pushAt 43 = .ok (.iload_n 2, 1) := by decide +kernel
theorem dX6_pushAt_44 : decode cX6_pushAt 44 = .ok (.iaload, 1) := by decide +kernel
theorem dX6_pushAt_45 : decode cX6_pushAt 45 = .ok (.if_icmp .gt 49, 3) := by decide +kernel
theorem dX6_pushAt_48 : decode cX6_pushAt 48 = .ok (.iload_n 3, 1) := by decide +kernel
theorem dX6_pushAt_49 : decode cX6_pushAt 49 = .ok (.ifCond .le 45, 3) := by decide +kernel
theorem dX6_pushAt_52 : decode cX6_pushAt 52 = .ok (.aload_n 0, 1) := by decide +kernel
theorem dX6_pushAt_53 : decode cX6_pushAt 53 = .ok (.getfield 15, 3) := by decide +kernel
theorem dX6_pushAt_56 : decode cX6_pushAt 56 = .ok (.iload_n 2, 1) := by decide +kernel
theorem dX6_pushAt_57 : decode cX6_pushAt 57 = .ok (.iaload, 1) := by decide +kernel
theorem dX6_pushAt_58 : decode cX6_pushAt 58 = .ok (.aload_n 0, 1) := by decide +kernel
theorem dX6_pushAt_59 : decode cX6_pushAt 59 = .ok (.getfield 15, 3) := by decide +kernel
theorem dX6_pushAt_62 : decode cX6_pushAt 62 = .ok (.iload_n 2, 1) := by decide +kernel
theorem dX6_pushAt_63 : decode cX6_pushAt 63 = .ok (.iconst 1, 1) := by decide +kernel
theorem dX6_pushAt_64 : decode cX6_pushAt 64 = .ok (.isub, 1) := by decide +kernel
theorem dX6_pushAt_65 : decode cX6_pushAt 65 = .ok (.iaload, 1) := by decide +kernel
theorem dX6_pushAt_66 : decode cX6_pushAt 66 = .ok (.isub, 1) := by decide +kernel
theorem dX6_pushAt_67 : decode cX6_pushAt 67 = .ok (.istore 4, 2) := by decide +kernel
theorem dX6_pushAt_69 : decode cX6_pushAt 69 = .ok (.aload_n 0, 1) := by decide +kernel
theorem dX6_pushAt_70 : decode cX6_pushAt 70 = .ok (.getfield 15, 3) := by decide +kernel
theorem dX6_pushAt_73 : decode cX6_pushAt 73 = .ok (.iload_n 2, 1) := by decide +kernel
theorem dX6_pushAt_74 : decode cX6_pushAt 74 = .ok (.iconst 1, 1) := by decide +kernel
theorem dX6_pushAt_75 : decode cX6_pushAt 75 = .ok (.isub, 1) := by decide +kernel
theorem dX6_pushAt_76 : decode cX6_pushAt 76 = .ok (.iaload, 1) := by decide +kernel
theorem dX6_pushAt_77 : decode cX6_pushAt 77 = .ok (.iload 4, 2) := by decide +kernel
theorem dX6_pushAt_79 : decode cX6_pushAt 79 = .ok (.iload_n 1, 1) := by decide +kernel
theorem dX6_pushAt_80 : decode cX6_pushAt 80 = .ok (.aload_n 0, 1) := by decide +kernel
theorem dX6_pushAt_81 : decode cX6_pushAt 81 = .ok (.getfield 11, 3) := by decide +kernel
theorem dX6_pushAt_84 : decode cX6_pushAt 84 = .ok (.iload_n 2, 1) := by decide +kernel
theorem dX6_pushAt_85 : decode cX6_pushAt 85 = .ok (.iconst 1, 1) := by decide +kernel
theorem dX6_pushAt_86 : decode cX6_pushAt 86 = .ok (.isub, 1) := by decide +kernel
theorem dX6_pushAt_87 : decode cX6_pushAt 87 = .ok (.iaload, 1) := by decide +kernel
theorem dX6_pushAt_88 : decode cX6_pushAt 88 = .ok (.isub, 1) := by decide +kernel
theorem dX6_pushAt_89 : decode cX6_pushAt 89 = .ok (.imul, 1) := by decide +kernel
theorem dX6_pushAt_90 : decode cX6_pushAt 90 = .ok (.iload_n 3, 1) := by decide +kernel
theorem dX6_pushAt_91 : decode cX6_pushAt 91 = .ok (.idiv, 1) := by decide +kernel
theorem dX6_pushAt_92 : decode cX6_pushAt 92 = .ok (.iadd, 1) := by decide +kernel
theorem dX6_pushAt_93 : decode cX6_pushAt 93 = .ok (.ireturn, 1) := by decide +kernel
theorem dX6_pushAt_94 : decode cX6_pushAt 94 = .ok (.iinc 2 1, 3) := by decide +kernel
theorem dX6_pushAt_97 : decode cX6_pushAt 97 = .ok (.goto (-89), 3) := by decide +kernel
theorem dX6_pushAt_100 : decode cX6_pushAt 100 = .ok (.iconst (-1), 1) := by decide +kernel
theorem dX6_pushAt_101 : decode cX6_pushAt 101 = .ok (.ireturn, 1) := by decide +kernel
theorem dX7_init_0 : decode cX7_init 0 = .ok (.aload_n 0, 1) := by decide +kernel
theorem dX7_init_1 : decode cX7_init 1 = .ok (.invokespecial 3, 3) := by decide +kernel
theorem dX7_init_4 : decode cX7_init 4 = .ok (.aload_n 0, 1) := by decide +kernel
theorem dX7_init_5 : decode cX7_init 5 = .ok (.bipush 10, 2) := by decide +kernel
theorem dX7_init_7 : decode cX7_init 7 = .ok (.newarray .int, 2) := by decide +kernel
theorem dX7_init_9 : decode cX7_init 9 = .ok (.putfield 11, 3) := by decide +kernel
theorem dX7_init_12 : decode cX7_init 12 = .ok (.aload_n 0, 1) := by decide +kernel
theorem dX7_init_13 : decode cX7_init 13 = .ok (.bipush 10, 2) := by decide +kernel
theorem dX7_init_15 : decode cX7_init 15 = .ok (.newarray .int, 2) := by decide +kernel
theorem dX7_init_17 : decode cX7_init 17 = .ok (.putfield 15, 3) := by decide +kernel
theorem dX7_init_20 : decode cX7_init 20 = .ok (.aload_n 0, 1) := by decide +kernel
theorem dX7_init_21 : decode cX7_init 21 = .ok (.bipush 10, 2) := by decide +kernel
theorem dX7_init_23 : decode cX7_init 23 = .ok (.newarray .int, 2) := by decide +kernel
theorem dX7_init_25 : decode cX7_init 25 = .ok (.putfield 18, 3) := by decide +kernel
theorem dX7_init_28 : decode cX7_init 28 = .ok (.aload_n 0, 1) := by decide +kernel
theorem dX7_init_29 : decode cX7_init 29 = .ok (.bipush 10, 2) := by decide +kernel
theorem dX7_init_31 : decode cX7_init 31 = .ok (.newarray .int, 2) := by decide +kernel
theorem dX7_init_33 : decode cX7_init 33 = .ok (.putfield 21, 3) := by decide +kernel
theorem dX7_init_36 : decode cX7_init 36 = .ok (.aload_n 0, 1) := by decide +kernel
theorem dX7_init_37 : decode cX7_init 37 = .ok (.bipush 6, 2) := by decide +kernel
theorem dX7_init_39 : decode cX7_init 39 = .ok (.newarray .int, 2) := by decide +kernel
theorem dX7_init_41 : decode cX7_init 41 = .ok (.putfield 24, 3) := by decide +kernel
theorem dX7_init_44 : decode cX7_init 44 = .ok (.aload_n 0, 1) := by decide +kernel
theorem dX7_init_45 : decode cX7_init 45 = .ok (.bipush 6, 2) := by decide +kernel
theorem dX7_init_47 : decode cX7_init 47 = .ok (.newarray .int, 2) := by decide +kernel
theorem dX7_init_49 : decode cX7_init 49 = .ok (.putfield 27, 3) := by decide +kernel
theorem dX7_init_52 : decode cX7_init 52 = .ok (.aload_n 0, 1) := by decide +kernel
theorem dX7_init_53 : decode cX7_init 53 = .ok (.iconst 0, 1) := by decide +kernel
theorem dX7_init_54 : decode cX7_init 54 = .ok (.putfield 30, 3) := by decide +kernel
theorem dX7_init_57 : decode cX7_init 57 = .ok (.iconst 0, 1) := by decide +kernel
theorem dX7_init_58 : decode cX7_init 58 = .ok (.istore_n 1, 1) := by decide +kernel
theorem dX7_init_59 : decode cX7_init 59 = .ok (.iload_n 1, 1) := by decide +kernel
theorem dX7_init_60 : decode cX7_init 60 = .ok (.bipush 6, 2) := by decide +kernel
theorem dX7_init_62 : decode cX7_init 62 = .ok (.if_icmp .ge 16, 3) := by decide +kernel
theorem dX7_init_65 : decode cX7_init 65 = .ok (.aload_n 0, 1) := by decide +kernel
theorem dX7_init_66 : decode cX7_init 66 = .ok (.getfield 27, 3) := by decide +kernel
theorem dX7_init_69 : decode cX7_init 69 = .ok (.iload_n 1, 1) := by decide +kernel
theorem dX7_init_70 : decode cX7_init 70 = .ok (.iconst (-1), 1) := by decide +kernel
theorem dX7_init_71 : decode cX7_init 71 = .ok (.iastore, 1) := by decide +kernel
theorem dX7_init_72 : decode cX7_init 72 = .ok (.iinc 1 1, 3) := by decide +kernel
theorem dX7_init_75 : decode cX7_init 75 = .ok (.goto (-16), 3) := by decide +kernel
theorem dX7_init_78 : decode cX7_init 78 = .ok (.return_, 1) := by decide +kernel
theorem dX7_readKinds_0 : decode cX7_readKinds 0 = .ok (.aload_n 1, 1) := by decide +kernel
theorem dX7_readKinds_1 : decode cX7_readKinds 1 = .ok (.getfield 34, 3) := by decide +kernel
theorem dX7_readKinds_4 : decode cX7_readKinds 4 = .ok (.iconst 2, 1) := by decide +kernel
theorem dX7_readKinds_5 : decode cX7_readKinds 5 = .ok (.if_icmp .lt 21, 3) := by decide +kernel
theorem dX7_readKinds_8 : decode cX7_readKinds 8 = .ok (.aload_n 1, 1) := by decide +kernel
theorem dX7_readKinds_9 : decode cX7_readKinds 9 = .ok (.getfield 34, 3) := by decide +kernel
theorem dX7_readKinds_12 : decode cX7_readKinds 12 = .ok (.bipush 20, 2) := by decide +kernel
theorem dX7_readKinds_14 : decode cX7_readKinds 14 = .ok (.if_icmp .gt 12, 3) := by decide +kernel
theorem dX7_readKinds_17 : decode cX7_readKinds 17 = .ok (.aload_n 1, 1) := by decide +kernel
theorem dX7_readKinds_18 : decode cX7_readKinds 18 = .ok (.getfield 34, 3) := by decide +kernel
theorem dX7_readKinds_21 : decode cX7_readKinds 21 = .ok (.iconst 2, 1) := by decide +kernel
theorem dX7_readKinds_22 : decode cX7_readKinds 22 = .ok (.irem, 1) := by decide +kernel
theorem dX7_readKinds_23 : decode cX7_readKinds 23 = .ok (.ifCond .eq 5, 3) := by decide +kernel
theorem dX7_readKinds_26 : decode cX7_readKinds 26 = .ok (.iconst 0, 1) := by decide +kernel
theorem dX7_readKinds_27 : decode cX7_readKinds 27 = .ok (.ireturn, 1) := by decide +kernel
theorem dX7_readKinds_28 : decode cX7_readKinds 28 = .ok (.aload_n 0, 1) := by decide +kernel
theorem dX7_readKinds_29 : decode cX7_readKinds 29 = .ok (.aload_n 1, 1) := by decide +kernel
theorem dX7_readKinds_30 : decode cX7_readKinds 30 = .ok (.getfield 34, 3) := by decide +kernel
theorem dX7_readKinds_33 : decode cX7_readKinds 33 = .ok (.iconst 2, 1) := by decide +kernel
theorem dX7_readKinds_34 : decode cX7_readKinds 34 = .ok (.idiv, 1) := by decide +kernel
theorem dX7_readKinds_35 : decode cX7_readKinds 35 = .ok (.putfield 30, 3) := by decide +kernel
theorem dX7_readKinds_38 : decode cX7_readKinds 38 = .ok (.iconst 0, 1) := by decide +kernel
theorem dX7_readKinds_39 : decode cX7_readKinds 39 = .ok (.istore_n 3, 1) := by decide +kernel
theorem dX7_readKinds_40 : decode cX7_readKinds 40 = .ok (.iload_n 3, 1) := by decide +kernel
theorem dX7_readKinds_41 : decode cX7_readKinds 41 = .ok (.aload_n 0, 1) := by decide +kernel
theorem dX7_readKinds_42 : decode cX7_readKinds 42 = .ok (.getfield 30, 3) := by decide +kernel
theorem dX7_readKinds_45 : decode cX7_readKinds 45 = .ok (.if_icmp .ge 90, 3) := by decide +kernel
theorem dX7_readKinds_48 : decode cX7_readKinds 48 = .ok (.bipush 10, 2) := by decide +kernel
theorem dX7_readKinds_50 : decode cX7_readKinds 50 = .ok (.aload_n 1, 1) := by decide +kernel
theorem dX7_readKinds_51 : decode cX7_readKinds 51 = .ok (.iconst 2, 1) := by decide +kernel
theorem dX7_readKinds_52 : decode cX7_readKinds 52 = .ok (.iload_n 3, 1) := by decide +kernel
theorem dX7_readKinds_53 : decode cX7_readKinds 53 = .ok (.imul, 1) := by decide +kernel
theorem dX7_readKinds_54 : decode cX7_readKinds 54 = .ok (.iconst 1, 1) := by decide +kernel
theorem dX7_readKinds_55 : decode cX7_readKinds 55 = .ok (.iadd, 1) := by decide +kernel
theorem dX7_readKinds_56 : decode cX7_readKinds 56 = .ok (.invokevirtual 39, 3) := by decide +kernel
theorem dX7_readKinds_59 : decode cX7_readKinds 59 = .ok (.imul, 1) := by decide +kernel
theorem dX7_readKinds_60 : decode cX7_readKinds 60 = .ok (.istore 4, 2) := by decide +kernel
theorem dX7_readKinds_62 : decode cX7_readKinds 62 = .ok (.aload_n 2, 1) := by decide +kernel
theorem dX7_readKinds_63 : decode cX7_readKinds 63 = .ok (.aload_n 1, 1) := by decide +kernel
theorem dX7_readKinds_64 : decode cX7_readKinds 64 = .ok (.iconst 2, 1) := by decide +kernel
theorem dX7_readKinds_65 : decode cX7_readKinds 65 = .ok (.iload_n 3, 1) := by decide +kernel
theorem dX7_readKinds_66 : decode cX7_readKinds 66 = .ok (.imul, 1) := by decide +kernel
theorem dX7_readKinds_67 : decode cX7_readKinds 67 = .ok (.invokevirtual 39, 3) := by decide +kernel
theorem dX7_readKinds_70 : decode cX7_readKinds 70 = .ok (.invokevirtual 43, 3) := by decide +kernel
theorem dX7_readKinds_73 : decode cX7_readKinds 73 = .ok (.astore 5, 2) := by decide +kernel
theorem dX7_readKinds_75 : decode cX7_readKinds 75 = .ok (.aload 5, 2) := by decide +kernel
theorem dX7_readKinds_77 : decode cX7_readKinds 77 = .ok (.ifnull 18, 3) := by decide +kernel
theorem dX7_readKinds_80 : decode cX7_readKinds 80 = .ok (.iload 4, 2) := by decide +kernel
theorem dX7_readKinds_82 : decode cX7_readKinds 82 = .ok (.bipush 10, 2) := by decide +kernel
theorem dX7_readKinds_84 : decode cX7_readKinds 84 = .ok (.if_icmp .lt 11, 3) := by decide +kernel
theorem dX7_readKinds_87 : decode cX7_readKinds 87 = .ok (.iload 4, 2) := by decide +kernel
theorem dX7_readKinds_89 : decode cX7_readKinds 89 = .ok (.sipush 600, 3) := by decide +kernel
theorem dX7_readKinds_92 : decode cX7_readKinds 92 = .ok (.if_icmp .le 5, 3) := by decide +kernel
theorem dX7_readKinds_95 : decode cX7_readKinds 95 = .ok (.iconst 0, 1) := by decide +kernel
theorem dX7_readKinds_96 : decode cX7_readKinds 96 = .ok (.ireturn, 1) := by decide +kernel
theorem dX7_readKinds_97 : decode cX7_readKinds 97 = .ok (.aload_n 0, 1) := by decide +kernel
theorem dX7_readKinds_98 : decode cX7_readKinds 98 = .ok (.getfield 11, 3) := by decide +kernel
theorem dX7_readKinds_101 : decode cX7_readKinds 101 = .ok (.iload_n 3, 1) := by decide +kernel
theorem dX7_readKinds_102 : decode cX7_readKinds 102 = .ok (.aload_n 1, 1) := by decide +kernel
theorem dX7_readKinds_103 : decode cX7_readKinds 103 = .ok (.iconst 2, 1) := by decide +kernel
theorem dX7_readKinds_104 : decode cX7_readKinds 104 = .ok (.iload_n 3, 1) := by decide +kernel
theorem dX7_readKinds_105 : decode cX7_readKinds 105 = .ok (.imul, 1) := by decide +kernel
theorem dX7_readKinds_106 : decode cX7_readKinds 106 = .ok (.invokevirtual 39, 3) := by decide +kernel
theorem dX7_readKinds_109 : decode cX7_readKinds 109 = .ok (.iastore, 1) := by decide +kernel
theorem dX7_readKinds_110 : decode cX7_readKinds 110 = .ok (.aload_n 0, 1) := by decide +kernel
theorem dX7_readKinds_111 : decode cX7_readKinds 111 = .ok (.getfield 15, 3) := by decide +kernel
theorem dX7_readKinds_114 : decode cX7_readKinds 114 = .ok (.iload_n 3, 1) := by decide +kernel
theorem dX7_readKinds_115 : decode cX7_readKinds 115 = .ok (.iload 4, 2) := by decide +kernel
theorem dX7_readKinds_117 : decode cX7_readKinds 117 = .ok (.iastore, 1) := by decide +kernel
theorem dX7_readKinds_118 : decode cX7_readKinds 118 = .ok (.aload_n 0, 1) := by decide +kernel
theorem dX7_readKinds_119 : decode cX7_readKinds 119 = .ok (.getfield 18, 3) := by decide +kernel
theorem dX7_readKinds_122 : decode cX7_readKinds 122 = .ok (.iload_n 3, 1) := by decide +kernel
theorem dX7_readKinds_123 : decode cX7_readKinds 123 = .ok (.aload 5, 2) := by decide +kernel
theorem dX7_readKinds_125 : decode cX7_readKinds 125 = .ok (.getfield 49, 3) := by decide +kernel
theorem dX7_readKinds_128 : decode cX7_readKinds 128 = .ok (.iastore, 1) := by decide +kernel
theorem dX7_readKinds_129 : decode cX7_readKinds 129 = .ok (.iinc 3 1, 3) := by decide +kernel
theorem dX7_readKinds_132 : decode cX7_readKinds 132 = .ok (.goto (-92), 3) := by decide +kernel
theorem dX7_readKinds_135 : decode cX7_readKinds 135 = .ok (.iconst 1, 1) := by decide +kernel
theorem dX7_readKinds_136 : decode cX7_readKinds 136 = .ok (.ireturn, 1) := by decide +kernel
theorem dX7_foamOf_0 : decode cX7_foamOf 0 = .ok (.iload_n 1, 1) := by decide +kernel
theorem dX7_foamOf_1 : decode cX7_foamOf 1 = .ok (.ifCond .lt 9, 3) := by decide +kernel
theorem dX7_foamOf_4 : decode cX7_foamOf 4 = .ok (.iload_n 1, 1) := by decide +kernel
theorem dX7_foamOf_5 : decode cX7_foamOf 5 = .ok (.bipush 10, 2) := by decide +kernel
theorem dX7_foamOf_7 : decode cX7_foamOf 7 = .ok (.if_icmp .lt 7, 3) := by decide +kernel
theorem dX7_foamOf_10 : decode cX7_foamOf 10 = .ok (.iconst (-1), 1) := by decide +kernel
theorem dX7_foamOf_11 : decode cX7_foamOf 11 = .ok (.goto 9, 3) := by decide +kernel
theorem dX7_foamOf_14 : decode cX7_foamOf 14 = .ok (.aload_n 0, 1) := by decide +kernel
theorem dX7_foamOf_15 : decode cX7_foamOf 15 = .ok (.getfield 11, 3) := by decide +kernel
theorem dX7_foamOf_18 : decode cX7_foamOf 18 = .ok (.iload_n 1, 1) := by decide +kernel
theorem dX7_foamOf_19 : decode cX7_foamOf 19 = .ok (.iaload, 1) := by decide +kernel
theorem dX7_foamOf_20 : decode cX7_foamOf 20 = .ok (.ireturn, 1) := by decide +kernel
theorem dX7_thickOf_0 : decode cX7_thickOf 0 = .ok (.iload_n 1, 1) := by decide +kernel
theorem dX7_thickOf_1 : decode cX7_thickOf 1 = .ok (.ifCond .lt 9, 3) := by decide +kernel
theorem dX7_thickOf_4 : decode cX7_thickOf 4 = .ok (.iload_n 1, 1) := by decide +kernel
theorem dX7_thickOf_5 : decode cX7_thickOf 5 = .ok (.bipush 10, 2) := by decide +kernel
theorem dX7_thickOf_7 : decode cX7_thickOf 7 = .ok (.if_icmp .lt 7, 3) := by decide +kernel
theorem dX7_thickOf_10 : decode cX7_thickOf 10 = .ok (.iconst 0, 1) := by decide +kernel
theorem dX7_thickOf_11 : decode cX7_thickOf 11 = .ok (.goto 9, 3) := by decide +kernel
theorem dX7_thickOf_14 : decode cX7_thickOf 14 = .ok (.aload_n 0, 1) := by decide +kernel
theorem dX7_thickOf_15 : decode cX7_thickOf 15 = .ok (.getfield 15, 3) := by decide +kernel
theorem dX7_thickOf_18 : decode cX7_thickOf 18 = .ok (.iload_n 1, 1) := by decide +kernel
theorem dX7_thickOf_19 : decode cX7_thickOf 19 = .ok (.iaload, 1) := by decide +kernel
theorem dX7_thickOf_20 : decode cX7_thickOf 20 = .ok (.ireturn, 1) := by decide +kernel
theorem dX7_judge_0 : decode cX7_judge 0 = .ok (.iload_n 1, 1) := by decide +kernel
theorem dX7_judge_1 : decode cX7_judge 1 = .ok (.ifCond .lt 42, 3) := by decide +kernel
theorem dX7_judge_4 : decode cX7_judge 4 = .ok (.iload_n 1, 1) := by decide +kernel
theorem dX7_judge_5 : decode cX7_judge 5 = .ok (.bipush 10, 2) := by decide +kernel
theorem dX7_judge_7 : decode cX7_judge 7 = .ok (.if_icmp .ge 36, 3) := by decide +kernel
theorem dX7_judge_10 : decode cX7_judge 10 = .ok (.aload_n 0, 1) := by decide +kernel
theorem dX7_judge_11 : decode cX7_judge 11 = .ok (.getfield 21, 3) := by decide +kernel
theorem dX7_judge_14 : decode cX7_judge 14 = .ok (.iload_n 1, 1) := by decide +kernel
theorem dX7_judge_15 : decode cX7_judge 15 = .ok (.iload_n 3, 1) := by decide +kernel
theorem dX7_judge_16 : decode cX7_judge 16 = .ok (.ifCond .eq 25, 3) := by decide +kernel
theorem dX7_judge_19 : decode cX7_judge 19 = .ok (.aload_n 0, 1) := by decide +kernel
theorem dX7_judge_20 : decode cX7_judge 20 = .ok (.getfield 18, 3) := by decide +kernel
theorem dX7_judge_23 : decode cX7_judge 23 = .ok (.iload_n 1, 1) := by decide +kernel
theorem dX7_judge_24 : decode cX7_judge 24 = .ok (.iaload, 1) := by decide +kernel
theorem dX7_judge_25 : decode cX7_judge 25 = .ok (.iload_n 2, 1) := by decide +kernel
theorem dX7_judge_26 : decode cX7_judge 26 = .ok (.imul, 1) := by decide +kernel
theorem dX7_judge_27 : decode cX7_judge 27 = .ok (.aload_n 0, 1) := by decide +kernel
theorem dX7_judge_28 : decode cX7_judge 28 = .ok (.getfield 15, 3) := by decide +kernel
theorem dX7_judge_31 : decode cX7_judge 31 = .ok (.iload_n 1, 1) := by decide +kernel
theorem dX7_judge_32 : decode cX7_judge 32 = .ok (.iaload, 1) := by decide +kernel
theorem dX7_judge_33 : decode cX7_judge 33 = .ok (.imul, 1) := by decide +kernel
theorem dX7_judge_34 : decode cX7_judge 34 = .ok (.sipush 1000, 3) := by decide +kernel
theorem dX7_judge_37 : decode cX7_judge 37 = .ok (.idiv, 1) := by decide +kernel
theorem dX7_judge_38 : decode cX7_judge 38 = .ok (.goto 4, 3) := by decide +kernel
theorem dX7_judge_41 : decode cX7_judge 41 = .ok (.iconst (-1), 1) := by decide +kernel
theorem dX7_judge_42 : decode cX7_judge 42 = .ok (.iastore, 1) := by decide +kernel
theorem dX7_judge_43 : decode cX7_judge 43 = .ok (.return_, 1) := by decide +kernel
theorem dX7_choose_0 : decode cX7_choose 0 = .ok (.iconst 0, 1) := by decide +kernel
theorem dX7_choose_1 : decode cX7_choose 1 = .ok (.istore_n 3, 1) := by decide +kernel
theorem dX7_choose_2 : decode cX7_choose 2 = .ok (.iconst 0, 1) := by decide +kernel
theorem dX7_choose_3 : decode cX7_choose 3 = .ok (.istore 4, 2) := by decide +kernel
theorem dX7_choose_5 : decode cX7_choose 5 = .ok (.iload 4, 2) := by decide +kernel
theorem dX7_choose_7 : decode cX7_choose 7 = .ok (.iconst 3, 1) := by decide +kernel
theorem dX7_choose_8 : decode cX7_choose 8 = .ok (.if_icmp .ge 45, 3) := by decide +kernel
theorem dX7_choose_11 : decode cX7_choose 11 = .ok (.aload_n 0, 1) := by decide +kernel
theorem dX7_choose_12 : decode cX7_choose 12 = .ok (.iload 4, 2) := by decide +kernel
theorem dX7_choose_14 : decode cX7_choose 14 = .ok (.aload_n 2, 1) := by decide +kernel
theorem dX7_choose_15 : decode cX7_choose 15 = .ok (.getfield 54, 3) := by decide +kernel
theorem dX7_choose_18 : decode cX7_choose 18 = .ok (.iload 4, 2) := by decide +kernel
theorem dX7_choose_20 : decode cX7_choose 20 = .ok (.iaload, 1) := by decide +kernel
theorem dX7_choose_21 : decode cX7_choose 21 = .ok (.aload_n 1, 1) := by decide +kernel
theorem dX7_choose_22 : decode cX7_choose 22 = .ok (.getfield 59, 3) := by decide +kernel
theorem dX7_choose_25 : decode cX7_choose 25 = .ok (.iload 4, 2) := by decide +kernel
theorem dX7_choose_27 : decode cX7_choose 27 = .ok (.iaload, 1) := by decide +kernel
theorem dX7_choose_28 : decode cX7_choose 28 = .ok (.isub, 1) := by decide +kernel
theorem dX7_choose_29 : decode cX7_choose 29 = .ok (.invokevirtual 64, 3) := by decide +kernel
theorem dX7_choose_32 : decode cX7_choose 32 = .ok (.istore 5, 2) := by decide +kernel
theorem dX7_choose_34 : decode cX7_choose 34 = .ok (.iload 5, 2) := by decide +kernel
theorem dX7_choose_36 : decode cX7_choose 36 = .ok (.iconst (-1), 1) := by decide +kernel
theorem dX7_choose_37 : decode cX7_choose 37 = .ok (.if_icmp .ne 5, 3) := by decide +kernel
theorem dX7_choose_40 : decode cX7_choose 40 = .ok (.iconst (-1), 1) := by decide +kernel
theorem dX7_choose_41 : decode cX7_choose 41 = .ok (.ireturn, 1) := by decide +kernel
theorem dX7_choose_42 : decode cX7_choose 42 = .ok (.iload_n 3, 1) := by decide +kernel
theorem dX7_choose_43 : decode cX7_choose 43 = .ok (.iload 5, 2) := by decide +kernel
theorem dX7_choose_45 : decode cX7_choose 45 = .ok (.iadd, 1) := by decide +kernel
theorem dX7_choose_46 : decode cX7_choose 46 = .ok (.istore_n 3, 1) := by decide +kernel
theorem dX7_choose_47 : decode cX7_choose 47 = .ok (.iinc 4 1, 3) := by decide +kernel
theorem dX7_choose_50 : decode cX7_choose 50 = .ok (.goto (-45), 3) := by decide +kernel
theorem dX7_choose_53 : decode cX7_choose 53 = .ok (.iconst 0, 1) := by decide +kernel
theorem dX7_choose_54 : decode cX7_choose 54 = .ok (.istore 4, 2) := by decide +kernel
theorem dX7_choose_56 : decode cX7_choose 56 = .ok (.iload 4, 2) := by decide +kernel
theorem dX7_choose_58 : decode cX7_choose 58 = .ok (.bipush 6, 2) := by decide +kernel
theorem dX7_choose_60 : decode cX7_choose 60 = .ok (.if_icmp .ge 23, 3) := by decide +kernel
theorem dX7_choose_63 : decode cX7_choose 63 = .ok (.aload_n 0, 1) := by decide +kernel
theorem dX7_choose_64 : decode cX7_choose 64 = .ok (.getfield 27, 3) := by decide +kernel
theorem dX7_choose_67 : decode cX7_choose 67 = .ok (.iload 4, 2) := by decide +kernel
theorem dX7_choose_69 : decode cX7_choose 69 = .ok (.aload_n 0, 1) := by decide +kernel
theorem dX7_choose_70 : decode cX7_choose 70 = .ok (.getfield 24, 3) := by decide +kernel
theorem dX7_choose_73 : decode cX7_choose 73 = .ok (.iload 4, 2) := by decide +kernel
theorem dX7_choose_75 : decode cX7_choose 75 = .ok (.iaload, 1) := by decide +kernel
theorem dX7_choose_76 : decode cX7_choose 76 = .ok (.iastore, 1) := by decide +kernel
theorem dX7_choose_77 : decode cX7_choose 77 = .ok (.iinc 4 1, 3) := by decide +kernel
theorem dX7_choose_80 : decode cX7_choose 80 = .ok (.goto (-24), 3) := by decide +kernel
theorem dX7_choose_83 : decode cX7_choose 83 = .ok (.iload_n 3, 1) := by decide +kernel
theorem dX7_choose_84 : decode cX7_choose 84 = .ok (.ireturn, 1) := by decide +kernel
theorem dX7_choosePair_0 : decode cX7_choosePair 0 = .ok (.iconst (-1), 1) := by decide +kernel
theorem dX7_choosePair_1 : decode cX7_choosePair 1 = .ok (.istore_n 3, 1) := by decide +kernel
theorem dX7_choosePair_2 : decode cX7_choosePair 2 = .ok (.iconst 0, 1) := by decide +kernel
theorem dX7_choosePair_3 : decode cX7_choosePair 3 = .ok (.istore 4, 2) := by decide +kernel
theorem dX7_choosePair_5 : decode cX7_choosePair 5 = .ok (.iload 4, 2) := by decide +kernel
theorem dX7_choosePair_7 : decode cX7_choosePair 7 = .ok (.aload_n 0, 1) := by decide +kernel
theorem dX7_choosePair_8 : decode cX7_choosePair 8 = .ok (.getfield 30, 3) := by decide +kernel
theorem dX7_choosePair_11 : decode cX7_choosePair 11 = .ok (.if_icmp .ge 133, 3) := by decide +kernel
theorem dX7_choosePair_14 : decode cX7_choosePair 14 = .ok (.iconst 0, 1) := by decide +kernel
theorem dX7_choosePair_15 : decode cX7_choosePair 15 = .ok (.istore 5, 2) := by decide +kernel
theorem dX7_choosePair_17 : decode cX7_choosePair 17 = .ok (.iload 5, 2) := by decide +kernel
theorem dX7_choosePair_19 : decode cX7_choosePair 19 = .ok (.aload_n 0, 1) := by decide +kernel
theorem dX7_choosePair_20 : decode cX7_choosePair 20 = .ok (.getfield 30, 3) := by decide +kernel
theorem dX7_choosePair_23 : decode cX7_choosePair 23 = .ok (.if_icmp .ge 115, 3) := by decide +kernel
theorem dX7_choosePair_26 : decode cX7_choosePair 26 = .ok (.aload_n 0, 1) := by decide +kernel
theorem dX7_choosePair_27 : decode cX7_choosePair 27 = .ok (.getfield 21, 3) := by decide +kernel
theorem dX7_choosePair_30 : decode cX7_choosePair 30 = .ok (.iload 4, 2) := by decide +kernel
theorem dX7_choosePair_32 : decode cX7_choosePair 32 = .ok (.iaload, 1) := by decide +kernel
theorem dX7_choosePair_33 : decode cX7_choosePair 33 = .ok (.iconst (-1), 1) := by decide +kernel
theorem dX7_choosePair_34 : decode cX7_choosePair 34 = .ok (.if_icmp .eq 98, 3) := by decide +kernel
theorem dX7_choosePair_37 : decode cX7_choosePair 37 = .ok (.aload_n 0, 1) := by decide +kernel
theorem dX7_choosePair_38 : decode cX7_choosePair 38 = .ok (.getfield 21, 3) := by decide +kernel
theorem dX7_choosePair_41 : decode cX7_choosePair 41 = .ok (.iload 5, 2) := by decide +kernel
theorem dX7_choosePair_43 : decode cX7_choosePair 43 = .ok (.iaload, 1) := by decide +kernel
theorem dX7_choosePair_44 : decode cX7_choosePair 44 = .ok (.iconst (-1), 1) := by decide +kernel
theorem dX7_choosePair_45 : decode cX7_choosePair 45 = .ok (.if_icmp .eq 87, 3) := by decide +kernel
theorem dX7_choosePair_48 : decode cX7_choosePair 48 = .ok (.aload_n 0, 1) := by decide +kernel
theorem dX7_choosePair_49 : decode cX7_choosePair 49 = .ok (.getfield 15, 3) := by decide +kernel
theorem dX7_choosePair_52 : decode cX7_choosePair 52 = .ok (.iload 4, 2) := by decide +kernel
theorem dX7_choosePair_54 : decode cX7_choosePair 54 = .ok (.iaload, 1) := by decide +kernel
theorem dX7_choosePair_55 : decode cX7_choosePair 55 = .ok (.aload_n 0, 1) := by decide +kernel
theorem dX7_choosePair_56 : decode cX7_choosePair 56 = .ok (.getfield 15, 3) := by decide +kernel
theorem dX7_choosePair_59 : decode cX7_choosePair 59 = .ok (.iload 5, 2) := by decide +kernel
theorem dX7_choosePair_61 : decode cX7_choosePair 61 = .ok (.iaload, 1) := by decide +kernel
theorem dX7_choosePair_62 : decode cX7_choosePair 62 = .ok (.iadd, 1) := by decide +kernel
theorem dX7_choosePair_63 : decode cX7_choosePair 63 = .ok (.iload_n 2, 1) := by decide +kernel
theorem dX7_choosePair_64 : decode cX7_choosePair 64 = .ok (.if_icmp .le 6, 3) := by decide +kernel
theorem dX7_choosePair_67 : decode cX7_choosePair 67 = .ok (.goto 65, 3) := by decide +kernel
theorem dX7_choosePair_70 : decode cX7_choosePair 70 = .ok (.iload_n 3, 1) := by decide +kernel
theorem dX7_choosePair_71 : decode cX7_choosePair 71 = .ok (.iconst (-1), 1) := by decide +kernel
theorem dX7_choosePair_72 : decode cX7_choosePair 72 = .ok (.if_icmp .eq 22, 3) := by decide +kernel
theorem dX7_choosePair_75 : decode cX7_choosePair 75 = .ok (.aload_n 0, 1) := by decide +kernel
theorem dX7_choosePair_76 : decode cX7_choosePair 76 = .ok (.getfield 21, 3) := by decide +kernel
theorem dX7_choosePair_79 : decode cX7_choosePair 79 = .ok (.iload 4, 2) := by decide +kernel
theorem dX7_choosePair_81 : decode cX7_choosePair 81 = .ok (.iaload, 1) := by decide +kernel
theorem dX7_choosePair_82 : decode cX7_choosePair 82 = .ok (.aload_n 0, 1) := by decide +kernel
theorem dX7_choosePair_83 : decode cX7_choosePair 83 = .ok (.getfield 21, 3) := by decide +kernel
theorem dX7_choosePair_86 : decode cX7_choosePair 86 = .ok (.iload 5, 2) := by decide +kernel
theorem dX7_choosePair_88 : decode cX7_choosePair 88 = .ok (.iaload, 1) := by decide +kernel
theorem dX7_choosePair_89 : decode cX7_choosePair 89 = .ok (.iadd, 1) := by decide +kernel
theorem dX7_choosePair_90 : decode cX7_choosePair 90 = .ok (.iload_n 3, 1) := by decide +kernel
theorem dX7_choosePair_91 : decode cX7_choosePair 91 = .ok (.if_icmp .ge 41, 3) := by decide +kernel
theorem dX7_choosePair_94 : decode cX7_choosePair 94 = .ok (.aload_n 0, 1) := by decide +kernel
theorem dX7_choosePair_95 : decode cX7_choosePair 95 = .ok (.getfield 21, 3) := by decide +kernel
theorem dX7_choosePair_98 : decode cX7_choosePair 98 = .ok (.iload 4, 2) := by decide +kernel
theorem dX7_choosePair_100 : decode cX7_choosePair 100 = .ok (.iaload, 1) := by decide +kernel
theorem dX7_choosePair_101 : decode cX7_choosePair 101 = .ok (.aload_n 0, 1) := by decide +kernel
theorem dX7_choosePair_102 : decode cX7_choosePair 102 = .ok (.getfield 21, 3) := by decide +kernel
theorem dX7_choosePair_105 : decode cX7_choosePair 105 = .ok (.iload 5, 2) := by decide +kernel
theorem dX7_choosePair_107 : decode cX7_choosePair 107 = .ok (.iaload, 1) := by decide +kernel
theorem dX7_choosePair_108 : decode cX7_choosePair 108 = .ok (.iadd, 1) := by decide +kernel
theorem dX7_choosePair_109 : decode cX7_choosePair 109 = .ok (.istore_n 3, 1) := by decide +kernel
theorem dX7_choosePair_110 : decode cX7_choosePair 110 = .ok (.aload_n 0, 1) := by decide +kernel
theorem dX7_choosePair_111 : decode cX7_choosePair 111 = .ok (.getfield 24, 3) := by decide +kernel
theorem dX7_choosePair_114 : decode cX7_choosePair 114 = .ok (.iconst 2, 1) := by decide +kernel
theorem dX7_choosePair_115 : decode cX7_choosePair 115 = .ok (.iload_n 1, 1) := by decide +kernel
theorem dX7_choosePair_116 : decode cX7_choosePair 116 = .ok (.imul, 1) := by decide +kernel
theorem dX7_choosePair_117 : decode cX7_choosePair 117 = .ok (.iload 4, 2) := by decide +kernel
theorem dX7_choosePair_119 : decode cX7_choosePair 119 = .ok (.iastore, 1) := by decide +kernel
theorem dX7_choosePair_120 : decode cX7_choosePair 120 = .ok (.aload_n 0, 1) := by decide +kernel
theorem dX7_choosePair_121 : decode cX7_choosePair 121 = .ok (.getfield 24, 3) := by decide +kernel
theorem dX7_choosePair_124 : decode cX7_choosePair 124 = .ok (.iconst 2, 1) := by decide +kernel
theorem dX7_choosePair_125 : decode cX7_choosePair 125 = .ok (.iload_n 1, 1) := by decide +kernel
theorem dX7_choosePair_126 : decode cX7_choosePair 126 = .ok (.imul, 1) := by decide +kernel
theorem dX7_choosePair_127 : decode cX7_choosePair 127 = .ok (.iconst 1, 1) := by decide +kernel
theorem dX7_choosePair_128 : decode cX7_choosePair 128 = .ok (.iadd, 1) := by decide +kernel
theorem dX7_choosePair_129 : decode cX7_choosePair 129 = .ok (.iload 5, 2) := by decide +kernel
theorem dX7_choosePair_131 : decode cX7_choosePair 131 = .ok (.iastore, 1) := by decide +kernel
theorem dX7_choosePair_132 : decode cX7_choosePair 132 = .ok (.iinc 5 1, 3) := by decide +kernel
theorem dX7_choosePair_135 : decode cX7_choosePair 135 = .ok (.goto (-118), 3) := by decide +kernel
theorem dX7_choosePair_138 : decode cX7_choosePair 138 = .ok (.iinc 4 1, 3) := by decide +kernel
theorem dX7_choosePair_141 : decode cX7_choosePair 141 = .ok (.goto (-136), 3) := by decide +kernel
theorem dX7_choosePair_144 : decode cX7_choosePair 144 = .ok (.iload_n 3, 1) := by decide +kernel
theorem dX7_choosePair_145 : decode cX7_choosePair 145 = .ok (.ireturn, 1) := by decide +kernel
theorem dX8_init_0 : decode cX8_init 0 = .ok (.aload_n 0, 1) := by decide +kernel
theorem dX8_init_1 : decode cX8_init 1 = .ok (.invokespecial 3, 3) := by decide +kernel
theorem dX8_init_4 : decode cX8_init 4 = .ok (.aload_n 0, 1) := by decide +kernel
theorem dX8_init_5 : decode cX8_init 5 = .ok (.sipush 640, 3) := by decide +kernel
theorem dX8_init_8 : decode cX8_init 8 = .ok (.newarray .byte, 2) := by decide +kernel
theorem dX8_init_10 : decode cX8_init 10 = .ok (.putfield 11, 3) := by decide +kernel
theorem dX8_init_13 : decode cX8_init 13 = .ok (.aload_n 0, 1) := by decide +kernel
theorem dX8_init_14 : decode cX8_init 14 = .ok (.iconst 0, 1) := by decide +kernel
theorem dX8_init_15 : decode cX8_init 15 = .ok (.putfield 15, 3) := by decide +kernel
theorem dX8_init_18 : decode cX8_init 18 = .ok (.return_, 1) := by decide +kernel
theorem dX8_add_0 : decode cX8_add 0 = .ok (.bipush 24, 2) := by decide +kernel
theorem dX8_add_2 : decode cX8_add 2 = .ok (.istore_n 2, 1) := by decide +kernel
theorem dX8_add_3 : decode cX8_add 3 = .ok (.iload_n 2, 1) := by decide +kernel
theorem dX8_add_4 : decode cX8_add 4 = .ok (.ifCond .lt 42, 3) := by decide +kernel
theorem dX8_add_7 : decode cX8_add 7 = .ok (.aload_n 0, 1) := by decide +kernel
theorem dX8_add_8 : decode cX8_add 8 = .ok (.getfield 15, 3) := by decide +kernel
theorem dX8_add_11 : decode cX8_add 11 = .ok (.sipush 640, 3) := by decide +kernel
theorem dX8_add_14 : decode cX8_add 14 = .ok (.if_icmp .ge 32, 3) := by decide +kernel
theorem dX8_add_17 : decode cX8_add 17 = .ok (.aload_n 0, 1) := by decide +kernel
theorem dX8_add_18 : decode cX8_add 18 = .ok (.getfield 11, 3) := by decide +kernel
theorem dX8_add_21 : decode cX8_add 21 = .ok (.aload_n 0, 1) := by decide +kernel
theorem dX8_add_22 : decode cX8_add 22 = .ok (.getfield 15, 3) := by decide +kernel
theorem dX8_add_25 : decode cX8_add 25 = .ok (.iload_n 1, 1) := by decide +kernel
theorem dX8_add_26 : decode cX8_add 26 = .ok (.iload_n 2, 1) := by decide +kernel
theorem dX8_add_27 : decode cX8_add 27 = .ok (.ishr, 1) := by decide +kernel
theorem dX8_add_28 : decode cX8_add 28 = .ok (.i2b, 1) := by decide +kernel
theorem dX8_add_29 : decode cX8_add 29 = .ok (.bastore, 1) := by decide +kernel
theorem dX8_add_30 : decode cX8_add 30 = .ok (.aload_n 0, 1) := by decide +kernel
theorem dX8_add_31 : decode cX8_add 31 = .ok (.dup, 1) := by decide +kernel
theorem dX8_add_32 : decode cX8_add 32 = .ok (.getfield 15, 3) := by decide +kernel
theorem dX8_add_35 : decode cX8_add 35 = .ok (.iconst 1, 1) := by decide +kernel
theorem dX8_add_36 : decode cX8_add 36 = .ok (.iadd, 1) := by decide +kernel
theorem dX8_add_37 : decode cX8_add 37 = .ok (.putfield 15, 3) := by decide +kernel
theorem dX8_add_40 : decode cX8_add 40 = .ok (.iinc 2 (-8), 3) := by decide +kernel
theorem dX8_add_43 : decode cX8_add 43 = .ok (.goto (-40), 3) := by decide +kernel
theorem dX8_add_46 : decode cX8_add 46 = .ok (.return_, 1) := by decide +kernel
theorem dX8_byteAt_0 : decode cX8_byteAt 0 = .ok (.iload_n 1, 1) := by decide +kernel
theorem dX8_byteAt_1 : decode cX8_byteAt 1 = .ok (.ifCond .lt 18, 3) := by decide +kernel
theorem dX8_byteAt_4 : decode cX8_byteAt 4 = .ok (.iload_n 1, 1) := by decide +kernel
theorem dX8_byteAt_5 : decode cX8_byteAt 5 = .ok (.aload_n 0, 1) := by decide +kernel
theorem dX8_byteAt_6 : decode cX8_byteAt 6 = .ok (.getfield 15, 3) := by decide +kernel
theorem dX8_byteAt_9 : decode cX8_byteAt 9 = .ok (.if_icmp .ge 10, 3) := by decide +kernel
theorem dX8_byteAt_12 : decode cX8_byteAt 12 = .ok (.iload_n 1, 1) := by decide +kernel
theorem dX8_byteAt_13 : decode cX8_byteAt 13 = .ok (.sipush 640, 3) := by decide +kernel
theorem dX8_byteAt_16 : decode cX8_byteAt 16 = .ok (.if_icmp .lt 7, 3) := by decide +kernel
theorem dX8_byteAt_19 : decode cX8_byteAt 19 = .ok (.iconst (-1), 1) := by decide +kernel
theorem dX8_byteAt_20 : decode cX8_byteAt 20 = .ok (.goto 13, 3) := by decide +kernel
theorem dX8_byteAt_23 : decode cX8_byteAt 23 = .ok (.aload_n 0, 1) := by decide +kernel
theorem dX8_byteAt_24 : decode cX8_byteAt 24 = .ok (.getfield 11, 3) := by decide +kernel
theorem dX8_byteAt_27 : decode cX8_byteAt 27 = .ok (.iload_n 1, 1) := by decide +kernel
theorem dX8_byteAt_28 : decode cX8_byteAt 28 = .ok (.baload, 1) := by decide +kernel
theorem dX8_byteAt_29 : decode cX8_byteAt 29 = .ok (.sipush 255, 3) := by decide +kernel
theorem dX8_byteAt_32 : decode cX8_byteAt 32 = .ok (.iand, 1) := by decide +kernel
theorem dX8_byteAt_33 : decode cX8_byteAt 33 = .ok (.ireturn, 1) := by decide +kernel
theorem dX9_init_0 : decode cX9_init 0 = .ok (.aload_n 0, 1) := by decide +kernel
theorem dX9_init_1 : decode cX9_init 1 = .ok (.invokespecial 3, 3) := by decide +kernel
theorem dX9_init_4 : decode cX9_init 4 = .ok (.aload_n 0, 1) := by decide +kernel
theorem dX9_init_5 : decode cX9_init 5 = .ok (.iconst 3, 1) := by decide +kernel
theorem dX9_init_6 : decode cX9_init 6 = .ok (.newarray .int, 2) := by decide +kernel
theorem dX9_init_8 : decode cX9_init 8 = .ok (.putfield 9, 3) := by decide +kernel
theorem dX9_init_11 : decode cX9_init 11 = .ok (.aload_n 0, 1) := by decide +kernel
theorem dX9_init_12 : decode cX9_init 12 = .ok (.bipush 6, 2) := by decide +kernel
theorem dX9_init_14 : decode cX9_init 14 = .ok (.anewarray 15, 3) := by decide +kernel
theorem dX9_init_17 : decode cX9_init 17 = .ok (.putfield 17, 3) := by decide +kernel
theorem dX9_init_20 : decode cX9_init 20 = .ok (.aload_n 0, 1) := by decide +kernel
theorem dX9_init_21 : decode cX9_init 21 = .ok (.bipush 6, 2) := by decide +kernel
theorem dX9_init_23 : decode cX9_init 23 = .ok (.newarray .int, 2) := by decide +kernel
theorem dX9_init_25 : decode cX9_init 25 = .ok (.putfield 21, 3) := by decide +kernel
theorem dX9_init_28 : decode cX9_init 28 = .ok (.aload_n 0, 1) := by decide +kernel
theorem dX9_init_29 : decode cX9_init 29 = .ok (.bipush 6, 2) := by decide +kernel
theorem dX9_init_31 : decode cX9_init 31 = .ok (.newarray .int, 2) := by decide +kernel
theorem dX9_init_33 : decode cX9_init 33 = .ok (.putfield 24, 3) := by decide +kernel
theorem dX9_init_36 : decode cX9_init 36 = .ok (.aload_n 0, 1) := by decide +kernel
theorem dX9_init_37 : decode cX9_init 37 = .ok (.iconst 1, 1) := by decide +kernel
theorem dX9_init_38 : decode cX9_init 38 = .ok (.putfield 27, 3) := by decide +kernel
theorem dX9_init_41 : decode cX9_init 41 = .ok (.aload_n 0, 1) := by decide +kernel
theorem dX9_init_42 : decode cX9_init 42 = .ok (.iconst 0, 1) := by decide +kernel
theorem dX9_init_43 : decode cX9_init 43 = .ok (.putfield 31, 3) := by decide +kernel
theorem dX9_init_46 : decode cX9_init 46 = .ok (.return_, 1) := by decide +kernel
theorem dX9_foamOn_0 : decode cX9_foamOn 0 = .ok (.iload_n 1, 1) := by decide +kernel
theorem dX9_foamOn_1 : decode cX9_foamOn 1 = .ok (.invokestatic 34, 3) := by decide +kernel
theorem dX9_foamOn_4 : decode cX9_foamOn 4 = .ok (.ifCond .eq 12, 3) := by decide +kernel
theorem dX9_foamOn_7 : decode cX9_foamOn 7 = .ok (.aload_n 0, 1) := by decide +kernel
theorem dX9_foamOn_8 : decode cX9_foamOn 8 = .ok (.getfield 17, 3) := by decide +kernel
theorem dX9_foamOn_11 : decode cX9_foamOn 11 = .ok (.iload_n 1, 1) := by decide +kernel
theorem dX9_foamOn_12 : decode cX9_foamOn 12 = .ok (.aaload, 1) := by decide +kernel
theorem dX9_foamOn_13 : decode cX9_foamOn 13 = .ok (.goto 4, 3) := by decide +kernel
theorem dX9_foamOn_16 : decode cX9_foamOn 16 = .ok (.aconst_null, 1) := by decide +kernel
theorem dX9_foamOn_17 : decode cX9_foamOn 17 = .ok (.areturn, 1) := by decide +kernel
theorem dX9_putPad_0 : decode cX9_putPad 0 = .ok (.iload_n 1, 1) := by decide +kernel
theorem dX9_putPad_1 : decode cX9_putPad 1 = .ok (.invokestatic 34, 3) := by decide +kernel
theorem dX9_putPad_4 : decode cX9_putPad 4 = .ok (.ifCond .eq 25, 3) := by decide +kernel
theorem dX9_putPad_7 : decode cX9_putPad 7 = .ok (.aload_n 0, 1) := by decide +kernel
theorem dX9_putPad_8 : decode cX9_putPad 8 = .ok (.getfield 17, 3) := by decide +kernel
theorem dX9_putPad_11 : decode cX9_putPad 11 = .ok (.iload_n 1, 1) := by decide +kernel
theorem dX9_putPad_12 : decode cX9_putPad 12 = .ok (.aload_n 2, 1) := by decide +kernel
theorem dX9_putPad_13 : decode cX9_putPad 13 = .ok (.aastore, 1) := by decide +kernel
theorem dX9_putPad_14 : decode cX9_putPad 14 = .ok (.aload_n 0, 1) := by decide +kernel
theorem dX9_putPad_15 : decode cX9_putPad 15 = .ok (.getfield 21, 3) := by decide +kernel
theorem dX9_putPad_18 : decode cX9_putPad 18 = .ok (.iload_n 1, 1) := by decide +kernel
theorem dX9_putPad_19 : decode cX9_putPad 19 = .ok (.iload_n 3, 1) := by decide +kernel
theorem dX9_putPad_20 : decode cX9_putPad 20 = .ok (.iastore, 1) := by decide +kernel
theorem dX9_putPad_21 : decode cX9_putPad 21 = .ok (.aload_n 0, 1) := by decide +kernel
theorem dX9_putPad_22 : decode cX9_putPad 22 = .ok (.getfield 24, 3) := by decide +kernel
theorem dX9_putPad_25 : decode cX9_putPad 25 = .ok (.iload_n 1, 1) := by decide +kernel
theorem dX9_putPad_26 : decode cX9_putPad 26 = .ok (.iload 4, 2) := by decide +kernel
theorem dX9_putPad_28 : decode cX9_putPad 28 = .ok (.iastore, 1) := by decide +kernel
theorem dX9_putPad_29 : decode cX9_putPad 29 = .ok (.return_, 1) := by decide +kernel
theorem dX9_goesInto_0 : decode cX9_goesInto 0 = .ok (.iconst 0, 1) := by decide +kernel
theorem dX9_goesInto_1 : decode cX9_goesInto 1 = .ok (.istore_n 3, 1) := by decide +kernel
theorem dX9_goesInto_2 : decode cX9_goesInto 2 = .ok (.iload_n 3, 1) := by decide +kernel
theorem dX9_goesInto_3 : decode cX9_goesInto 3 = .ok (.iconst 3, 1) := by decide +kernel
theorem dX9_goesInto_4 : decode cX9_goesInto 4 = .ok (.if_icmp .ge 83, 3) := by decide +kernel
theorem dX9_goesInto_7 : decode cX9_goesInto 7 = .ok (.iconst 0, 1) := by decide +kernel
theorem dX9_goesInto_8 : decode cX9_goesInto 8 = .ok (.istore 4, 2) := by decide +kernel
theorem dX9_goesInto_10 : decode cX9_goesInto 10 = .ok (.iload 4, 2) := by decide +kernel
theorem dX9_goesInto_12 : decode cX9_goesInto 12 = .ok (.iconst 3, 1) := by decide +kernel
theorem dX9_goesInto_13 : decode cX9_goesInto 13 = .ok (.if_icmp .ge 68, 3) := by decide +kernel
theorem dX9_goesInto_16 : decode cX9_goesInto 16 = .ok (.iload_n 3, 1) := by decide +kernel
theorem dX9_goesInto_17 : decode cX9_goesInto 17 = .ok (.iload 4, 2) := by decide +kernel
theorem dX9_goesInto_19 : decode cX9_goesInto 19 = .ok (.if_icmp .eq 56, 3) := by decide +kernel
theorem dX9_goesInto_22 : decode cX9_goesInto 22 = .ok (.aload_n 0, 1) := by decide +kernel
theorem dX9_goesInto_23 : decode cX9_goesInto 23 = .ok (.iconst 0, 1) := by decide +kernel
theorem dX9_goesInto_24 : decode cX9_goesInto 24 = .ok (.iload_n 2, 1) := by decide +kernel
theorem dX9_goesInto_25 : decode cX9_goesInto 25 = .ok (.aload_n 1, 1) := by decide +kernel
theorem dX9_goesInto_26 : decode cX9_goesInto 26 = .ok (.getfield 38, 3) := by decide +kernel
theorem dX9_goesInto_29 : decode cX9_goesInto 29 = .ok (.iload_n 3, 1) := by decide +kernel
theorem dX9_goesInto_30 : decode cX9_goesInto 30 = .ok (.iaload, 1) := by decide +kernel
theorem dX9_goesInto_31 : decode cX9_goesInto 31 = .ok (.invokevirtual 43, 3) := by decide +kernel
theorem dX9_goesInto_34 : decode cX9_goesInto 34 = .ok (.ifCond .eq 41, 3) := by decide +kernel
theorem dX9_goesInto_37 : decode cX9_goesInto 37 = .ok (.aload_n 0, 1) := by decide +kernel
theorem dX9_goesInto_38 : decode cX9_goesInto 38 = .ok (.iconst 1, 1) := by decide +kernel
theorem dX9_goesInto_39 : decode cX9_goesInto 39 = .ok (.iload_n 2, 1) := by decide +kernel
theorem dX9_goesInto_40 : decode cX9_goesInto 40 = .ok (.aload_n 1, 1) := by decide +kernel
theorem dX9_goesInto_41 : decode cX9_goesInto 41 = .ok (.getfield 38, 3) := by decide +kernel
theorem dX9_goesInto_44 : decode cX9_goesInto 44 = .ok (.iload 4, 2) := by decide +kernel
theorem dX9_goesInto_46 : decode cX9_goesInto 46 = .ok (.iaload, 1) := by decide +kernel
theorem dX9_goesInto_47 : decode cX9_goesInto 47 = .ok (.invokevirtual 43, 3) := by decide +kernel
theorem dX9_goesInto_50 : decode cX9_goesInto 50 = .ok (.ifCond .eq 25, 3) := by decide +kernel
theorem dX9_goesInto_53 : decode cX9_goesInto 53 = .ok (.aload_n 0, 1) := by decide +kernel
theorem dX9_goesInto_54 : decode cX9_goesInto 54 = .ok (.iconst 2, 1) := by decide +kernel
theorem dX9_goesInto_55 : decode cX9_goesInto 55 = .ok (.iload_n 2, 1) := by decide +kernel
theorem dX9_goesInto_56 : decode cX9_goesInto 56 = .ok (.aload_n 1, 1) := by decide +kernel
theorem dX9_goesInto_57 : decode cX9_goesInto 57 = .ok (.getfield 38, 3) := by decide +kernel
theorem dX9_goesInto_60 : decode cX9_goesInto 60 = .ok (.iconst 3, 1) := by decide +kernel
theorem dX9_goesInto_61 : decode cX9_goesInto 61 = .ok (.iload_n 3, 1) := by decide +kernel
theorem dX9_goesInto_62 : decode cX9_goesInto 62 = .ok (.isub, 1) := by decide +kernel
theorem dX9_goesInto_63 : decode cX9_goesInto 63 = .ok (.iload 4, 2) := by decide +kernel
theorem dX9_goesInto_65 : decode cX9_goesInto 65 = .ok (.isub, 1) := by decide +kernel
theorem dX9_goesInto_66 : decode cX9_goesInto 66 = .ok (.iaload, 1) := by decide +kernel
theorem dX9_goesInto_67 : decode cX9_goesInto 67 = .ok (.invokevirtual 43, 3) := by decide +kernel
theorem dX9_goesInto_70 : decode cX9_goesInto 70 = .ok (.ifCond .eq 5, 3) := by decide +kernel
theorem dX9_goesInto_73 : decode cX9_goesInto 73 = .ok (.iconst 1, 1) := by decide +kernel
theorem dX9_goesInto_74 : decode cX9_goesInto 74 = .ok (.ireturn, 1) := by decide +kernel
theorem dX9_goesInto_75 : decode cX9_goesInto 75 = .ok (.iinc 4 1, 3) := by decide +kernel
theorem dX9_goesInto_78 : decode cX9_goesInto 78 = .ok (.goto (-68), 3) := by decide +kernel
theorem dX9_goesInto_81 : decode cX9_goesInto 81 = .ok (.iinc 3 1, 3) := by decide +kernel
theorem dX9_goesInto_84 : decode cX9_goesInto 84 = .ok (.goto (-82), 3) := by decide +kernel
theorem dX9_goesInto_87 : decode cX9_goesInto 87 = .ok (.iconst 0, 1) := by decide +kernel
theorem dX9_goesInto_88 : decode cX9_goesInto 88 = .ok (.ireturn, 1) := by decide +kernel
theorem dX9_fits_0 : decode cX9_fits 0 = .ok (.aload_n 0, 1) := by decide +kernel
theorem dX9_fits_1 : decode cX9_fits 1 = .ok (.getfield 9, 3) := by decide +kernel
theorem dX9_fits_4 : decode cX9_fits 4 = .ok (.iload_n 1, 1) := by decide +kernel
theorem dX9_fits_5 : decode cX9_fits 5 = .ok (.iaload, 1) := by decide +kernel
theorem dX9_fits_6 : decode cX9_fits 6 = .ok (.iconst 2, 1) := by decide +kernel
theorem dX9_fits_7 : decode cX9_fits 7 = .ok (.iload_n 2, 1) := by decide +kernel
theorem dX9_fits_8 : decode cX9_fits 8 = .ok (.imul, 1) := by decide +kernel
theorem dX9_fits_9 : decode cX9_fits 9 = .ok (.iadd, 1) := by decide +kernel
theorem dX9_fits_10 : decode cX9_fits 10 = .ok (.iload_n 3, 1) := by decide +kernel
theorem dX9_fits_11 : decode cX9_fits 11 = .ok (.if_icmp .gt 7, 3) := by decide +kernel
theorem dX9_fits_14 : decode cX9_fits 14 = .ok (.iconst 1, 1) := by decide +kernel
theorem dX9_fits_15 : decode cX9_fits 15 = .ok (.goto 4, 3) := by decide +kernel
theorem dX9_fits_18 : decode cX9_fits 18 = .ok (.iconst 0, 1) := by decide +kernel
theorem dX9_fits_19 : decode cX9_fits 19 = .ok (.ireturn, 1) := by decide +kernel
theorem dX10_init_0 : decode cX10_init 0 = .ok (.aload_n 0, 1) := by decide +kernel
theorem dX10_init_1 : decode cX10_init 1 = .ok (.invokespecial 1, 3) := by decide +kernel
theorem dX10_init_4 : decode cX10_init 4 = .ok (.aload_n 0, 1) := by decide +kernel
theorem dX10_init_5 : decode cX10_init 5 = .ok (.bipush 17, 2) := by decide +kernel
theorem dX10_init_7 : decode cX10_init 7 = .ok (.newarray .long, 2) := by decide +kernel
theorem dX10_init_9 : decode cX10_init 9 = .ok (.putfield 9, 3) := by decide +kernel
theorem dX10_init_12 : decode cX10_init 12 = .ok (.aload_n 0, 1) := by decide +kernel
theorem dX10_init_13 : decode cX10_init 13 = .ok (.sipush 600, 3) := by decide +kernel
theorem dX10_init_16 : decode cX10_init 16 = .ok (.newarray .int, 2) := by decide +kernel
theorem dX10_init_18 : decode cX10_init 18 = .ok (.putfield 13, 3) := by decide +kernel
theorem dX10_init_21 : decode cX10_init 21 = .ok (.aload_n 0, 1) := by decide +kernel
theorem dX10_init_22 : decode cX10_init 22 = .ok (.sipush 600, 3) := by decide +kernel
theorem dX10_init_25 : decode cX10_init 25 = .ok (.newarray .int, 2) := by decide +kernel
theorem dX10_init_27 : decode cX10_init 27 = .ok (.putfield 17, 3) := by decide +kernel
theorem dX10_init_30 : decode cX10_init 30 = .ok (.aload_n 0, 1) := by decide +kernel
theorem dX10_init_31 : decode cX10_init 31 = .ok (.sipush 600, 3) := by decide +kernel
theorem dX10_init_34 : decode cX10_init 34 = .ok (.newarray .long, 2) := by decide +kernel
theorem dX10_init_36 : decode cX10_init 36 = .ok (.putfield 20, 3) := by decide +kernel
theorem dX10_init_39 : decode cX10_init 39 = .ok (.aload_n 0, 1) := by decide +kernel
theorem dX10_init_40 : decode cX10_init 40 = .ok (.iconst 0, 1) := by decide +kernel
theorem dX10_init_41 : decode cX10_init 41 = .ok (.putfield 23, 3) := by decide +kernel
theorem dX10_init_44 : decode cX10_init 44 = .ok (.aload_n 0, 1) := by decide +kernel
theorem dX10_init_45 : decode cX10_init 45 = .ok (.iconst 0, 1) := by decide +kernel
theorem dX10_init_46 : decode cX10_init 46 = .ok (.putfield 27, 3) := by decide +kernel
theorem dX10_init_49 : decode cX10_init 49 = .ok (.iconst 0, 1) := by decide +kernel
theorem dX10_init_50 : decode cX10_init 50 = .ok (.istore_n 1, 1) := by decide +kernel
theorem dX10_init_51 : decode cX10_init 51 = .ok (.lconst 0, 1) := by decide +kernel
theorem dX10_init_52 : decode cX10_init 52 = .ok (.lstore_n 2, 1) := by decide +kernel
theorem dX10_init_53 : decode cX10_init 53 = .ok (.iconst 0, 1) := by decide +kernel
theorem dX10_init_54 : decode cX10_init 54 = .ok (.istore 4, 2) := by decide +kernel
theorem dX10_init_56 : decode cX10_init 56 = .ok (.iload 4, 2) := by decide +kernel
theorem dX10_init_58 : decode cX10_init 58 = .ok (.ldc 30, 2) := by decide +kernel
theorem dX10_init_60 : decode cX10_init 60 = .ok (.invokevirtual 32, 3) := by decide +kernel
theorem dX10_init_63 : decode cX10_init 63 = .ok (.if_icmp .ge 57, 3) := by decide +kernel
theorem dX10_init_66 : decode cX10_init 66 = .ok (.iload_n 1, 1) := by decide +kernel
theorem dX10_init_67 : decode cX10_init 67 = .ok (.aload_n 0, 1) := by decide +kernel
theorem dX10_init_68 : decode cX10_init 68 = .ok (.getfield 9, 3) := by decide +kernel
theorem dX10_init_71 : decode cX10_init 71 = .ok (.arraylength, 1) := by decide +kernel
theorem dX10_init_72 : decode cX10_init 72 = .ok (.if_icmp .ge 48, 3) := by decide +kernel
theorem dX10_init_75 : decode cX10_init 75 = .ok (.ldc 30, 2) := by decide +kernel
theorem dX10_init_77 : decode cX10_init 77 = .ok (.iload 4, 2) := by decide +kernel
theorem dX10_init_79 : decode cX10_init 79 = .ok (.invokevirtual 37, 3) := by decide +kernel
theorem dX10_init_82 : decode cX10_init 82 = .ok (.bipush 32, 2) := by decide +kernel
theorem dX10_init_84 : decode cX10_init 84 = .ok (.if_icmp .ne 18, 3) := by decide +kernel
theorem dX10_init_87 : decode cX10_init 87 = .ok (.aload_n 0, 1) := by decide +kernel
theorem dX10_init_88 : decode cX10_init 88 = .ok (.getfield 9, 3) := by decide +kernel
theorem dX10_init_91 : decode cX10_init 91 = .ok (.iload_n 1, 1) := by decide +kernel
theorem dX10_init_92 : decode cX10_init 92 = .ok (.lload_n 2, 1) := by decide +kernel
theorem dX10_init_93 : decode cX10_init 93 = .ok (.lastore, 1) := by decide +kernel
theorem dX10_init_94 : decode cX10_init 94 = .ok (.iinc 1 1, 3) := by decide +kernel
theorem dX10_init_97 : decode cX10_init 97 = .ok (.lconst 0, 1) := by decide +kernel
theorem dX10_init_98 : decode cX10_init 98 = .ok (.lstore_n 2, 1) := by decide +kernel
theorem dX10_init_99 : decode cX10_init 99 = .ok (.goto 15, 3) := by decide +kernel
theorem dX10_init_102 : decode cX10_init 102 = .ok (.lload_n 2, 1) := by decide +kernel
theorem dX10_init_103 : decode cX10_init 103 = .ok (.ldc 30, 2) := by decide +kernel
theorem dX10_init_105 : decode cX10_init 105 = .ok (.iload 4, 2) := by decide +kernel
theorem dX10_init_107 : decode cX10_init 107 = .ok (.invokevirtual 37, 3) := by decide +kernel
theorem dX10_init_110 : decode cX10_init 110 = .ok (.invokestatic 41, 3) := by decide +kernel
theorem dX10_init_113 : decode cX10_init 113 = .ok (.lstore_n 2, 1) := by decide +kernel
theorem dX10_init_114 : decode cX10_init 114 = .ok (.iinc 4 1, 3) := by decide +kernel
theorem dX10_init_117 : decode cX10_init 117 = .ok (.goto (-61), 3) := by decide +kernel
theorem dX10_init_120 : decode cX10_init 120 = .ok (.return_, 1) := by decide +kernel
theorem dX10_scan_0 : decode cX10_scan 0 = .ok (.aload_n 0, 1) := by decide +kernel
theorem dX10_scan_1 : decode cX10_scan 1 = .ok (.iconst 0, 1) := by decide +kernel
theorem dX10_scan_2 : decode cX10_scan 2 = .ok (.putfield 23, 3) := by decide +kernel
theorem dX10_scan_5 : decode cX10_scan 5 = .ok (.aload_n 0, 1) := by decide +kernel
theorem dX10_scan_6 : decode cX10_scan 6 = .ok (.aload_n 1, 1) := by decide +kernel
theorem dX10_scan_7 : decode cX10_scan 7 = .ok (.getfield 45, 3) := by decide +kernel
theorem dX10_scan_10 : decode cX10_scan 10 = .ok (.sipush 600, 3) := by decide +kernel
theorem dX10_scan_13 : decode cX10_scan 13 = .ok (.invokestatic 48, 3) := by decide +kernel
theorem dX10_scan_16 : decode cX10_scan 16 = .ok (.putfield 27, 3) := by decide +kernel
theorem dX10_scan_19 : decode cX10_scan 19 = .ok (.iconst 0, 1) := by decide +kernel
theorem dX10_scan_20 : decode cX10_scan 20 = .ok (.istore_n 2, 1) := by decide +kernel
theorem dX10_scan_21 : decode cX10_scan 21 = .ok (.iload_n 2, 1) := by decide +kernel
theorem dX10_scan_22 : decode cX10_scan 22 = .ok (.aload_n 0, 1) := by decide +kernel
theorem dX10_scan_23 : decode cX10_scan 23 = .ok (.getfield 27, 3) := by decide +kernel
theorem dX10_scan_26 : decode cX10_scan 26 = .ok (.if_icmp .ge 62, 3) := by decide +kernel
theorem dX10_scan_29 : decode cX10_scan 29 = .ok (.aload_n 1, 1) := by decide +kernel
theorem dX10_scan_30 : decode cX10_scan 30 = .ok (.iload_n 2, 1) := by decide +kernel
theorem dX10_scan_31 : decode cX10_scan 31 = .ok (.invokevirtual 54, 3) := by decide +kernel
theorem dX10_scan_34 : decode cX10_scan 34 = .ok (.istore_n 3, 1) := by decide +kernel
theorem dX10_scan_35 : decode cX10_scan 35 = .ok (.iload_n 3, 1) := by decide +kernel
theorem dX10_scan_36 : decode cX10_scan 36 = .ok (.invokestatic 58, 3) := by decide +kernel
theorem dX10_scan_39 : decode cX10_scan 39 = .ok (.ifCond .ne 10, 3) := by decide +kernel
theorem dX10_scan_42 : decode cX10_scan 42 = .ok (.iload_n 3, 1) := by decide +kernel
theorem dX10_scan_43 : decode cX10_scan 43 = .ok (.invokestatic 62, 3) := by decide +kernel
theorem dX10_scan_46 : decode cX10_scan 46 = .ok (.ifCond .eq 19, 3) := by decide +kernel
theorem dX10_scan_49 : decode cX10_scan 49 = .ok (.iload_n 2, 1) := by decide +kernel
theorem dX10_scan_50 : decode cX10_scan 50 = .ok (.iconst 1, 1) := by decide +kernel
theorem dX10_scan_51 : decode cX10_scan 51 = .ok (.iadd, 1) := by decide +kernel
theorem dX10_scan_52 : decode cX10_scan 52 = .ok (.aload_n 0, 1) := by decide +kernel
theorem dX10_scan_53 : decode cX10_scan 53 = .ok (.aload_n 1, 1) := by decide +kernel
theorem dX10_scan_54 : decode cX10_scan 54 = .ok (.iload_n 2, 1) := by decide +kernel
theorem dX10_scan_55 : decode cX10_scan 55 = .ok (.invokevirtual 65, 3) := by decide +kernel
theorem dX10_scan_58 : decode cX10_scan 58 = .ok (.invokestatic 69, 3) := by decide +kernel
theorem dX10_scan_61 : decode cX10_scan 61 = .ok (.istore_n 2, 1) := by decide +kernel
theorem dX10_scan_62 : decode cX10_scan 62 = .ok (.goto 23, 3) := by decide +kernel
theorem dX10_scan_65 : decode cX10_scan 65 = .ok (.iload_n 3, 1) := by decide +kernel
theorem dX10_scan_66 : decode cX10_scan 66 = .ok (.invokestatic 72, 3) := by decide +kernel
theorem dX10_scan_69 : decode cX10_scan 69 = .ok (.ifCond .ne 13, 3) := by decide +kernel
theorem dX10_scan_72 : decode cX10_scan 72 = .ok (.aload_n 0, 1) := by decide +kernel
theorem dX10_scan_73 : decode cX10_scan 73 = .ok (.iload_n 3, 1) := by decide +kernel
theorem dX10_scan_74 : decode cX10_scan 74 = .ok (.invokestatic 75, 3) := by decide +kernel
theorem dX10_scan_77 : decode cX10_scan 77 = .ok (.iload_n 2, 1) := by decide +kernel
theorem dX10_scan_78 : decode cX10_scan 78 = .ok (.lconst 0, 1) := by decide +kernel
theorem dX10_scan_79 : decode cX10_scan 79 = .ok (.invokevirtual 78, 3) := by decide +kernel
theorem dX10_scan_82 : decode cX10_scan 82 = .ok (.iinc 2 1, 3) := by decide +kernel
theorem dX10_scan_85 : decode cX10_scan 85 = .ok (.goto (-64), 3) := by decide +kernel
theorem dX10_scan_88 : decode cX10_scan 88 = .ok (.return_, 1) := by decide +kernel
theorem dX10_kindAt_0 : decode cX10_kindAt 0 = .ok (.iload_n 1, 1) := by decide +kernel
theorem dX10_kindAt_1 : decode cX10_kindAt 1 = .ok (.ifCond .lt 18, 3) := by decide +kernel
theorem dX10_kindAt_4 : decode cX10_kindAt 4 = .ok (.iload_n 1, 1) := by decide +kernel
theorem dX10_kindAt_5 : decode cX10_kindAt 5 = .ok (.aload_n 0, 1) := by decide +kernel
theorem dX10_kindAt_6 : decode cX10_kindAt 6 = .ok (.getfield 23, 3) := by decide +kernel
theorem dX10_kindAt_9 : decode cX10_kindAt 9 = .ok (.if_icmp .ge 10, 3) := by decide +kernel
theorem dX10_kindAt_12 : decode cX10_kindAt 12 = .ok (.iload_n 1, 1) := by decide +kernel
theorem dX10_kindAt_13 : decode cX10_kindAt 13 = .ok (.sipush 600, 3) := by decide +kernel
theorem dX10_kindAt_16 : decode cX10_kindAt 16 = .ok (.if_icmp .lt 8, 3) := by decide +kernel
theorem dX10_kindAt_19 : decode cX10_kindAt 19 = .ok (.bipush 22, 2) := by decide +kernel
theorem dX10_kindAt_21 : decode cX10_kindAt 21 = .ok (.goto 9, 3) := by decide +kernel
theorem dX10_kindAt_24 : decode cX10_kindAt 24 = .ok (.aload_n 0, 1) := by decide +kernel
theorem dX10_kindAt_25 : decode cX10_kindAt 25 = .ok (.getfield 13, 3) := by decide +kernel
theorem dX10_kindAt_28 : decode cX10_kindAt 28 = .ok (.iload_n 1, 1) := by decide +kernel
theorem dX10_kindAt_29 : decode cX10_kindAt 29 = .ok (.iaload, 1) := by decide +kernel
theorem dX10_kindAt_30 : decode cX10_kindAt 30 = .ok (.ireturn, 1) := by decide +kernel
theorem dX10_placeAt_0 : decode cX10_placeAt 0 = .ok (.iload_n 1, 1) := by decide +kernel
theorem dX10_placeAt_1 : decode cX10_placeAt 1 = .ok (.ifCond .lt 18, 3) := by decide +kernel
theorem dX10_placeAt_4 : decode cX10_placeAt 4 = .ok (.iload_n 1, 1) := by decide +kernel
theorem dX10_placeAt_5 : decode cX10_placeAt 5 = .ok (.aload_n 0, 1) := by decide +kernel
theorem dX10_placeAt_6 : decode cX10_placeAt 6 = .ok (.getfield 23, 3) := by decide +kernel
theorem dX10_placeAt_9 : decode cX10_placeAt 9 = .ok (.if_icmp .ge 10, 3) := by decide +kernel
theorem dX10_placeAt_12 : decode cX10_placeAt 12 = .ok (.iload_n 1, 1) := by decide +kernel
theorem dX10_placeAt_13 : decode cX10_placeAt 13 = .ok (.sipush 600, 3) := by decide +kernel
theorem dX10_placeAt_16 : decode cX10_placeAt 16 = .ok (.if_icmp .lt 10, 3) := by decide +kernel
theorem dX10_placeAt_19 : decode cX10_placeAt 19 = .ok (.aload_n 0, 1) := by decide +kernel
theorem dX10_placeAt_20 : decode cX10_placeAt 20 = .ok (.getfield 27, 3) := by decide +kernel
theorem dX10_placeAt_23 : decode cX10_placeAt 23 = .ok (.goto 9, 3) := by decide +kernel
theorem dX10_placeAt_26 : decode cX10_placeAt 26 = .ok (.aload_n 0, 1) := by decide +kernel
theorem dX10_placeAt_27 : decode cX10_placeAt 27 = .ok (.getfield 17, 3) := by decide +kernel
theorem dX10_placeAt_30 : decode cX10_placeAt 30 = .ok (.iload_n 1, 1) := by decide +kernel
theorem dX10_placeAt_31 : decode cX10_placeAt 31 = .ok (.iaload, 1) := by decide +kernel
theorem dX10_placeAt_32 : decode cX10_placeAt 32 = .ok (.ireturn, 1) := by decide +kernel
theorem dX10_valueAt_0 : decode cX10_valueAt 0 = .ok (.iload_n 1, 1) := by decide +kernel
theorem dX10_valueAt_1 : decode cX10_valueAt 1 = .ok (.ifCond .lt 18, 3) := by decide +kernel
theorem dX10_valueAt_4 : decode cX10_valueAt 4 = .ok (.iload_n 1, 1) := by decide +kernel
theorem dX10_valueAt_5 : decode cX10_valueAt 5 = .ok (.aload_n 0, 1) := by decide +kernel
theorem dX10_valueAt_6 : decode cX10_valueAt 6 = .ok (.getfield 23, 3) := by decide +kernel
theorem dX10_valueAt_9 : decode cX10_valueAt 9 = .ok (.if_icmp .ge 10, 3) := by decide +kernel
theorem dX10_valueAt_12 : decode cX10_valueAt 12 = .ok (.iload_n 1, 1) := by decide +kernel
theorem dX10_valueAt_13 : decode cX10_valueAt 13 = .ok (.sipush 600, 3) := by decide +kernel
theorem dX10_valueAt_16 : decode cX10_valueAt 16 = .ok (.if_icmp .lt 7, 3) := by decide +kernel
theorem dX10_valueAt_19 : decode cX10_valueAt 19 = .ok (.lconst 0, 1) := by decide +kernel
theorem dX10_valueAt_20 : decode cX10_valueAt 20 = .ok (.goto 9, 3) := by decide +kernel
theorem dX10_valueAt_23 : decode cX10_valueAt 23 = .ok (.aload_n 0, 1) := by decide +kernel
theorem dX10_valueAt_24 : decode cX10_valueAt 24 = .ok (.getfield 20, 3) := by decide +kernel
theorem dX10_valueAt_27 : decode cX10_valueAt 27 = .ok (.iload_n 1, 1) := by decide +kernel
theorem dX10_valueAt_28 : decode cX10_valueAt 28 = .ok (.laload, 1) := by decide +kernel
theorem dX10_valueAt_29 : decode cX10_valueAt 29 = .ok (.lreturn, 1) := by decide +kernel
theorem dX10_add_0 : decode cX10_add 0 = .ok (.aload_n 0, 1) := by decide +kernel
theorem dX10_add_1 : decode cX10_add 1 = .ok (.getfield 23, 3) := by decide +kernel
theorem dX10_add_4 : decode cX10_add 4 = .ok (.sipush 600, 3) := by decide +kernel
theorem dX10_add_7 : decode cX10_add 7 = .ok (.if_icmp .ge 43, 3) := by decide +kernel
theorem dX10_add_10 : decode cX10_add 10 = .ok (.aload_n 0, 1) := by decide +kernel
theorem dX10_add_11 : decode cX10_add 11 = .ok (.getfield 13, 3) := by decide +kernel
theorem dX10_add_14 : decode cX10_add 14 = .ok (.aload_n 0, 1) := by decide +kernel
theorem dX10_add_15 : decode cX10_add 15 = .ok (.getfield 23, 3) := by decide +kernel
theorem dX10_add_18 : decode cX10_add 18 = .ok (.iload_n 1, 1) := by decide +kernel
theorem dX10_add_19 : decode cX10_add 19 = .ok (.iastore, 1) := by decide +kernel
theorem dX10_add_20 : decode cX10_add 20 = .ok (.aload_n 0, 1) := by decide +kernel
theorem dX10_add_21 : decode cX10_add 21 = .ok (.getfield 17, 3) := by decide +kernel
theorem dX10_add_24 : decode cX10_add 24 = .ok (.aload_n 0, 1) := by decide +kernel
theorem dX10_add_25 : decode cX10_add 25 = .ok (.getfield 23, 3) := by decide +kernel
theorem dX10_add_28 : decode cX10_add 28 = .ok (.iload_n 2, 1) := by decide +kernel
theorem dX10_add_29 : decode cX10_add 29 = .ok (.iastore, 1) := by decide +kernel
theorem dX10_add_30 : decode cX10_add 30 = .ok (.aload_n 0, 1) := by decide +kernel
theorem dX10_add_31 : decode cX10_add 31 = .ok (.getfield 20, 3) := by decide +kernel
theorem dX10_add_34 : decode cX10_add 34 = .ok (.aload_n 0, 1) := by decide +kernel
theorem dX10_add_35 : decode cX10_add 35 = .ok (.getfield 23, 3) := by decide +kernel
theorem dX10_add_38 : decode cX10_add 38 = .ok (.lload_n 3, 1) := by decide +kernel
theorem dX10_add_39 : decode cX10_add 39 = .ok (.lastore, 1) := by decide +kernel
theorem dX10_add_40 : decode cX10_add 40 = .ok (.aload_n 0, 1) := by decide +kernel
theorem dX10_add_41 : decode cX10_add 41 = .ok (.dup, 1) := by decide +kernel
theorem dX10_add_42 : decode cX10_add 42 = .ok (.getfield 23, 3) := by decide +kernel
theorem dX10_add_45 : decode cX10_add 45 = .ok (.iconst 1, 1) := by decide +kernel
theorem dX10_add_46 : decode cX10_add 46 = .ok (.iadd, 1) := by decide +kernel
theorem dX10_add_47 : decode cX10_add 47 = .ok (.putfield 23, 3) := by decide +kernel
theorem dX10_add_50 : decode cX10_add 50 = .ok (.return_, 1) := by decide +kernel
theorem dX10_scanRun_0 : decode cX10_scanRun 0 = .ok (.iconst 0, 1) := by decide +kernel
theorem dX10_scanRun_1 : decode cX10_scanRun 1 = .ok (.istore_n 3, 1) := by decide +kernel
theorem dX10_scanRun_2 : decode cX10_scanRun 2 = .ok (.iconst 0, 1) := by decide +kernel
theorem dX10_scanRun_3 : decode cX10_scanRun 3 = .ok (.istore 4, 2) := by decide +kernel
theorem dX10_scanRun_5 : decode cX10_scanRun 5 = .ok (.lconst 0, 1) := by decide +kernel
theorem dX10_scanRun_6 : decode cX10_scanRun 6 = .ok (.lstore 5, 2) := by decide +kernel
theorem dX10_scanRun_8 : decode cX10_scanRun 8 = .ok (.lconst 0, 1) := by decide +kernel
theorem dX10_scanRun_9 : decode cX10_scanRun 9 = .ok (.lstore 7, 2) := by decide +kernel
theorem dX10_scanRun_11 : decode cX10_scanRun 11 = .ok (.iload_n 2, 1) := by decide +kernel
theorem dX10_scanRun_12 : decode cX10_scanRun 12 = .ok (.istore 9, 2) := by decide +kernel
theorem dX10_scanRun_14 : decode cX10_scanRun 14 = .ok (.iload 9, 2) := by decide +kernel
theorem dX10_scanRun_16 : decode cX10_scanRun 16 = .ok (.aload_n 1, 1) := by decide +kernel
theorem dX10_scanRun_17 : decode cX10_scanRun 17 = .ok (.getfield 45, 3) := by decide +kernel
theorem dX10_scanRun_20 : decode cX10_scanRun 20 = .ok (.if_icmp .ge 67, 3) := by decide +kernel
theorem dX10_scanRun_23 : decode cX10_scanRun 23 = .ok (.aload_n 1, 1) := by decide +kernel
theorem dX10_scanRun_24 : decode cX10_scanRun 24 = .ok (.iload 9, 2) := by decide +kernel
theorem dX10_scanRun_26 : decode cX10_scanRun 26 = .ok (.invokevirtual 54, 3) := by decide +kernel
theorem dX10_scanRun_29 : decode cX10_scanRun 29 = .ok (.istore 10, 2) := by decide +kernel
theorem dX10_scanRun_31 : decode cX10_scanRun 31 = .ok (.iload 10, 2) := by decide +kernel
theorem dX10_scanRun_33 : decode cX10_scanRun 33 = .ok (.invokestatic 58, 3) := by decide +kernel
theorem dX10_scanRun_36 : decode cX10_scanRun 36 = .ok (.ifCond .eq 18, 3) := by decide +kernel
theorem dX10_scanRun_39 : decode cX10_scanRun 39 = .ok (.iinc 3 1, 3) := by decide +kernel
theorem dX10_scanRun_42 : decode cX10_scanRun 42 = .ok (.lload 5, 2) := by decide +kernel
theorem dX10_scanRun_44 : decode cX10_scanRun 44 = .ok (.iload 10, 2) := by decide +kernel
theorem dX10_scanRun_46 : decode cX10_scanRun 46 = .ok (.invokestatic 41, 3) := by decide +kernel
theorem dX10_scanRun_49 : decode cX10_scanRun 49 = .ok (.lstore 5, 2) := by decide +kernel
theorem dX10_scanRun_51 : decode cX10_scanRun 51 = .ok (.goto 30, 3) := by decide +kernel
theorem dX10_scanRun_54 : decode cX10_scanRun 54 = .ok (.iload 10, 2) := by decide +kernel
theorem dX10_scanRun_56 : decode cX10_scanRun 56 = .ok (.invokestatic 62, 3) := by decide +kernel
theorem dX10_scanRun_59 : decode cX10_scanRun 59 = .ok (.ifCond .eq 28, 3) := by decide +kernel
theorem dX10_scanRun_62 : decode cX10_scanRun 62 = .ok (.iinc 4 1, 3) := by decide +kernel
theorem dX10_scanRun_65 : decode cX10_scanRun 65 = .ok (.lload 7, 2) := by decide +kernel
theorem dX10_scanRun_67 : decode cX10_scanRun 67 = .ok (.ldc2_w 82, 3) := by decide +kernel
theorem dX10_scanRun_70 : decode cX10_scanRun 70 = .ok (.lmul, 1) := by decide +kernel
theorem dX10_scanRun_71 : decode cX10_scanRun 71 = .ok (.iload 10, 2) := by decide +kernel
theorem dX10_scanRun_73 : decode cX10_scanRun 73 = .ok (.i2l, 1) := by decide +kernel
theorem dX10_scanRun_74 : decode cX10_scanRun 74 = .ok (.ladd, 1) := by decide +kernel
theorem dX10_scanRun_75 : decode cX10_scanRun 75 = .ok (.ldc2_w 84, 3) := by decide +kernel
theorem dX10_scanRun_78 : decode cX10_scanRun 78 = .ok (.lsub, 1) := by decide +kernel
theorem dX10_scanRun_79 : decode cX10_scanRun 79 = .ok (.lstore 7, 2) := by decide +kernel
theorem dX10_scanRun_81 : decode cX10_scanRun 81 = .ok (.iinc 9 1, 3) := by decide +kernel
theorem dX10_scanRun_84 : decode cX10_scanRun 84 = .ok (.goto (-70), 3) := by decide +kernel
theorem dX10_scanRun_87 : decode cX10_scanRun 87 = .ok (.iload 4, 2) := by decide +kernel
theorem dX10_scanRun_89 : decode cX10_scanRun 89 = .ok (.ifCond .ne 25, 3) := by decide +kernel
theorem dX10_scanRun_92 : decode cX10_scanRun 92 = .ok (.iload_n 3, 1) := by decide +kernel
theorem dX10_scanRun_93 : decode cX10_scanRun 93 = .ok (.bipush 8, 2) := by decide +kernel
theorem dX10_scanRun_95 : decode cX10_scanRun 95 = .ok (.if_icmp .gt 19, 3) := by decide +kernel
theorem dX10_scanRun_98 : decode cX10_scanRun 98 = .ok (.aload_n 0, 1) := by decide +kernel
theorem dX10_scanRun_99 : decode cX10_scanRun 99 = .ok (.aload_n 0, 1) := by decide +kernel
theorem dX10_scanRun_100 : decode cX10_scanRun 100 = .ok (.lload 5, 2) := by decide +kernel
theorem dX10_scanRun_102 : decode cX10_scanRun 102 = .ok (.invokevirtual 86, 3) := by decide +kernel
theorem dX10_scanRun_105 : decode cX10_scanRun 105 = .ok (.iload_n 2, 1) := by decide +kernel
theorem dX10_scanRun_106 : decode cX10_scanRun 106 = .ok (.lload 5, 2) := by decide +kernel
theorem dX10_scanRun_108 : decode cX10_scanRun 108 = .ok (.invokevirtual 78, 3) := by decide +kernel
theorem dX10_scanRun_111 : decode cX10_scanRun 111 = .ok (.goto 27, 3) := by decide +kernel
theorem dX10_scanRun_114 : decode cX10_scanRun 114 = .ok (.aload_n 0, 1) := by decide +kernel
theorem dX10_scanRun_115 : decode cX10_scanRun 115 = .ok (.iload_n 3, 1) := by decide +kernel
theorem dX10_scanRun_116 : decode cX10_scanRun 116 = .ok (.ifCond .ne 14, 3) := by decide +kernel
theorem dX10_scanRun_119 : decode cX10_scanRun 119 = .ok (.iload 4, 2) := by decide +kernel
theorem dX10_scanRun_121 : decode cX10_scanRun 121 = .ok (.iconst 5, 1) := by decide +kernel
theorem dX10_scanRun_122 : decode cX10_scanRun 122 = .ok (.if_icmp .gt 8, 3) := by decide +kernel
theorem dX10_scanRun_125 : decode cX10_scanRun 125 = .ok (.bipush 18, 2) := by decide +kernel
theorem dX10_scanRun_127 : decode cX10_scanRun 127 = .ok (.goto 5, 3) := by decide +kernel
theorem dX10_scanRun_130 : decode cX10_scanRun 130 = .ok (.bipush 21, 2) := by decide +kernel
theorem dX10_scanRun_132 : decode cX10_scanRun 132 = .ok (.iload_n 2, 1) := by decide +kernel
theorem dX10_scanRun_133 : decode cX10_scanRun 133 = .ok (.lload 7, 2) := by decide +kernel
theorem dX10_scanRun_135 : decode cX10_scanRun 135 = .ok (.invokevirtual 78, 3) := by decide +kernel
theorem dX10_scanRun_138 : decode cX10_scanRun 138 = .ok (.iload 9, 2) := by decide +kernel
theorem dX10_scanRun_140 : decode cX10_scanRun 140 = .ok (.ireturn, 1) := by decide +kernel
theorem dX10_kindOfWord_0 : decode cX10_kindOfWord 0 = .ok (.iconst 0, 1) := by decide +kernel
theorem dX10_kindOfWord_1 : decode cX10_kindOfWord 1 = .ok (.istore_n 3, 1) := by decide +kernel
theorem dX10_kindOfWord_2 : decode cX10_kindOfWord 2 = .ok (.iload_n 3, 1) := by decide +kernel
theorem dX10_kindOfWord_3 : decode cX10_kindOfWord 3 = .ok (.aload_n 0, 1) := by decide +kernel
theorem dX10_kindOfWord_4 : decode cX10_kindOfWord 4 = .ok (.getfield 9, 3) := by decide +kernel
theorem dX10_kindOfWord_7 : decode cX10_kindOfWord 7 = .ok (.arraylength, 1) := by decide +kernel
theorem dX10_kindOfWord_8 : decode cX10_kindOfWord 8 = .ok (.if_icmp .ge 22, 3) := by decide +kernel
theorem dX10_kindOfWord_11 : decode cX10_kindOfWord 11 = .ok (.aload_n 0, 1) := by decide +kernel
theorem dX10_kindOfWord_12 : decode cX10_kindOfWord 12 = .ok (.getfield 9, 3) := by decide +kernel
theorem dX10_kindOfWord_15 : decode cX10_kindOfWord 15 = .ok (.iload_n 3, 1) := by decide +kernel
theorem dX10_kindOfWord_16 : decode cX10_kindOfWord 16 = .ok (.laload, 1) := by decide +kernel
theorem dX10_kindOfWord_17 : decode cX10_kindOfWord 17 = .ok (.lload_n 1, 1) := by decide +kernel
theorem dX10_kindOfWord_18 : decode cX10_kindOfWord 18 = .ok (.lcmp, 1) := by decide +kernel
theorem dX10_kindOfWord_19 : decode cX10_kindOfWord 19 = .ok (.ifCond .ne 5, 3) := by decide +kernel
theorem dX10_kindOfWord_22 : decode cX10_kindOfWord 22 = .ok (.iload_n 3, 1) := by decide +kernel
theorem dX10_kindOfWord_23 : decode cX10_kindOfWord 23 = .ok (.ireturn, 1) := by decide +kernel
theorem dX10_kindOfWord_24 : decode cX10_kindOfWord 24 = .ok (.iinc 3 1, 3) := by decide +kernel
theorem dX10_kindOfWord_27 : decode cX10_kindOfWord 27 = .ok (.goto (-25), 3) := by decide +kernel
theorem dX10_kindOfWord_30 : decode cX10_kindOfWord 30 = .ok (.bipush 17, 2) := by decide +kernel
theorem dX10_kindOfWord_32 : decode cX10_kindOfWord 32 = .ok (.ireturn, 1) := by decide +kernel
theorem dX10_kindOfSign_0 : decode cX10_kindOfSign 0 = .ok (.iload_n 0, 1) := by decide +kernel
theorem dX10_kindOfSign_1 : decode cX10_kindOfSign 1 = .ok (.bipush 59, 2) := by decide +kernel
theorem dX10_kindOfSign_3 : decode cX10_kindOfSign 3 = .ok (.if_icmp .ne 6, 3) := by decide +kernel
theorem dX10_kindOfSign_6 : decode cX10_kindOfSign 6 = .ok (.bipush 19, 2) := by decide +kernel
theorem dX10_kindOfSign_8 : decode cX10_kindOfSign 8 = .ok (.ireturn, 1) := by decide +kernel
theorem dX10_kindOfSign_9 : decode cX10_kindOfSign 9 = .ok (.iload_n 0, 1) := by decide +kernel
theorem dX10_kindOfSign_10 : decode cX10_kindOfSign 10 = .ok (.bipush 58, 2) := by decide +kernel
theorem dX10_kindOfSign_12 : decode cX10_kindOfSign 12 = .ok (.if_icmp .ne 8, 3) := by decide +kernel
theorem dX10_kindOfSign_15 : decode cX10_kindOfSign 15 = .ok (.bipush 20, 2) := by decide +kernel
theorem dX10_kindOfSign_17 : decode cX10_kindOfSign 17 = .ok (.goto 5, 3) := by decide +kernel
theorem dX10_kindOfSign_20 : decode cX10_kindOfSign 20 = .ok (.bipush 21, 2) := by decide +kernel
theorem dX10_kindOfSign_22 : decode cX10_kindOfSign 22 = .ok (.ireturn, 1) := by decide +kernel
theorem dX10_withLetter_0 : decode cX10_withLetter 0 = .ok (.lload_n 0, 1) := by decide +kernel
theorem dX10_withLetter_1 : decode cX10_withLetter 1 = .ok (.ldc2_w 90, 3) := by decide +kernel
theorem dX10_withLetter_4 : decode cX10_withLetter 4 = .ok (.lmul, 1) := by decide +kernel
theorem dX10_withLetter_5 : decode cX10_withLetter 5 = .ok (.iload_n 2, 1) := by decide +kernel
theorem dX10_withLetter_6 : decode cX10_withLetter 6 = .ok (.i2l, 1) := by decide +kernel
theorem dX10_withLetter_7 : decode cX10_withLetter 7 = .ok (.ladd, 1) := by decide +kernel
theorem dX10_withLetter_8 : decode cX10_withLetter 8 = .ok (.ldc2_w 92, 3) := by decide +kernel
theorem dX10_withLetter_11 : decode cX10_withLetter 11 = .ok (.lsub, 1) := by decide +kernel
theorem dX10_withLetter_12 : decode cX10_withLetter 12 = .ok (.lconst 1, 1) := by decide +kernel
theorem dX10_withLetter_13 : decode cX10_withLetter 13 = .ok (.ladd, 1) := by decide +kernel
theorem dX10_withLetter_14 : decode cX10_withLetter 14 = .ok (.lreturn, 1) := by decide +kernel
theorem dX10_isBlank_0 : decode cX10_isBlank 0 = .ok (.iload_n 0, 1) := by decide +kernel
theorem dX10_isBlank_1 : decode cX10_isBlank 1 = .ok (.bipush 32, 2) := by decide +kernel
theorem dX10_isBlank_3 : decode cX10_isBlank 3 = .ok (.if_icmp .eq 9, 3) := by decide +kernel
theorem dX10_isBlank_6 : decode cX10_isBlank 6 = .ok (.iload_n 0, 1) := by decide +kernel
theorem dX10_isBlank_7 : decode cX10_isBlank 7 = .ok (.bipush 10, 2) := by decide +kernel
theorem dX10_isBlank_9 : decode cX10_isBlank 9 = .ok (.if_icmp .ne 7, 3) := by decide +kernel
theorem dX10_isBlank_12 : decode cX10_isBlank 12 = .ok (.iconst 1, 1) := by decide +kernel
theorem dX10_isBlank_13 : decode cX10_isBlank 13 = .ok (.goto 4, 3) := by decide +kernel
theorem dX10_isBlank_16 : decode cX10_isBlank 16 = .ok (.iconst 0, 1) := by decide +kernel
theorem dX10_isBlank_17 : decode cX10_isBlank 17 = .ok (.ireturn, 1) := by decide +kernel
theorem dX10_isLetter_0 : decode cX10_isLetter 0 = .ok (.iload_n 0, 1) := by decide +kernel
theorem dX10_isLetter_1 : decode cX10_isLetter 1 = .ok (.bipush 97, 2) := by decide +kernel
theorem dX10_isLetter_3 : decode cX10_isLetter 3 = .ok (.if_icmp .lt 13, 3) := by decide +kernel
theorem dX10_isLetter_6 : decode cX10_isLetter 6 = .ok (.iload_n 0, 1) := by decide +kernel
theorem dX10_isLetter_7 : decode cX10_isLetter 7 = .ok (.bipush 122, 2) := by decide +kernel
theorem dX10_isLetter_9 : decode cX10_isLetter 9 = .ok (.if_icmp .gt 7, 3) := by decide +kernel
theorem dX10_isLetter_12 : decode cX10_isLetter 12 = .ok (.iconst 1, 1) := by decide +kernel
theorem dX10_isLetter_13 : decode cX10_isLetter 13 = .ok (.goto 4, 3) := by decide +kernel
theorem dX10_isLetter_16 : decode cX10_isLetter 16 = .ok (.iconst 0, 1) := by decide +kernel
theorem dX10_isLetter_17 : decode cX10_isLetter 17 = .ok (.ireturn, 1) := by decide +kernel
theorem dX10_isDigit_0 : decode cX10_isDigit 0 = .ok (.iload_n 0, 1) := by decide +kernel
theorem dX10_isDigit_1 : decode cX10_isDigit 1 = .ok (.bipush 48, 2) := by decide +kernel
theorem dX10_isDigit_3 : decode cX10_isDigit 3 = .ok (.if_icmp .lt 13, 3) := by decide +kernel
theorem dX10_isDigit_6 : decode cX10_isDigit 6 = .ok (.iload_n 0, 1) := by decide +kernel
theorem dX10_isDigit_7 : decode cX10_isDigit 7 = .ok (.bipush 57, 2) := by decide +kernel
theorem dX10_isDigit_9 : decode cX10_isDigit 9 = .ok (.if_icmp .gt 7, 3) := by decide +kernel
theorem dX10_isDigit_12 : decode cX10_isDigit 12 = .ok (.iconst 1, 1) := by decide +kernel
theorem dX10_isDigit_13 : decode cX10_isDigit 13 = .ok (.goto 4, 3) := by decide +kernel
theorem dX10_isDigit_16 : decode cX10_isDigit 16 = .ok (.iconst 0, 1) := by decide +kernel
theorem dX10_isDigit_17 : decode cX10_isDigit 17 = .ok (.ireturn, 1) := by decide +kernel
theorem dX11_init_0 : decode cX11_init 0 = .ok (.aload_n 0, 1) := by decide +kernel
theorem dX11_init_1 : decode cX11_init 1 = .ok (.invokespecial 1, 3) := by decide +kernel
theorem dX11_init_4 : decode cX11_init 4 = .ok (.aload_n 0, 1) := by decide +kernel
theorem dX11_init_5 : decode cX11_init 5 = .ok (.new 7, 3) := by decide +kernel
theorem dX11_init_8 : decode cX11_init 8 = .ok (.dup, 1) := by decide +kernel
theorem dX11_init_9 : decode cX11_init 9 = .ok (.invokespecial 9, 3) := by decide +kernel
theorem dX11_init_12 : decode cX11_init 12 = .ok (.putfield 10, 3) := by decide +kernel
theorem dX11_init_15 : decode cX11_init 15 = .ok (.aload_n 0, 1) := by decide +kernel
theorem dX11_init_16 : decode cX11_init 16 = .ok (.new 16, 3) := by decide +kernel
theorem dX11_init_19 : decode cX11_init 19 = .ok (.dup, 1) := by decide +kernel
theorem dX11_init_20 : decode cX11_init 20 = .ok (.invokespecial 18, 3) := by decide +kernel
theorem dX11_init_23 : decode cX11_init 23 = .ok (.putfield 19, 3) := by decide +kernel
theorem dX11_init_26 : decode cX11_init 26 = .ok (.aload_n 0, 1) := by decide +kernel
theorem dX11_init_27 : decode cX11_init 27 = .ok (.bipush 20, 2) := by decide +kernel
theorem dX11_init_29 : decode cX11_init 29 = .ok (.anewarray 23, 3) := by decide +kernel
theorem dX11_init_32 : decode cX11_init 32 = .ok (.putfield 25, 3) := by decide +kernel
theorem dX11_init_35 : decode cX11_init 35 = .ok (.aload_n 0, 1) := by decide +kernel
theorem dX11_init_36 : decode cX11_init 36 = .ok (.new 23, 3) := by decide +kernel
theorem dX11_init_39 : decode cX11_init 39 = .ok (.dup, 1) := by decide +kernel
theorem dX11_init_40 : decode cX11_init 40 = .ok (.invokespecial 29, 3) := by decide +kernel
theorem dX11_init_43 : decode cX11_init 43 = .ok (.putfield 30, 3) := by decide +kernel
theorem dX11_init_46 : decode cX11_init 46 = .ok (.aload_n 0, 1) := by decide +kernel
theorem dX11_init_47 : decode cX11_init 47 = .ok (.new 34, 3) := by decide +kernel
theorem dX11_init_50 : decode cX11_init 50 = .ok (.dup, 1) := by decide +kernel
theorem dX11_init_51 : decode cX11_init 51 = .ok (.invokespecial 36, 3) := by decide +kernel
theorem dX11_init_54 : decode cX11_init 54 = .ok (.putfield 37, 3) := by decide +kernel
theorem dX11_init_57 : decode cX11_init 57 = .ok (.aload_n 0, 1) := by decide +kernel
theorem dX11_init_58 : decode cX11_init 58 = .ok (.new 41, 3) := by decide +kernel
theorem dX11_init_61 : decode cX11_init 61 = .ok (.dup, 1) := by decide +kernel
theorem dX11_init_62 : decode cX11_init 62 = .ok (.invokespecial 43, 3) := by decide +kernel
theorem dX11_init_65 : decode cX11_init 65 = .ok (.putfield 44, 3) := by decide +kernel
theorem dX11_init_68 : decode cX11_init 68 = .ok (.aload_n 0, 1) := by decide +kernel
theorem dX11_init_69 : decode cX11_init 69 = .ok (.new 48, 3) := by decide +kernel
theorem dX11_init_72 : decode cX11_init 72 = .ok (.dup, 1) := by decide +kernel
theorem dX11_init_73 : decode cX11_init 73 = .ok (.invokespecial 50, 3) := by decide +kernel
theorem dX11_init_76 : decode cX11_init 76 = .ok (.putfield 51, 3) := by decide +kernel
theorem dX11_init_79 : decode cX11_init 79 = .ok (.aload_n 0, 1) := by decide +kernel
theorem dX11_init_80 : decode cX11_init 80 = .ok (.bipush 6, 2) := by decide +kernel
theorem dX11_init_82 : decode cX11_init 82 = .ok (.newarray .int, 2) := by decide +kernel
theorem dX11_init_84 : decode cX11_init 84 = .ok (.putfield 55, 3) := by decide +kernel
theorem dX11_init_87 : decode cX11_init 87 = .ok (.aload_n 0, 1) := by decide +kernel
theorem dX11_init_88 : decode cX11_init 88 = .ok (.iconst 0, 1) := by decide +kernel
theorem dX11_init_89 : decode cX11_init 89 = .ok (.putfield 59, 3) := by decide +kernel
theorem dX11_init_92 : decode cX11_init 92 = .ok (.aload_n 0, 1) := by decide +kernel
theorem dX11_init_93 : decode cX11_init 93 = .ok (.iconst 0, 1) := by decide +kernel
theorem dX11_init_94 : decode cX11_init 94 = .ok (.putfield 63, 3) := by decide +kernel
theorem dX11_init_97 : decode cX11_init 97 = .ok (.aload_n 0, 1) := by decide +kernel
theorem dX11_init_98 : decode cX11_init 98 = .ok (.iconst 0, 1) := by decide +kernel
theorem dX11_init_99 : decode cX11_init 99 = .ok (.putfield 66, 3) := by decide +kernel
theorem dX11_init_102 : decode cX11_init 102 = .ok (.aload_n 0, 1) := by decide +kernel
theorem dX11_init_103 : decode cX11_init 103 = .ok (.iconst (-1), 1) := by decide +kernel
theorem dX11_init_104 : decode cX11_init 104 = .ok (.putfield 69, 3) := by decide +kernel
theorem dX11_init_107 : decode cX11_init 107 = .ok (.return_, 1) := by decide +kernel
theorem dX11_feed_0 : decode cX11_feed 0 = .ok (.aload_n 0, 1) := by decide +kernel
theorem dX11_feed_1 : decode cX11_feed 1 = .ok (.getfield 10, 3) := by decide +kernel
theorem dX11_feed_4 : decode cX11_feed 4 = .ok (.getfield 72, 3) := by decide +kernel
theorem dX11_feed_7 : decode cX11_feed 7 = .ok (.bipush 20, 2) := by decide +kernel
theorem dX11_feed_9 : decode cX11_feed 9 = .ok (.iadd, 1) := by decide +kernel
theorem dX11_feed_10 : decode cX11_feed 10 = .ok (.sipush 640, 3) := by decide +kernel
theorem dX11_feed_13 : decode cX11_feed 13 = .ok (.if_icmp .le 5, 3) := by decide +kernel
theorem dX11_feed_16 : decode cX11_feed 16 = .ok (.iconst (-1), 1) := by decide +kernel
theorem dX11_feed_17 : decode cX11_feed 17 = .ok (.ireturn, 1) := by decide +kernel
theorem dX11_feed_18 : decode cX11_feed 18 = .ok (.aload_n 0, 1) := by decide +kernel
theorem dX11_feed_19 : decode cX11_feed 19 = .ok (.getfield 10, 3) := by decide +kernel
theorem dX11_feed_22 : decode cX11_feed 22 = .ok (.iload_n 1, 1) := by decide +kernel
theorem dX11_feed_23 : decode cX11_feed 23 = .ok (.invokevirtual 75, 3) := by decide +kernel
theorem dX11_feed_26 : decode cX11_feed 26 = .ok (.aload_n 0, 1) := by decide +kernel
theorem dX11_feed_27 : decode cX11_feed 27 = .ok (.getfield 10, 3) := by decide +kernel
theorem dX11_feed_30 : decode cX11_feed 30 = .ok (.iload_n 2, 1) := by decide +kernel
theorem dX11_feed_31 : decode cX11_feed 31 = .ok (.invokevirtual 75, 3) := by decide +kernel
theorem dX11_feed_34 : decode cX11_feed 34 = .ok (.aload_n 0, 1) := by decide +kernel
theorem dX11_feed_35 : decode cX11_feed 35 = .ok (.getfield 10, 3) := by decide +kernel
theorem dX11_feed_38 : decode cX11_feed 38 = .ok (.iload_n 3, 1) := by decide +kernel
theorem dX11_feed_39 : decode cX11_feed 39 = .ok (.invokevirtual 75, 3) := by decide +kernel
theorem dX11_feed_42 : decode cX11_feed 42 = .ok (.aload_n 0, 1) := by decide +kernel
theorem dX11_feed_43 : decode cX11_feed 43 = .ok (.getfield 10, 3) := by decide +kernel
theorem dX11_feed_46 : decode cX11_feed 46 = .ok (.iload 4, 2) := by decide +kernel
theorem dX11_feed_48 : decode cX11_feed 48 = .ok (.invokevirtual 75, 3) := by decide +kernel
theorem dX11_feed_51 : decode cX11_feed 51 = .ok (.aload_n 0, 1) := by decide +kernel
theorem dX11_feed_52 : decode cX11_feed 52 = .ok (.getfield 10, 3) := by decide +kernel
theorem dX11_feed_55 : decode cX11_feed 55 = .ok (.iload 5, 2) := by decide +kernel
theorem dX11_feed_57 : decode cX11_feed 57 = .ok (.invokevirtual 75, 3) := by decide +kernel
theorem dX11_feed_60 : decode cX11_feed 60 = .ok (.aload_n 0, 1) := by decide +kernel
theorem dX11_feed_61 : decode cX11_feed 61 = .ok (.getfield 10, 3) := by decide +kernel
theorem dX11_feed_64 : decode cX11_feed 64 = .ok (.getfield 72, 3) := by decide +kernel
theorem dX11_feed_67 : decode cX11_feed 67 = .ok (.ireturn, 1) := by decide +kernel
theorem dX11_end_0 : decode cX11_end 0 = .ok (.iload_n 1, 1) := by decide +kernel
theorem dX11_end_1 : decode cX11_end 1 = .ok (.ifCond .lt 14, 3) := by decide +kernel
theorem dX11_end_4 : decode cX11_end 4 = .ok (.iload_n 1, 1) := by decide +kernel
theorem dX11_end_5 : decode cX11_end 5 = .ok (.aload_n 0, 1) := by decide +kernel
theorem dX11_end_6 : decode cX11_end 6 = .ok (.getfield 10, 3) := by decide +kernel
theorem dX11_end_9 : decode cX11_end 9 = .ok (.getfield 72, 3) := by decide +kernel
theorem dX11_end_12 : decode cX11_end 12 = .ok (.if_icmp .le 5, 3) := by decide +kernel
theorem dX11_end_15 : decode cX11_end 15 = .ok (.iconst 0, 1) := by decide +kernel
theorem dX11_end_16 : decode cX11_end 16 = .ok (.ireturn, 1) := by decide +kernel
theorem dX11_end_17 : decode cX11_end 17 = .ok (.aload_n 0, 1) := by decide +kernel
theorem dX11_end_18 : decode cX11_end 18 = .ok (.getfield 10, 3) := by decide +kernel
theorem dX11_end_21 : decode cX11_end 21 = .ok (.iload_n 1, 1) := by decide +kernel
theorem dX11_end_22 : decode cX11_end 22 = .ok (.putfield 72, 3) := by decide +kernel
theorem dX11_end_25 : decode cX11_end 25 = .ok (.iconst 1, 1) := by decide +kernel
theorem dX11_end_26 : decode cX11_end 26 = .ok (.ireturn, 1) := by decide +kernel
theorem dX11_next_0 : decode cX11_next 0 = .ok (.iload_n 1, 1) := by decide +kernel
theorem dX11_next_1 : decode cX11_next 1 = .ok (.ifCond .lt 15, 3) := by decide +kernel
theorem dX11_next_4 : decode cX11_next 4 = .ok (.iload_n 1, 1) := by decide +kernel
theorem dX11_next_5 : decode cX11_next 5 = .ok (.sipush 999, 3) := by decide +kernel
theorem dX11_next_8 : decode cX11_next 8 = .ok (.aload_n 0, 1) := by decide +kernel
theorem dX11_next_9 : decode cX11_next 9 = .ok (.getfield 63, 3) := by decide +kernel
theorem dX11_next_12 : decode cX11_next 12 = .ok (.isub, 1) := by decide +kernel
theorem dX11_next_13 : decode cX11_next 13 = .ok (.if_icmp .le 5, 3) := by decide +kernel
theorem dX11_next_16 : decode cX11_next 16 = .ok (.iconst (-1), 1) := by decide +kernel
theorem dX11_next_17 : decode cX11_next 17 = .ok (.ireturn, 1) := by decide +kernel
theorem dX11_next_18 : decode cX11_next 18 = .ok (.aload_n 0, 1) := by decide +kernel
theorem dX11_next_19 : decode cX11_next 19 = .ok (.dup, 1) := by decide +kernel
theorem dX11_next_20 : decode cX11_next 20 = .ok (.getfield 63, 3) := by decide +kernel
theorem dX11_next_23 : decode cX11_next 23 = .ok (.iload_n 1, 1) := by decide +kernel
theorem dX11_next_24 : decode cX11_next 24 = .ok (.iadd, 1) := by decide +kernel
theorem dX11_next_25 : decode cX11_next 25 = .ok (.putfield 63, 3) := by decide +kernel
theorem dX11_next_28 : decode cX11_next 28 = .ok (.aload_n 0, 1) := by decide +kernel
theorem dX11_next_29 : decode cX11_next 29 = .ok (.getfield 63, 3) := by decide +kernel
theorem dX11_next_32 : decode cX11_next 32 = .ok (.ireturn, 1) := by decide +kernel
theorem dX11_book_0 : decode cX11_book 0 = .ok (.sipush (-1000), 3) := by decide +kernel
theorem dX11_book_3 : decode cX11_book 3 = .ok (.istore_n 1, 1) := by decide +kernel
theorem dX11_book_4 : decode cX11_book 4 = .ok (.aload_n 0, 1) := by decide +kernel
theorem dX11_book_5 : decode cX11_book 5 = .ok (.getfield 59, 3) := by decide +kernel
theorem dX11_book_8 : decode cX11_book 8 = .ok (.bipush 20, 2) := by decide +kernel
theorem dX11_book_10 : decode cX11_book 10 = .ok (.if_icmp .ge 52, 3) := by decide +kernel
theorem dX11_book_13 : decode cX11_book 13 = .ok (.aload_n 0, 1) := by decide +kernel
theorem dX11_book_14 : decode cX11_book 14 = .ok (.getfield 19, 3) := by decide +kernel
theorem dX11_book_17 : decode cX11_book 17 = .ok (.aload_n 0, 1) := by decide +kernel
theorem dX11_book_18 : decode cX11_book 18 = .ok (.getfield 10, 3) := by decide +kernel
theorem dX11_book_21 : decode cX11_book 21 = .ok (.invokevirtual 79, 3) := by decide +kernel
theorem dX11_book_24 : decode cX11_book 24 = .ok (.astore_n 2, 1) := by decide +kernel
theorem dX11_book_25 : decode cX11_book 25 = .ok (.aload_n 0, 1) := by decide +kernel
theorem dX11_book_26 : decode cX11_book 26 = .ok (.aload_n 0, 1) := by decide +kernel
theorem dX11_book_27 : decode cX11_book 27 = .ok (.getfield 19, 3) := by decide +kernel
theorem dX11_book_30 : decode cX11_book 30 = .ok (.getfield 83, 3) := by decide +kernel
theorem dX11_book_33 : decode cX11_book 33 = .ok (.putfield 66, 3) := by decide +kernel
theorem dX11_book_36 : decode cX11_book 36 = .ok (.aload_n 2, 1) := by decide +kernel
theorem dX11_book_37 : decode cX11_book 37 = .ok (.ifnonnull 15, 3) := by decide +kernel
theorem dX11_book_40 : decode cX11_book 40 = .ok (.iconst (-1), 1) := by decide +kernel
theorem dX11_book_41 : decode cX11_book 41 = .ok (.aload_n 0, 1) := by decide +kernel
theorem dX11_book_42 : decode cX11_book 42 = .ok (.getfield 19, 3) := by decide +kernel
theorem dX11_book_45 : decode cX11_book 45 = .ok (.invokevirtual 84, 3) := by decide +kernel
theorem dX11_book_48 : decode cX11_book 48 = .ok (.isub, 1) := by decide +kernel
theorem dX11_book_49 : decode cX11_book 49 = .ok (.goto 7, 3) := by decide +kernel
theorem dX11_book_52 : decode cX11_book 52 = .ok (.aload_n 2, 1) := by decide +kernel
theorem dX11_book_53 : decode cX11_book 53 = .ok (.getfield 88, 3) := by decide +kernel
theorem dX11_book_56 : decode cX11_book 56 = .ok (.istore_n 1, 1) := by decide +kernel
theorem dX11_book_57 : decode cX11_book 57 = .ok (.aload_n 0, 1) := by decide +kernel
theorem dX11_book_58 : decode cX11_book 58 = .ok (.aload_n 2, 1) := by decide +kernel
theorem dX11_book_59 : decode cX11_book 59 = .ok (.invokevirtual 91, 3) := by decide +kernel
theorem dX11_book_62 : decode cX11_book 62 = .ok (.aload_n 0, 1) := by decide +kernel
theorem dX11_book_63 : decode cX11_book 63 = .ok (.getfield 10, 3) := by decide +kernel
theorem dX11_book_66 : decode cX11_book 66 = .ok (.iconst 0, 1) := by decide +kernel
theorem dX11_book_67 : decode cX11_book 67 = .ok (.putfield 72, 3) := by decide +kernel
theorem dX11_book_70 : decode cX11_book 70 = .ok (.iload_n 1, 1) := by decide +kernel
theorem dX11_book_71 : decode cX11_book 71 = .ok (.ireturn, 1) := by decide +kernel
theorem dX11_fault_0 : decode cX11_fault 0 = .ok (.aload_n 0, 1) := by decide +kernel
theorem dX11_fault_1 : decode cX11_fault 1 = .ok (.getfield 66, 3) := by decide +kernel
theorem dX11_fault_4 : decode cX11_fault 4 = .ok (.ireturn, 1) := by decide +kernel
theorem dX11_many_0 : decode cX11_many 0 = .ok (.aload_n 0, 1) := by decide +kernel
theorem dX11_many_1 : decode cX11_many 1 = .ok (.iload_n 2, 1) := by decide +kernel
theorem dX11_many_2 : decode cX11_many 2 = .ok (.invokevirtual 95, 3) := by decide +kernel
theorem dX11_many_5 : decode cX11_many 5 = .ok (.astore_n 3, 1) := by decide +kernel
theorem dX11_many_6 : decode cX11_many 6 = .ok (.iload_n 1, 1) := by decide +kernel
theorem dX11_many_7 : decode cX11_many 7 = .ok (.tableswitch 49 0 3 #[29, 34, 39, 44], 29) := by decide +kernel
theorem dX11_many_36 : decode cX11_many 36 = .ok (.aload_n 3, 1) := by decide +kernel
theorem dX11_many_37 : decode cX11_many 37 = .ok (.getfield 99, 3) := by decide +kernel
theorem dX11_many_40 : decode cX11_many 40 = .ok (.ireturn, 1) := by decide +kernel
theorem dX11_many_41 : decode cX11_many 41 = .ok (.aload_n 3, 1) := by decide +kernel
theorem dX11_many_42 : decode cX11_many 42 = .ok (.getfield 102, 3) := by decide +kernel
theorem dX11_many_45 : decode cX11_many 45 = .ok (.ireturn, 1) := by decide +kernel
theorem dX11_many_46 : decode cX11_many 46 = .ok (.aload_n 3, 1) := by decide +kernel
theorem dX11_many_47 : decode cX11_many 47 = .ok (.getfield 105, 3) := by decide +kernel
theorem dX11_many_50 : decode cX11_many 50 = .ok (.ireturn, 1) := by decide +kernel
theorem dX11_many_51 : decode cX11_many 51 = .ok (.aload_n 3, 1) := by decide +kernel
theorem dX11_many_52 : decode cX11_many 52 = .ok (.getfield 108, 3) := by decide +kernel
theorem dX11_many_55 : decode cX11_many 55 = .ok (.ireturn, 1) := by decide +kernel
theorem dX11_many_56 : decode cX11_many 56 = .ok (.iconst (-1), 1) := by decide +kernel
theorem dX11_many_57 : decode cX11_many 57 = .ok (.ireturn, 1) := by decide +kernel
theorem dX11_push_0 : decode cX11_push 0 = .ok (.aload_n 0, 1) := by decide +kernel
theorem dX11_push_1 : decode cX11_push 1 = .ok (.iload 4, 2) := by decide +kernel
theorem dX11_push_3 : decode cX11_push 3 = .ok (.invokevirtual 95, 3) := by decide +kernel
theorem dX11_push_6 : decode cX11_push 6 = .ok (.iload_n 1, 1) := by decide +kernel
theorem dX11_push_7 : decode cX11_push 7 = .ok (.invokevirtual 111, 3) := by decide +kernel
theorem dX11_push_10 : decode cX11_push 10 = .ok (.astore 5, 2) := by decide +kernel
theorem dX11_push_12 : decode cX11_push 12 = .ok (.aload 5, 2) := by decide +kernel
theorem dX11_push_14 : decode cX11_push 14 = .ok (.ifnull 10, 3) := by decide +kernel
theorem dX11_push_17 : decode cX11_push 17 = .ok (.iload_n 3, 1) := by decide +kernel
theorem dX11_push_18 : decode cX11_push 18 = .ok (.invokestatic 115, 3) := by decide +kernel
theorem dX11_push_21 : decode cX11_push 21 = .ok (.ifCond .ne 5, 3) := by decide +kernel
theorem dX11_push_24 : decode cX11_push 24 = .ok (.iconst (-1), 1) := by decide +kernel
theorem dX11_push_25 : decode cX11_push 25 = .ok (.ireturn, 1) := by decide +kernel
theorem dX11_push_26 : decode cX11_push 26 = .ok (.aload 5, 2) := by decide +kernel
theorem dX11_push_28 : decode cX11_push 28 = .ok (.iload_n 2, 1) := by decide +kernel
theorem dX11_push_29 : decode cX11_push 29 = .ok (.invokevirtual 119, 3) := by decide +kernel
theorem dX11_push_32 : decode cX11_push 32 = .ok (.istore 6, 2) := by decide +kernel
theorem dX11_push_34 : decode cX11_push 34 = .ok (.iload 6, 2) := by decide +kernel
theorem dX11_push_36 : decode cX11_push 36 = .ok (.iconst (-1), 1) := by decide +kernel
theorem dX11_push_37 : decode cX11_push 37 = .ok (.if_icmp .ne 7, 3) := by decide +kernel
theorem dX11_push_40 : decode cX11_push 40 = .ok (.iconst (-1), 1) := by decide +kernel
theorem dX11_push_41 : decode cX11_push 41 = .ok (.goto 10, 3) := by decide +kernel
theorem dX11_push_44 : decode cX11_push 44 = .ok (.iload 6, 2) := by decide +kernel
theorem dX11_push_46 : decode cX11_push 46 = .ok (.iload_n 3, 1) := by decide +kernel
theorem dX11_push_47 : decode cX11_push 47 = .ok (.imul, 1) := by decide +kernel
theorem dX11_push_48 : decode cX11_push 48 = .ok (.bipush 100, 2) := by decide +kernel
theorem dX11_push_50 : decode cX11_push 50 = .ok (.idiv, 1) := by decide +kernel
theorem dX11_push_51 : decode cX11_push 51 = .ok (.ireturn, 1) := by decide +kernel
theorem dX11_squeeze_0 : decode cX11_squeeze 0 = .ok (.aload_n 0, 1) := by decide +kernel
theorem dX11_squeeze_1 : decode cX11_squeeze 1 = .ok (.iload_n 1, 1) := by decide +kernel
theorem dX11_squeeze_2 : decode cX11_squeeze 2 = .ok (.iload_n 2, 1) := by decide +kernel
theorem dX11_squeeze_3 : decode cX11_squeeze 3 = .ok (.iload 5, 2) := by decide +kernel
theorem dX11_squeeze_5 : decode cX11_squeeze 5 = .ok (.invokevirtual 125, 3) := by decide +kernel
theorem dX11_squeeze_8 : decode cX11_squeeze 8 = .ok (.astore 6, 2) := by decide +kernel
theorem dX11_squeeze_10 : decode cX11_squeeze 10 = .ok (.aload 6, 2) := by decide +kernel
theorem dX11_squeeze_12 : decode cX11_squeeze 12 = .ok (.ifnull 18, 3) := by decide +kernel
theorem dX11_squeeze_15 : decode cX11_squeeze 15 = .ok (.iload_n 3, 1) := by decide +kernel
theorem dX11_squeeze_16 : decode cX11_squeeze 16 = .ok (.invokestatic 129, 3) := by decide +kernel
theorem dX11_squeeze_19 : decode cX11_squeeze 19 = .ok (.ifCond .eq 11, 3) := by decide +kernel
theorem dX11_squeeze_22 : decode cX11_squeeze 22 = .ok (.iload 4, 2) := by decide +kernel
theorem dX11_squeeze_24 : decode cX11_squeeze 24 = .ok (.invokestatic 115, 3) := by decide +kernel
theorem dX11_squeeze_27 : decode cX11_squeeze 27 = .ok (.ifCond .ne 5, 3) := by decide +kernel
theorem dX11_squeeze_30 : decode cX11_squeeze 30 = .ok (.iconst (-1), 1) := by decide +kernel
theorem dX11_squeeze_31 : decode cX11_squeeze 31 = .ok (.ireturn, 1) := by decide +kernel
theorem dX11_squeeze_32 : decode cX11_squeeze 32 = .ok (.aload_n 0, 1) := by decide +kernel
theorem dX11_squeeze_33 : decode cX11_squeeze 33 = .ok (.getfield 37, 3) := by decide +kernel
theorem dX11_squeeze_36 : decode cX11_squeeze 36 = .ok (.iload 4, 2) := by decide +kernel
theorem dX11_squeeze_38 : decode cX11_squeeze 38 = .ok (.invokevirtual 132, 3) := by decide +kernel
theorem dX11_squeeze_41 : decode cX11_squeeze 41 = .ok (.aload_n 0, 1) := by decide +kernel
theorem dX11_squeeze_42 : decode cX11_squeeze 42 = .ok (.getfield 37, 3) := by decide +kernel
theorem dX11_squeeze_45 : decode cX11_squeeze 45 = .ok (.aload 6, 2) := by decide +kernel
theorem dX11_squeeze_47 : decode cX11_squeeze 47 = .ok (.getfield 135, 3) := by decide +kernel
theorem dX11_squeeze_50 : decode cX11_squeeze 50 = .ok (.iload_n 3, 1) := by decide +kernel
theorem dX11_squeeze_51 : decode cX11_squeeze 51 = .ok (.iconst 0, 1) := by decide +kernel
theorem dX11_squeeze_52 : decode cX11_squeeze 52 = .ok (.invokevirtual 140, 3) := by decide +kernel
theorem dX11_squeeze_55 : decode cX11_squeeze 55 = .ok (.ireturn, 1) := by decide +kernel
theorem dX11_blow_0 : decode cX11_blow 0 = .ok (.aload_n 0, 1) := by decide +kernel
theorem dX11_blow_1 : decode cX11_blow 1 = .ok (.iload_n 1, 1) := by decide +kernel
theorem dX11_blow_2 : decode cX11_blow 2 = .ok (.iload_n 2, 1) := by decide +kernel
theorem dX11_blow_3 : decode cX11_blow 3 = .ok (.iload 5, 2) := by decide +kernel
theorem dX11_blow_5 : decode cX11_blow 5 = .ok (.invokevirtual 125, 3) := by decide +kernel
theorem dX11_blow_8 : decode cX11_blow 8 = .ok (.astore 6, 2) := by decide +kernel
theorem dX11_blow_10 : decode cX11_blow 10 = .ok (.aload 6, 2) := by decide +kernel
theorem dX11_blow_12 : decode cX11_blow 12 = .ok (.ifnull 18, 3) := by decide +kernel
theorem dX11_blow_15 : decode cX11_blow 15 = .ok (.iload_n 3, 1) := by decide +kernel
theorem dX11_blow_16 : decode cX11_blow 16 = .ok (.invokestatic 129, 3) := by decide +kernel
theorem dX11_blow_19 : decode cX11_blow 19 = .ok (.ifCond .eq 11, 3) := by decide +kernel
theorem dX11_blow_22 : decode cX11_blow 22 = .ok (.iload 4, 2) := by decide +kernel
theorem dX11_blow_24 : decode cX11_blow 24 = .ok (.invokestatic 115, 3) := by decide +kernel
theorem dX11_blow_27 : decode cX11_blow 27 = .ok (.ifCond .ne 5, 3) := by decide +kernel
theorem dX11_blow_30 : decode cX11_blow 30 = .ok (.iconst (-1), 1) := by decide +kernel
theorem dX11_blow_31 : decode cX11_blow 31 = .ok (.ireturn, 1) := by decide +kernel
theorem dX11_blow_32 : decode cX11_blow 32 = .ok (.aload_n 0, 1) := by decide +kernel
theorem dX11_blow_33 : decode cX11_blow 33 = .ok (.getfield 37, 3) := by decide +kernel
theorem dX11_blow_36 : decode cX11_blow 36 = .ok (.iload 4, 2) := by decide +kernel
theorem dX11_blow_38 : decode cX11_blow 38 = .ok (.invokevirtual 132, 3) := by decide +kernel
theorem dX11_blow_41 : decode cX11_blow 41 = .ok (.aload_n 0, 1) := by decide +kernel
theorem dX11_blow_42 : decode cX11_blow 42 = .ok (.getfield 37, 3) := by decide +kernel
theorem dX11_blow_45 : decode cX11_blow 45 = .ok (.aload 6, 2) := by decide +kernel
theorem dX11_blow_47 : decode cX11_blow 47 = .ok (.getfield 135, 3) := by decide +kernel
theorem dX11_blow_50 : decode cX11_blow 50 = .ok (.iload_n 3, 1) := by decide +kernel
theorem dX11_blow_51 : decode cX11_blow 51 = .ok (.invokevirtual 144, 3) := by decide +kernel
theorem dX11_blow_54 : decode cX11_blow 54 = .ok (.ireturn, 1) := by decide +kernel
theorem dX11_again_0 : decode cX11_again 0 = .ok (.aload_n 0, 1) := by decide +kernel
theorem dX11_again_1 : decode cX11_again 1 = .ok (.iload_n 1, 1) := by decide +kernel
theorem dX11_again_2 : decode cX11_again 2 = .ok (.iload_n 2, 1) := by decide +kernel
theorem dX11_again_3 : decode cX11_again 3 = .ok (.iload 4, 2) := by decide +kernel
theorem dX11_again_5 : decode cX11_again 5 = .ok (.invokevirtual 125, 3) := by decide +kernel
theorem dX11_again_8 : decode cX11_again 8 = .ok (.astore 5, 2) := by decide +kernel
theorem dX11_again_10 : decode cX11_again 10 = .ok (.aload 5, 2) := by decide +kernel
theorem dX11_again_12 : decode cX11_again 12 = .ok (.ifnull 10, 3) := by decide +kernel
theorem dX11_again_15 : decode cX11_again 15 = .ok (.iload_n 3, 1) := by decide +kernel
theorem dX11_again_16 : decode cX11_again 16 = .ok (.invokestatic 129, 3) := by decide +kernel
theorem dX11_again_19 : decode cX11_again 19 = .ok (.ifCond .ne 5, 3) := by decide +kernel
theorem dX11_again_22 : decode cX11_again 22 = .ok (.iconst (-1), 1) := by decide +kernel
theorem dX11_again_23 : decode cX11_again 23 = .ok (.ireturn, 1) := by decide +kernel
theorem dX11_again_24 : decode cX11_again 24 = .ok (.iconst 0, 1) := by decide +kernel
theorem dX11_again_25 : decode cX11_again 25 = .ok (.istore 6, 2) := by decide +kernel
theorem dX11_again_27 : decode cX11_again 27 = .ok (.iload 6, 2) := by decide +kernel
theorem dX11_again_29 : decode cX11_again 29 = .ok (.bipush 60, 2) := by decide +kernel
theorem dX11_again_31 : decode cX11_again 31 = .ok (.if_icmp .ge 29, 3) := by decide +kernel
theorem dX11_again_34 : decode cX11_again 34 = .ok (.aload_n 0, 1) := by decide +kernel
theorem dX11_again_35 : decode cX11_again 35 = .ok (.getfield 37, 3) := by decide +kernel
theorem dX11_again_38 : decode cX11_again 38 = .ok (.aload 5, 2) := by decide +kernel
theorem dX11_again_40 : decode cX11_again 40 = .ok (.iload_n 3, 1) := by decide +kernel
theorem dX11_again_41 : decode cX11_again 41 = .ok (.invokevirtual 148, 3) := by decide +kernel
theorem dX11_again_44 : decode cX11_again 44 = .ok (.ifCond .eq 16, 3) := by decide +kernel
theorem dX11_again_47 : decode cX11_again 47 = .ok (.iinc 6 1, 3) := by decide +kernel
theorem dX11_again_50 : decode cX11_again 50 = .ok (.aload_n 0, 1) := by decide +kernel
theorem dX11_again_51 : decode cX11_again 51 = .ok (.getfield 37, 3) := by decide +kernel
theorem dX11_again_54 : decode cX11_again 54 = .ok (.invokevirtual 152, 3) := by decide +kernel
theorem dX11_again_57 : decode cX11_again 57 = .ok (.goto (-30), 3) := by decide +kernel
theorem dX11_again_60 : decode cX11_again 60 = .ok (.iload 6, 2) := by decide +kernel
theorem dX11_again_62 : decode cX11_again 62 = .ok (.ireturn, 1) := by decide +kernel
theorem dX11_breaks_0 : decode cX11_breaks 0 = .ok (.aload_n 0, 1) := by decide +kernel
theorem dX11_breaks_1 : decode cX11_breaks 1 = .ok (.iload_n 2, 1) := by decide +kernel
theorem dX11_breaks_2 : decode cX11_breaks 2 = .ok (.invokevirtual 95, 3) := by decide +kernel
theorem dX11_breaks_5 : decode cX11_breaks 5 = .ok (.astore_n 3, 1) := by decide +kernel
theorem dX11_breaks_6 : decode cX11_breaks 6 = .ok (.aload_n 3, 1) := by decide +kernel
theorem dX11_breaks_7 : decode cX11_breaks 7 = .ok (.iload_n 1, 1) := by decide +kernel
theorem dX11_breaks_8 : decode cX11_breaks 8 = .ok (.invokevirtual 155, 3) := by decide +kernel
theorem dX11_breaks_11 : decode cX11_breaks 11 = .ok (.astore 4, 2) := by decide +kernel
theorem dX11_breaks_13 : decode cX11_breaks 13 = .ok (.aload 4, 2) := by decide +kernel
theorem dX11_breaks_15 : decode cX11_breaks 15 = .ok (.ifnonnull 6, 3) := by decide +kernel
theorem dX11_breaks_18 : decode cX11_breaks 18 = .ok (.bipush (-2), 2) := by decide +kernel
theorem dX11_breaks_20 : decode cX11_breaks 20 = .ok (.ireturn, 1) := by decide +kernel
theorem dX11_breaks_21 : decode cX11_breaks 21 = .ok (.iconst 0, 1) := by decide +kernel
theorem dX11_breaks_22 : decode cX11_breaks 22 = .ok (.istore 5, 2) := by decide +kernel
theorem dX11_breaks_24 : decode cX11_breaks 24 = .ok (.iload 5, 2) := by decide +kernel
theorem dX11_breaks_26 : decode cX11_breaks 26 = .ok (.bipush 6, 2) := by decide +kernel
theorem dX11_breaks_28 : decode cX11_breaks 28 = .ok (.if_icmp .ge 18, 3) := by decide +kernel
theorem dX11_breaks_31 : decode cX11_breaks 31 = .ok (.aload_n 0, 1) := by decide +kernel
theorem dX11_breaks_32 : decode cX11_breaks 32 = .ok (.getfield 55, 3) := by decide +kernel
theorem dX11_breaks_35 : decode cX11_breaks 35 = .ok (.iload 5, 2) := by decide +kernel
theorem dX11_breaks_37 : decode cX11_breaks 37 = .ok (.bipush 100, 2) := by decide +kernel
theorem dX11_breaks_39 : decode cX11_breaks 39 = .ok (.iastore, 1) := by decide +kernel
theorem dX11_breaks_40 : decode cX11_breaks 40 = .ok (.iinc 5 1, 3) := by decide +kernel
theorem dX11_breaks_43 : decode cX11_breaks 43 = .ok (.goto (-19), 3) := by decide +kernel
theorem dX11_breaks_46 : decode cX11_breaks 46 = .ok (.iconst 0, 1) := by decide +kernel
theorem dX11_breaks_47 : decode cX11_breaks 47 = .ok (.istore 5, 2) := by decide +kernel
theorem dX11_breaks_49 : decode cX11_breaks 49 = .ok (.iload 5, 2) := by decide +kernel
theorem dX11_breaks_51 : decode cX11_breaks 51 = .ok (.aload_n 3, 1) := by decide +kernel
theorem dX11_breaks_52 : decode cX11_breaks 52 = .ok (.getfield 108, 3) := by decide +kernel
theorem dX11_breaks_55 : decode cX11_breaks 55 = .ok (.if_icmp .ge 60, 3) := by decide +kernel
theorem dX11_breaks_58 : decode cX11_breaks 58 = .ok (.aload_n 3, 1) := by decide +kernel
theorem dX11_breaks_59 : decode cX11_breaks 59 = .ok (.iload 5, 2) := by decide +kernel
theorem dX11_breaks_61 : decode cX11_breaks 61 = .ok (.invokevirtual 159, 3) := by decide +kernel
theorem dX11_breaks_64 : decode cX11_breaks 64 = .ok (.astore 6, 2) := by decide +kernel
theorem dX11_breaks_66 : decode cX11_breaks 66 = .ok (.aload 6, 2) := by decide +kernel
theorem dX11_breaks_68 : decode cX11_breaks 68 = .ok (.ifnull 12, 3) := by decide +kernel
theorem dX11_breaks_71 : decode cX11_breaks 71 = .ok (.aload 6, 2) := by decide +kernel
theorem dX11_breaks_73 : decode cX11_breaks 73 = .ok (.getfield 163, 3) := by decide +kernel
theorem dX11_breaks_76 : decode cX11_breaks 76 = .ok (.iload_n 1, 1) := by decide +kernel
theorem dX11_breaks_77 : decode cX11_breaks 77 = .ok (.if_icmp .eq 7, 3) := by decide +kernel
theorem dX11_breaks_80 : decode cX11_breaks 80 = .ok (.iconst (-1), 1) := by decide +kernel
theorem dX11_breaks_81 : decode cX11_breaks 81 = .ok (.goto 11, 3) := by decide +kernel
theorem dX11_breaks_84 : decode cX11_breaks 84 = .ok (.aload_n 0, 1) := by decide +kernel
theorem dX11_breaks_85 : decode cX11_breaks 85 = .ok (.aload 4, 2) := by decide +kernel
theorem dX11_breaks_87 : decode cX11_breaks 87 = .ok (.aload 6, 2) := by decide +kernel
theorem dX11_breaks_89 : decode cX11_breaks 89 = .ok (.invokevirtual 168, 3) := by decide +kernel
theorem dX11_breaks_92 : decode cX11_breaks 92 = .ok (.istore 7, 2) := by decide +kernel
theorem dX11_breaks_94 : decode cX11_breaks 94 = .ok (.iload 7, 2) := by decide +kernel
theorem dX11_breaks_96 : decode cX11_breaks 96 = .ok (.iconst (-1), 1) := by decide +kernel
theorem dX11_breaks_97 : decode cX11_breaks 97 = .ok (.if_icmp .eq 12, 3) := by decide +kernel
theorem dX11_breaks_100 : decode cX11_breaks 100 = .ok (.aload_n 0, 1) := by decide +kernel
theorem dX11_breaks_101 : decode cX11_breaks 101 = .ok (.iload 7, 2) := by decide +kernel
theorem dX11_breaks_103 : decode cX11_breaks 103 = .ok (.putfield 69, 3) := by decide +kernel
theorem dX11_breaks_106 : decode cX11_breaks 106 = .ok (.iload 5, 2) := by decide +kernel
theorem dX11_breaks_108 : decode cX11_breaks 108 = .ok (.ireturn, 1) := by decide +kernel
theorem dX11_breaks_109 : decode cX11_breaks 109 = .ok (.iinc 5 1, 3) := by decide +kernel
theorem dX11_breaks_112 : decode cX11_breaks 112 = .ok (.goto (-63), 3) := by decide +kernel
theorem dX11_breaks_115 : decode cX11_breaks 115 = .ok (.iconst (-1), 1) := by decide +kernel
theorem dX11_breaks_116 : decode cX11_breaks 116 = .ok (.ireturn, 1) := by decide +kernel
theorem dX11_breaksAt_0 : decode cX11_breaksAt 0 = .ok (.aload_n 0, 1) := by decide +kernel
theorem dX11_breaksAt_1 : decode cX11_breaksAt 1 = .ok (.getfield 69, 3) := by decide +kernel
theorem dX11_breaksAt_4 : decode cX11_breaksAt 4 = .ok (.ireturn, 1) := by decide +kernel
theorem dX11_spans_0 : decode cX11_spans 0 = .ok (.aload_n 0, 1) := by decide +kernel
theorem dX11_spans_1 : decode cX11_spans 1 = .ok (.iload_n 1, 1) := by decide +kernel
theorem dX11_spans_2 : decode cX11_spans 2 = .ok (.iload_n 2, 1) := by decide +kernel
theorem dX11_spans_3 : decode cX11_spans 3 = .ok (.iload 4, 2) := by decide +kernel
theorem dX11_spans_5 : decode cX11_spans 5 = .ok (.invokevirtual 125, 3) := by decide +kernel
theorem dX11_spans_8 : decode cX11_spans 8 = .ok (.astore 5, 2) := by decide +kernel
theorem dX11_spans_10 : decode cX11_spans 10 = .ok (.iconst (-1), 1) := by decide +kernel
theorem dX11_spans_11 : decode cX11_spans 11 = .ok (.istore 6, 2) := by decide +kernel
theorem dX11_spans_13 : decode cX11_spans 13 = .ok (.aload 5, 2) := by decide +kernel
theorem dX11_spans_15 : decode cX11_spans 15 = .ok (.ifnull 86, 3) := by decide +kernel
theorem dX11_spans_18 : decode cX11_spans 18 = .ok (.iload_n 3, 1) := by decide +kernel
theorem dX11_spans_19 : decode cX11_spans 19 = .ok (.invokestatic 129, 3) := by decide +kernel
theorem dX11_spans_22 : decode cX11_spans 22 = .ok (.ifCond .eq 79, 3) := by decide +kernel
theorem dX11_spans_25 : decode cX11_spans 25 = .ok (.aload_n 0, 1) := by decide +kernel
theorem dX11_spans_26 : decode cX11_spans 26 = .ok (.invokevirtual 172, 3) := by decide +kernel
theorem dX11_spans_29 : decode cX11_spans 29 = .ok (.ifCond .eq 72, 3) := by decide +kernel
theorem dX11_spans_32 : decode cX11_spans 32 = .ok (.iconst 0, 1) := by decide +kernel
theorem dX11_spans_33 : decode cX11_spans 33 = .ok (.istore 6, 2) := by decide +kernel
theorem dX11_spans_35 : decode cX11_spans 35 = .ok (.aload_n 0, 1) := by decide +kernel
theorem dX11_spans_36 : decode cX11_spans 36 = .ok (.getfield 10, 3) := by decide +kernel
theorem dX11_spans_39 : decode cX11_spans 39 = .ok (.iconst 2, 1) := by decide +kernel
theorem dX11_spans_40 : decode cX11_spans 40 = .ok (.invokevirtual 176, 3) := by decide +kernel
theorem dX11_spans_43 : decode cX11_spans 43 = .ok (.istore 7, 2) := by decide +kernel
theorem dX11_spans_45 : decode cX11_spans 45 = .ok (.iload 7, 2) := by decide +kernel
theorem dX11_spans_47 : decode cX11_spans 47 = .ok (.aload_n 0, 1) := by decide +kernel
theorem dX11_spans_48 : decode cX11_spans 48 = .ok (.getfield 10, 3) := by decide +kernel
theorem dX11_spans_51 : decode cX11_spans 51 = .ok (.iconst 3, 1) := by decide +kernel
theorem dX11_spans_52 : decode cX11_spans 52 = .ok (.invokevirtual 176, 3) := by decide +kernel
theorem dX11_spans_55 : decode cX11_spans 55 = .ok (.if_icmp .gt 46, 3) := by decide +kernel
theorem dX11_spans_58 : decode cX11_spans 58 = .ok (.aload_n 0, 1) := by decide +kernel
theorem dX11_spans_59 : decode cX11_spans 59 = .ok (.getfield 37, 3) := by decide +kernel
theorem dX11_spans_62 : decode cX11_spans 62 = .ok (.iload 7, 2) := by decide +kernel
theorem dX11_spans_64 : decode cX11_spans 64 = .ok (.invokevirtual 132, 3) := by decide +kernel
theorem dX11_spans_67 : decode cX11_spans 67 = .ok (.iload 6, 2) := by decide +kernel
theorem dX11_spans_69 : decode cX11_spans 69 = .ok (.aload_n 0, 1) := by decide +kernel
theorem dX11_spans_70 : decode cX11_spans 70 = .ok (.aload 5, 2) := by decide +kernel
theorem dX11_spans_72 : decode cX11_spans 72 = .ok (.iload_n 3, 1) := by decide +kernel
theorem dX11_spans_73 : decode cX11_spans 73 = .ok (.aload_n 0, 1) := by decide +kernel
theorem dX11_spans_74 : decode cX11_spans 74 = .ok (.getfield 10, 3) := by decide +kernel
theorem dX11_spans_77 : decode cX11_spans 77 = .ok (.iconst 0, 1) := by decide +kernel
theorem dX11_spans_78 : decode cX11_spans 78 = .ok (.invokevirtual 176, 3) := by decide +kernel
theorem dX11_spans_81 : decode cX11_spans 81 = .ok (.aload_n 0, 1) := by decide +kernel
theorem dX11_spans_82 : decode cX11_spans 82 = .ok (.getfield 10, 3) := by decide +kernel
theorem dX11_spans_85 : decode cX11_spans 85 = .ok (.iconst 1, 1) := by decide +kernel
theorem dX11_spans_86 : decode cX11_spans 86 = .ok (.invokevirtual 176, 3) := by decide +kernel
theorem dX11_spans_89 : decode cX11_spans 89 = .ok (.invokevirtual 179, 3) := by decide +kernel
theorem dX11_spans_92 : decode cX11_spans 92 = .ok (.iadd, 1) := by decide +kernel
theorem dX11_spans_93 : decode cX11_spans 93 = .ok (.istore 6, 2) := by decide +kernel
theorem dX11_spans_95 : decode cX11_spans 95 = .ok (.iinc 7 1, 3) := by decide +kernel
theorem dX11_spans_98 : decode cX11_spans 98 = .ok (.goto (-53), 3) := by decide +kernel
theorem dX11_spans_101 : decode cX11_spans 101 = .ok (.aload_n 0, 1) := by decide +kernel
theorem dX11_spans_102 : decode cX11_spans 102 = .ok (.getfield 10, 3) := by decide +kernel
theorem dX11_spans_105 : decode cX11_spans 105 = .ok (.iconst 0, 1) := by decide +kernel
theorem dX11_spans_106 : decode cX11_spans 106 = .ok (.putfield 72, 3) := by decide +kernel
theorem dX11_spans_109 : decode cX11_spans 109 = .ok (.iload 6, 2) := by decide +kernel
theorem dX11_spans_111 : decode cX11_spans 111 = .ok (.ireturn, 1) := by decide +kernel
theorem dX11_highest_0 : decode cX11_highest 0 = .ok (.aload_n 0, 1) := by decide +kernel
theorem dX11_highest_1 : decode cX11_highest 1 = .ok (.iload_n 1, 1) := by decide +kernel
theorem dX11_highest_2 : decode cX11_highest 2 = .ok (.iload_n 2, 1) := by decide +kernel
theorem dX11_highest_3 : decode cX11_highest 3 = .ok (.iload_n 3, 1) := by decide +kernel
theorem dX11_highest_4 : decode cX11_highest 4 = .ok (.invokevirtual 125, 3) := by decide +kernel
theorem dX11_highest_7 : decode cX11_highest 7 = .ok (.astore 4, 2) := by decide +kernel
theorem dX11_highest_9 : decode cX11_highest 9 = .ok (.aload 4, 2) := by decide +kernel
theorem dX11_highest_11 : decode cX11_highest 11 = .ok (.ifnonnull 7, 3) := by decide +kernel
theorem dX11_highest_14 : decode cX11_highest 14 = .ok (.iconst (-1), 1) := by decide +kernel
theorem dX11_highest_15 : decode cX11_highest 15 = .ok (.goto 21, 3) := by decide +kernel
theorem dX11_highest_18 : decode cX11_highest 18 = .ok (.aload_n 0, 1) := by decide +kernel
theorem dX11_highest_19 : decode cX11_highest 19 = .ok (.getfield 37, 3) := by decide +kernel
theorem dX11_highest_22 : decode cX11_highest 22 = .ok (.aload 4, 2) := by decide +kernel
theorem dX11_highest_24 : decode cX11_highest 24 = .ok (.getfield 135, 3) := by decide +kernel
theorem dX11_highest_27 : decode cX11_highest 27 = .ok (.aload 4, 2) := by decide +kernel
theorem dX11_highest_29 : decode cX11_highest 29 = .ok (.getfield 183, 3) := by decide +kernel
theorem dX11_highest_32 : decode cX11_highest 32 = .ok (.i2l, 1) := by decide +kernel
theorem dX11_highest_33 : decode cX11_highest 33 = .ok (.invokevirtual 186, 3) := by decide +kernel
theorem dX11_highest_36 : decode cX11_highest 36 = .ok (.ireturn, 1) := by decide +kernel
theorem dX11_recorded_0 : decode cX11_recorded 0 = .ok (.aload_n 0, 1) := by decide +kernel
theorem dX11_recorded_1 : decode cX11_recorded 1 = .ok (.iload_n 1, 1) := by decide +kernel
theorem dX11_recorded_2 : decode cX11_recorded 2 = .ok (.iload_n 2, 1) := by decide +kernel
theorem dX11_recorded_3 : decode cX11_recorded 3 = .ok (.iload 5, 2) := by decide +kernel
theorem dX11_recorded_5 : decode cX11_recorded 5 = .ok (.invokevirtual 125, 3) := by decide +kernel
theorem dX11_recorded_8 : decode cX11_recorded 8 = .ok (.astore 7, 2) := by decide +kernel
theorem dX11_recorded_10 : decode cX11_recorded 10 = .ok (.aload 7, 2) := by decide +kernel
theorem dX11_recorded_12 : decode cX11_recorded 12 = .ok (.ifnull 14, 3) := by decide +kernel
theorem dX11_recorded_15 : decode cX11_recorded 15 = .ok (.iload 6, 2) := by decide +kernel
theorem dX11_recorded_17 : decode cX11_recorded 17 = .ok (.ifCond .lt 9, 3) := by decide +kernel
theorem dX11_recorded_20 : decode cX11_recorded 20 = .ok (.iload 6, 2) := by decide +kernel
theorem dX11_recorded_22 : decode cX11_recorded 22 = .ok (.iconst 1, 1) := by decide +kernel
theorem dX11_recorded_23 : decode cX11_recorded 23 = .ok (.if_icmp .le 5, 3) := by decide +kernel
theorem dX11_recorded_26 : decode cX11_recorded 26 = .ok (.iconst (-1), 1) := by decide +kernel
theorem dX11_recorded_27 : decode cX11_recorded 27 = .ok (.ireturn, 1) := by decide +kernel
theorem dX11_recorded_28 : decode cX11_recorded 28 = .ok (.iload 6, 2) := by decide +kernel
theorem dX11_recorded_30 : decode cX11_recorded 30 = .ok (.iconst 1, 1) := by decide +kernel
theorem dX11_recorded_31 : decode cX11_recorded 31 = .ok (.if_icmp .ne 21, 3) := by decide +kernel
theorem dX11_recorded_34 : decode cX11_recorded 34 = .ok (.aload_n 0, 1) := by decide +kernel
theorem dX11_recorded_35 : decode cX11_recorded 35 = .ok (.getfield 37, 3) := by decide +kernel
theorem dX11_recorded_38 : decode cX11_recorded 38 = .ok (.aload 7, 2) := by decide +kernel
theorem dX11_recorded_40 : decode cX11_recorded 40 = .ok (.getfield 135, 3) := by decide +kernel
theorem dX11_recorded_43 : decode cX11_recorded 43 = .ok (.iload 4, 2) := by decide +kernel
theorem dX11_recorded_45 : decode cX11_recorded 45 = .ok (.i2l, 1) := by decide +kernel
theorem dX11_recorded_46 : decode cX11_recorded 46 = .ok (.invokevirtual 186, 3) := by decide +kernel
theorem dX11_recorded_49 : decode cX11_recorded 49 = .ok (.goto 21, 3) := by decide +kernel
theorem dX11_recorded_52 : decode cX11_recorded 52 = .ok (.aload_n 0, 1) := by decide +kernel
theorem dX11_recorded_53 : decode cX11_recorded 53 = .ok (.getfield 37, 3) := by decide +kernel
theorem dX11_recorded_56 : decode cX11_recorded 56 = .ok (.aload 7, 2) := by decide +kernel
theorem dX11_recorded_58 : decode cX11_recorded 58 = .ok (.getfield 135, 3) := by decide +kernel
theorem dX11_recorded_61 : decode cX11_recorded 61 = .ok (.iload_n 3, 1) := by decide +kernel
theorem dX11_recorded_62 : decode cX11_recorded 62 = .ok (.i2l, 1) := by decide +kernel
theorem dX11_recorded_63 : decode cX11_recorded 63 = .ok (.lconst 1, 1) := by decide +kernel
theorem dX11_recorded_64 : decode cX11_recorded 64 = .ok (.lsub, 1) := by decide +kernel
theorem dX11_recorded_65 : decode cX11_recorded 65 = .ok (.invokevirtual 186, 3) := by decide +kernel
theorem dX11_recorded_68 : decode cX11_recorded 68 = .ok (.iconst 1, 1) := by decide +kernel
theorem dX11_recorded_69 : decode cX11_recorded 69 = .ok (.iadd, 1) := by decide +kernel
theorem dX11_recorded_70 : decode cX11_recorded 70 = .ok (.istore 8, 2) := by decide +kernel
theorem dX11_recorded_72 : decode cX11_recorded 72 = .ok (.iload 8, 2) := by decide +kernel
theorem dX11_recorded_74 : decode cX11_recorded 74 = .ok (.invokestatic 129, 3) := by decide +kernel
theorem dX11_recorded_77 : decode cX11_recorded 77 = .ok (.ifCond .ne 5, 3) := by decide +kernel
theorem dX11_recorded_80 : decode cX11_recorded 80 = .ok (.iconst (-1), 1) := by decide +kernel
theorem dX11_recorded_81 : decode cX11_recorded 81 = .ok (.ireturn, 1) := by decide +kernel
theorem dX11_recorded_82 : decode cX11_recorded 82 = .ok (.aload_n 0, 1) := by decide +kernel
theorem dX11_recorded_83 : decode cX11_recorded 83 = .ok (.getfield 37, 3) := by decide +kernel
theorem dX11_recorded_86 : decode cX11_recorded 86 = .ok (.aload 7, 2) := by decide +kernel
theorem dX11_recorded_88 : decode cX11_recorded 88 = .ok (.getfield 135, 3) := by decide +kernel
theorem dX11_recorded_91 : decode cX11_recorded 91 = .ok (.iload 8, 2) := by decide +kernel
theorem dX11_recorded_93 : decode cX11_recorded 93 = .ok (.invokevirtual 144, 3) := by decide +kernel
theorem dX11_recorded_96 : decode cX11_recorded 96 = .ok (.istore 9, 2) := by decide +kernel
theorem dX11_recorded_98 : decode cX11_recorded 98 = .ok (.iload 9, 2) := by decide +kernel
theorem dX11_recorded_100 : decode cX11_recorded 100 = .ok (.bipush (-2), 2) := by decide +kernel
theorem dX11_recorded_102 : decode cX11_recorded 102 = .ok (.if_icmp .eq 21, 3) := by decide +kernel
theorem dX11_recorded_105 : decode cX11_recorded 105 = .ok (.iload 9, 2) := by decide +kernel
theorem dX11_recorded_107 : decode cX11_recorded 107 = .ok (.iload_n 3, 1) := by decide +kernel
theorem dX11_recorded_108 : decode cX11_recorded 108 = .ok (.if_icmp .lt 15, 3) := by decide +kernel
theorem dX11_recorded_111 : decode cX11_recorded 111 = .ok (.iload 9, 2) := by decide +kernel
theorem dX11_recorded_113 : decode cX11_recorded 113 = .ok (.iload 4, 2) := by decide +kernel
theorem dX11_recorded_115 : decode cX11_recorded 115 = .ok (.if_icmp .gt 8, 3) := by decide +kernel
theorem dX11_recorded_118 : decode cX11_recorded 118 = .ok (.iload 8, 2) := by decide +kernel
theorem dX11_recorded_120 : decode cX11_recorded 120 = .ok (.goto 4, 3) := by decide +kernel
theorem dX11_recorded_123 : decode cX11_recorded 123 = .ok (.iconst (-1), 1) := by decide +kernel
theorem dX11_recorded_124 : decode cX11_recorded 124 = .ok (.ireturn, 1) := by decide +kernel
theorem dX11_pads_0 : decode cX11_pads 0 = .ok (.aload_n 0, 1) := by decide +kernel
theorem dX11_pads_1 : decode cX11_pads 1 = .ok (.iload 5, 2) := by decide +kernel
theorem dX11_pads_3 : decode cX11_pads 3 = .ok (.invokevirtual 95, 3) := by decide +kernel
theorem dX11_pads_6 : decode cX11_pads 6 = .ok (.astore 6, 2) := by decide +kernel
theorem dX11_pads_8 : decode cX11_pads 8 = .ok (.aload 6, 2) := by decide +kernel
theorem dX11_pads_10 : decode cX11_pads 10 = .ok (.iload_n 1, 1) := by decide +kernel
theorem dX11_pads_11 : decode cX11_pads 11 = .ok (.invokevirtual 155, 3) := by decide +kernel
theorem dX11_pads_14 : decode cX11_pads 14 = .ok (.astore 7, 2) := by decide +kernel
theorem dX11_pads_16 : decode cX11_pads 16 = .ok (.aload 6, 2) := by decide +kernel
theorem dX11_pads_18 : decode cX11_pads 18 = .ok (.iload_n 2, 1) := by decide +kernel
theorem dX11_pads_19 : decode cX11_pads 19 = .ok (.invokevirtual 190, 3) := by decide +kernel
theorem dX11_pads_22 : decode cX11_pads 22 = .ok (.astore 8, 2) := by decide +kernel
theorem dX11_pads_24 : decode cX11_pads 24 = .ok (.bipush (-2), 2) := by decide +kernel
theorem dX11_pads_26 : decode cX11_pads 26 = .ok (.istore 9, 2) := by decide +kernel
theorem dX11_pads_28 : decode cX11_pads 28 = .ok (.aload 7, 2) := by decide +kernel
theorem dX11_pads_30 : decode cX11_pads 30 = .ok (.ifnull 108, 3) := by decide +kernel
theorem dX11_pads_33 : decode cX11_pads 33 = .ok (.aload 8, 2) := by decide +kernel
theorem dX11_pads_35 : decode cX11_pads 35 = .ok (.ifnull 103, 3) := by decide +kernel
theorem dX11_pads_38 : decode cX11_pads 38 = .ok (.iload_n 3, 1) := by decide +kernel
theorem dX11_pads_39 : decode cX11_pads 39 = .ok (.iconst 1, 1) := by decide +kernel
theorem dX11_pads_40 : decode cX11_pads 40 = .ok (.if_icmp .lt 98, 3) := by decide +kernel
theorem dX11_pads_43 : decode cX11_pads 43 = .ok (.iload_n 3, 1) := by decide +kernel
theorem dX11_pads_44 : decode cX11_pads 44 = .ok (.sipush 2000, 3) := by decide +kernel
theorem dX11_pads_47 : decode cX11_pads 47 = .ok (.if_icmp .gt 91, 3) := by decide +kernel
theorem dX11_pads_50 : decode cX11_pads 50 = .ok (.iload 4, 2) := by decide +kernel
theorem dX11_pads_52 : decode cX11_pads 52 = .ok (.invokestatic 129, 3) := by decide +kernel
theorem dX11_pads_55 : decode cX11_pads 55 = .ok (.ifCond .eq 83, 3) := by decide +kernel
theorem dX11_pads_58 : decode cX11_pads 58 = .ok (.aload_n 0, 1) := by decide +kernel
theorem dX11_pads_59 : decode cX11_pads 59 = .ok (.getfield 44, 3) := by decide +kernel
theorem dX11_pads_62 : decode cX11_pads 62 = .ok (.aload_n 0, 1) := by decide +kernel
theorem dX11_pads_63 : decode cX11_pads 63 = .ok (.getfield 10, 3) := by decide +kernel
theorem dX11_pads_66 : decode cX11_pads 66 = .ok (.aload 6, 2) := by decide +kernel
theorem dX11_pads_68 : decode cX11_pads 68 = .ok (.invokevirtual 194, 3) := by decide +kernel
theorem dX11_pads_71 : decode cX11_pads 71 = .ok (.ifCond .eq 67, 3) := by decide +kernel
theorem dX11_pads_74 : decode cX11_pads 74 = .ok (.iconst 0, 1) := by decide +kernel
theorem dX11_pads_75 : decode cX11_pads 75 = .ok (.istore 10, 2) := by decide +kernel
theorem dX11_pads_77 : decode cX11_pads 77 = .ok (.iload 10, 2) := by decide +kernel
theorem dX11_pads_79 : decode cX11_pads 79 = .ok (.aload_n 0, 1) := by decide +kernel
theorem dX11_pads_80 : decode cX11_pads 80 = .ok (.getfield 44, 3) := by decide +kernel
theorem dX11_pads_83 : decode cX11_pads 83 = .ok (.getfield 198, 3) := by decide +kernel
theorem dX11_pads_86 : decode cX11_pads 86 = .ok (.if_icmp .ge 39, 3) := by decide +kernel
theorem dX11_pads_89 : decode cX11_pads 89 = .ok (.aload_n 0, 1) := by decide +kernel
theorem dX11_pads_90 : decode cX11_pads 90 = .ok (.aload 6, 2) := by decide +kernel
theorem dX11_pads_92 : decode cX11_pads 92 = .ok (.iload 10, 2) := by decide +kernel
theorem dX11_pads_94 : decode cX11_pads 94 = .ok (.iload_n 3, 1) := by decide +kernel
theorem dX11_pads_95 : decode cX11_pads 95 = .ok (.invokevirtual 201, 3) := by decide +kernel
theorem dX11_pads_98 : decode cX11_pads 98 = .ok (.aload_n 0, 1) := by decide +kernel
theorem dX11_pads_99 : decode cX11_pads 99 = .ok (.getfield 44, 3) := by decide +kernel
theorem dX11_pads_102 : decode cX11_pads 102 = .ok (.iload 10, 2) := by decide +kernel
theorem dX11_pads_104 : decode cX11_pads 104 = .ok (.iload_n 3, 1) := by decide +kernel
theorem dX11_pads_105 : decode cX11_pads 105 = .ok (.aload_n 0, 1) := by decide +kernel
theorem dX11_pads_106 : decode cX11_pads 106 = .ok (.getfield 37, 3) := by decide +kernel
theorem dX11_pads_109 : decode cX11_pads 109 = .ok (.aload 7, 2) := by decide +kernel
theorem dX11_pads_111 : decode cX11_pads 111 = .ok (.iload 4, 2) := by decide +kernel
theorem dX11_pads_113 : decode cX11_pads 113 = .ok (.invokevirtual 148, 3) := by decide +kernel
theorem dX11_pads_116 : decode cX11_pads 116 = .ok (.invokevirtual 205, 3) := by decide +kernel
theorem dX11_pads_119 : decode cX11_pads 119 = .ok (.iinc 10 1, 3) := by decide +kernel
theorem dX11_pads_122 : decode cX11_pads 122 = .ok (.goto (-45), 3) := by decide +kernel
theorem dX11_pads_125 : decode cX11_pads 125 = .ok (.aload_n 0, 1) := by decide +kernel
theorem dX11_pads_126 : decode cX11_pads 126 = .ok (.getfield 44, 3) := by decide +kernel
theorem dX11_pads_129 : decode cX11_pads 129 = .ok (.aload 7, 2) := by decide +kernel
theorem dX11_pads_131 : decode cX11_pads 131 = .ok (.aload 8, 2) := by decide +kernel
theorem dX11_pads_133 : decode cX11_pads 133 = .ok (.invokevirtual 209, 3) := by decide +kernel
theorem dX11_pads_136 : decode cX11_pads 136 = .ok (.istore 9, 2) := by decide +kernel
theorem dX11_pads_138 : decode cX11_pads 138 = .ok (.aload_n 0, 1) := by decide +kernel
theorem dX11_pads_139 : decode cX11_pads 139 = .ok (.getfield 10, 3) := by decide +kernel
theorem dX11_pads_142 : decode cX11_pads 142 = .ok (.iconst 0, 1) := by decide +kernel
theorem dX11_pads_143 : decode cX11_pads 143 = .ok (.putfield 72, 3) := by decide +kernel
theorem dX11_pads_146 : decode cX11_pads 146 = .ok (.iload 9, 2) := by decide +kernel
theorem dX11_pads_148 : decode cX11_pads 148 = .ok (.ireturn, 1) := by decide +kernel
theorem dX11_padAt_0 : decode cX11_padAt 0 = .ok (.iload_n 1, 1) := by decide +kernel
theorem dX11_padAt_1 : decode cX11_padAt 1 = .ok (.invokestatic 213, 3) := by decide +kernel
theorem dX11_padAt_4 : decode cX11_padAt 4 = .ok (.ifCond .eq 15, 3) := by decide +kernel
theorem dX11_padAt_7 : decode cX11_padAt 7 = .ok (.aload_n 0, 1) := by decide +kernel
theorem dX11_padAt_8 : decode cX11_padAt 8 = .ok (.getfield 44, 3) := by decide +kernel
theorem dX11_padAt_11 : decode cX11_padAt 11 = .ok (.getfield 216, 3) := by decide +kernel
theorem dX11_padAt_14 : decode cX11_padAt 14 = .ok (.iload_n 1, 1) := by decide +kernel
theorem dX11_padAt_15 : decode cX11_padAt 15 = .ok (.iaload, 1) := by decide +kernel
theorem dX11_padAt_16 : decode cX11_padAt 16 = .ok (.goto 4, 3) := by decide +kernel
theorem dX11_padAt_19 : decode cX11_padAt 19 = .ok (.iconst (-1), 1) := by decide +kernel
theorem dX11_padAt_20 : decode cX11_padAt 20 = .ok (.ireturn, 1) := by decide +kernel
theorem dX11_boxes_0 : decode cX11_boxes 0 = .ok (.aload_n 0, 1) := by decide +kernel
theorem dX11_boxes_1 : decode cX11_boxes 1 = .ok (.iload_n 3, 1) := by decide +kernel
theorem dX11_boxes_2 : decode cX11_boxes 2 = .ok (.invokevirtual 95, 3) := by decide +kernel
theorem dX11_boxes_5 : decode cX11_boxes 5 = .ok (.astore 4, 2) := by decide +kernel
theorem dX11_boxes_7 : decode cX11_boxes 7 = .ok (.iload_n 1, 1) := by decide +kernel
theorem dX11_boxes_8 : decode cX11_boxes 8 = .ok (.ifCond .lt 29, 3) := by decide +kernel
theorem dX11_boxes_11 : decode cX11_boxes 11 = .ok (.iload_n 1, 1) := by decide +kernel
theorem dX11_boxes_12 : decode cX11_boxes 12 = .ok (.sipush 2000, 3) := by decide +kernel
theorem dX11_boxes_15 : decode cX11_boxes 15 = .ok (.if_icmp .gt 22, 3) := by decide +kernel
theorem dX11_boxes_18 : decode cX11_boxes 18 = .ok (.iload_n 2, 1) := by decide +kernel
theorem dX11_boxes_19 : decode cX11_boxes 19 = .ok (.iconst 1, 1) := by decide +kernel
theorem dX11_boxes_20 : decode cX11_boxes 20 = .ok (.if_icmp .lt 17, 3) := by decide +kernel
theorem dX11_boxes_23 : decode cX11_boxes 23 = .ok (.iload_n 2, 1) := by decide +kernel
theorem dX11_boxes_24 : decode cX11_boxes 24 = .ok (.bipush 8, 2) := by decide +kernel
theorem dX11_boxes_26 : decode cX11_boxes 26 = .ok (.if_icmp .gt 11, 3) := by decide +kernel
theorem dX11_boxes_29 : decode cX11_boxes 29 = .ok (.aload 4, 2) := by decide +kernel
theorem dX11_boxes_31 : decode cX11_boxes 31 = .ok (.getfield 102, 3) := by decide +kernel
theorem dX11_boxes_34 : decode cX11_boxes 34 = .ok (.ifCond .ne 6, 3) := by decide +kernel
theorem dX11_boxes_37 : decode cX11_boxes 37 = .ok (.bipush (-2), 2) := by decide +kernel
theorem dX11_boxes_39 : decode cX11_boxes 39 = .ok (.ireturn, 1) := by decide +kernel
theorem dX11_boxes_40 : decode cX11_boxes 40 = .ok (.aload_n 0, 1) := by decide +kernel
theorem dX11_boxes_41 : decode cX11_boxes 41 = .ok (.getfield 51, 3) := by decide +kernel
theorem dX11_boxes_44 : decode cX11_boxes 44 = .ok (.aload 4, 2) := by decide +kernel
theorem dX11_boxes_46 : decode cX11_boxes 46 = .ok (.iload_n 1, 1) := by decide +kernel
theorem dX11_boxes_47 : decode cX11_boxes 47 = .ok (.invokevirtual 219, 3) := by decide +kernel
theorem dX11_boxes_50 : decode cX11_boxes 50 = .ok (.aload_n 0, 1) := by decide +kernel
theorem dX11_boxes_51 : decode cX11_boxes 51 = .ok (.getfield 51, 3) := by decide +kernel
theorem dX11_boxes_54 : decode cX11_boxes 54 = .ok (.iload_n 2, 1) := by decide +kernel
theorem dX11_boxes_55 : decode cX11_boxes 55 = .ok (.invokevirtual 223, 3) := by decide +kernel
theorem dX11_boxes_58 : decode cX11_boxes 58 = .ok (.ireturn, 1) := by decide +kernel
theorem dX11_boxSet_0 : decode cX11_boxSet 0 = .ok (.aload_n 0, 1) := by decide +kernel
theorem dX11_boxSet_1 : decode cX11_boxSet 1 = .ok (.getfield 51, 3) := by decide +kernel
theorem dX11_boxSet_4 : decode cX11_boxSet 4 = .ok (.getfield 225, 3) := by decide +kernel
theorem dX11_boxSet_7 : decode cX11_boxSet 7 = .ok (.ireturn, 1) := by decide +kernel
theorem dX11_stack_0 : decode cX11_stack 0 = .ok (.aload_n 0, 1) := by decide +kernel
theorem dX11_stack_1 : decode cX11_stack 1 = .ok (.iload 4, 2) := by decide +kernel
theorem dX11_stack_3 : decode cX11_stack 3 = .ok (.invokevirtual 95, 3) := by decide +kernel
theorem dX11_stack_6 : decode cX11_stack 6 = .ok (.iload_n 1, 1) := by decide +kernel
theorem dX11_stack_7 : decode cX11_stack 7 = .ok (.invokevirtual 190, 3) := by decide +kernel
theorem dX11_stack_10 : decode cX11_stack 10 = .ok (.astore 5, 2) := by decide +kernel
theorem dX11_stack_12 : decode cX11_stack 12 = .ok (.bipush (-2), 2) := by decide +kernel
theorem dX11_stack_14 : decode cX11_stack 14 = .ok (.istore 6, 2) := by decide +kernel
theorem dX11_stack_16 : decode cX11_stack 16 = .ok (.aload 5, 2) := by decide +kernel
theorem dX11_stack_18 : decode cX11_stack 18 = .ok (.ifnull 64, 3) := by decide +kernel
theorem dX11_stack_21 : decode cX11_stack 21 = .ok (.iload_n 2, 1) := by decide +kernel
theorem dX11_stack_22 : decode cX11_stack 22 = .ok (.iconst 1, 1) := by decide +kernel
theorem dX11_stack_23 : decode cX11_stack 23 = .ok (.if_icmp .lt 59, 3) := by decide +kernel
theorem dX11_stack_26 : decode cX11_stack 26 = .ok (.iload_n 2, 1) := by decide +kernel
theorem dX11_stack_27 : decode cX11_stack 27 = .ok (.bipush 99, 2) := by decide +kernel
theorem dX11_stack_29 : decode cX11_stack 29 = .ok (.if_icmp .gt 53, 3) := by decide +kernel
theorem dX11_stack_32 : decode cX11_stack 32 = .ok (.iload_n 3, 1) := by decide +kernel
theorem dX11_stack_33 : decode cX11_stack 33 = .ok (.ifCond .lt 49, 3) := by decide +kernel
theorem dX11_stack_36 : decode cX11_stack 36 = .ok (.iload_n 3, 1) := by decide +kernel
theorem dX11_stack_37 : decode cX11_stack 37 = .ok (.ldc 228, 2) := by decide +kernel
theorem dX11_stack_39 : decode cX11_stack 39 = .ok (.if_icmp .gt 43, 3) := by decide +kernel
theorem dX11_stack_42 : decode cX11_stack 42 = .ok (.aload_n 0, 1) := by decide +kernel
theorem dX11_stack_43 : decode cX11_stack 43 = .ok (.getfield 10, 3) := by decide +kernel
theorem dX11_stack_46 : decode cX11_stack 46 = .ok (.getfield 72, 3) := by decide +kernel
theorem dX11_stack_49 : decode cX11_stack 49 = .ok (.iconst 1, 1) := by decide +kernel
theorem dX11_stack_50 : decode cX11_stack 50 = .ok (.if_icmp .lt 32, 3) := by decide +kernel
theorem dX11_stack_53 : decode cX11_stack 53 = .ok (.aload_n 0, 1) := by decide +kernel
theorem dX11_stack_54 : decode cX11_stack 54 = .ok (.getfield 10, 3) := by decide +kernel
theorem dX11_stack_57 : decode cX11_stack 57 = .ok (.getfield 72, 3) := by decide +kernel
theorem dX11_stack_60 : decode cX11_stack 60 = .ok (.sipush 400, 3) := by decide +kernel
theorem dX11_stack_63 : decode cX11_stack 63 = .ok (.if_icmp .gt 19, 3) := by decide +kernel
theorem dX11_stack_66 : decode cX11_stack 66 = .ok (.aload_n 0, 1) := by decide +kernel
theorem dX11_stack_67 : decode cX11_stack 67 = .ok (.aload 5, 2) := by decide +kernel
theorem dX11_stack_69 : decode cX11_stack 69 = .ok (.getfield 229, 3) := by decide +kernel
theorem dX11_stack_72 : decode cX11_stack 72 = .ok (.iload_n 2, 1) := by decide +kernel
theorem dX11_stack_73 : decode cX11_stack 73 = .ok (.iconst 1, 1) := by decide +kernel
theorem dX11_stack_74 : decode cX11_stack 74 = .ok (.isub, 1) := by decide +kernel
theorem dX11_stack_75 : decode cX11_stack 75 = .ok (.iload_n 3, 1) := by decide +kernel
theorem dX11_stack_76 : decode cX11_stack 76 = .ok (.imul, 1) := by decide +kernel
theorem dX11_stack_77 : decode cX11_stack 77 = .ok (.invokevirtual 234, 3) := by decide +kernel
theorem dX11_stack_80 : decode cX11_stack 80 = .ok (.istore 6, 2) := by decide +kernel
theorem dX11_stack_82 : decode cX11_stack 82 = .ok (.aload_n 0, 1) := by decide +kernel
theorem dX11_stack_83 : decode cX11_stack 83 = .ok (.getfield 10, 3) := by decide +kernel
theorem dX11_stack_86 : decode cX11_stack 86 = .ok (.iconst 0, 1) := by decide +kernel
theorem dX11_stack_87 : decode cX11_stack 87 = .ok (.putfield 72, 3) := by decide +kernel
theorem dX11_stack_90 : decode cX11_stack 90 = .ok (.iload 6, 2) := by decide +kernel
theorem dX11_stack_92 : decode cX11_stack 92 = .ok (.ireturn, 1) := by decide +kernel
theorem dX11_journey_0 : decode cX11_journey 0 = .ok (.aload_n 0, 1) := by decide +kernel
theorem dX11_journey_1 : decode cX11_journey 1 = .ok (.iload_n 2, 1) := by decide +kernel
theorem dX11_journey_2 : decode cX11_journey 2 = .ok (.invokevirtual 95, 3) := by decide +kernel
theorem dX11_journey_5 : decode cX11_journey 5 = .ok (.iload_n 1, 1) := by decide +kernel
theorem dX11_journey_6 : decode cX11_journey 6 = .ok (.invokevirtual 155, 3) := by decide +kernel
theorem dX11_journey_9 : decode cX11_journey 9 = .ok (.astore_n 3, 1) := by decide +kernel
theorem dX11_journey_10 : decode cX11_journey 10 = .ok (.aload_n 3, 1) := by decide +kernel
theorem dX11_journey_11 : decode cX11_journey 11 = .ok (.ifnull 10, 3) := by decide +kernel
theorem dX11_journey_14 : decode cX11_journey 14 = .ok (.aload_n 0, 1) := by decide +kernel
theorem dX11_journey_15 : decode cX11_journey 15 = .ok (.invokevirtual 237, 3) := by decide +kernel
theorem dX11_journey_18 : decode cX11_journey 18 = .ok (.ifCond .ne 13, 3) := by decide +kernel
theorem dX11_journey_21 : decode cX11_journey 21 = .ok (.new 240, 3) := by decide +kernel
theorem dX11_journey_24 : decode cX11_journey 24 = .ok (.dup, 1) := by decide +kernel
theorem dX11_journey_25 : decode cX11_journey 25 = .ok (.ldc 242, 2) := by decide +kernel
theorem dX11_journey_27 : decode cX11_journey 27 = .ok (.invokespecial 244, 3) := by decide +kernel
theorem dX11_journey_30 : decode cX11_journey 30 = .ok (.athrow, 1) := by decide +kernel
theorem dX11_journey_31 : decode cX11_journey 31 = .ok (.ldc2_w 247, 3) := by decide +kernel
theorem dX11_journey_34 : decode cX11_journey 34 = .ok (.lstore 4, 2) := by decide +kernel
theorem dX11_journey_36 : decode cX11_journey 36 = .ok (.iconst 0, 1) := by decide +kernel
theorem dX11_journey_37 : decode cX11_journey 37 = .ok (.istore 6, 2) := by decide +kernel
theorem dX11_journey_39 : decode cX11_journey 39 = .ok (.iload 6, 2) := by decide +kernel
theorem dX11_journey_41 : decode cX11_journey 41 = .ok (.aload_n 0, 1) := by decide +kernel
theorem dX11_journey_42 : decode cX11_journey 42 = .ok (.getfield 10, 3) := by decide +kernel
theorem dX11_journey_45 : decode cX11_journey 45 = .ok (.getfield 72, 3) := by decide +kernel
theorem dX11_journey_48 : decode cX11_journey 48 = .ok (.if_icmp .ge 61, 3) := by decide +kernel
theorem dX11_journey_51 : decode cX11_journey 51 = .ok (.aload_n 0, 1) := by decide +kernel
theorem dX11_journey_52 : decode cX11_journey 52 = .ok (.iload 6, 2) := by decide +kernel
theorem dX11_journey_54 : decode cX11_journey 54 = .ok (.invokevirtual 249, 3) := by decide +kernel
theorem dX11_journey_57 : decode cX11_journey 57 = .ok (.istore 7, 2) := by decide +kernel
theorem dX11_journey_59 : decode cX11_journey 59 = .ok (.aload_n 0, 1) := by decide +kernel
theorem dX11_journey_60 : decode cX11_journey 60 = .ok (.getfield 37, 3) := by decide +kernel
theorem dX11_journey_63 : decode cX11_journey 63 = .ok (.aload_n 3, 1) := by decide +kernel
theorem dX11_journey_64 : decode cX11_journey 64 = .ok (.aload_n 0, 1) := by decide +kernel
theorem dX11_journey_65 : decode cX11_journey 65 = .ok (.getfield 10, 3) := by decide +kernel
theorem dX11_journey_68 : decode cX11_journey 68 = .ok (.iload 6, 2) := by decide +kernel
theorem dX11_journey_70 : decode cX11_journey 70 = .ok (.invokevirtual 176, 3) := by decide +kernel
theorem dX11_journey_73 : decode cX11_journey 73 = .ok (.invokevirtual 252, 3) := by decide +kernel
theorem dX11_journey_76 : decode cX11_journey 76 = .ok (.iload 7, 2) := by decide +kernel
theorem dX11_journey_78 : decode cX11_journey 78 = .ok (.iconst 1, 1) := by decide +kernel
theorem dX11_journey_79 : decode cX11_journey 79 = .ok (.if_icmp .ge 7, 3) := by decide +kernel
theorem dX11_journey_82 : decode cX11_journey 82 = .ok (.lconst 0, 1) := by decide +kernel
theorem dX11_journey_83 : decode cX11_journey 83 = .ok (.goto 18, 3) := by decide +kernel
theorem dX11_journey_86 : decode cX11_journey 86 = .ok (.lload 4, 2) := by decide +kernel
theorem dX11_journey_88 : decode cX11_journey 88 = .ok (.aload_n 0, 1) := by decide +kernel
theorem dX11_journey_89 : decode cX11_journey 89 = .ok (.aload_n 3, 1) := by decide +kernel
theorem dX11_journey_90 : decode cX11_journey 90 = .ok (.iload 6, 2) := by decide +kernel
theorem dX11_journey_92 : decode cX11_journey 92 = .ok (.invokevirtual 256, 3) := by decide +kernel
theorem dX11_journey_95 : decode cX11_journey 95 = .ok (.i2l, 1) := by decide +kernel
theorem dX11_journey_96 : decode cX11_journey 96 = .ok (.lmul, 1) := by decide +kernel
theorem dX11_journey_97 : decode cX11_journey 97 = .ok (.iload 7, 2) := by decide +kernel
theorem dX11_journey_99 : decode cX11_journey 99 = .ok (.i2l, 1) := by decide +kernel
theorem dX11_journey_100 : decode cX11_journey 100 = .ok (.ldiv, 1) := by decide +kernel
theorem dX11_journey_101 : decode cX11_journey 101 = .ok (.lstore 4, 2) := by decide +kernel
theorem dX11_journey_103 : decode cX11_journey 103 = .ok (.iinc 6 10, 3) := by decide +kernel
theorem dX11_journey_106 : decode cX11_journey 106 = .ok (.goto (-67), 3) := by decide +kernel
theorem dX11_journey_109 : decode cX11_journey 109 = .ok (.aload_n 0, 1) := by decide +kernel
theorem dX11_journey_110 : decode cX11_journey 110 = .ok (.getfield 10, 3) := by decide +kernel
theorem dX11_journey_113 : decode cX11_journey 113 = .ok (.iconst 0, 1) := by decide +kernel
theorem dX11_journey_114 : decode cX11_journey 114 = .ok (.putfield 72, 3) := by decide +kernel
theorem dX11_journey_117 : decode cX11_journey 117 = .ok (.lload 4, 2) := by decide +kernel
theorem dX11_journey_119 : decode cX11_journey 119 = .ok (.lreturn, 1) := by decide +kernel
theorem dX11_proved_0 : decode cX11_proved 0 = .ok (.iload_n 1, 1) := by decide +kernel
theorem dX11_proved_1 : decode cX11_proved 1 = .ok (.iconst 1, 1) := by decide +kernel
theorem dX11_proved_2 : decode cX11_proved 2 = .ok (.if_icmp .lt 21, 3) := by decide +kernel
theorem dX11_proved_5 : decode cX11_proved 5 = .ok (.iload_n 1, 1) := by decide +kernel
theorem dX11_proved_6 : decode cX11_proved 6 = .ok (.bipush 8, 2) := by decide +kernel
theorem dX11_proved_8 : decode cX11_proved 8 = .ok (.if_icmp .gt 15, 3) := by decide +kernel
theorem dX11_proved_11 : decode cX11_proved 11 = .ok (.iload_n 2, 1) := by decide +kernel
theorem dX11_proved_12 : decode cX11_proved 12 = .ok (.iconst 2, 1) := by decide +kernel
theorem dX11_proved_13 : decode cX11_proved 13 = .ok (.if_icmp .lt 10, 3) := by decide +kernel
theorem dX11_proved_16 : decode cX11_proved 16 = .ok (.iload_n 2, 1) := by decide +kernel
theorem dX11_proved_17 : decode cX11_proved 17 = .ok (.sipush 900, 3) := by decide +kernel
theorem dX11_proved_20 : decode cX11_proved 20 = .ok (.if_icmp .le 5, 3) := by decide +kernel
theorem dX11_proved_23 : decode cX11_proved 23 = .ok (.iconst (-1), 1) := by decide +kernel
theorem dX11_proved_24 : decode cX11_proved 24 = .ok (.ireturn, 1) := by decide +kernel
theorem dX11_proved_25 : decode cX11_proved 25 = .ok (.ldc2_w 260, 3) := by decide +kernel
theorem dX11_proved_28 : decode cX11_proved 28 = .ok (.iload_n 1, 1) := by decide +kernel
theorem dX11_proved_29 : decode cX11_proved 29 = .ok (.invokestatic 262, 3) := by decide +kernel
theorem dX11_proved_32 : decode cX11_proved 32 = .ok (.lstore_n 3, 1) := by decide +kernel
theorem dX11_proved_33 : decode cX11_proved 33 = .ok (.bipush 99, 2) := by decide +kernel
theorem dX11_proved_35 : decode cX11_proved 35 = .ok (.istore 5, 2) := by decide +kernel
theorem dX11_proved_37 : decode cX11_proved 37 = .ok (.iload 5, 2) := by decide +kernel
theorem dX11_proved_39 : decode cX11_proved 39 = .ok (.ifCond .le 27, 3) := by decide +kernel
theorem dX11_proved_42 : decode cX11_proved 42 = .ok (.bipush 100, 2) := by decide +kernel
theorem dX11_proved_44 : decode cX11_proved 44 = .ok (.iload 5, 2) := by decide +kernel
theorem dX11_proved_46 : decode cX11_proved 46 = .ok (.isub, 1) := by decide +kernel
theorem dX11_proved_47 : decode cX11_proved 47 = .ok (.i2l, 1) := by decide +kernel
theorem dX11_proved_48 : decode cX11_proved 48 = .ok (.iload_n 1, 1) := by decide +kernel
theorem dX11_proved_49 : decode cX11_proved 49 = .ok (.invokestatic 262, 3) := by decide +kernel
theorem dX11_proved_52 : decode cX11_proved 52 = .ok (.iload_n 2, 1) := by decide +kernel
theorem dX11_proved_53 : decode cX11_proved 53 = .ok (.i2l, 1) := by decide +kernel
theorem dX11_proved_54 : decode cX11_proved 54 = .ok (.lmul, 1) := by decide +kernel
theorem dX11_proved_55 : decode cX11_proved 55 = .ok (.lload_n 3, 1) := by decide +kernel
theorem dX11_proved_56 : decode cX11_proved 56 = .ok (.lcmp, 1) := by decide +kernel
theorem dX11_proved_57 : decode cX11_proved 57 = .ok (.ifCond .ge 9, 3) := by decide +kernel
theorem dX11_proved_60 : decode cX11_proved 60 = .ok (.iinc 5 (-1), 3) := by decide +kernel
theorem dX11_proved_63 : decode cX11_proved 63 = .ok (.goto (-26), 3) := by decide +kernel
theorem dX11_proved_66 : decode cX11_proved 66 = .ok (.iload 5, 2) := by decide +kernel
theorem dX11_proved_68 : decode cX11_proved 68 = .ok (.ireturn, 1) := by decide +kernel
theorem dX11_needed_0 : decode cX11_needed 0 = .ok (.iload_n 1, 1) := by decide +kernel
theorem dX11_needed_1 : decode cX11_needed 1 = .ok (.iconst 1, 1) := by decide +kernel
theorem dX11_needed_2 : decode cX11_needed 2 = .ok (.if_icmp .lt 21, 3) := by decide +kernel
theorem dX11_needed_5 : decode cX11_needed 5 = .ok (.iload_n 1, 1) := by decide +kernel
theorem dX11_needed_6 : decode cX11_needed 6 = .ok (.bipush 99, 2) := by decide +kernel
theorem dX11_needed_8 : decode cX11_needed 8 = .ok (.if_icmp .gt 15, 3) := by decide +kernel
theorem dX11_needed_11 : decode cX11_needed 11 = .ok (.iload_n 2, 1) := by decide +kernel
theorem dX11_needed_12 : decode cX11_needed 12 = .ok (.iconst 2, 1) := by decide +kernel
theorem dX11_needed_13 : decode cX11_needed 13 = .ok (.if_icmp .lt 10, 3) := by decide +kernel
theorem dX11_needed_16 : decode cX11_needed 16 = .ok (.iload_n 2, 1) := by decide +kernel
theorem dX11_needed_17 : decode cX11_needed 17 = .ok (.ldc_w 266, 3) := by decide +kernel
theorem dX11_needed_20 : decode cX11_needed 20 = .ok (.if_icmp .le 5, 3) := by decide +kernel
theorem dX11_needed_23 : decode cX11_needed 23 = .ok (.iconst (-1), 1) := by decide +kernel
theorem dX11_needed_24 : decode cX11_needed 24 = .ok (.ireturn, 1) := by decide +kernel
theorem dX11_needed_25 : decode cX11_needed 25 = .ok (.ldc2_w 247, 3) := by decide +kernel
theorem dX11_needed_28 : decode cX11_needed 28 = .ok (.iload_n 2, 1) := by decide +kernel
theorem dX11_needed_29 : decode cX11_needed 29 = .ok (.i2l, 1) := by decide +kernel
theorem dX11_needed_30 : decode cX11_needed 30 = .ok (.ldiv, 1) := by decide +kernel
theorem dX11_needed_31 : decode cX11_needed 31 = .ok (.lstore_n 3, 1) := by decide +kernel
theorem dX11_needed_32 : decode cX11_needed 32 = .ok (.ldc2_w 247, 3) := by decide +kernel
theorem dX11_needed_35 : decode cX11_needed 35 = .ok (.lstore 5, 2) := by decide +kernel
theorem dX11_needed_37 : decode cX11_needed 37 = .ok (.iconst 1, 1) := by decide +kernel
theorem dX11_needed_38 : decode cX11_needed 38 = .ok (.istore 7, 2) := by decide +kernel
theorem dX11_needed_40 : decode cX11_needed 40 = .ok (.iload 7, 2) := by decide +kernel
theorem dX11_needed_42 : decode cX11_needed 42 = .ok (.sipush 999, 3) := by decide +kernel
theorem dX11_needed_45 : decode cX11_needed 45 = .ok (.if_icmp .gt 33, 3) := by decide +kernel
theorem dX11_needed_48 : decode cX11_needed 48 = .ok (.lload 5, 2) := by decide +kernel
theorem dX11_needed_50 : decode cX11_needed 50 = .ok (.bipush 100, 2) := by decide +kernel
theorem dX11_needed_52 : decode cX11_needed 52 = .ok (.iload_n 1, 1) := by decide +kernel
theorem dX11_needed_53 : decode cX11_needed 53 = .ok (.isub, 1) := by decide +kernel
theorem dX11_needed_54 : decode cX11_needed 54 = .ok (.i2l, 1) := by decide +kernel
theorem dX11_needed_55 : decode cX11_needed 55 = .ok (.lmul, 1) := by decide +kernel
theorem dX11_needed_56 : decode cX11_needed 56 = .ok (.ldc2_w 260, 3) := by decide +kernel
theorem dX11_needed_59 : decode cX11_needed 59 = .ok (.ldiv, 1) := by decide +kernel
theorem dX11_needed_60 : decode cX11_needed 60 = .ok (.lstore 5, 2) := by decide +kernel
theorem dX11_needed_62 : decode cX11_needed 62 = .ok (.lload 5, 2) := by decide +kernel
theorem dX11_needed_64 : decode cX11_needed 64 = .ok (.lload_n 3, 1) := by decide +kernel
theorem dX11_needed_65 : decode cX11_needed 65 = .ok (.lcmp, 1) := by decide +kernel
theorem dX11_needed_66 : decode cX11_needed 66 = .ok (.ifCond .ge 6, 3) := by decide +kernel
theorem dX11_needed_69 : decode cX11_needed 69 = .ok (.iload 7, 2) := by decide +kernel
theorem dX11_needed_71 : decode cX11_needed 71 = .ok (.ireturn, 1) := by decide +kernel
theorem dX11_needed_72 : decode cX11_needed 72 = .ok (.iinc 7 1, 3) := by decide +kernel
theorem dX11_needed_75 : decode cX11_needed 75 = .ok (.goto (-35), 3) := by decide +kernel
theorem dX11_needed_78 : decode cX11_needed 78 = .ok (.iconst (-1), 1) := by decide +kernel
theorem dX11_needed_79 : decode cX11_needed 79 = .ok (.ireturn, 1) := by decide +kernel
theorem dX11_count_0 : decode cX11_count 0 = .ok (.iload_n 1, 1) := by decide +kernel
theorem dX11_count_1 : decode cX11_count 1 = .ok (.tableswitch 45 0 2 #[27, 32, 37], 27) := by decide +kernel
theorem dX11_count_28 : decode cX11_count 28 = .ok (.aload_n 0, 1) := by decide +kernel
theorem dX11_count_29 : decode cX11_count 29 = .ok (.getfield 63, 3) := by decide +kernel
theorem dX11_count_32 : decode cX11_count 32 = .ok (.ireturn, 1) := by decide +kernel
theorem dX11_count_33 : decode cX11_count 33 = .ok (.aload_n 0, 1) := by decide +kernel
theorem dX11_count_34 : decode cX11_count 34 = .ok (.getfield 59, 3) := by decide +kernel
theorem dX11_count_37 : decode cX11_count 37 = .ok (.ireturn, 1) := by decide +kernel
theorem dX11_count_38 : decode cX11_count 38 = .ok (.aload_n 0, 1) := by decide +kernel
theorem dX11_count_39 : decode cX11_count 39 = .ok (.getfield 10, 3) := by decide +kernel
theorem dX11_count_42 : decode cX11_count 42 = .ok (.getfield 72, 3) := by decide +kernel
theorem dX11_count_45 : decode cX11_count 45 = .ok (.ireturn, 1) := by decide +kernel
theorem dX11_count_46 : decode cX11_count 46 = .ok (.iconst (-1), 1) := by decide +kernel
theorem dX11_count_47 : decode cX11_count 47 = .ok (.ireturn, 1) := by decide +kernel
theorem dX11_isSide_0 : decode cX11_isSide 0 = .ok (.iload_n 0, 1) := by decide +kernel
theorem dX11_isSide_1 : decode cX11_isSide 1 = .ok (.ifCond .lt 13, 3) := by decide +kernel
theorem dX11_isSide_4 : decode cX11_isSide 4 = .ok (.iload_n 0, 1) := by decide +kernel
theorem dX11_isSide_5 : decode cX11_isSide 5 = .ok (.bipush 6, 2) := by decide +kernel
theorem dX11_isSide_7 : decode cX11_isSide 7 = .ok (.if_icmp .ge 7, 3) := by decide +kernel
theorem dX11_isSide_10 : decode cX11_isSide 10 = .ok (.iconst 1, 1) := by decide +kernel
theorem dX11_isSide_11 : decode cX11_isSide 11 = .ok (.goto 4, 3) := by decide +kernel
theorem dX11_isSide_14 : decode cX11_isSide 14 = .ok (.iconst 0, 1) := by decide +kernel
theorem dX11_isSide_15 : decode cX11_isSide 15 = .ok (.ireturn, 1) := by decide +kernel
theorem dX11_isHeight_0 : decode cX11_isHeight 0 = .ok (.iload_n 0, 1) := by decide +kernel
theorem dX11_isHeight_1 : decode cX11_isHeight 1 = .ok (.ifCond .lt 14, 3) := by decide +kernel
theorem dX11_isHeight_4 : decode cX11_isHeight 4 = .ok (.iload_n 0, 1) := by decide +kernel
theorem dX11_isHeight_5 : decode cX11_isHeight 5 = .ok (.sipush 30000, 3) := by decide +kernel
theorem dX11_isHeight_8 : decode cX11_isHeight 8 = .ok (.if_icmp .gt 7, 3) := by decide +kernel
theorem dX11_isHeight_11 : decode cX11_isHeight 11 = .ok (.iconst 1, 1) := by decide +kernel
theorem dX11_isHeight_12 : decode cX11_isHeight 12 = .ok (.goto 4, 3) := by decide +kernel
theorem dX11_isHeight_15 : decode cX11_isHeight 15 = .ok (.iconst 0, 1) := by decide +kernel
theorem dX11_isHeight_16 : decode cX11_isHeight 16 = .ok (.ireturn, 1) := by decide +kernel
theorem dX11_isKept_0 : decode cX11_isKept 0 = .ok (.iload_n 0, 1) := by decide +kernel
theorem dX11_isKept_1 : decode cX11_isKept 1 = .ok (.ifCond .lt 14, 3) := by decide +kernel
theorem dX11_isKept_4 : decode cX11_isKept 4 = .ok (.iload_n 0, 1) := by decide +kernel
theorem dX11_isKept_5 : decode cX11_isKept 5 = .ok (.sipush 200, 3) := by decide +kernel
theorem dX11_isKept_8 : decode cX11_isKept 8 = .ok (.if_icmp .gt 7, 3) := by decide +kernel
theorem dX11_isKept_11 : decode cX11_isKept 11 = .ok (.iconst 1, 1) := by decide +kernel
theorem dX11_isKept_12 : decode cX11_isKept 12 = .ok (.goto 4, 3) := by decide +kernel
theorem dX11_isKept_15 : decode cX11_isKept 15 = .ok (.iconst 0, 1) := by decide +kernel
theorem dX11_isKept_16 : decode cX11_isKept 16 = .ok (.ireturn, 1) := by decide +kernel
theorem dX11_power_0 : decode cX11_power 0 = .ok (.lconst 1, 1) := by decide +kernel
theorem dX11_power_1 : decode cX11_power 1 = .ok (.lstore_n 3, 1) := by decide +kernel
theorem dX11_power_2 : decode cX11_power 2 = .ok (.iconst 0, 1) := by decide +kernel
theorem dX11_power_3 : decode cX11_power 3 = .ok (.istore 5, 2) := by decide +kernel
theorem dX11_power_5 : decode cX11_power 5 = .ok (.iload 5, 2) := by decide +kernel
theorem dX11_power_7 : decode cX11_power 7 = .ok (.iload_n 2, 1) := by decide +kernel
theorem dX11_power_8 : decode cX11_power 8 = .ok (.if_icmp .ge 13, 3) := by decide +kernel
theorem dX11_power_11 : decode cX11_power 11 = .ok (.lload_n 3, 1) := by decide +kernel
theorem dX11_power_12 : decode cX11_power 12 = .ok (.lload_n 0, 1) := by decide +kernel
theorem dX11_power_13 : decode cX11_power 13 = .ok (.lmul, 1) := by decide +kernel
theorem dX11_power_14 : decode cX11_power 14 = .ok (.lstore_n 3, 1) := by decide +kernel
theorem dX11_power_15 : decode cX11_power 15 = .ok (.iinc 5 1, 3) := by decide +kernel
theorem dX11_power_18 : decode cX11_power 18 = .ok (.goto (-13), 3) := by decide +kernel
theorem dX11_power_21 : decode cX11_power 21 = .ok (.lload_n 3, 1) := by decide +kernel
theorem dX11_power_22 : decode cX11_power 22 = .ok (.lreturn, 1) := by decide +kernel
theorem dX11_keepBook_0 : decode cX11_keepBook 0 = .ok (.aload_n 1, 1) := by decide +kernel
theorem dX11_keepBook_1 : decode cX11_keepBook 1 = .ok (.ifnull 43, 3) := by decide +kernel
theorem dX11_keepBook_4 : decode cX11_keepBook 4 = .ok (.aload_n 0, 1) := by decide +kernel
theorem dX11_keepBook_5 : decode cX11_keepBook 5 = .ok (.getfield 59, 3) := by decide +kernel
theorem dX11_keepBook_8 : decode cX11_keepBook 8 = .ok (.aload_n 0, 1) := by decide +kernel
theorem dX11_keepBook_9 : decode cX11_keepBook 9 = .ok (.getfield 25, 3) := by decide +kernel
theorem dX11_keepBook_12 : decode cX11_keepBook 12 = .ok (.arraylength, 1) := by decide +kernel
theorem dX11_keepBook_13 : decode cX11_keepBook 13 = .ok (.if_icmp .ge 31, 3) := by decide +kernel
theorem dX11_keepBook_16 : decode cX11_keepBook 16 = .ok (.aload_n 1, 1) := by decide +kernel
theorem dX11_keepBook_17 : decode cX11_keepBook 17 = .ok (.aload_n 0, 1) := by decide +kernel
theorem dX11_keepBook_18 : decode cX11_keepBook 18 = .ok (.getfield 63, 3) := by decide +kernel
theorem dX11_keepBook_21 : decode cX11_keepBook 21 = .ok (.putfield 267, 3) := by decide +kernel
theorem dX11_keepBook_24 : decode cX11_keepBook 24 = .ok (.aload_n 0, 1) := by decide +kernel
theorem dX11_keepBook_25 : decode cX11_keepBook 25 = .ok (.getfield 25, 3) := by decide +kernel
theorem dX11_keepBook_28 : decode cX11_keepBook 28 = .ok (.aload_n 0, 1) := by decide +kernel
theorem dX11_keepBook_29 : decode cX11_keepBook 29 = .ok (.getfield 59, 3) := by decide +kernel
theorem dX11_keepBook_32 : decode cX11_keepBook 32 = .ok (.aload_n 1, 1) := by decide +kernel
theorem dX11_keepBook_33 : decode cX11_keepBook 33 = .ok (.aastore, 1) := by decide +kernel
theorem dX11_keepBook_34 : decode cX11_keepBook 34 = .ok (.aload_n 0, 1) := by decide +kernel
theorem dX11_keepBook_35 : decode cX11_keepBook 35 = .ok (.dup, 1) := by decide +kernel
theorem dX11_keepBook_36 : decode cX11_keepBook 36 = .ok (.getfield 59, 3) := by decide +kernel
theorem dX11_keepBook_39 : decode cX11_keepBook 39 = .ok (.iconst 1, 1) := by decide +kernel
theorem dX11_keepBook_40 : decode cX11_keepBook 40 = .ok (.iadd, 1) := by decide +kernel
theorem dX11_keepBook_41 : decode cX11_keepBook 41 = .ok (.putfield 59, 3) := by decide +kernel
theorem dX11_keepBook_44 : decode cX11_keepBook 44 = .ok (.return_, 1) := by decide +kernel
theorem dX11_asOf_0 : decode cX11_asOf 0 = .ok (.aload_n 0, 1) := by decide +kernel
theorem dX11_asOf_1 : decode cX11_asOf 1 = .ok (.getfield 59, 3) := by decide +kernel
theorem dX11_asOf_4 : decode cX11_asOf 4 = .ok (.aload_n 0, 1) := by decide +kernel
theorem dX11_asOf_5 : decode cX11_asOf 5 = .ok (.getfield 25, 3) := by decide +kernel
theorem dX11_asOf_8 : decode cX11_asOf 8 = .ok (.arraylength, 1) := by decide +kernel
theorem dX11_asOf_9 : decode cX11_asOf 9 = .ok (.invokestatic 270, 3) := by decide +kernel
theorem dX11_asOf_12 : decode cX11_asOf 12 = .ok (.iconst 1, 1) := by decide +kernel
theorem dX11_asOf_13 : decode cX11_asOf 13 = .ok (.isub, 1) := by decide +kernel
theorem dX11_asOf_14 : decode cX11_asOf 14 = .ok (.istore_n 2, 1) := by decide +kernel
theorem dX11_asOf_15 : decode cX11_asOf 15 = .ok (.iload_n 2, 1) := by decide +kernel
theorem dX11_asOf_16 : decode cX11_asOf 16 = .ok (.ifCond .lt 38, 3) := by decide +kernel
theorem dX11_asOf_19 : decode cX11_asOf 19 = .ok (.aload_n 0, 1) := by decide +kernel
theorem dX11_asOf_20 : decode cX11_asOf 20 = .ok (.getfield 25, 3) := by decide +kernel
theorem dX11_asOf_23 : decode cX11_asOf 23 = .ok (.iload_n 2, 1) := by decide +kernel
theorem dX11_asOf_24 : decode cX11_asOf 24 = .ok (.aaload, 1) := by decide +kernel
theorem dX11_asOf_25 : decode cX11_asOf 25 = .ok (.ifnull 23, 3) := by decide +kernel
theorem dX11_asOf_28 : decode cX11_asOf 28 = .ok (.aload_n 0, 1) := by decide +kernel
theorem dX11_asOf_29 : decode cX11_asOf 29 = .ok (.getfield 25, 3) := by decide +kernel
theorem dX11_asOf_32 : decode cX11_asOf 32 = .ok (.iload_n 2, 1) := by decide +kernel
theorem dX11_asOf_33 : decode cX11_asOf 33 = .ok (.aaload, 1) := by decide +kernel
theorem dX11_asOf_34 : decode cX11_asOf 34 = .ok (.getfield 267, 3) := by decide +kernel
theorem dX11_asOf_37 : decode cX11_asOf 37 = .ok (.iload_n 1, 1) := by decide +kernel
theorem dX11_asOf_38 : decode cX11_asOf 38 = .ok (.if_icmp .gt 10, 3) := by decide +kernel
theorem dX11_asOf_41 : decode cX11_asOf 41 = .ok (.aload_n 0, 1) := by decide +kernel
theorem dX11_asOf_42 : decode cX11_asOf 42 = .ok (.getfield 25, 3) := by decide +kernel
theorem dX11_asOf_45 : decode cX11_asOf 45 = .ok (.iload_n 2, 1) := by decide +kernel
theorem dX11_asOf_46 : decode cX11_asOf 46 = .ok (.aaload, 1) := by decide +kernel
theorem dX11_asOf_47 : decode cX11_asOf 47 = .ok (.areturn, 1) := by decide +kernel
theorem dX11_asOf_48 : decode cX11_asOf 48 = .ok (.iinc 2 (-1), 3) := by decide +kernel
theorem dX11_asOf_51 : decode cX11_asOf 51 = .ok (.goto (-36), 3) := by decide +kernel
theorem dX11_asOf_54 : decode cX11_asOf 54 = .ok (.aload_n 0, 1) := by decide +kernel
theorem dX11_asOf_55 : decode cX11_asOf 55 = .ok (.getfield 30, 3) := by decide +kernel
theorem dX11_asOf_58 : decode cX11_asOf 58 = .ok (.areturn, 1) := by decide +kernel
theorem dX11_putOnPad_0 : decode cX11_putOnPad 0 = .ok (.aload_n 0, 1) := by decide +kernel
theorem dX11_putOnPad_1 : decode cX11_putOnPad 1 = .ok (.iload_n 3, 1) := by decide +kernel
theorem dX11_putOnPad_2 : decode cX11_putOnPad 2 = .ok (.invokevirtual 95, 3) := by decide +kernel
theorem dX11_putOnPad_5 : decode cX11_putOnPad 5 = .ok (.iload_n 1, 1) := by decide +kernel
theorem dX11_putOnPad_6 : decode cX11_putOnPad 6 = .ok (.invokevirtual 155, 3) := by decide +kernel
theorem dX11_putOnPad_9 : decode cX11_putOnPad 9 = .ok (.astore 4, 2) := by decide +kernel
theorem dX11_putOnPad_11 : decode cX11_putOnPad 11 = .ok (.aload 4, 2) := by decide +kernel
theorem dX11_putOnPad_13 : decode cX11_putOnPad 13 = .ok (.ifnull 10, 3) := by decide +kernel
theorem dX11_putOnPad_16 : decode cX11_putOnPad 16 = .ok (.iload_n 2, 1) := by decide +kernel
theorem dX11_putOnPad_17 : decode cX11_putOnPad 17 = .ok (.invokestatic 213, 3) := by decide +kernel
theorem dX11_putOnPad_20 : decode cX11_putOnPad 20 = .ok (.ifCond .ne 5, 3) := by decide +kernel
theorem dX11_putOnPad_23 : decode cX11_putOnPad 23 = .ok (.aconst_null, 1) := by decide +kernel
theorem dX11_putOnPad_24 : decode cX11_putOnPad 24 = .ok (.areturn, 1) := by decide +kernel
theorem dX11_putOnPad_25 : decode cX11_putOnPad 25 = .ok (.aload_n 0, 1) := by decide +kernel
theorem dX11_putOnPad_26 : decode cX11_putOnPad 26 = .ok (.getfield 37, 3) := by decide +kernel
theorem dX11_putOnPad_29 : decode cX11_putOnPad 29 = .ok (.aload 4, 2) := by decide +kernel
theorem dX11_putOnPad_31 : decode cX11_putOnPad 31 = .ok (.iload_n 2, 1) := by decide +kernel
theorem dX11_putOnPad_32 : decode cX11_putOnPad 32 = .ok (.invokevirtual 252, 3) := by decide +kernel
theorem dX11_putOnPad_35 : decode cX11_putOnPad 35 = .ok (.aload 4, 2) := by decide +kernel
theorem dX11_putOnPad_37 : decode cX11_putOnPad 37 = .ok (.areturn, 1) := by decide +kernel
theorem dX11_timeThatBreaks_0 : decode cX11_timeThatBreaks 0 = .ok (.aload_n 2, 1) := by decide +kernel
theorem dX11_timeThatBreaks_1 : decode cX11_timeThatBreaks 1 = .ok (.getfield 275, 3) := by decide +kernel
theorem dX11_timeThatBreaks_4 : decode cX11_timeThatBreaks 4 = .ok (.invokestatic 213, 3) := by decide +kernel
theorem dX11_timeThatBreaks_7 : decode cX11_timeThatBreaks 7 = .ok (.ifCond .ne 5, 3) := by decide +kernel
theorem dX11_timeThatBreaks_10 : decode cX11_timeThatBreaks 10 = .ok (.iconst (-1), 1) := by decide +kernel
theorem dX11_timeThatBreaks_11 : decode cX11_timeThatBreaks 11 = .ok (.ireturn, 1) := by decide +kernel
theorem dX11_timeThatBreaks_12 : decode cX11_timeThatBreaks 12 = .ok (.aload_n 0, 1) := by decide +kernel
theorem dX11_timeThatBreaks_13 : decode cX11_timeThatBreaks 13 = .ok (.getfield 37, 3) := by decide +kernel
theorem dX11_timeThatBreaks_16 : decode cX11_timeThatBreaks 16 = .ok (.aload_n 1, 1) := by decide +kernel
theorem dX11_timeThatBreaks_17 : decode cX11_timeThatBreaks 17 = .ok (.aload_n 2, 1) := by decide +kernel
theorem dX11_timeThatBreaks_18 : decode cX11_timeThatBreaks 18 = .ok (.getfield 275, 3) := by decide +kernel
theorem dX11_timeThatBreaks_21 : decode cX11_timeThatBreaks 21 = .ok (.invokevirtual 252, 3) := by decide +kernel
theorem dX11_timeThatBreaks_24 : decode cX11_timeThatBreaks 24 = .ok (.aload_n 0, 1) := by decide +kernel
theorem dX11_timeThatBreaks_25 : decode cX11_timeThatBreaks 25 = .ok (.getfield 37, 3) := by decide +kernel
theorem dX11_timeThatBreaks_28 : decode cX11_timeThatBreaks 28 = .ok (.aload_n 0, 1) := by decide +kernel
theorem dX11_timeThatBreaks_29 : decode cX11_timeThatBreaks 29 = .ok (.getfield 55, 3) := by decide +kernel
theorem dX11_timeThatBreaks_32 : decode cX11_timeThatBreaks 32 = .ok (.aload_n 2, 1) := by decide +kernel
theorem dX11_timeThatBreaks_33 : decode cX11_timeThatBreaks 33 = .ok (.getfield 275, 3) := by decide +kernel
theorem dX11_timeThatBreaks_36 : decode cX11_timeThatBreaks 36 = .ok (.iaload, 1) := by decide +kernel
theorem dX11_timeThatBreaks_37 : decode cX11_timeThatBreaks 37 = .ok (.invokevirtual 132, 3) := by decide +kernel
theorem dX11_timeThatBreaks_40 : decode cX11_timeThatBreaks 40 = .ok (.iconst 1, 1) := by decide +kernel
theorem dX11_timeThatBreaks_41 : decode cX11_timeThatBreaks 41 = .ok (.istore_n 3, 1) := by decide +kernel
theorem dX11_timeThatBreaks_42 : decode cX11_timeThatBreaks 42 = .ok (.iload_n 3, 1) := by decide +kernel
theorem dX11_timeThatBreaks_43 : decode cX11_timeThatBreaks 43 = .ok (.aload_n 2, 1) := by decide +kernel
theorem dX11_timeThatBreaks_44 : decode cX11_timeThatBreaks 44 = .ok (.getfield 278, 3) := by decide +kernel
theorem dX11_timeThatBreaks_47 : decode cX11_timeThatBreaks 47 = .ok (.if_icmp .gt 33, 3) := by decide +kernel
theorem dX11_timeThatBreaks_50 : decode cX11_timeThatBreaks 50 = .ok (.aload_n 0, 1) := by decide +kernel
theorem dX11_timeThatBreaks_51 : decode cX11_timeThatBreaks 51 = .ok (.getfield 37, 3) := by decide +kernel
theorem dX11_timeThatBreaks_54 : decode cX11_timeThatBreaks 54 = .ok (.aload_n 1, 1) := by decide +kernel
theorem dX11_timeThatBreaks_55 : decode cX11_timeThatBreaks 55 = .ok (.aload_n 2, 1) := by decide +kernel
theorem dX11_timeThatBreaks_56 : decode cX11_timeThatBreaks 56 = .ok (.getfield 281, 3) := by decide +kernel
theorem dX11_timeThatBreaks_59 : decode cX11_timeThatBreaks 59 = .ok (.invokevirtual 148, 3) := by decide +kernel
theorem dX11_timeThatBreaks_62 : decode cX11_timeThatBreaks 62 = .ok (.ifCond .ne 5, 3) := by decide +kernel
theorem dX11_timeThatBreaks_65 : decode cX11_timeThatBreaks 65 = .ok (.iload_n 3, 1) := by decide +kernel
theorem dX11_timeThatBreaks_66 : decode cX11_timeThatBreaks 66 = .ok (.ireturn, 1) := by decide +kernel
theorem dX11_timeThatBreaks_67 : decode cX11_timeThatBreaks 67 = .ok (.aload_n 0, 1) := by decide +kernel
theorem dX11_timeThatBreaks_68 : decode cX11_timeThatBreaks 68 = .ok (.getfield 37, 3) := by decide +kernel
theorem dX11_timeThatBreaks_71 : decode cX11_timeThatBreaks 71 = .ok (.invokevirtual 152, 3) := by decide +kernel
theorem dX11_timeThatBreaks_74 : decode cX11_timeThatBreaks 74 = .ok (.iinc 3 1, 3) := by decide +kernel
theorem dX11_timeThatBreaks_77 : decode cX11_timeThatBreaks 77 = .ok (.goto (-35), 3) := by decide +kernel
theorem dX11_timeThatBreaks_80 : decode cX11_timeThatBreaks 80 = .ok (.aload_n 0, 1) := by decide +kernel
theorem dX11_timeThatBreaks_81 : decode cX11_timeThatBreaks 81 = .ok (.getfield 55, 3) := by decide +kernel
theorem dX11_timeThatBreaks_84 : decode cX11_timeThatBreaks 84 = .ok (.aload_n 2, 1) := by decide +kernel
theorem dX11_timeThatBreaks_85 : decode cX11_timeThatBreaks 85 = .ok (.getfield 275, 3) := by decide +kernel
theorem dX11_timeThatBreaks_88 : decode cX11_timeThatBreaks 88 = .ok (.aload_n 0, 1) := by decide +kernel
theorem dX11_timeThatBreaks_89 : decode cX11_timeThatBreaks 89 = .ok (.getfield 37, 3) := by decide +kernel
theorem dX11_timeThatBreaks_92 : decode cX11_timeThatBreaks 92 = .ok (.getfield 284, 3) := by decide +kernel
theorem dX11_timeThatBreaks_95 : decode cX11_timeThatBreaks 95 = .ok (.iastore, 1) := by decide +kernel
theorem dX11_timeThatBreaks_96 : decode cX11_timeThatBreaks 96 = .ok (.iconst (-1), 1) := by decide +kernel
theorem dX11_timeThatBreaks_97 : decode cX11_timeThatBreaks 97 = .ok (.ireturn, 1) := by decide +kernel
theorem dX11_tapeTellsSpans_0 : decode cX11_tapeTellsSpans 0 = .ok (.aload_n 0, 1) := by decide +kernel
theorem dX11_tapeTellsSpans_1 : decode cX11_tapeTellsSpans 1 = .ok (.getfield 10, 3) := by decide +kernel
theorem dX11_tapeTellsSpans_4 : decode cX11_tapeTellsSpans 4 = .ok (.getfield 72, 3) := by decide +kernel
theorem dX11_tapeTellsSpans_7 : decode cX11_tapeTellsSpans 7 = .ok (.iconst 4, 1) := by decide +kernel
theorem dX11_tapeTellsSpans_8 : decode cX11_tapeTellsSpans 8 = .ok (.if_icmp .eq 5, 3) := by decide +kernel
theorem dX11_tapeTellsSpans_11 : decode cX11_tapeTellsSpans 11 = .ok (.iconst 0, 1) := by decide +kernel
theorem dX11_tapeTellsSpans_12 : decode cX11_tapeTellsSpans 12 = .ok (.ireturn, 1) := by decide +kernel
theorem dX11_tapeTellsSpans_13 : decode cX11_tapeTellsSpans 13 = .ok (.iconst 0, 1) := by decide +kernel
theorem dX11_tapeTellsSpans_14 : decode cX11_tapeTellsSpans 14 = .ok (.istore_n 1, 1) := by decide +kernel
theorem dX11_tapeTellsSpans_15 : decode cX11_tapeTellsSpans 15 = .ok (.iload_n 1, 1) := by decide +kernel
theorem dX11_tapeTellsSpans_16 : decode cX11_tapeTellsSpans 16 = .ok (.iconst 4, 1) := by decide +kernel
theorem dX11_tapeTellsSpans_17 : decode cX11_tapeTellsSpans 17 = .ok (.if_icmp .ge 37, 3) := by decide +kernel
theorem dX11_tapeTellsSpans_20 : decode cX11_tapeTellsSpans 20 = .ok (.aload_n 0, 1) := by decide +kernel
theorem dX11_tapeTellsSpans_21 : decode cX11_tapeTellsSpans 21 = .ok (.getfield 10, 3) := by decide +kernel
theorem dX11_tapeTellsSpans_24 : decode cX11_tapeTellsSpans 24 = .ok (.iload_n 1, 1) := by decide +kernel
theorem dX11_tapeTellsSpans_25 : decode cX11_tapeTellsSpans 25 = .ok (.invokevirtual 176, 3) := by decide +kernel
theorem dX11_tapeTellsSpans_28 : decode cX11_tapeTellsSpans 28 = .ok (.iconst 1, 1) := by decide +kernel
theorem dX11_tapeTellsSpans_29 : decode cX11_tapeTellsSpans 29 = .ok (.if_icmp .lt 17, 3) := by decide +kernel
theorem dX11_tapeTellsSpans_32 : decode cX11_tapeTellsSpans 32 = .ok (.aload_n 0, 1) := by decide +kernel
theorem dX11_tapeTellsSpans_33 : decode cX11_tapeTellsSpans 33 = .ok (.getfield 10, 3) := by decide +kernel
theorem dX11_tapeTellsSpans_36 : decode cX11_tapeTellsSpans 36 = .ok (.iload_n 1, 1) := by decide +kernel
theorem dX11_tapeTellsSpans_37 : decode cX11_tapeTellsSpans 37 = .ok (.invokevirtual 176, 3) := by decide +kernel
theorem dX11_tapeTellsSpans_40 : decode cX11_tapeTellsSpans 40 = .ok (.sipush 200, 3) := by decide +kernel
theorem dX11_tapeTellsSpans_43 : decode cX11_tapeTellsSpans 43 = .ok (.if_icmp .le 5, 3) := by decide +kernel
theorem dX11_tapeTellsSpans_46 : decode cX11_tapeTellsSpans 46 = .ok (.iconst 0, 1) := by decide +kernel
theorem dX11_tapeTellsSpans_47 : decode cX11_tapeTellsSpans 47 = .ok (.ireturn, 1) := by decide +kernel
theorem dX11_tapeTellsSpans_48 : decode cX11_tapeTellsSpans 48 = .ok (.iinc 1 1, 3) := by decide +kernel
theorem dX11_tapeTellsSpans_51 : decode cX11_tapeTellsSpans 51 = .ok (.goto (-36), 3) := by decide +kernel
theorem dX11_tapeTellsSpans_54 : decode cX11_tapeTellsSpans 54 = .ok (.aload_n 0, 1) := by decide +kernel
theorem dX11_tapeTellsSpans_55 : decode cX11_tapeTellsSpans 55 = .ok (.getfield 10, 3) := by decide +kernel
theorem dX11_tapeTellsSpans_58 : decode cX11_tapeTellsSpans 58 = .ok (.iconst 0, 1) := by decide +kernel
theorem dX11_tapeTellsSpans_59 : decode cX11_tapeTellsSpans 59 = .ok (.invokevirtual 176, 3) := by decide +kernel
theorem dX11_tapeTellsSpans_62 : decode cX11_tapeTellsSpans 62 = .ok (.aload_n 0, 1) := by decide +kernel
theorem dX11_tapeTellsSpans_63 : decode cX11_tapeTellsSpans 63 = .ok (.getfield 10, 3) := by decide +kernel
theorem dX11_tapeTellsSpans_66 : decode cX11_tapeTellsSpans 66 = .ok (.iconst 1, 1) := by decide +kernel
theorem dX11_tapeTellsSpans_67 : decode cX11_tapeTellsSpans 67 = .ok (.invokevirtual 176, 3) := by decide +kernel
theorem dX11_tapeTellsSpans_70 : decode cX11_tapeTellsSpans 70 = .ok (.if_icmp .gt 26, 3) := by decide +kernel
theorem dX11_tapeTellsSpans_73 : decode cX11_tapeTellsSpans 73 = .ok (.aload_n 0, 1) := by decide +kernel
theorem dX11_tapeTellsSpans_74 : decode cX11_tapeTellsSpans 74 = .ok (.getfield 10, 3) := by decide +kernel
theorem dX11_tapeTellsSpans_77 : decode cX11_tapeTellsSpans 77 = .ok (.iconst 2, 1) := by decide +kernel
theorem dX11_tapeTellsSpans_78 : decode cX11_tapeTellsSpans 78 = .ok (.invokevirtual 176, 3) := by decide +kernel
theorem dX11_tapeTellsSpans_81 : decode cX11_tapeTellsSpans 81 = .ok (.aload_n 0, 1) := by decide +kernel
theorem dX11_tapeTellsSpans_82 : decode cX11_tapeTellsSpans 82 = .ok (.getfield 10, 3) := by decide +kernel
theorem dX11_tapeTellsSpans_85 : decode cX11_tapeTellsSpans 85 = .ok (.iconst 3, 1) := by decide +kernel
theorem dX11_tapeTellsSpans_86 : decode cX11_tapeTellsSpans 86 = .ok (.invokevirtual 176, 3) := by decide +kernel
theorem dX11_tapeTellsSpans_89 : decode cX11_tapeTellsSpans 89 = .ok (.if_icmp .gt 7, 3) := by decide +kernel
theorem dX11_tapeTellsSpans_92 : decode cX11_tapeTellsSpans 92 = .ok (.iconst 1, 1) := by decide +kernel
theorem dX11_tapeTellsSpans_93 : decode cX11_tapeTellsSpans 93 = .ok (.goto 4, 3) := by decide +kernel
theorem dX11_tapeTellsSpans_96 : decode cX11_tapeTellsSpans 96 = .ok (.iconst 0, 1) := by decide +kernel
theorem dX11_tapeTellsSpans_97 : decode cX11_tapeTellsSpans 97 = .ok (.ireturn, 1) := by decide +kernel
theorem dX11_weightsThatHold_0 : decode cX11_weightsThatHold 0 = .ok (.iconst 0, 1) := by decide +kernel
theorem dX11_weightsThatHold_1 : decode cX11_weightsThatHold 1 = .ok (.istore 5, 2) := by decide +kernel
theorem dX11_weightsThatHold_3 : decode cX11_weightsThatHold 3 = .ok (.iconst 0, 1) := by decide +kernel
theorem dX11_weightsThatHold_4 : decode cX11_weightsThatHold 4 = .ok (.istore 6, 2) := by decide +kernel
theorem dX11_weightsThatHold_6 : decode cX11_weightsThatHold 6 = .ok (.iload_n 3, 1) := by decide +kernel
theorem dX11_weightsThatHold_7 : decode cX11_weightsThatHold 7 = .ok (.istore 7, 2) := by decide +kernel
theorem dX11_weightsThatHold_9 : decode cX11_weightsThatHold 9 = .ok (.iload 7, 2) := by decide +kernel
theorem dX11_weightsThatHold_11 : decode cX11_weightsThatHold 11 = .ok (.iload 4, 2) := by decide +kernel
theorem dX11_weightsThatHold_13 : decode cX11_weightsThatHold 13 = .ok (.if_icmp .gt 70, 3) := by decide +kernel
theorem dX11_weightsThatHold_16 : decode cX11_weightsThatHold 16 = .ok (.iconst 1, 1) := by decide +kernel
theorem dX11_weightsThatHold_17 : decode cX11_weightsThatHold 17 = .ok (.aload_n 1, 1) := by decide +kernel
theorem dX11_weightsThatHold_18 : decode cX11_weightsThatHold 18 = .ok (.getfield 135, 3) := by decide +kernel
theorem dX11_weightsThatHold_21 : decode cX11_weightsThatHold 21 = .ok (.iload 7, 2) := by decide +kernel
theorem dX11_weightsThatHold_23 : decode cX11_weightsThatHold 23 = .ok (.imul, 1) := by decide +kernel
theorem dX11_weightsThatHold_24 : decode cX11_weightsThatHold 24 = .ok (.bipush 100, 2) := by decide +kernel
theorem dX11_weightsThatHold_26 : decode cX11_weightsThatHold 26 = .ok (.idiv, 1) := by decide +kernel
theorem dX11_weightsThatHold_27 : decode cX11_weightsThatHold 27 = .ok (.invokestatic 287, 3) := by decide +kernel
theorem dX11_weightsThatHold_30 : decode cX11_weightsThatHold 30 = .ok (.istore 8, 2) := by decide +kernel
theorem dX11_weightsThatHold_32 : decode cX11_weightsThatHold 32 = .ok (.aload_n 0, 1) := by decide +kernel
theorem dX11_weightsThatHold_33 : decode cX11_weightsThatHold 33 = .ok (.getfield 37, 3) := by decide +kernel
theorem dX11_weightsThatHold_36 : decode cX11_weightsThatHold 36 = .ok (.iload 8, 2) := by decide +kernel
theorem dX11_weightsThatHold_38 : decode cX11_weightsThatHold 38 = .ok (.iload_n 2, 1) := by decide +kernel
theorem dX11_weightsThatHold_39 : decode cX11_weightsThatHold 39 = .ok (.iload 6, 2) := by decide +kernel
theorem dX11_weightsThatHold_41 : decode cX11_weightsThatHold 41 = .ok (.invokevirtual 140, 3) := by decide +kernel
theorem dX11_weightsThatHold_44 : decode cX11_weightsThatHold 44 = .ok (.istore 6, 2) := by decide +kernel
theorem dX11_weightsThatHold_46 : decode cX11_weightsThatHold 46 = .ok (.iload 6, 2) := by decide +kernel
theorem dX11_weightsThatHold_48 : decode cX11_weightsThatHold 48 = .ok (.bipush (-2), 2) := by decide +kernel
theorem dX11_weightsThatHold_50 : decode cX11_weightsThatHold 50 = .ok (.if_icmp .ne 6, 3) := by decide +kernel
theorem dX11_weightsThatHold_53 : decode cX11_weightsThatHold 53 = .ok (.iload 5, 2) := by decide +kernel
theorem dX11_weightsThatHold_55 : decode cX11_weightsThatHold 55 = .ok (.ireturn, 1) := by decide +kernel
theorem dX11_weightsThatHold_56 : decode cX11_weightsThatHold 56 = .ok (.aload_n 0, 1) := by decide +kernel
theorem dX11_weightsThatHold_57 : decode cX11_weightsThatHold 57 = .ok (.getfield 37, 3) := by decide +kernel
theorem dX11_weightsThatHold_60 : decode cX11_weightsThatHold 60 = .ok (.iload 6, 2) := by decide +kernel
theorem dX11_weightsThatHold_62 : decode cX11_weightsThatHold 62 = .ok (.iload 8, 2) := by decide +kernel
theorem dX11_weightsThatHold_64 : decode cX11_weightsThatHold 64 = .ok (.invokevirtual 290, 3) := by decide +kernel
theorem dX11_weightsThatHold_67 : decode cX11_weightsThatHold 67 = .ok (.aload_n 1, 1) := by decide +kernel
theorem dX11_weightsThatHold_68 : decode cX11_weightsThatHold 68 = .ok (.getfield 183, 3) := by decide +kernel
theorem dX11_weightsThatHold_71 : decode cX11_weightsThatHold 71 = .ok (.if_icmp .gt 6, 3) := by decide +kernel
theorem dX11_weightsThatHold_74 : decode cX11_weightsThatHold 74 = .ok (.iinc 5 1, 3) := by decide +kernel
theorem dX11_weightsThatHold_77 : decode cX11_weightsThatHold 77 = .ok (.iinc 7 1, 3) := by decide +kernel
theorem dX11_weightsThatHold_80 : decode cX11_weightsThatHold 80 = .ok (.goto (-71), 3) := by decide +kernel
theorem dX11_weightsThatHold_83 : decode cX11_weightsThatHold 83 = .ok (.iload 5, 2) := by decide +kernel
theorem dX11_weightsThatHold_85 : decode cX11_weightsThatHold 85 = .ok (.ireturn, 1) := by decide +kernel
theorem dX11_layKind_0 : decode cX11_layKind 0 = .ok (.aload_n 0, 1) := by decide +kernel
theorem dX11_layKind_1 : decode cX11_layKind 1 = .ok (.getfield 37, 3) := by decide +kernel
theorem dX11_layKind_4 : decode cX11_layKind 4 = .ok (.aload_n 1, 1) := by decide +kernel
theorem dX11_layKind_5 : decode cX11_layKind 5 = .ok (.aload_n 0, 1) := by decide +kernel
theorem dX11_layKind_6 : decode cX11_layKind 6 = .ok (.getfield 44, 3) := by decide +kernel
theorem dX11_layKind_9 : decode cX11_layKind 9 = .ok (.iload_n 2, 1) := by decide +kernel
theorem dX11_layKind_10 : decode cX11_layKind 10 = .ok (.invokevirtual 293, 3) := by decide +kernel
theorem dX11_layKind_13 : decode cX11_layKind 13 = .ok (.invokevirtual 111, 3) := by decide +kernel
theorem dX11_layKind_16 : decode cX11_layKind 16 = .ok (.aload_n 0, 1) := by decide +kernel
theorem dX11_layKind_17 : decode cX11_layKind 17 = .ok (.getfield 44, 3) := by decide +kernel
theorem dX11_layKind_20 : decode cX11_layKind 20 = .ok (.iload_n 2, 1) := by decide +kernel
theorem dX11_layKind_21 : decode cX11_layKind 21 = .ok (.invokevirtual 296, 3) := by decide +kernel
theorem dX11_layKind_24 : decode cX11_layKind 24 = .ok (.iload_n 3, 1) := by decide +kernel
theorem dX11_layKind_25 : decode cX11_layKind 25 = .ok (.invokevirtual 299, 3) := by decide +kernel
theorem dX11_layKind_28 : decode cX11_layKind 28 = .ok (.return_, 1) := by decide +kernel
theorem dX11_dayOfFall_0 : decode cX11_dayOfFall 0 = .ok (.iconst 0, 1) := by decide +kernel
theorem dX11_dayOfFall_1 : decode cX11_dayOfFall 1 = .ok (.istore_n 3, 1) := by decide +kernel
theorem dX11_dayOfFall_2 : decode cX11_dayOfFall 2 = .ok (.iload_n 3, 1) := by decide +kernel
theorem dX11_dayOfFall_3 : decode cX11_dayOfFall 3 = .ok (.aload_n 0, 1) := by decide +kernel
theorem dX11_dayOfFall_4 : decode cX11_dayOfFall 4 = .ok (.getfield 10, 3) := by decide +kernel
theorem dX11_dayOfFall_7 : decode cX11_dayOfFall 7 = .ok (.getfield 72, 3) := by decide +kernel
theorem dX11_dayOfFall_10 : decode cX11_dayOfFall 10 = .ok (.if_icmp .ge 28, 3) := by decide +kernel
theorem dX11_dayOfFall_13 : decode cX11_dayOfFall 13 = .ok (.iload_n 2, 1) := by decide +kernel
theorem dX11_dayOfFall_14 : decode cX11_dayOfFall 14 = .ok (.iload_n 1, 1) := by decide +kernel
theorem dX11_dayOfFall_15 : decode cX11_dayOfFall 15 = .ok (.aload_n 0, 1) := by decide +kernel
theorem dX11_dayOfFall_16 : decode cX11_dayOfFall 16 = .ok (.getfield 10, 3) := by decide +kernel
theorem dX11_dayOfFall_19 : decode cX11_dayOfFall 19 = .ok (.iload_n 3, 1) := by decide +kernel
theorem dX11_dayOfFall_20 : decode cX11_dayOfFall 20 = .ok (.invokevirtual 176, 3) := by decide +kernel
theorem dX11_dayOfFall_23 : decode cX11_dayOfFall 23 = .ok (.imul, 1) := by decide +kernel
theorem dX11_dayOfFall_24 : decode cX11_dayOfFall 24 = .ok (.bipush 100, 2) := by decide +kernel
theorem dX11_dayOfFall_26 : decode cX11_dayOfFall 26 = .ok (.idiv, 1) := by decide +kernel
theorem dX11_dayOfFall_27 : decode cX11_dayOfFall 27 = .ok (.if_icmp .le 5, 3) := by decide +kernel
theorem dX11_dayOfFall_30 : decode cX11_dayOfFall 30 = .ok (.iload_n 3, 1) := by decide +kernel
theorem dX11_dayOfFall_31 : decode cX11_dayOfFall 31 = .ok (.ireturn, 1) := by decide +kernel
theorem dX11_dayOfFall_32 : decode cX11_dayOfFall 32 = .ok (.iinc 3 1, 3) := by decide +kernel
theorem dX11_dayOfFall_35 : decode cX11_dayOfFall 35 = .ok (.goto (-33), 3) := by decide +kernel
theorem dX11_dayOfFall_38 : decode cX11_dayOfFall 38 = .ok (.iconst (-1), 1) := by decide +kernel
theorem dX11_dayOfFall_39 : decode cX11_dayOfFall 39 = .ok (.ireturn, 1) := by decide +kernel
theorem dX11_tapeTellsLegs_0 : decode cX11_tapeTellsLegs 0 = .ok (.aload_n 0, 1) := by decide +kernel
theorem dX11_tapeTellsLegs_1 : decode cX11_tapeTellsLegs 1 = .ok (.getfield 10, 3) := by decide +kernel
theorem dX11_tapeTellsLegs_4 : decode cX11_tapeTellsLegs 4 = .ok (.getfield 72, 3) := by decide +kernel
theorem dX11_tapeTellsLegs_7 : decode cX11_tapeTellsLegs 7 = .ok (.bipush 10, 2) := by decide +kernel
theorem dX11_tapeTellsLegs_9 : decode cX11_tapeTellsLegs 9 = .ok (.if_icmp .lt 29, 3) := by decide +kernel
theorem dX11_tapeTellsLegs_12 : decode cX11_tapeTellsLegs 12 = .ok (.aload_n 0, 1) := by decide +kernel
theorem dX11_tapeTellsLegs_13 : decode cX11_tapeTellsLegs 13 = .ok (.getfield 10, 3) := by decide +kernel
theorem dX11_tapeTellsLegs_16 : decode cX11_tapeTellsLegs 16 = .ok (.getfield 72, 3) := by decide +kernel
theorem dX11_tapeTellsLegs_19 : decode cX11_tapeTellsLegs 19 = .ok (.sipush 400, 3) := by decide +kernel
theorem dX11_tapeTellsLegs_22 : decode cX11_tapeTellsLegs 22 = .ok (.if_icmp .gt 16, 3) := by decide +kernel
theorem dX11_tapeTellsLegs_25 : decode cX11_tapeTellsLegs 25 = .ok (.aload_n 0, 1) := by decide +kernel
theorem dX11_tapeTellsLegs_26 : decode cX11_tapeTellsLegs 26 = .ok (.getfield 10, 3) := by decide +kernel
theorem dX11_tapeTellsLegs_29 : decode cX11_tapeTellsLegs 29 = .ok (.getfield 72, 3) := by decide +kernel
theorem dX11_tapeTellsLegs_32 : decode cX11_tapeTellsLegs 32 = .ok (.bipush 10, 2) := by decide +kernel
theorem dX11_tapeTellsLegs_34 : decode cX11_tapeTellsLegs 34 = .ok (.irem, 1) := by decide +kernel
theorem dX11_tapeTellsLegs_35 : decode cX11_tapeTellsLegs 35 = .ok (.ifCond .eq 5, 3) := by decide +kernel
theorem dX11_tapeTellsLegs_38 : decode cX11_tapeTellsLegs 38 = .ok (.iconst 0, 1) := by decide +kernel
theorem dX11_tapeTellsLegs_39 : decode cX11_tapeTellsLegs 39 = .ok (.ireturn, 1) := by decide +kernel
theorem dX11_tapeTellsLegs_40 : decode cX11_tapeTellsLegs 40 = .ok (.iconst 0, 1) := by decide +kernel
theorem dX11_tapeTellsLegs_41 : decode cX11_tapeTellsLegs 41 = .ok (.istore_n 1, 1) := by decide +kernel
theorem dX11_tapeTellsLegs_42 : decode cX11_tapeTellsLegs 42 = .ok (.iload_n 1, 1) := by decide +kernel
theorem dX11_tapeTellsLegs_43 : decode cX11_tapeTellsLegs 43 = .ok (.aload_n 0, 1) := by decide +kernel
theorem dX11_tapeTellsLegs_44 : decode cX11_tapeTellsLegs 44 = .ok (.getfield 10, 3) := by decide +kernel
theorem dX11_tapeTellsLegs_47 : decode cX11_tapeTellsLegs 47 = .ok (.getfield 72, 3) := by decide +kernel
theorem dX11_tapeTellsLegs_50 : decode cX11_tapeTellsLegs 50 = .ok (.if_icmp .ge 61, 3) := by decide +kernel
theorem dX11_tapeTellsLegs_53 : decode cX11_tapeTellsLegs 53 = .ok (.aload_n 0, 1) := by decide +kernel
theorem dX11_tapeTellsLegs_54 : decode cX11_tapeTellsLegs 54 = .ok (.getfield 10, 3) := by decide +kernel
theorem dX11_tapeTellsLegs_57 : decode cX11_tapeTellsLegs 57 = .ok (.iload_n 1, 1) := by decide +kernel
theorem dX11_tapeTellsLegs_58 : decode cX11_tapeTellsLegs 58 = .ok (.invokevirtual 176, 3) := by decide +kernel
theorem dX11_tapeTellsLegs_61 : decode cX11_tapeTellsLegs 61 = .ok (.invokestatic 213, 3) := by decide +kernel
theorem dX11_tapeTellsLegs_64 : decode cX11_tapeTellsLegs 64 = .ok (.ifCond .eq 12, 3) := by decide +kernel
theorem dX11_tapeTellsLegs_67 : decode cX11_tapeTellsLegs 67 = .ok (.aload_n 0, 1) := by decide +kernel
theorem dX11_tapeTellsLegs_68 : decode cX11_tapeTellsLegs 68 = .ok (.iload_n 1, 1) := by decide +kernel
theorem dX11_tapeTellsLegs_69 : decode cX11_tapeTellsLegs 69 = .ok (.invokevirtual 249, 3) := by decide +kernel
theorem dX11_tapeTellsLegs_72 : decode cX11_tapeTellsLegs 72 = .ok (.iconst 1, 1) := by decide +kernel
theorem dX11_tapeTellsLegs_73 : decode cX11_tapeTellsLegs 73 = .ok (.if_icmp .ge 5, 3) := by decide +kernel
theorem dX11_tapeTellsLegs_76 : decode cX11_tapeTellsLegs 76 = .ok (.iconst 0, 1) := by decide +kernel
theorem dX11_tapeTellsLegs_77 : decode cX11_tapeTellsLegs 77 = .ok (.ireturn, 1) := by decide +kernel
theorem dX11_tapeTellsLegs_78 : decode cX11_tapeTellsLegs 78 = .ok (.iconst 0, 1) := by decide +kernel
theorem dX11_tapeTellsLegs_79 : decode cX11_tapeTellsLegs 79 = .ok (.istore_n 2, 1) := by decide +kernel
theorem dX11_tapeTellsLegs_80 : decode cX11_tapeTellsLegs 80 = .ok (.iload_n 2, 1) := by decide +kernel
theorem dX11_tapeTellsLegs_81 : decode cX11_tapeTellsLegs 81 = .ok (.iconst 3, 1) := by decide +kernel
theorem dX11_tapeTellsLegs_82 : decode cX11_tapeTellsLegs 82 = .ok (.if_icmp .ge 23, 3) := by decide +kernel
theorem dX11_tapeTellsLegs_85 : decode cX11_tapeTellsLegs 85 = .ok (.aload_n 0, 1) := by decide +kernel
theorem dX11_tapeTellsLegs_86 : decode cX11_tapeTellsLegs 86 = .ok (.iload_n 1, 1) := by decide +kernel
theorem dX11_tapeTellsLegs_87 : decode cX11_tapeTellsLegs 87 = .ok (.iload_n 2, 1) := by decide +kernel
theorem dX11_tapeTellsLegs_88 : decode cX11_tapeTellsLegs 88 = .ok (.invokevirtual 303, 3) := by decide +kernel
theorem dX11_tapeTellsLegs_91 : decode cX11_tapeTellsLegs 91 = .ok (.invokestatic 129, 3) := by decide +kernel
theorem dX11_tapeTellsLegs_94 : decode cX11_tapeTellsLegs 94 = .ok (.ifCond .ne 5, 3) := by decide +kernel
theorem dX11_tapeTellsLegs_97 : decode cX11_tapeTellsLegs 97 = .ok (.iconst 0, 1) := by decide +kernel
theorem dX11_tapeTellsLegs_98 : decode cX11_tapeTellsLegs 98 = .ok (.ireturn, 1) := by decide +kernel
theorem dX11_tapeTellsLegs_99 : decode cX11_tapeTellsLegs 99 = .ok (.iinc 2 1, 3) := by decide +kernel
theorem dX11_tapeTellsLegs_102 : decode cX11_tapeTellsLegs 102 = .ok (.goto (-22), 3) := by decide +kernel
theorem dX11_tapeTellsLegs_105 : decode cX11_tapeTellsLegs 105 = .ok (.iinc 1 10, 3) := by decide +kernel
theorem dX11_tapeTellsLegs_108 : decode cX11_tapeTellsLegs 108 = .ok (.goto (-66), 3) := by decide +kernel
theorem dX11_tapeTellsLegs_111 : decode cX11_tapeTellsLegs 111 = .ok (.iconst 1, 1) := by decide +kernel
theorem dX11_tapeTellsLegs_112 : decode cX11_tapeTellsLegs 112 = .ok (.ireturn, 1) := by decide +kernel
theorem dX11_heightOfLeg_0 : decode cX11_heightOfLeg 0 = .ok (.aload_n 0, 1) := by decide +kernel
theorem dX11_heightOfLeg_1 : decode cX11_heightOfLeg 1 = .ok (.getfield 10, 3) := by decide +kernel
theorem dX11_heightOfLeg_4 : decode cX11_heightOfLeg 4 = .ok (.iload_n 1, 1) := by decide +kernel
theorem dX11_heightOfLeg_5 : decode cX11_heightOfLeg 5 = .ok (.iconst 1, 1) := by decide +kernel
theorem dX11_heightOfLeg_6 : decode cX11_heightOfLeg 6 = .ok (.iadd, 1) := by decide +kernel
theorem dX11_heightOfLeg_7 : decode cX11_heightOfLeg 7 = .ok (.iconst 2, 1) := by decide +kernel
theorem dX11_heightOfLeg_8 : decode cX11_heightOfLeg 8 = .ok (.iload_n 2, 1) := by decide +kernel
theorem dX11_heightOfLeg_9 : decode cX11_heightOfLeg 9 = .ok (.imul, 1) := by decide +kernel
theorem dX11_heightOfLeg_10 : decode cX11_heightOfLeg 10 = .ok (.iadd, 1) := by decide +kernel
theorem dX11_heightOfLeg_11 : decode cX11_heightOfLeg 11 = .ok (.invokevirtual 176, 3) := by decide +kernel
theorem dX11_heightOfLeg_14 : decode cX11_heightOfLeg 14 = .ok (.sipush 256, 3) := by decide +kernel
theorem dX11_heightOfLeg_17 : decode cX11_heightOfLeg 17 = .ok (.imul, 1) := by decide +kernel
theorem dX11_heightOfLeg_18 : decode cX11_heightOfLeg 18 = .ok (.aload_n 0, 1) := by decide +kernel
theorem dX11_heightOfLeg_19 : decode cX11_heightOfLeg 19 = .ok (.getfield 10, 3) := by decide +kernel
theorem dX11_heightOfLeg_22 : decode cX11_heightOfLeg 22 = .ok (.iload_n 1, 1) := by decide +kernel
theorem dX11_heightOfLeg_23 : decode cX11_heightOfLeg 23 = .ok (.iconst 2, 1) := by decide +kernel
theorem dX11_heightOfLeg_24 : decode cX11_heightOfLeg 24 = .ok (.iadd, 1) := by decide +kernel
theorem dX11_heightOfLeg_25 : decode cX11_heightOfLeg 25 = .ok (.iconst 2, 1) := by decide +kernel
theorem dX11_heightOfLeg_26 : decode cX11_heightOfLeg 26 = .ok (.iload_n 2, 1) := by decide +kernel
theorem dX11_heightOfLeg_27 : decode cX11_heightOfLeg 27 = .ok (.imul, 1) := by decide +kernel
theorem dX11_heightOfLeg_28 : decode cX11_heightOfLeg 28 = .ok (.iadd, 1) := by decide +kernel
theorem dX11_heightOfLeg_29 : decode cX11_heightOfLeg 29 = .ok (.invokevirtual 176, 3) := by decide +kernel
theorem dX11_heightOfLeg_32 : decode cX11_heightOfLeg 32 = .ok (.iadd, 1) := by decide +kernel
theorem dX11_heightOfLeg_33 : decode cX11_heightOfLeg 33 = .ok (.ireturn, 1) := by decide +kernel
theorem dX11_shareOfLeg_0 : decode cX11_shareOfLeg 0 = .ok (.aload_n 0, 1) := by decide +kernel
theorem dX11_shareOfLeg_1 : decode cX11_shareOfLeg 1 = .ok (.getfield 10, 3) := by decide +kernel
theorem dX11_shareOfLeg_4 : decode cX11_shareOfLeg 4 = .ok (.iload_n 1, 1) := by decide +kernel
theorem dX11_shareOfLeg_5 : decode cX11_shareOfLeg 5 = .ok (.iconst 1, 1) := by decide +kernel
theorem dX11_shareOfLeg_6 : decode cX11_shareOfLeg 6 = .ok (.iadd, 1) := by decide +kernel
theorem dX11_shareOfLeg_7 : decode cX11_shareOfLeg 7 = .ok (.bipush 6, 2) := by decide +kernel
theorem dX11_shareOfLeg_9 : decode cX11_shareOfLeg 9 = .ok (.iadd, 1) := by decide +kernel
theorem dX11_shareOfLeg_10 : decode cX11_shareOfLeg 10 = .ok (.iload_n 2, 1) := by decide +kernel
theorem dX11_shareOfLeg_11 : decode cX11_shareOfLeg 11 = .ok (.iadd, 1) := by decide +kernel
theorem dX11_shareOfLeg_12 : decode cX11_shareOfLeg 12 = .ok (.invokevirtual 176, 3) := by decide +kernel
theorem dX11_shareOfLeg_15 : decode cX11_shareOfLeg 15 = .ok (.ireturn, 1) := by decide +kernel
theorem dX11_sharesOfLeg_0 : decode cX11_sharesOfLeg 0 = .ok (.aload_n 0, 1) := by decide +kernel
theorem dX11_sharesOfLeg_1 : decode cX11_sharesOfLeg 1 = .ok (.iload_n 1, 1) := by decide +kernel
theorem dX11_sharesOfLeg_2 : decode cX11_sharesOfLeg 2 = .ok (.iconst 0, 1) := by decide +kernel
theorem dX11_sharesOfLeg_3 : decode cX11_sharesOfLeg 3 = .ok (.invokevirtual 306, 3) := by decide +kernel
theorem dX11_sharesOfLeg_6 : decode cX11_sharesOfLeg 6 = .ok (.aload_n 0, 1) := by decide +kernel
theorem dX11_sharesOfLeg_7 : decode cX11_sharesOfLeg 7 = .ok (.iload_n 1, 1) := by decide +kernel
theorem dX11_sharesOfLeg_8 : decode cX11_sharesOfLeg 8 = .ok (.iconst 1, 1) := by decide +kernel
theorem dX11_sharesOfLeg_9 : decode cX11_sharesOfLeg 9 = .ok (.invokevirtual 306, 3) := by decide +kernel
theorem dX11_sharesOfLeg_12 : decode cX11_sharesOfLeg 12 = .ok (.iadd, 1) := by decide +kernel
theorem dX11_sharesOfLeg_13 : decode cX11_sharesOfLeg 13 = .ok (.aload_n 0, 1) := by decide +kernel
theorem dX11_sharesOfLeg_14 : decode cX11_sharesOfLeg 14 = .ok (.iload_n 1, 1) := by decide +kernel
theorem dX11_sharesOfLeg_15 : decode cX11_sharesOfLeg 15 = .ok (.iconst 2, 1) := by decide +kernel
theorem dX11_sharesOfLeg_16 : decode cX11_sharesOfLeg 16 = .ok (.invokevirtual 306, 3) := by decide +kernel
theorem dX11_sharesOfLeg_19 : decode cX11_sharesOfLeg 19 = .ok (.iadd, 1) := by decide +kernel
theorem dX11_sharesOfLeg_20 : decode cX11_sharesOfLeg 20 = .ok (.ireturn, 1) := by decide +kernel
theorem dX11_heldSharesOfLeg_0 : decode cX11_heldSharesOfLeg 0 = .ok (.iconst 0, 1) := by decide +kernel
theorem dX11_heldSharesOfLeg_1 : decode cX11_heldSharesOfLeg 1 = .ok (.istore_n 3, 1) := by decide +kernel
theorem dX11_heldSharesOfLeg_2 : decode cX11_heldSharesOfLeg 2 = .ok (.iconst 0, 1) := by decide +kernel
theorem dX11_heldSharesOfLeg_3 : decode cX11_heldSharesOfLeg 3 = .ok (.istore 4, 2) := by decide +kernel
theorem dX11_heldSharesOfLeg_5 : decode cX11_heldSharesOfLeg 5 = .ok (.iload 4, 2) := by decide +kernel
theorem dX11_heldSharesOfLeg_7 : decode cX11_heldSharesOfLeg 7 = .ok (.iconst 3, 1) := by decide +kernel
theorem dX11_heldSharesOfLeg_8 : decode cX11_heldSharesOfLeg 8 = .ok (.if_icmp .ge 37, 3) := by decide +kernel
theorem dX11_heldSharesOfLeg_11 : decode cX11_heldSharesOfLeg 11 = .ok (.aload_n 0, 1) := by decide +kernel
theorem dX11_heldSharesOfLeg_12 : decode cX11_heldSharesOfLeg 12 = .ok (.getfield 37, 3) := by decide +kernel
theorem dX11_heldSharesOfLeg_15 : decode cX11_heldSharesOfLeg 15 = .ok (.aload_n 1, 1) := by decide +kernel
theorem dX11_heldSharesOfLeg_16 : decode cX11_heldSharesOfLeg 16 = .ok (.aload_n 0, 1) := by decide +kernel
theorem dX11_heldSharesOfLeg_17 : decode cX11_heldSharesOfLeg 17 = .ok (.iload_n 2, 1) := by decide +kernel
theorem dX11_heldSharesOfLeg_18 : decode cX11_heldSharesOfLeg 18 = .ok (.iload 4, 2) := by decide +kernel
theorem dX11_heldSharesOfLeg_20 : decode cX11_heldSharesOfLeg 20 = .ok (.invokevirtual 303, 3) := by decide +kernel
theorem dX11_heldSharesOfLeg_23 : decode cX11_heldSharesOfLeg 23 = .ok (.invokevirtual 148, 3) := by decide +kernel
theorem dX11_heldSharesOfLeg_26 : decode cX11_heldSharesOfLeg 26 = .ok (.ifCond .eq 13, 3) := by decide +kernel
theorem dX11_heldSharesOfLeg_29 : decode cX11_heldSharesOfLeg 29 = .ok (.iload_n 3, 1) := by decide +kernel
theorem dX11_heldSharesOfLeg_30 : decode cX11_heldSharesOfLeg 30 = .ok (.aload_n 0, 1) := by decide +kernel
theorem dX11_heldSharesOfLeg_31 : decode cX11_heldSharesOfLeg 31 = .ok (.iload_n 2, 1) := by decide +kernel
theorem dX11_heldSharesOfLeg_32 : decode cX11_heldSharesOfLeg 32 = .ok (.iload 4, 2) := by decide +kernel
theorem dX11_heldSharesOfLeg_34 : decode cX11_heldSharesOfLeg 34 = .ok (.invokevirtual 306, 3) := by decide +kernel
theorem dX11_heldSharesOfLeg_37 : decode cX11_heldSharesOfLeg 37 = .ok (.iadd, 1) := by decide +kernel
theorem dX11_heldSharesOfLeg_38 : decode cX11_heldSharesOfLeg 38 = .ok (.istore_n 3, 1) := by decide +kernel
theorem dX11_heldSharesOfLeg_39 : decode cX11_heldSharesOfLeg 39 = .ok (.iinc 4 1, 3) := by decide +kernel
theorem dX11_heldSharesOfLeg_42 : decode cX11_heldSharesOfLeg 42 = .ok (.goto (-37), 3) := by decide +kernel
theorem dX11_heldSharesOfLeg_45 : decode cX11_heldSharesOfLeg 45 = .ok (.iload_n 3, 1) := by decide +kernel
theorem dX11_heldSharesOfLeg_46 : decode cX11_heldSharesOfLeg 46 = .ok (.ireturn, 1) := by decide +kernel
theorem dX12_init_0 : decode cX12_init 0 = .ok (.aload_n 0, 1) := by decide +kernel
theorem dX12_init_1 : decode cX12_init 1 = .ok (.invokespecial 1, 3) := by decide +kernel
theorem dX12_init_4 : decode cX12_init 4 = .ok (.aload_n 0, 1) := by decide +kernel
theorem dX12_init_5 : decode cX12_init 5 = .ok (.sipush 640, 3) := by decide +kernel
theorem dX12_init_8 : decode cX12_init 8 = .ok (.newarray .int, 2) := by decide +kernel
theorem dX12_init_10 : decode cX12_init 10 = .ok (.putfield 7, 3) := by decide +kernel
theorem dX12_init_13 : decode cX12_init 13 = .ok (.aload_n 0, 1) := by decide +kernel
theorem dX12_init_14 : decode cX12_init 14 = .ok (.sipush 10164, 3) := by decide +kernel
theorem dX12_init_17 : decode cX12_init 17 = .ok (.newarray .int, 2) := by decide +kernel
theorem dX12_init_19 : decode cX12_init 19 = .ok (.putfield 13, 3) := by decide +kernel
theorem dX12_init_22 : decode cX12_init 22 = .ok (.aload_n 0, 1) := by decide +kernel
theorem dX12_init_23 : decode cX12_init 23 = .ok (.bipush 20, 2) := by decide +kernel
theorem dX12_init_25 : decode cX12_init 25 = .ok (.newarray .int, 2) := by decide +kernel
theorem dX12_init_27 : decode cX12_init 27 = .ok (.putfield 16, 3) := by decide +kernel
theorem dX12_init_30 : decode cX12_init 30 = .ok (.aload_n 0, 1) := by decide +kernel
theorem dX12_init_31 : decode cX12_init 31 = .ok (.bipush 24, 2) := by decide +kernel
theorem dX12_init_33 : decode cX12_init 33 = .ok (.newarray .long, 2) := by decide +kernel
theorem dX12_init_35 : decode cX12_init 35 = .ok (.putfield 19, 3) := by decide +kernel
theorem dX12_init_38 : decode cX12_init 38 = .ok (.aload_n 0, 1) := by decide +kernel
theorem dX12_init_39 : decode cX12_init 39 = .ok (.bipush 96, 2) := by decide +kernel
theorem dX12_init_41 : decode cX12_init 41 = .ok (.newarray .int, 2) := by decide +kernel
theorem dX12_init_43 : decode cX12_init 43 = .ok (.putfield 23, 3) := by decide +kernel
theorem dX12_init_46 : decode cX12_init 46 = .ok (.aload_n 0, 1) := by decide +kernel
theorem dX12_init_47 : decode cX12_init 47 = .ok (.bipush 96, 2) := by decide +kernel
theorem dX12_init_49 : decode cX12_init 49 = .ok (.newarray .long, 2) := by decide +kernel
theorem dX12_init_51 : decode cX12_init 51 = .ok (.putfield 26, 3) := by decide +kernel
theorem dX12_init_54 : decode cX12_init 54 = .ok (.aload_n 0, 1) := by decide +kernel
theorem dX12_init_55 : decode cX12_init 55 = .ok (.iconst (-1), 1) := by decide +kernel
theorem dX12_init_56 : decode cX12_init 56 = .ok (.putfield 29, 3) := by decide +kernel
theorem dX12_init_59 : decode cX12_init 59 = .ok (.aload_n 0, 1) := by decide +kernel
theorem dX12_init_60 : decode cX12_init 60 = .ok (.bipush 6, 2) := by decide +kernel
theorem dX12_init_62 : decode cX12_init 62 = .ok (.newarray .int, 2) := by decide +kernel
theorem dX12_init_64 : decode cX12_init 64 = .ok (.putfield 33, 3) := by decide +kernel
theorem dX12_init_67 : decode cX12_init 67 = .ok (.aload_n 0, 1) := by decide +kernel
theorem dX12_init_68 : decode cX12_init 68 = .ok (.bipush 10, 2) := by decide +kernel
theorem dX12_init_70 : decode cX12_init 70 = .ok (.newarray .int, 2) := by decide +kernel
theorem dX12_init_72 : decode cX12_init 72 = .ok (.putfield 36, 3) := by decide +kernel
theorem dX12_init_75 : decode cX12_init 75 = .ok (.aload_n 0, 1) := by decide +kernel
theorem dX12_init_76 : decode cX12_init 76 = .ok (.bipush 10, 2) := by decide +kernel
theorem dX12_init_78 : decode cX12_init 78 = .ok (.newarray .int, 2) := by decide +kernel
theorem dX12_init_80 : decode cX12_init 80 = .ok (.putfield 39, 3) := by decide +kernel
theorem dX12_init_83 : decode cX12_init 83 = .ok (.aload_n 0, 1) := by decide +kernel
theorem dX12_init_84 : decode cX12_init 84 = .ok (.bipush 10, 2) := by decide +kernel
theorem dX12_init_86 : decode cX12_init 86 = .ok (.newarray .int, 2) := by decide +kernel
theorem dX12_init_88 : decode cX12_init 88 = .ok (.putfield 42, 3) := by decide +kernel
theorem dX12_init_91 : decode cX12_init 91 = .ok (.aload_n 0, 1) := by decide +kernel
theorem dX12_init_92 : decode cX12_init 92 = .ok (.bipush 6, 2) := by decide +kernel
theorem dX12_init_94 : decode cX12_init 94 = .ok (.newarray .int, 2) := by decide +kernel
theorem dX12_init_96 : decode cX12_init 96 = .ok (.putfield 45, 3) := by decide +kernel
theorem dX12_init_99 : decode cX12_init 99 = .ok (.aload_n 0, 1) := by decide +kernel
theorem dX12_init_100 : decode cX12_init 100 = .ok (.bipush 6, 2) := by decide +kernel
theorem dX12_init_102 : decode cX12_init 102 = .ok (.newarray .int, 2) := by decide +kernel
theorem dX12_init_104 : decode cX12_init 104 = .ok (.putfield 48, 3) := by decide +kernel
theorem dX12_init_107 : decode cX12_init 107 = .ok (.aload_n 0, 1) := by decide +kernel
theorem dX12_init_108 : decode cX12_init 108 = .ok (.bipush 10, 2) := by decide +kernel
theorem dX12_init_110 : decode cX12_init 110 = .ok (.newarray .boolean, 2) := by decide +kernel
theorem dX12_init_112 : decode cX12_init 112 = .ok (.putfield 51, 3) := by decide +kernel
theorem dX12_init_115 : decode cX12_init 115 = .ok (.return_, 1) := by decide +kernel
theorem dX12_thrown_0 : decode cX12_thrown 0 = .ok (.aload_n 0, 1) := by decide +kernel
theorem dX12_thrown_1 : decode cX12_thrown 1 = .ok (.getfield 55, 3) := by decide +kernel
theorem dX12_thrown_4 : decode cX12_thrown 4 = .ok (.ireturn, 1) := by decide +kernel
theorem dX12_come_0 : decode cX12_come 0 = .ok (.bipush 24, 2) := by decide +kernel
theorem dX12_come_2 : decode cX12_come 2 = .ok (.istore_n 2, 1) := by decide +kernel
theorem dX12_come_3 : decode cX12_come 3 = .ok (.iload_n 2, 1) := by decide +kernel
theorem dX12_come_4 : decode cX12_come 4 = .ok (.ifCond .lt 35, 3) := by decide +kernel
theorem dX12_come_7 : decode cX12_come 7 = .ok (.aload_n 0, 1) := by decide +kernel
theorem dX12_come_8 : decode cX12_come 8 = .ok (.getfield 7, 3) := by decide +kernel
theorem dX12_come_11 : decode cX12_come 11 = .ok (.aload_n 0, 1) := by decide +kernel
theorem dX12_come_12 : decode cX12_come 12 = .ok (.getfield 58, 3) := by decide +kernel
theorem dX12_come_15 : decode cX12_come 15 = .ok (.iload_n 1, 1) := by decide +kernel
theorem dX12_come_16 : decode cX12_come 16 = .ok (.iload_n 2, 1) := by decide +kernel
theorem dX12_come_17 : decode cX12_come 17 = .ok (.iushr, 1) := by decide +kernel
theorem dX12_come_18 : decode cX12_come 18 = .ok (.sipush 255, 3) := by decide +kernel
theorem dX12_come_21 : decode cX12_come 21 = .ok (.iand, 1) := by decide +kernel
theorem dX12_come_22 : decode cX12_come 22 = .ok (.iastore, 1) := by decide +kernel
theorem dX12_come_23 : decode cX12_come 23 = .ok (.aload_n 0, 1) := by decide +kernel
theorem dX12_come_24 : decode cX12_come 24 = .ok (.dup, 1) := by decide +kernel
theorem dX12_come_25 : decode cX12_come 25 = .ok (.getfield 58, 3) := by decide +kernel
theorem dX12_come_28 : decode cX12_come 28 = .ok (.iconst 1, 1) := by decide +kernel
theorem dX12_come_29 : decode cX12_come 29 = .ok (.iadd, 1) := by decide +kernel
theorem dX12_come_30 : decode cX12_come 30 = .ok (.putfield 58, 3) := by decide +kernel
theorem dX12_come_33 : decode cX12_come 33 = .ok (.iinc 2 (-8), 3) := by decide +kernel
theorem dX12_come_36 : decode cX12_come 36 = .ok (.goto (-33), 3) := by decide +kernel
theorem dX12_come_39 : decode cX12_come 39 = .ok (.return_, 1) := by decide +kernel
theorem dX12_feed_0 : decode cX12_feed 0 = .ok (.aload_n 0, 1) := by decide +kernel
theorem dX12_feed_1 : decode cX12_feed 1 = .ok (.iconst 0, 1) := by decide +kernel
theorem dX12_feed_2 : decode cX12_feed 2 = .ok (.putfield 55, 3) := by decide +kernel
theorem dX12_feed_5 : decode cX12_feed 5 = .ok (.aload_n 0, 1) := by decide +kernel
theorem dX12_feed_6 : decode cX12_feed 6 = .ok (.getfield 58, 3) := by decide +kernel
theorem dX12_feed_9 : decode cX12_feed 9 = .ok (.bipush 20, 2) := by decide +kernel
theorem dX12_feed_11 : decode cX12_feed 11 = .ok (.iadd, 1) := by decide +kernel
theorem dX12_feed_12 : decode cX12_feed 12 = .ok (.sipush 640, 3) := by decide +kernel
theorem dX12_feed_15 : decode cX12_feed 15 = .ok (.if_icmp .le 5, 3) := by decide +kernel
theorem dX12_feed_18 : decode cX12_feed 18 = .ok (.iconst (-1), 1) := by decide +kernel
theorem dX12_feed_19 : decode cX12_feed 19 = .ok (.ireturn, 1) := by decide +kernel
theorem dX12_feed_20 : decode cX12_feed 20 = .ok (.aload_n 0, 1) := by decide +kernel
theorem dX12_feed_21 : decode cX12_feed 21 = .ok (.iload_n 1, 1) := by decide +kernel
theorem dX12_feed_22 : decode cX12_feed 22 = .ok (.invokevirtual 61, 3) := by decide +kernel
theorem dX12_feed_25 : decode cX12_feed 25 = .ok (.aload_n 0, 1) := by decide +kernel
theorem dX12_feed_26 : decode cX12_feed 26 = .ok (.iload_n 2, 1) := by decide +kernel
theorem dX12_feed_27 : decode cX12_feed 27 = .ok (.invokevirtual 61, 3) := by decide +kernel
theorem dX12_feed_30 : decode cX12_feed 30 = .ok (.aload_n 0, 1) := by decide +kernel
theorem dX12_feed_31 : decode cX12_feed 31 = .ok (.iload_n 3, 1) := by decide +kernel
theorem dX12_feed_32 : decode cX12_feed 32 = .ok (.invokevirtual 61, 3) := by decide +kernel
theorem dX12_feed_35 : decode cX12_feed 35 = .ok (.aload_n 0, 1) := by decide +kernel
theorem dX12_feed_36 : decode cX12_feed 36 = .ok (.iload 4, 2) := by decide +kernel
theorem dX12_feed_38 : decode cX12_feed 38 = .ok (.invokevirtual 61, 3) := by decide +kernel
theorem dX12_feed_41 : decode cX12_feed 41 = .ok (.aload_n 0, 1) := by decide +kernel
theorem dX12_feed_42 : decode cX12_feed 42 = .ok (.iload 5, 2) := by decide +kernel
theorem dX12_feed_44 : decode cX12_feed 44 = .ok (.invokevirtual 61, 3) := by decide +kernel
theorem dX12_feed_47 : decode cX12_feed 47 = .ok (.aload_n 0, 1) := by decide +kernel
theorem dX12_feed_48 : decode cX12_feed 48 = .ok (.getfield 58, 3) := by decide +kernel
theorem dX12_feed_51 : decode cX12_feed 51 = .ok (.ireturn, 1) := by decide +kernel
theorem dX12_end_0 : decode cX12_end 0 = .ok (.aload_n 0, 1) := by decide +kernel
theorem dX12_end_1 : decode cX12_end 1 = .ok (.iconst 0, 1) := by decide +kernel
theorem dX12_end_2 : decode cX12_end 2 = .ok (.putfield 55, 3) := by decide +kernel
theorem dX12_end_5 : decode cX12_end 5 = .ok (.iload_n 1, 1) := by decide +kernel
theorem dX12_end_6 : decode cX12_end 6 = .ok (.ifCond .lt 11, 3) := by decide +kernel
theorem dX12_end_9 : decode cX12_end 9 = .ok (.iload_n 1, 1) := by decide +kernel
theorem dX12_end_10 : decode cX12_end 10 = .ok (.aload_n 0, 1) := by decide +kernel
theorem dX12_end_11 : decode cX12_end 11 = .ok (.getfield 58, 3) := by decide +kernel
theorem dX12_end_14 : decode cX12_end 14 = .ok (.if_icmp .le 5, 3) := by decide +kernel
theorem dX12_end_17 : decode cX12_end 17 = .ok (.iconst 0, 1) := by decide +kernel
theorem dX12_end_18 : decode cX12_end 18 = .ok (.ireturn, 1) := by decide +kernel
theorem dX12_end_19 : decode cX12_end 19 = .ok (.aload_n 0, 1) := by decide +kernel
theorem dX12_end_20 : decode cX12_end 20 = .ok (.iload_n 1, 1) := by decide +kernel
theorem dX12_end_21 : decode cX12_end 21 = .ok (.putfield 58, 3) := by decide +kernel
theorem dX12_end_24 : decode cX12_end 24 = .ok (.iconst 1, 1) := by decide +kernel
theorem dX12_end_25 : decode cX12_end 25 = .ok (.ireturn, 1) := by decide +kernel
theorem dX12_take_0 : decode cX12_take 0 = .ok (.aload_n 0, 1) := by decide +kernel
theorem dX12_take_1 : decode cX12_take 1 = .ok (.getfield 58, 3) := by decide +kernel
theorem dX12_take_4 : decode cX12_take 4 = .ok (.istore_n 1, 1) := by decide +kernel
theorem dX12_take_5 : decode cX12_take 5 = .ok (.aload_n 0, 1) := by decide +kernel
theorem dX12_take_6 : decode cX12_take 6 = .ok (.iconst 0, 1) := by decide +kernel
theorem dX12_take_7 : decode cX12_take 7 = .ok (.putfield 58, 3) := by decide +kernel
theorem dX12_take_10 : decode cX12_take 10 = .ok (.iload_n 1, 1) := by decide +kernel
theorem dX12_take_11 : decode cX12_take 11 = .ok (.ireturn, 1) := by decide +kernel
theorem dX12_isIn_0 : decode cX12_isIn 0 = .ok (.iload_n 0, 1) := by decide +kernel
theorem dX12_isIn_1 : decode cX12_isIn 1 = .ok (.iload_n 1, 1) := by decide +kernel
theorem dX12_isIn_2 : decode cX12_isIn 2 = .ok (.if_icmp .lt 12, 3) := by decide +kernel
theorem dX12_isIn_5 : decode cX12_isIn 5 = .ok (.iload_n 0, 1) := by decide +kernel
theorem dX12_isIn_6 : decode cX12_isIn 6 = .ok (.iload_n 2, 1) := by decide +kernel
theorem dX12_isIn_7 : decode cX12_isIn 7 = .ok (.if_icmp .gt 7, 3) := by decide +kernel
theorem dX12_isIn_10 : decode cX12_isIn 10 = .ok (.iconst 1, 1) := by decide +kernel
theorem dX12_isIn_11 : decode cX12_isIn 11 = .ok (.goto 4, 3) := by decide +kernel
theorem dX12_isIn_14 : decode cX12_isIn 14 = .ok (.iconst 0, 1) := by decide +kernel
theorem dX12_isIn_15 : decode cX12_isIn 15 = .ok (.ireturn, 1) := by decide +kernel
theorem dX12_next_0 : decode cX12_next 0 = .ok (.aload_n 0, 1) := by decide +kernel
theorem dX12_next_1 : decode cX12_next 1 = .ok (.iconst 0, 1) := by decide +kernel
theorem dX12_next_2 : decode cX12_next 2 = .ok (.putfield 55, 3) := by decide +kernel
theorem dX12_next_5 : decode cX12_next 5 = .ok (.iload_n 1, 1) := by decide +kernel
theorem dX12_next_6 : decode cX12_next 6 = .ok (.iconst 0, 1) := by decide +kernel
theorem dX12_next_7 : decode cX12_next 7 = .ok (.sipush 999, 3) := by decide +kernel
theorem dX12_next_10 : decode cX12_next 10 = .ok (.invokestatic 65, 3) := by decide +kernel
theorem dX12_next_13 : decode cX12_next 13 = .ok (.ifCond .eq 15, 3) := by decide +kernel
theorem dX12_next_16 : decode cX12_next 16 = .ok (.aload_n 0, 1) := by decide +kernel
theorem dX12_next_17 : decode cX12_next 17 = .ok (.getfield 69, 3) := by decide +kernel
theorem dX12_next_20 : decode cX12_next 20 = .ok (.iload_n 1, 1) := by decide +kernel
theorem dX12_next_21 : decode cX12_next 21 = .ok (.iadd, 1) := by decide +kernel
theorem dX12_next_22 : decode cX12_next 22 = .ok (.sipush 999, 3) := by decide +kernel
theorem dX12_next_25 : decode cX12_next 25 = .ok (.if_icmp .le 5, 3) := by decide +kernel
theorem dX12_next_28 : decode cX12_next 28 = .ok (.iconst (-1), 1) := by decide +kernel
theorem dX12_next_29 : decode cX12_next 29 = .ok (.ireturn, 1) := by decide +kernel
theorem dX12_next_30 : decode cX12_next 30 = .ok (.aload_n 0, 1) := by decide +kernel
theorem dX12_next_31 : decode cX12_next 31 = .ok (.dup, 1) := by decide +kernel
theorem dX12_next_32 : decode cX12_next 32 = .ok (.getfield 69, 3) := by decide +kernel
theorem dX12_next_35 : decode cX12_next 35 = .ok (.iload_n 1, 1) := by decide +kernel
theorem dX12_next_36 : decode cX12_next 36 = .ok (.iadd, 1) := by decide +kernel
theorem dX12_next_37 : decode cX12_next 37 = .ok (.putfield 69, 3) := by decide +kernel
theorem dX12_next_40 : decode cX12_next 40 = .ok (.aload_n 0, 1) := by decide +kernel
theorem dX12_next_41 : decode cX12_next 41 = .ok (.getfield 69, 3) := by decide +kernel
theorem dX12_next_44 : decode cX12_next 44 = .ok (.ireturn, 1) := by decide +kernel
theorem dX12_byteAt_0 : decode cX12_byteAt 0 = .ok (.iload_n 1, 1) := by decide +kernel
theorem dX12_byteAt_1 : decode cX12_byteAt 1 = .ok (.aload_n 0, 1) := by decide +kernel
theorem dX12_byteAt_2 : decode cX12_byteAt 2 = .ok (.getfield 72, 3) := by decide +kernel
theorem dX12_byteAt_5 : decode cX12_byteAt 5 = .ok (.if_icmp .ge 12, 3) := by decide +kernel
theorem dX12_byteAt_8 : decode cX12_byteAt 8 = .ok (.aload_n 0, 1) := by decide +kernel
theorem dX12_byteAt_9 : decode cX12_byteAt 9 = .ok (.getfield 7, 3) := by decide +kernel
theorem dX12_byteAt_12 : decode cX12_byteAt 12 = .ok (.iload_n 1, 1) := by decide +kernel
theorem dX12_byteAt_13 : decode cX12_byteAt 13 = .ok (.iaload, 1) := by decide +kernel
theorem dX12_byteAt_14 : decode cX12_byteAt 14 = .ok (.goto 4, 3) := by decide +kernel
theorem dX12_byteAt_17 : decode cX12_byteAt 17 = .ok (.iconst 0, 1) := by decide +kernel
theorem dX12_byteAt_18 : decode cX12_byteAt 18 = .ok (.ireturn, 1) := by decide +kernel
theorem dX12_isDigit_0 : decode cX12_isDigit 0 = .ok (.iload_n 0, 1) := by decide +kernel
theorem dX12_isDigit_1 : decode cX12_isDigit 1 = .ok (.bipush 48, 2) := by decide +kernel
theorem dX12_isDigit_3 : decode cX12_isDigit 3 = .ok (.if_icmp .lt 13, 3) := by decide +kernel
theorem dX12_isDigit_6 : decode cX12_isDigit 6 = .ok (.iload_n 0, 1) := by decide +kernel
theorem dX12_isDigit_7 : decode cX12_isDigit 7 = .ok (.bipush 57, 2) := by decide +kernel
theorem dX12_isDigit_9 : decode cX12_isDigit 9 = .ok (.if_icmp .gt 7, 3) := by decide +kernel
theorem dX12_isDigit_12 : decode cX12_isDigit 12 = .ok (.iconst 1, 1) := by decide +kernel
theorem dX12_isDigit_13 : decode cX12_isDigit 13 = .ok (.goto 4, 3) := by decide +kernel
theorem dX12_isDigit_16 : decode cX12_isDigit 16 = .ok (.iconst 0, 1) := by decide +kernel
theorem dX12_isDigit_17 : decode cX12_isDigit 17 = .ok (.ireturn, 1) := by decide +kernel
theorem dX12_isLetter_0 : decode cX12_isLetter 0 = .ok (.iload_n 0, 1) := by decide +kernel
theorem dX12_isLetter_1 : decode cX12_isLetter 1 = .ok (.bipush 97, 2) := by decide +kernel
theorem dX12_isLetter_3 : decode cX12_isLetter 3 = .ok (.if_icmp .lt 13, 3) := by decide +kernel
theorem dX12_isLetter_6 : decode cX12_isLetter 6 = .ok (.iload_n 0, 1) := by decide +kernel
theorem dX12_isLetter_7 : decode cX12_isLetter 7 = .ok (.bipush 122, 2) := by decide +kernel
theorem dX12_isLetter_9 : decode cX12_isLetter 9 = .ok (.if_icmp .gt 7, 3) := by decide +kernel
theorem dX12_isLetter_12 : decode cX12_isLetter 12 = .ok (.iconst 1, 1) := by decide +kernel
theorem dX12_isLetter_13 : decode cX12_isLetter 13 = .ok (.goto 4, 3) := by decide +kernel
theorem dX12_isLetter_16 : decode cX12_isLetter 16 = .ok (.iconst 0, 1) := by decide +kernel
theorem dX12_isLetter_17 : decode cX12_isLetter 17 = .ok (.ireturn, 1) := by decide +kernel
theorem dX12_go_0 : decode cX12_go 0 = .ok (.aload_n 0, 1) := by decide +kernel
theorem dX12_go_1 : decode cX12_go 1 = .ok (.getfield 75, 3) := by decide +kernel
theorem dX12_go_4 : decode cX12_go 4 = .ok (.aload_n 0, 1) := by decide +kernel
theorem dX12_go_5 : decode cX12_go 5 = .ok (.getfield 72, 3) := by decide +kernel
theorem dX12_go_8 : decode cX12_go 8 = .ok (.if_icmp .ge 44, 3) := by decide +kernel
theorem dX12_go_11 : decode cX12_go 11 = .ok (.aload_n 0, 1) := by decide +kernel
theorem dX12_go_12 : decode cX12_go 12 = .ok (.getfield 7, 3) := by decide +kernel
theorem dX12_go_15 : decode cX12_go 15 = .ok (.aload_n 0, 1) := by decide +kernel
theorem dX12_go_16 : decode cX12_go 16 = .ok (.getfield 75, 3) := by decide +kernel
theorem dX12_go_19 : decode cX12_go 19 = .ok (.iaload, 1) := by decide +kernel
theorem dX12_go_20 : decode cX12_go 20 = .ok (.bipush 32, 2) := by decide +kernel
theorem dX12_go_22 : decode cX12_go 22 = .ok (.if_icmp .eq 17, 3) := by decide +kernel
theorem dX12_go_25 : decode cX12_go 25 = .ok (.aload_n 0, 1) := by decide +kernel
theorem dX12_go_26 : decode cX12_go 26 = .ok (.getfield 7, 3) := by decide +kernel
theorem dX12_go_29 : decode cX12_go 29 = .ok (.aload_n 0, 1) := by decide +kernel
theorem dX12_go_30 : decode cX12_go 30 = .ok (.getfield 75, 3) := by decide +kernel
theorem dX12_go_33 : decode cX12_go 33 = .ok (.iaload, 1) := by decide +kernel
theorem dX12_go_34 : decode cX12_go 34 = .ok (.bipush 10, 2) := by decide +kernel
theorem dX12_go_36 : decode cX12_go 36 = .ok (.if_icmp .ne 16, 3) := by decide +kernel
theorem dX12_go_39 : decode cX12_go 39 = .ok (.aload_n 0, 1) := by decide +kernel
theorem dX12_go_40 : decode cX12_go 40 = .ok (.dup, 1) := by decide +kernel
theorem dX12_go_41 : decode cX12_go 41 = .ok (.getfield 75, 3) := by decide +kernel
theorem dX12_go_44 : decode cX12_go 44 = .ok (.iconst 1, 1) := by decide +kernel
theorem dX12_go_45 : decode cX12_go 45 = .ok (.iadd, 1) := by decide +kernel
theorem dX12_go_46 : decode cX12_go 46 = .ok (.putfield 75, 3) := by decide +kernel
theorem dX12_go_49 : decode cX12_go 49 = .ok (.goto (-49), 3) := by decide +kernel
theorem dX12_go_52 : decode cX12_go 52 = .ok (.aload_n 0, 1) := by decide +kernel
theorem dX12_go_53 : decode cX12_go 53 = .ok (.aload_n 0, 1) := by decide +kernel
theorem dX12_go_54 : decode cX12_go 54 = .ok (.getfield 75, 3) := by decide +kernel
theorem dX12_go_57 : decode cX12_go 57 = .ok (.putfield 78, 3) := by decide +kernel
theorem dX12_go_60 : decode cX12_go 60 = .ok (.aload_n 0, 1) := by decide +kernel
theorem dX12_go_61 : decode cX12_go 61 = .ok (.getfield 72, 3) := by decide +kernel
theorem dX12_go_64 : decode cX12_go 64 = .ok (.sipush 600, 3) := by decide +kernel
theorem dX12_go_67 : decode cX12_go 67 = .ok (.if_icmp .le 26, 3) := by decide +kernel
theorem dX12_go_70 : decode cX12_go 70 = .ok (.aload_n 0, 1) := by decide +kernel
theorem dX12_go_71 : decode cX12_go 71 = .ok (.getfield 78, 3) := by decide +kernel
theorem dX12_go_74 : decode cX12_go 74 = .ok (.sipush 600, 3) := by decide +kernel
theorem dX12_go_77 : decode cX12_go 77 = .ok (.if_icmp .lt 16, 3) := by decide +kernel
theorem dX12_go_80 : decode cX12_go 80 = .ok (.aload_n 0, 1) := by decide +kernel
theorem dX12_go_81 : decode cX12_go 81 = .ok (.sipush 600, 3) := by decide +kernel
theorem dX12_go_84 : decode cX12_go 84 = .ok (.putfield 78, 3) := by decide +kernel
theorem dX12_go_87 : decode cX12_go 87 = .ok (.aload_n 0, 1) := by decide +kernel
theorem dX12_go_88 : decode cX12_go 88 = .ok (.iconst 1, 1) := by decide +kernel
theorem dX12_go_89 : decode cX12_go 89 = .ok (.putfield 81, 3) := by decide +kernel
theorem dX12_go_92 : decode cX12_go 92 = .ok (.return_, 1) := by decide +kernel
theorem dX12_go_93 : decode cX12_go 93 = .ok (.aload_n 0, 1) := by decide +kernel
theorem dX12_go_94 : decode cX12_go 94 = .ok (.getfield 75, 3) := by decide +kernel
theorem dX12_go_97 : decode cX12_go 97 = .ok (.aload_n 0, 1) := by decide +kernel
theorem dX12_go_98 : decode cX12_go 98 = .ok (.getfield 72, 3) := by decide +kernel
theorem dX12_go_101 : decode cX12_go 101 = .ok (.if_icmp .lt 9, 3) := by decide +kernel
theorem dX12_go_104 : decode cX12_go 104 = .ok (.aload_n 0, 1) := by decide +kernel
theorem dX12_go_105 : decode cX12_go 105 = .ok (.iconst 0, 1) := by decide +kernel
theorem dX12_go_106 : decode cX12_go 106 = .ok (.putfield 81, 3) := by decide +kernel
theorem dX12_go_109 : decode cX12_go 109 = .ok (.return_, 1) := by decide +kernel
theorem dX12_go_110 : decode cX12_go 110 = .ok (.aload_n 0, 1) := by decide +kernel
theorem dX12_go_111 : decode cX12_go 111 = .ok (.getfield 7, 3) := by decide +kernel
theorem dX12_go_114 : decode cX12_go 114 = .ok (.aload_n 0, 1) := by decide +kernel
theorem dX12_go_115 : decode cX12_go 115 = .ok (.getfield 75, 3) := by decide +kernel
theorem dX12_go_118 : decode cX12_go 118 = .ok (.iaload, 1) := by decide +kernel
theorem dX12_go_119 : decode cX12_go 119 = .ok (.istore_n 1, 1) := by decide +kernel
theorem dX12_go_120 : decode cX12_go 120 = .ok (.iload_n 1, 1) := by decide +kernel
theorem dX12_go_121 : decode cX12_go 121 = .ok (.invokestatic 84, 3) := by decide +kernel
theorem dX12_go_124 : decode cX12_go 124 = .ok (.ifCond .ne 47, 3) := by decide +kernel
theorem dX12_go_127 : decode cX12_go 127 = .ok (.iload_n 1, 1) := by decide +kernel
theorem dX12_go_128 : decode cX12_go 128 = .ok (.invokestatic 88, 3) := by decide +kernel
theorem dX12_go_131 : decode cX12_go 131 = .ok (.ifCond .ne 40, 3) := by decide +kernel
theorem dX12_go_134 : decode cX12_go 134 = .ok (.aload_n 0, 1) := by decide +kernel
theorem dX12_go_135 : decode cX12_go 135 = .ok (.iload_n 1, 1) := by decide +kernel
theorem dX12_go_136 : decode cX12_go 136 = .ok (.bipush 59, 2) := by decide +kernel
theorem dX12_go_138 : decode cX12_go 138 = .ok (.if_icmp .eq 9, 3) := by decide +kernel
theorem dX12_go_141 : decode cX12_go 141 = .ok (.iload_n 1, 1) := by decide +kernel
theorem dX12_go_142 : decode cX12_go 142 = .ok (.bipush 58, 2) := by decide +kernel
theorem dX12_go_144 : decode cX12_go 144 = .ok (.if_icmp .ne 7, 3) := by decide +kernel
theorem dX12_go_147 : decode cX12_go 147 = .ok (.iconst 4, 1) := by decide +kernel
theorem dX12_go_148 : decode cX12_go 148 = .ok (.goto 4, 3) := by decide +kernel
theorem dX12_go_151 : decode cX12_go 151 = .ok (.iconst 1, 1) := by decide +kernel
theorem dX12_go_152 : decode cX12_go 152 = .ok (.putfield 81, 3) := by decide +kernel
theorem dX12_go_155 : decode cX12_go 155 = .ok (.aload_n 0, 1) := by decide +kernel
theorem dX12_go_156 : decode cX12_go 156 = .ok (.iload_n 1, 1) := by decide +kernel
theorem dX12_go_157 : decode cX12_go 157 = .ok (.putfield 91, 3) := by decide +kernel
theorem dX12_go_160 : decode cX12_go 160 = .ok (.aload_n 0, 1) := by decide +kernel
theorem dX12_go_161 : decode cX12_go 161 = .ok (.dup, 1) := by decide +kernel
theorem dX12_go_162 : decode cX12_go 162 = .ok (.getfield 75, 3) := by decide +kernel
theorem dX12_go_165 : decode cX12_go 165 = .ok (.iconst 1, 1) := by decide +kernel
theorem dX12_go_166 : decode cX12_go 166 = .ok (.iadd, 1) := by decide +kernel
theorem dX12_go_167 : decode cX12_go 167 = .ok (.putfield 75, 3) := by decide +kernel
theorem dX12_go_170 : decode cX12_go 170 = .ok (.return_, 1) := by decide +kernel
theorem dX12_go_171 : decode cX12_go 171 = .ok (.iload_n 1, 1) := by decide +kernel
theorem dX12_go_172 : decode cX12_go 172 = .ok (.invokestatic 84, 3) := by decide +kernel
theorem dX12_go_175 : decode cX12_go 175 = .ok (.istore_n 2, 1) := by decide +kernel
theorem dX12_go_176 : decode cX12_go 176 = .ok (.iconst 1, 1) := by decide +kernel
theorem dX12_go_177 : decode cX12_go 177 = .ok (.istore_n 3, 1) := by decide +kernel
theorem dX12_go_178 : decode cX12_go 178 = .ok (.aload_n 0, 1) := by decide +kernel
theorem dX12_go_179 : decode cX12_go 179 = .ok (.lconst 0, 1) := by decide +kernel
theorem dX12_go_180 : decode cX12_go 180 = .ok (.putfield 94, 3) := by decide +kernel
theorem dX12_go_183 : decode cX12_go 183 = .ok (.aload_n 0, 1) := by decide +kernel
theorem dX12_go_184 : decode cX12_go 184 = .ok (.iconst 0, 1) := by decide +kernel
theorem dX12_go_185 : decode cX12_go 185 = .ok (.putfield 98, 3) := by decide +kernel
theorem dX12_go_188 : decode cX12_go 188 = .ok (.aload_n 0, 1) := by decide +kernel
theorem dX12_go_189 : decode cX12_go 189 = .ok (.aload_n 0, 1) := by decide +kernel
theorem dX12_go_190 : decode cX12_go 190 = .ok (.getfield 75, 3) := by decide +kernel
theorem dX12_go_193 : decode cX12_go 193 = .ok (.invokevirtual 101, 3) := by decide +kernel
theorem dX12_go_196 : decode cX12_go 196 = .ok (.invokestatic 84, 3) := by decide +kernel
theorem dX12_go_199 : decode cX12_go 199 = .ok (.ifCond .ne 17, 3) := by decide +kernel
theorem dX12_go_202 : decode cX12_go 202 = .ok (.aload_n 0, 1) := by decide +kernel
theorem dX12_go_203 : decode cX12_go 203 = .ok (.aload_n 0, 1) := by decide +kernel
theorem dX12_go_204 : decode cX12_go 204 = .ok (.getfield 75, 3) := by decide +kernel
theorem dX12_go_207 : decode cX12_go 207 = .ok (.invokevirtual 101, 3) := by decide +kernel
theorem dX12_go_210 : decode cX12_go 210 = .ok (.invokestatic 88, 3) := by decide +kernel
theorem dX12_go_213 : decode cX12_go 213 = .ok (.ifCond .eq 110, 3) := by decide +kernel
theorem dX12_go_216 : decode cX12_go 216 = .ok (.aload_n 0, 1) := by decide +kernel
theorem dX12_go_217 : decode cX12_go 217 = .ok (.getfield 7, 3) := by decide +kernel
theorem dX12_go_220 : decode cX12_go 220 = .ok (.aload_n 0, 1) := by decide +kernel
theorem dX12_go_221 : decode cX12_go 221 = .ok (.getfield 75, 3) := by decide +kernel
theorem dX12_go_224 : decode cX12_go 224 = .ok (.iaload, 1) := by decide +kernel
theorem dX12_go_225 : decode cX12_go 225 = .ok (.istore 4, 2) := by decide +kernel
theorem dX12_go_227 : decode cX12_go 227 = .ok (.iload_n 3, 1) := by decide +kernel
theorem dX12_go_228 : decode cX12_go 228 = .ok (.ifCond .eq 16, 3) := by decide +kernel
theorem dX12_go_231 : decode cX12_go 231 = .ok (.iload 4, 2) := by decide +kernel
theorem dX12_go_233 : decode cX12_go 233 = .ok (.invokestatic 84, 3) := by decide +kernel
theorem dX12_go_236 : decode cX12_go 236 = .ok (.iload_n 2, 1) := by decide +kernel
theorem dX12_go_237 : decode cX12_go 237 = .ok (.if_icmp .ne 7, 3) := by decide +kernel
theorem dX12_go_240 : decode cX12_go 240 = .ok (.iconst 1, 1) := by decide +kernel
theorem dX12_go_241 : decode cX12_go 241 = .ok (.goto 4, 3) := by decide +kernel
theorem dX12_go_244 : decode cX12_go 244 = .ok (.iconst 0, 1) := by decide +kernel
theorem dX12_go_245 : decode cX12_go 245 = .ok (.istore_n 3, 1) := by decide +kernel
theorem dX12_go_246 : decode cX12_go 246 = .ok (.aload_n 0, 1) := by decide +kernel
theorem dX12_go_247 : decode cX12_go 247 = .ok (.getfield 75, 3) := by decide +kernel
theorem dX12_go_250 : decode cX12_go 250 = .ok (.aload_n 0, 1) := by decide +kernel
theorem dX12_go_251 : decode cX12_go 251 = .ok (.getfield 78, 3) := by decide +kernel
theorem dX12_go_254 : decode cX12_go 254 = .ok (.isub, 1) := by decide +kernel
theorem dX12_go_255 : decode cX12_go 255 = .ok (.bipush 8, 2) := by decide +kernel
theorem dX12_go_257 : decode cX12_go 257 = .ok (.if_icmp .ge 23, 3) := by decide +kernel
theorem dX12_go_260 : decode cX12_go 260 = .ok (.aload_n 0, 1) := by decide +kernel
theorem dX12_go_261 : decode cX12_go 261 = .ok (.ldc2_w 105, 3) := by decide +kernel
theorem dX12_go_264 : decode cX12_go 264 = .ok (.aload_n 0, 1) := by decide +kernel
theorem dX12_go_265 : decode cX12_go 265 = .ok (.getfield 94, 3) := by decide +kernel
theorem dX12_go_268 : decode cX12_go 268 = .ok (.lmul, 1) := by decide +kernel
theorem dX12_go_269 : decode cX12_go 269 = .ok (.iload 4, 2) := by decide +kernel
theorem dX12_go_271 : decode cX12_go 271 = .ok (.i2l, 1) := by decide +kernel
theorem dX12_go_272 : decode cX12_go 272 = .ok (.ladd, 1) := by decide +kernel
theorem dX12_go_273 : decode cX12_go 273 = .ok (.ldc2_w 107, 3) := by decide +kernel
theorem dX12_go_276 : decode cX12_go 276 = .ok (.lsub, 1) := by decide +kernel
theorem dX12_go_277 : decode cX12_go 277 = .ok (.putfield 94, 3) := by decide +kernel
theorem dX12_go_280 : decode cX12_go 280 = .ok (.aload_n 0, 1) := by decide +kernel
theorem dX12_go_281 : decode cX12_go 281 = .ok (.getfield 75, 3) := by decide +kernel
theorem dX12_go_284 : decode cX12_go 284 = .ok (.aload_n 0, 1) := by decide +kernel
theorem dX12_go_285 : decode cX12_go 285 = .ok (.getfield 78, 3) := by decide +kernel
theorem dX12_go_288 : decode cX12_go 288 = .ok (.isub, 1) := by decide +kernel
theorem dX12_go_289 : decode cX12_go 289 = .ok (.iconst 5, 1) := by decide +kernel
theorem dX12_go_290 : decode cX12_go 290 = .ok (.if_icmp .ge 20, 3) := by decide +kernel
theorem dX12_go_293 : decode cX12_go 293 = .ok (.aload_n 0, 1) := by decide +kernel
theorem dX12_go_294 : decode cX12_go 294 = .ok (.bipush 10, 2) := by decide +kernel
theorem dX12_go_296 : decode cX12_go 296 = .ok (.aload_n 0, 1) := by decide +kernel
theorem dX12_go_297 : decode cX12_go 297 = .ok (.getfield 98, 3) := by decide +kernel
theorem dX12_go_300 : decode cX12_go 300 = .ok (.imul, 1) := by decide +kernel
theorem dX12_go_301 : decode cX12_go 301 = .ok (.iload 4, 2) := by decide +kernel
theorem dX12_go_303 : decode cX12_go 303 = .ok (.iadd, 1) := by decide +kernel
theorem dX12_go_304 : decode cX12_go 304 = .ok (.bipush 48, 2) := by decide +kernel
theorem dX12_go_306 : decode cX12_go 306 = .ok (.isub, 1) := by decide +kernel
theorem dX12_go_307 : decode cX12_go 307 = .ok (.putfield 98, 3) := by decide +kernel
theorem dX12_go_310 : decode cX12_go 310 = .ok (.aload_n 0, 1) := by decide +kernel
theorem dX12_go_311 : decode cX12_go 311 = .ok (.dup, 1) := by decide +kernel
theorem dX12_go_312 : decode cX12_go 312 = .ok (.getfield 75, 3) := by decide +kernel
theorem dX12_go_315 : decode cX12_go 315 = .ok (.iconst 1, 1) := by decide +kernel
theorem dX12_go_316 : decode cX12_go 316 = .ok (.iadd, 1) := by decide +kernel
theorem dX12_go_317 : decode cX12_go 317 = .ok (.putfield 75, 3) := by decide +kernel
theorem dX12_go_320 : decode cX12_go 320 = .ok (.goto (-132), 3) := by decide +kernel
theorem dX12_go_323 : decode cX12_go 323 = .ok (.aload_n 0, 1) := by decide +kernel
theorem dX12_go_324 : decode cX12_go 324 = .ok (.iload_n 3, 1) := by decide +kernel
theorem dX12_go_325 : decode cX12_go 325 = .ok (.ifCond .eq 25, 3) := by decide +kernel
theorem dX12_go_328 : decode cX12_go 328 = .ok (.aload_n 0, 1) := by decide +kernel
theorem dX12_go_329 : decode cX12_go 329 = .ok (.getfield 75, 3) := by decide +kernel
theorem dX12_go_332 : decode cX12_go 332 = .ok (.aload_n 0, 1) := by decide +kernel
theorem dX12_go_333 : decode cX12_go 333 = .ok (.getfield 78, 3) := by decide +kernel
theorem dX12_go_336 : decode cX12_go 336 = .ok (.isub, 1) := by decide +kernel
theorem dX12_go_337 : decode cX12_go 337 = .ok (.iload_n 2, 1) := by decide +kernel
theorem dX12_go_338 : decode cX12_go 338 = .ok (.ifCond .eq 8, 3) := by decide +kernel
theorem dX12_go_341 : decode cX12_go 341 = .ok (.bipush 8, 2) := by decide +kernel
theorem dX12_go_343 : decode cX12_go 343 = .ok (.goto 4, 3) := by decide +kernel
theorem dX12_go_346 : decode cX12_go 346 = .ok (.iconst 5, 1) := by decide +kernel
theorem dX12_go_347 : decode cX12_go 347 = .ok (.if_icmp .le 7, 3) := by decide +kernel
theorem dX12_go_350 : decode cX12_go 350 = .ok (.iconst 1, 1) := by decide +kernel
theorem dX12_go_351 : decode cX12_go 351 = .ok (.goto 12, 3) := by decide +kernel
theorem dX12_go_354 : decode cX12_go 354 = .ok (.iload_n 2, 1) := by decide +kernel
theorem dX12_go_355 : decode cX12_go 355 = .ok (.ifCond .eq 7, 3) := by decide +kernel
theorem dX12_go_358 : decode cX12_go 358 = .ok (.iconst 2, 1) := by decide +kernel
theorem dX12_go_359 : decode cX12_go 359 = .ok (.goto 4, 3) := by decide +kernel
theorem dX12_go_362 : decode cX12_go 362 = .ok (.iconst 3, 1) := by decide +kernel
theorem dX12_go_363 : decode cX12_go 363 = .ok (.putfield 81, 3) := by decide +kernel
theorem dX12_go_366 : decode cX12_go 366 = .ok (.return_, 1) := by decide +kernel
theorem dX12_spelt_0 : decode cX12_spelt 0 = .ok (.ldc2_w 105, 3) := by decide +kernel
theorem dX12_spelt_3 : decode cX12_spelt 3 = .ok (.ldc2_w 105, 3) := by decide +kernel
theorem dX12_spelt_6 : decode cX12_spelt 6 = .ok (.iload_n 0, 1) := by decide +kernel
theorem dX12_spelt_7 : decode cX12_spelt 7 = .ok (.i2l, 1) := by decide +kernel
theorem dX12_spelt_8 : decode cX12_spelt 8 = .ok (.ldc2_w 107, 3) := by decide +kernel
theorem dX12_spelt_11 : decode cX12_spelt 11 = .ok (.lsub, 1) := by decide +kernel
theorem dX12_spelt_12 : decode cX12_spelt 12 = .ok (.lmul, 1) := by decide +kernel
theorem dX12_spelt_13 : decode cX12_spelt 13 = .ok (.iload_n 1, 1) := by decide +kernel
theorem dX12_spelt_14 : decode cX12_spelt 14 = .ok (.i2l, 1) := by decide +kernel
theorem dX12_spelt_15 : decode cX12_spelt 15 = .ok (.ladd, 1) := by decide +kernel
theorem dX12_spelt_16 : decode cX12_spelt 16 = .ok (.ldc2_w 107, 3) := by decide +kernel
theorem dX12_spelt_19 : decode cX12_spelt 19 = .ok (.lsub, 1) := by decide +kernel
theorem dX12_spelt_20 : decode cX12_spelt 20 = .ok (.lmul, 1) := by decide +kernel
theorem dX12_spelt_21 : decode cX12_spelt 21 = .ok (.iload_n 2, 1) := by decide +kernel
theorem dX12_spelt_22 : decode cX12_spelt 22 = .ok (.i2l, 1) := by decide +kernel
theorem dX12_spelt_23 : decode cX12_spelt 23 = .ok (.ladd, 1) := by decide +kernel
theorem dX12_spelt_24 : decode cX12_spelt 24 = .ok (.ldc2_w 107, 3) := by decide +kernel
theorem dX12_spelt_27 : decode cX12_spelt 27 = .ok (.lsub, 1) := by decide +kernel
theorem dX12_spelt_28 : decode cX12_spelt 28 = .ok (.lstore 5, 2) := by decide +kernel
theorem dX12_spelt_30 : decode cX12_spelt 30 = .ok (.iload_n 3, 1) := by decide +kernel
theorem dX12_spelt_31 : decode cX12_spelt 31 = .ok (.ifCond .le 18, 3) := by decide +kernel
theorem dX12_spelt_34 : decode cX12_spelt 34 = .ok (.ldc2_w 105, 3) := by decide +kernel
theorem dX12_spelt_37 : decode cX12_spelt 37 = .ok (.lload 5, 2) := by decide +kernel
theorem dX12_spelt_39 : decode cX12_spelt 39 = .ok (.lmul, 1) := by decide +kernel
theorem dX12_spelt_40 : decode cX12_spelt 40 = .ok (.iload_n 3, 1) := by decide +kernel
theorem dX12_spelt_41 : decode cX12_spelt 41 = .ok (.i2l, 1) := by decide +kernel
theorem dX12_spelt_42 : decode cX12_spelt 42 = .ok (.ladd, 1) := by decide +kernel
theorem dX12_spelt_43 : decode cX12_spelt 43 = .ok (.ldc2_w 107, 3) := by decide +kernel
theorem dX12_spelt_46 : decode cX12_spelt 46 = .ok (.lsub, 1) := by decide +kernel
theorem dX12_spelt_47 : decode cX12_spelt 47 = .ok (.lstore 5, 2) := by decide +kernel
theorem dX12_spelt_49 : decode cX12_spelt 49 = .ok (.iload 4, 2) := by decide +kernel
theorem dX12_spelt_51 : decode cX12_spelt 51 = .ok (.ifCond .le 20, 3) := by decide +kernel
theorem dX12_spelt_54 : decode cX12_spelt 54 = .ok (.ldc2_w 105, 3) := by decide +kernel
theorem dX12_spelt_57 : decode cX12_spelt 57 = .ok (.lload 5, 2) := by decide +kernel
theorem dX12_spelt_59 : decode cX12_spelt 59 = .ok (.lmul, 1) := by decide +kernel
theorem dX12_spelt_60 : decode cX12_spelt 60 = .ok (.iload 4, 2) := by decide +kernel
theorem dX12_spelt_62 : decode cX12_spelt 62 = .ok (.i2l, 1) := by decide +kernel
theorem dX12_spelt_63 : decode cX12_spelt 63 = .ok (.ladd, 1) := by decide +kernel
theorem dX12_spelt_64 : decode cX12_spelt 64 = .ok (.ldc2_w 107, 3) := by decide +kernel
theorem dX12_spelt_67 : decode cX12_spelt 67 = .ok (.lsub, 1) := by decide +kernel
theorem dX12_spelt_68 : decode cX12_spelt 68 = .ok (.goto 5, 3) := by decide +kernel
theorem dX12_spelt_71 : decode cX12_spelt 71 = .ok (.lload 5, 2) := by decide +kernel
