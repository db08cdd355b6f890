theorem dL_place_0 : decode cL_place 0 = .ok (.aload 4, 2) := by decide +kernel
theorem dL_place_2 : decode cL_place 2 = .ok (.iconst 0, 1) := by decide +kernel
theorem dL_place_3 : decode cL_place 3 = .ok (.aload_n 0, 1) := by decide +kernel
theorem dL_place_4 : decode cL_place 4 = .ok (.iload_n 1, 1) := by decide +kernel
theorem dL_place_5 : decode cL_place 5 = .ok (.iload_n 2, 1) := by decide +kernel
theorem dL_place_6 : decode cL_place 6 = .ok (.iload_n 3, 1) := by decide +kernel
theorem dL_place_7 : decode cL_place 7 = .ok (.invokevirtual 7, 3) := by decide +kernel
theorem dL_place_10 : decode cL_place 10 = .ok (.i2l, 1) := by decide +kernel
theorem dL_place_11 : decode cL_place 11 = .ok (.lastore, 1) := by decide +kernel
theorem dL_place_12 : decode cL_place 12 = .ok (.goto 15, 3) := by decide +kernel
theorem dL_place_15 : decode cL_place 15 = .ok (.astore 5, 2) := by decide +kernel
theorem dL_place_17 : decode cL_place 17 = .ok (.iconst 1, 1) := by decide +kernel
theorem dL_place_18 : decode cL_place 18 = .ok (.ireturn, 1) := by decide +kernel
theorem dL_place_19 : decode cL_place 19 = .ok (.astore 5, 2) := by decide +kernel
theorem dL_place_21 : decode cL_place 21 = .ok (.iconst 2, 1) := by decide +kernel
theorem dL_place_22 : decode cL_place 22 = .ok (.ireturn, 1) := by decide +kernel
theorem dL_place_23 : decode cL_place 23 = .ok (.astore 5, 2) := by decide +kernel
theorem dL_place_25 : decode cL_place 25 = .ok (.iconst 3, 1) := by decide +kernel
theorem dL_place_26 : decode cL_place 26 = .ok (.ireturn, 1) := by decide +kernel
theorem dL_place_27 : decode cL_place 27 = .ok (.iconst 0, 1) := by decide +kernel
theorem dL_place_28 : decode cL_place 28 = .ok (.ireturn, 1) := by decide +kernel
theorem dL_remove_0 : decode cL_remove 0 = .ok (.aload_n 3, 1) := by decide +kernel
theorem dL_remove_1 : decode cL_remove 1 = .ok (.iconst 0, 1) := by decide +kernel
theorem dL_remove_2 : decode cL_remove 2 = .ok (.aload_n 0, 1) := by decide +kernel
theorem dL_remove_3 : decode cL_remove 3 = .ok (.iload_n 1, 1) := by decide +kernel
theorem dL_remove_4 : decode cL_remove 4 = .ok (.iload_n 2, 1) := by decide +kernel
theorem dL_remove_5 : decode cL_remove 5 = .ok (.invokevirtual 19, 3) := by decide +kernel
theorem dL_remove_8 : decode cL_remove 8 = .ok (.i2l, 1) := by decide +kernel
theorem dL_remove_9 : decode cL_remove 9 = .ok (.lastore, 1) := by decide +kernel
theorem dL_remove_10 : decode cL_remove 10 = .ok (.goto 11, 3) := by decide +kernel
theorem dL_remove_13 : decode cL_remove 13 = .ok (.astore 4, 2) := by decide +kernel
theorem dL_remove_15 : decode cL_remove 15 = .ok (.iconst 1, 1) := by decide +kernel
theorem dL_remove_16 : decode cL_remove 16 = .ok (.ireturn, 1) := by decide +kernel
theorem dL_remove_17 : decode cL_remove 17 = .ok (.astore 4, 2) := by decide +kernel
theorem dL_remove_19 : decode cL_remove 19 = .ok (.iconst 2, 1) := by decide +kernel
theorem dL_remove_20 : decode cL_remove 20 = .ok (.ireturn, 1) := by decide +kernel
theorem dL_remove_21 : decode cL_remove 21 = .ok (.iconst 0, 1) := by decide +kernel
theorem dL_remove_22 : decode cL_remove 22 = .ok (.ireturn, 1) := by decide +kernel
theorem dL_bleach_0 : decode cL_bleach 0 = .ok (.aload_n 3, 1) := by decide +kernel
theorem dL_bleach_1 : decode cL_bleach 1 = .ok (.iconst 0, 1) := by decide +kernel
theorem dL_bleach_2 : decode cL_bleach 2 = .ok (.aload_n 0, 1) := by decide +kernel
theorem dL_bleach_3 : decode cL_bleach 3 = .ok (.iload_n 1, 1) := by decide +kernel
theorem dL_bleach_4 : decode cL_bleach 4 = .ok (.iload_n 2, 1) := by decide +kernel
theorem dL_bleach_5 : decode cL_bleach 5 = .ok (.invokevirtual 23, 3) := by decide +kernel
theorem dL_bleach_8 : decode cL_bleach 8 = .ok (.i2l, 1) := by decide +kernel
theorem dL_bleach_9 : decode cL_bleach 9 = .ok (.lastore, 1) := by decide +kernel
theorem dL_bleach_10 : decode cL_bleach 10 = .ok (.goto 11, 3) := by decide +kernel
theorem dL_bleach_13 : decode cL_bleach 13 = .ok (.astore 4, 2) := by decide +kernel
theorem dL_bleach_15 : decode cL_bleach 15 = .ok (.iconst 1, 1) := by decide +kernel
theorem dL_bleach_16 : decode cL_bleach 16 = .ok (.ireturn, 1) := by decide +kernel
theorem dL_bleach_17 : decode cL_bleach 17 = .ok (.astore 4, 2) := by decide +kernel
theorem dL_bleach_19 : decode cL_bleach 19 = .ok (.iconst 2, 1) := by decide +kernel
theorem dL_bleach_20 : decode cL_bleach 20 = .ok (.ireturn, 1) := by decide +kernel
theorem dL_bleach_21 : decode cL_bleach 21 = .ok (.iconst 0, 1) := by decide +kernel
theorem dL_bleach_22 : decode cL_bleach 22 = .ok (.ireturn, 1) := by decide +kernel
theorem dL_recolour_0 : decode cL_recolour 0 = .ok (.aload 4, 2) := by decide +kernel
theorem dL_recolour_2 : decode cL_recolour 2 = .ok (.iconst 0, 1) := by decide +kernel
theorem dL_recolour_3 : decode cL_recolour 3 = .ok (.aload_n 0, 1) := by decide +kernel
theorem dL_recolour_4 : decode cL_recolour 4 = .ok (.iload_n 1, 1) := by decide +kernel
theorem dL_recolour_5 : decode cL_recolour 5 = .ok (.iload_n 2, 1) := by decide +kernel
theorem dL_recolour_6 : decode cL_recolour 6 = .ok (.iload_n 3, 1) := by decide +kernel
theorem dL_recolour_7 : decode cL_recolour 7 = .ok (.invokevirtual 26, 3) := by decide +kernel
theorem dL_recolour_10 : decode cL_recolour 10 = .ok (.i2l, 1) := by decide +kernel
theorem dL_recolour_11 : decode cL_recolour 11 = .ok (.lastore, 1) := by decide +kernel
theorem dL_recolour_12 : decode cL_recolour 12 = .ok (.goto 15, 3) := by decide +kernel
theorem dL_recolour_15 : decode cL_recolour 15 = .ok (.astore 5, 2) := by decide +kernel
theorem dL_recolour_17 : decode cL_recolour 17 = .ok (.iconst 1, 1) := by decide +kernel
theorem dL_recolour_18 : decode cL_recolour 18 = .ok (.ireturn, 1) := by decide +kernel
theorem dL_recolour_19 : decode cL_recolour 19 = .ok (.astore 5, 2) := by decide +kernel
theorem dL_recolour_21 : decode cL_recolour 21 = .ok (.iconst 2, 1) := by decide +kernel
theorem dL_recolour_22 : decode cL_recolour 22 = .ok (.ireturn, 1) := by decide +kernel
theorem dL_recolour_23 : decode cL_recolour 23 = .ok (.astore 5, 2) := by decide +kernel
theorem dL_recolour_25 : decode cL_recolour 25 = .ok (.iconst 3, 1) := by decide +kernel
theorem dL_recolour_26 : decode cL_recolour 26 = .ok (.ireturn, 1) := by decide +kernel
theorem dL_recolour_27 : decode cL_recolour 27 = .ok (.iconst 0, 1) := by decide +kernel
theorem dL_recolour_28 : decode cL_recolour 28 = .ok (.ireturn, 1) := by decide +kernel
theorem dL_plant_0 : decode cL_plant 0 = .ok (.aload 5, 2) := by decide +kernel
theorem dL_plant_2 : decode cL_plant 2 = .ok (.iconst 0, 1) := by decide +kernel
theorem dL_plant_3 : decode cL_plant 3 = .ok (.aload_n 0, 1) := by decide +kernel
theorem dL_plant_4 : decode cL_plant 4 = .ok (.iload_n 1, 1) := by decide +kernel
theorem dL_plant_5 : decode cL_plant 5 = .ok (.iload_n 2, 1) := by decide +kernel
theorem dL_plant_6 : decode cL_plant 6 = .ok (.iload_n 3, 1) := by decide +kernel
theorem dL_plant_7 : decode cL_plant 7 = .ok (.iload 4, 2) := by decide +kernel
theorem dL_plant_9 : decode cL_plant 9 = .ok (.invokevirtual 30, 3) := by decide +kernel
theorem dL_plant_12 : decode cL_plant 12 = .ok (.i2l, 1) := by decide +kernel
theorem dL_plant_13 : decode cL_plant 13 = .ok (.lastore, 1) := by decide +kernel
theorem dL_plant_14 : decode cL_plant 14 = .ok (.goto 15, 3) := by decide +kernel
theorem dL_plant_17 : decode cL_plant 17 = .ok (.astore 6, 2) := by decide +kernel
theorem dL_plant_19 : decode cL_plant 19 = .ok (.iconst 1, 1) := by decide +kernel
theorem dL_plant_20 : decode cL_plant 20 = .ok (.ireturn, 1) := by decide +kernel
theorem dL_plant_21 : decode cL_plant 21 = .ok (.astore 6, 2) := by decide +kernel
theorem dL_plant_23 : decode cL_plant 23 = .ok (.iconst 2, 1) := by decide +kernel
theorem dL_plant_24 : decode cL_plant 24 = .ok (.ireturn, 1) := by decide +kernel
theorem dL_plant_25 : decode cL_plant 25 = .ok (.astore 6, 2) := by decide +kernel
theorem dL_plant_27 : decode cL_plant 27 = .ok (.iconst 3, 1) := by decide +kernel
theorem dL_plant_28 : decode cL_plant 28 = .ok (.ireturn, 1) := by decide +kernel
theorem dL_plant_29 : decode cL_plant 29 = .ok (.iconst 0, 1) := by decide +kernel
theorem dL_plant_30 : decode cL_plant 30 = .ok (.ireturn, 1) := by decide +kernel
theorem dL_setRule_0 : decode cL_setRule 0 = .ok (.aload_n 2, 1) := by decide +kernel
theorem dL_setRule_1 : decode cL_setRule 1 = .ok (.iconst 0, 1) := by decide +kernel
theorem dL_setRule_2 : decode cL_setRule 2 = .ok (.aload_n 0, 1) := by decide +kernel
theorem dL_setRule_3 : decode cL_setRule 3 = .ok (.iload_n 1, 1) := by decide +kernel
theorem dL_setRule_4 : decode cL_setRule 4 = .ok (.invokevirtual 34, 3) := by decide +kernel
theorem dL_setRule_7 : decode cL_setRule 7 = .ok (.i2l, 1) := by decide +kernel
theorem dL_setRule_8 : decode cL_setRule 8 = .ok (.lastore, 1) := by decide +kernel
theorem dL_setRule_9 : decode cL_setRule 9 = .ok (.goto 9, 3) := by decide +kernel
theorem dL_setRule_12 : decode cL_setRule 12 = .ok (.astore_n 3, 1) := by decide +kernel
theorem dL_setRule_13 : decode cL_setRule 13 = .ok (.iconst 1, 1) := by decide +kernel
theorem dL_setRule_14 : decode cL_setRule 14 = .ok (.ireturn, 1) := by decide +kernel
theorem dL_setRule_15 : decode cL_setRule 15 = .ok (.astore_n 3, 1) := by decide +kernel
theorem dL_setRule_16 : decode cL_setRule 16 = .ok (.iconst 2, 1) := by decide +kernel
theorem dL_setRule_17 : decode cL_setRule 17 = .ok (.ireturn, 1) := by decide +kernel
theorem dL_setRule_18 : decode cL_setRule 18 = .ok (.iconst 0, 1) := by decide +kernel
theorem dL_setRule_19 : decode cL_setRule 19 = .ok (.ireturn, 1) := by decide +kernel
theorem dL_isEmpty_0 : decode cL_isEmpty 0 = .ok (.aload_n 3, 1) := by decide +kernel
theorem dL_isEmpty_1 : decode cL_isEmpty 1 = .ok (.iconst 0, 1) := by decide +kernel
theorem dL_isEmpty_2 : decode cL_isEmpty 2 = .ok (.aload_n 0, 1) := by decide +kernel
theorem dL_isEmpty_3 : decode cL_isEmpty 3 = .ok (.iload_n 1, 1) := by decide +kernel
theorem dL_isEmpty_4 : decode cL_isEmpty 4 = .ok (.iload_n 2, 1) := by decide +kernel
theorem dL_isEmpty_5 : decode cL_isEmpty 5 = .ok (.invokevirtual 38, 3) := by decide +kernel
theorem dL_isEmpty_8 : decode cL_isEmpty 8 = .ok (.ifCond .eq 7, 3) := by decide +kernel
theorem dL_isEmpty_11 : decode cL_isEmpty 11 = .ok (.lconst 1, 1) := by decide +kernel
theorem dL_isEmpty_12 : decode cL_isEmpty 12 = .ok (.goto 4, 3) := by decide +kernel
theorem dL_isEmpty_15 : decode cL_isEmpty 15 = .ok (.lconst 0, 1) := by decide +kernel
theorem dL_isEmpty_16 : decode cL_isEmpty 16 = .ok (.lastore, 1) := by decide +kernel
theorem dL_isEmpty_17 : decode cL_isEmpty 17 = .ok (.goto 7, 3) := by decide +kernel
theorem dL_isEmpty_20 : decode cL_isEmpty 20 = .ok (.astore 4, 2) := by decide +kernel
theorem dL_isEmpty_22 : decode cL_isEmpty 22 = .ok (.iconst 1, 1) := by decide +kernel
theorem dL_isEmpty_23 : decode cL_isEmpty 23 = .ok (.ireturn, 1) := by decide +kernel
theorem dL_isEmpty_24 : decode cL_isEmpty 24 = .ok (.iconst 0, 1) := by decide +kernel
theorem dL_isEmpty_25 : decode cL_isEmpty 25 = .ok (.ireturn, 1) := by decide +kernel
theorem dL_isLiving_0 : decode cL_isLiving 0 = .ok (.aload_n 3, 1) := by decide +kernel
theorem dL_isLiving_1 : decode cL_isLiving 1 = .ok (.iconst 0, 1) := by decide +kernel
theorem dL_isLiving_2 : decode cL_isLiving 2 = .ok (.aload_n 0, 1) := by decide +kernel
theorem dL_isLiving_3 : decode cL_isLiving 3 = .ok (.iload_n 1, 1) := by decide +kernel
theorem dL_isLiving_4 : decode cL_isLiving 4 = .ok (.iload_n 2, 1) := by decide +kernel
theorem dL_isLiving_5 : decode cL_isLiving 5 = .ok (.invokevirtual 42, 3) := by decide +kernel
theorem dL_isLiving_8 : decode cL_isLiving 8 = .ok (.ifCond .eq 7, 3) := by decide +kernel
theorem dL_isLiving_11 : decode cL_isLiving 11 = .ok (.lconst 1, 1) := by decide +kernel
theorem dL_isLiving_12 : decode cL_isLiving 12 = .ok (.goto 4, 3) := by decide +kernel
theorem dL_isLiving_15 : decode cL_isLiving 15 = .ok (.lconst 0, 1) := by decide +kernel
theorem dL_isLiving_16 : decode cL_isLiving 16 = .ok (.lastore, 1) := by decide +kernel
theorem dL_isLiving_17 : decode cL_isLiving 17 = .ok (.goto 7, 3) := by decide +kernel
theorem dL_isLiving_20 : decode cL_isLiving 20 = .ok (.astore 4, 2) := by decide +kernel
theorem dL_isLiving_22 : decode cL_isLiving 22 = .ok (.iconst 1, 1) := by decide +kernel
theorem dL_isLiving_23 : decode cL_isLiving 23 = .ok (.ireturn, 1) := by decide +kernel
theorem dL_isLiving_24 : decode cL_isLiving 24 = .ok (.iconst 0, 1) := by decide +kernel
theorem dL_isLiving_25 : decode cL_isLiving 25 = .ok (.ireturn, 1) := by decide +kernel
theorem dL_isBleached_0 : decode cL_isBleached 0 = .ok (.aload_n 3, 1) := by decide +kernel
theorem dL_isBleached_1 : decode cL_isBleached 1 = .ok (.iconst 0, 1) := by decide +kernel
theorem dL_isBleached_2 : decode cL_isBleached 2 = .ok (.aload_n 0, 1) := by decide +kernel
theorem dL_isBleached_3 : decode cL_isBleached 3 = .ok (.iload_n 1, 1) := by decide +kernel
theorem dL_isBleached_4 : decode cL_isBleached 4 = .ok (.iload_n 2, 1) := by decide +kernel
theorem dL_isBleached_5 : decode cL_isBleached 5 = .ok (.invokevirtual 45, 3) := by decide +kernel
theorem dL_isBleached_8 : decode cL_isBleached 8 = .ok (.ifCond .eq 7, 3) := by decide +kernel
theorem dL_isBleached_11 : decode cL_isBleached 11 = .ok (.lconst 1, 1) := by decide +kernel
theorem dL_isBleached_12 : decode cL_isBleached 12 = .ok (.goto 4, 3) := by decide +kernel
theorem dL_isBleached_15 : decode cL_isBleached 15 = .ok (.lconst 0, 1) := by decide +kernel
theorem dL_isBleached_16 : decode cL_isBleached 16 = .ok (.lastore, 1) := by decide +kernel
theorem dL_isBleached_17 : decode cL_isBleached 17 = .ok (.goto 7, 3) := by decide +kernel
theorem dL_isBleached_20 : decode cL_isBleached 20 = .ok (.astore 4, 2) := by decide +kernel
theorem dL_isBleached_22 : decode cL_isBleached 22 = .ok (.iconst 1, 1) := by decide +kernel
theorem dL_isBleached_23 : decode cL_isBleached 23 = .ok (.ireturn, 1) := by decide +kernel
theorem dL_isBleached_24 : decode cL_isBleached 24 = .ok (.iconst 0, 1) := by decide +kernel
theorem dL_isBleached_25 : decode cL_isBleached 25 = .ok (.ireturn, 1) := by decide +kernel
theorem dL_colourAt_0 : decode cL_colourAt 0 = .ok (.aload_n 3, 1) := by decide +kernel
theorem dL_colourAt_1 : decode cL_colourAt 1 = .ok (.iconst 0, 1) := by decide +kernel
theorem dL_colourAt_2 : decode cL_colourAt 2 = .ok (.aload_n 0, 1) := by decide +kernel
theorem dL_colourAt_3 : decode cL_colourAt 3 = .ok (.iload_n 1, 1) := by decide +kernel
theorem dL_colourAt_4 : decode cL_colourAt 4 = .ok (.iload_n 2, 1) := by decide +kernel
theorem dL_colourAt_5 : decode cL_colourAt 5 = .ok (.invokevirtual 48, 3) := by decide +kernel
theorem dL_colourAt_8 : decode cL_colourAt 8 = .ok (.i2l, 1) := by decide +kernel
theorem dL_colourAt_9 : decode cL_colourAt 9 = .ok (.lastore, 1) := by decide +kernel
theorem dL_colourAt_10 : decode cL_colourAt 10 = .ok (.goto 11, 3) := by decide +kernel
theorem dL_colourAt_13 : decode cL_colourAt 13 = .ok (.astore 4, 2) := by decide +kernel
theorem dL_colourAt_15 : decode cL_colourAt 15 = .ok (.iconst 1, 1) := by decide +kernel
theorem dL_colourAt_16 : decode cL_colourAt 16 = .ok (.ireturn, 1) := by decide +kernel
theorem dL_colourAt_17 : decode cL_colourAt 17 = .ok (.astore 4, 2) := by decide +kernel
theorem dL_colourAt_19 : decode cL_colourAt 19 = .ok (.iconst 2, 1) := by decide +kernel
theorem dL_colourAt_20 : decode cL_colourAt 20 = .ok (.ireturn, 1) := by decide +kernel
theorem dL_colourAt_21 : decode cL_colourAt 21 = .ok (.iconst 0, 1) := by decide +kernel
theorem dL_colourAt_22 : decode cL_colourAt 22 = .ok (.ireturn, 1) := by decide +kernel
theorem dL_ageAt_0 : decode cL_ageAt 0 = .ok (.aload_n 3, 1) := by decide +kernel
theorem dL_ageAt_1 : decode cL_ageAt 1 = .ok (.iconst 0, 1) := by decide +kernel
theorem dL_ageAt_2 : decode cL_ageAt 2 = .ok (.aload_n 0, 1) := by decide +kernel
theorem dL_ageAt_3 : decode cL_ageAt 3 = .ok (.iload_n 1, 1) := by decide +kernel
theorem dL_ageAt_4 : decode cL_ageAt 4 = .ok (.iload_n 2, 1) := by decide +kernel
theorem dL_ageAt_5 : decode cL_ageAt 5 = .ok (.invokevirtual 54, 3) := by decide +kernel
theorem dL_ageAt_8 : decode cL_ageAt 8 = .ok (.i2l, 1) := by decide +kernel
theorem dL_ageAt_9 : decode cL_ageAt 9 = .ok (.lastore, 1) := by decide +kernel
theorem dL_ageAt_10 : decode cL_ageAt 10 = .ok (.goto 11, 3) := by decide +kernel
theorem dL_ageAt_13 : decode cL_ageAt 13 = .ok (.astore 4, 2) := by decide +kernel
theorem dL_ageAt_15 : decode cL_ageAt 15 = .ok (.iconst 1, 1) := by decide +kernel
theorem dL_ageAt_16 : decode cL_ageAt 16 = .ok (.ireturn, 1) := by decide +kernel
theorem dL_ageAt_17 : decode cL_ageAt 17 = .ok (.astore 4, 2) := by decide +kernel
theorem dL_ageAt_19 : decode cL_ageAt 19 = .ok (.iconst 2, 1) := by decide +kernel
theorem dL_ageAt_20 : decode cL_ageAt 20 = .ok (.ireturn, 1) := by decide +kernel
theorem dL_ageAt_21 : decode cL_ageAt 21 = .ok (.iconst 0, 1) := by decide +kernel
theorem dL_ageAt_22 : decode cL_ageAt 22 = .ok (.ireturn, 1) := by decide +kernel
theorem dL_neighbours_0 : decode cL_neighbours 0 = .ok (.aload_n 3, 1) := by decide +kernel
theorem dL_neighbours_1 : decode cL_neighbours 1 = .ok (.iconst 0, 1) := by decide +kernel
theorem dL_neighbours_2 : decode cL_neighbours 2 = .ok (.aload_n 0, 1) := by decide +kernel
theorem dL_neighbours_3 : decode cL_neighbours 3 = .ok (.iload_n 1, 1) := by decide +kernel
theorem dL_neighbours_4 : decode cL_neighbours 4 = .ok (.iload_n 2, 1) := by decide +kernel
theorem dL_neighbours_5 : decode cL_neighbours 5 = .ok (.invokevirtual 57, 3) := by decide +kernel
theorem dL_neighbours_8 : decode cL_neighbours 8 = .ok (.i2l, 1) := by decide +kernel
theorem dL_neighbours_9 : decode cL_neighbours 9 = .ok (.lastore, 1) := by decide +kernel
theorem dL_neighbours_10 : decode cL_neighbours 10 = .ok (.goto 7, 3) := by decide +kernel
theorem dL_neighbours_13 : decode cL_neighbours 13 = .ok (.astore 4, 2) := by decide +kernel
theorem dL_neighbours_15 : decode cL_neighbours 15 = .ok (.iconst 1, 1) := by decide +kernel
theorem dL_neighbours_16 : decode cL_neighbours 16 = .ok (.ireturn, 1) := by decide +kernel
theorem dL_neighbours_17 : decode cL_neighbours 17 = .ok (.iconst 0, 1) := by decide +kernel
theorem dL_neighbours_18 : decode cL_neighbours 18 = .ok (.ireturn, 1) := by decide +kernel
theorem dL_neighboursOf_0 : decode cL_neighboursOf 0 = .ok (.aload 4, 2) := by decide +kernel
theorem dL_neighboursOf_2 : decode cL_neighboursOf 2 = .ok (.iconst 0, 1) := by decide +kernel
theorem dL_neighboursOf_3 : decode cL_neighboursOf 3 = .ok (.aload_n 0, 1) := by decide +kernel
theorem dL_neighboursOf_4 : decode cL_neighboursOf 4 = .ok (.iload_n 1, 1) := by decide +kernel
theorem dL_neighboursOf_5 : decode cL_neighboursOf 5 = .ok (.iload_n 2, 1) := by decide +kernel
theorem dL_neighboursOf_6 : decode cL_neighboursOf 6 = .ok (.iload_n 3, 1) := by decide +kernel
theorem dL_neighboursOf_7 : decode cL_neighboursOf 7 = .ok (.invokevirtual 60, 3) := by decide +kernel
theorem dL_neighboursOf_10 : decode cL_neighboursOf 10 = .ok (.i2l, 1) := by decide +kernel
theorem dL_neighboursOf_11 : decode cL_neighboursOf 11 = .ok (.lastore, 1) := by decide +kernel
theorem dL_neighboursOf_12 : decode cL_neighboursOf 12 = .ok (.goto 11, 3) := by decide +kernel
theorem dL_neighboursOf_15 : decode cL_neighboursOf 15 = .ok (.astore 5, 2) := by decide +kernel
theorem dL_neighboursOf_17 : decode cL_neighboursOf 17 = .ok (.iconst 1, 1) := by decide +kernel
theorem dL_neighboursOf_18 : decode cL_neighboursOf 18 = .ok (.ireturn, 1) := by decide +kernel
theorem dL_neighboursOf_19 : decode cL_neighboursOf 19 = .ok (.astore 5, 2) := by decide +kernel
theorem dL_neighboursOf_21 : decode cL_neighboursOf 21 = .ok (.iconst 2, 1) := by decide +kernel
theorem dL_neighboursOf_22 : decode cL_neighboursOf 22 = .ok (.ireturn, 1) := by decide +kernel
theorem dL_neighboursOf_23 : decode cL_neighboursOf 23 = .ok (.iconst 0, 1) := by decide +kernel
theorem dL_neighboursOf_24 : decode cL_neighboursOf 24 = .ok (.ireturn, 1) := by decide +kernel
theorem dL_birthColour_0 : decode cL_birthColour 0 = .ok (.aload_n 3, 1) := by decide +kernel
theorem dL_birthColour_1 : decode cL_birthColour 1 = .ok (.iconst 0, 1) := by decide +kernel
theorem dL_birthColour_2 : decode cL_birthColour 2 = .ok (.aload_n 0, 1) := by decide +kernel
theorem dL_birthColour_3 : decode cL_birthColour 3 = .ok (.iload_n 1, 1) := by decide +kernel
theorem dL_birthColour_4 : decode cL_birthColour 4 = .ok (.iload_n 2, 1) := by decide +kernel
theorem dL_birthColour_5 : decode cL_birthColour 5 = .ok (.invokevirtual 63, 3) := by decide +kernel
theorem dL_birthColour_8 : decode cL_birthColour 8 = .ok (.i2l, 1) := by decide +kernel
theorem dL_birthColour_9 : decode cL_birthColour 9 = .ok (.lastore, 1) := by decide +kernel
theorem dL_birthColour_10 : decode cL_birthColour 10 = .ok (.goto 11, 3) := by decide +kernel
theorem dL_birthColour_13 : decode cL_birthColour 13 = .ok (.astore 4, 2) := by decide +kernel
theorem dL_birthColour_15 : decode cL_birthColour 15 = .ok (.iconst 1, 1) := by decide +kernel
theorem dL_birthColour_16 : decode cL_birthColour 16 = .ok (.ireturn, 1) := by decide +kernel
theorem dL_birthColour_17 : decode cL_birthColour 17 = .ok (.astore 4, 2) := by decide +kernel
theorem dL_birthColour_19 : decode cL_birthColour 19 = .ok (.iconst 2, 1) := by decide +kernel
theorem dL_birthColour_20 : decode cL_birthColour 20 = .ok (.ireturn, 1) := by decide +kernel
theorem dL_birthColour_21 : decode cL_birthColour 21 = .ok (.iconst 0, 1) := by decide +kernel
theorem dL_birthColour_22 : decode cL_birthColour 22 = .ok (.ireturn, 1) := by decide +kernel
theorem dL_countOf_0 : decode cL_countOf 0 = .ok (.aload_n 2, 1) := by decide +kernel
theorem dL_countOf_1 : decode cL_countOf 1 = .ok (.iconst 0, 1) := by decide +kernel
theorem dL_countOf_2 : decode cL_countOf 2 = .ok (.aload_n 0, 1) := by decide +kernel
theorem dL_countOf_3 : decode cL_countOf 3 = .ok (.iload_n 1, 1) := by decide +kernel
theorem dL_countOf_4 : decode cL_countOf 4 = .ok (.invokevirtual 66, 3) := by decide +kernel
theorem dL_countOf_7 : decode cL_countOf 7 = .ok (.i2l, 1) := by decide +kernel
theorem dL_countOf_8 : decode cL_countOf 8 = .ok (.lastore, 1) := by decide +kernel
theorem dL_countOf_9 : decode cL_countOf 9 = .ok (.goto 6, 3) := by decide +kernel
theorem dL_countOf_12 : decode cL_countOf 12 = .ok (.astore_n 3, 1) := by decide +kernel
theorem dL_countOf_13 : decode cL_countOf 13 = .ok (.iconst 1, 1) := by decide +kernel
theorem dL_countOf_14 : decode cL_countOf 14 = .ok (.ireturn, 1) := by decide +kernel
theorem dL_countOf_15 : decode cL_countOf 15 = .ok (.iconst 0, 1) := by decide +kernel
theorem dL_countOf_16 : decode cL_countOf 16 = .ok (.ireturn, 1) := by decide +kernel
theorem dL_islandSize_0 : decode cL_islandSize 0 = .ok (.aload_n 3, 1) := by decide +kernel
theorem dL_islandSize_1 : decode cL_islandSize 1 = .ok (.iconst 0, 1) := by decide +kernel
theorem dL_islandSize_2 : decode cL_islandSize 2 = .ok (.aload_n 0, 1) := by decide +kernel
theorem dL_islandSize_3 : decode cL_islandSize 3 = .ok (.iload_n 1, 1) := by decide +kernel
theorem dL_islandSize_4 : decode cL_islandSize 4 = .ok (.iload_n 2, 1) := by decide +kernel
theorem dL_islandSize_5 : decode cL_islandSize 5 = .ok (.invokevirtual 70, 3) := by decide +kernel
theorem dL_islandSize_8 : decode cL_islandSize 8 = .ok (.i2l, 1) := by decide +kernel
theorem dL_islandSize_9 : decode cL_islandSize 9 = .ok (.lastore, 1) := by decide +kernel
theorem dL_islandSize_10 : decode cL_islandSize 10 = .ok (.goto 11, 3) := by decide +kernel
theorem dL_islandSize_13 : decode cL_islandSize 13 = .ok (.astore 4, 2) := by decide +kernel
theorem dL_islandSize_15 : decode cL_islandSize 15 = .ok (.iconst 1, 1) := by decide +kernel
theorem dL_islandSize_16 : decode cL_islandSize 16 = .ok (.ireturn, 1) := by decide +kernel
theorem dL_islandSize_17 : decode cL_islandSize 17 = .ok (.astore 4, 2) := by decide +kernel
theorem dL_islandSize_19 : decode cL_islandSize 19 = .ok (.iconst 2, 1) := by decide +kernel
theorem dL_islandSize_20 : decode cL_islandSize 20 = .ok (.ireturn, 1) := by decide +kernel
theorem dL_islandSize_21 : decode cL_islandSize 21 = .ok (.iconst 0, 1) := by decide +kernel
theorem dL_islandSize_22 : decode cL_islandSize 22 = .ok (.ireturn, 1) := by decide +kernel
theorem dL_islandsOf_0 : decode cL_islandsOf 0 = .ok (.aload_n 2, 1) := by decide +kernel
theorem dL_islandsOf_1 : decode cL_islandsOf 1 = .ok (.iconst 0, 1) := by decide +kernel
theorem dL_islandsOf_2 : decode cL_islandsOf 2 = .ok (.aload_n 0, 1) := by decide +kernel
theorem dL_islandsOf_3 : decode cL_islandsOf 3 = .ok (.iload_n 1, 1) := by decide +kernel
theorem dL_islandsOf_4 : decode cL_islandsOf 4 = .ok (.invokevirtual 73, 3) := by decide +kernel
theorem dL_islandsOf_7 : decode cL_islandsOf 7 = .ok (.i2l, 1) := by decide +kernel
theorem dL_islandsOf_8 : decode cL_islandsOf 8 = .ok (.lastore, 1) := by decide +kernel
theorem dL_islandsOf_9 : decode cL_islandsOf 9 = .ok (.goto 6, 3) := by decide +kernel
theorem dL_islandsOf_12 : decode cL_islandsOf 12 = .ok (.astore_n 3, 1) := by decide +kernel
theorem dL_islandsOf_13 : decode cL_islandsOf 13 = .ok (.iconst 1, 1) := by decide +kernel
theorem dL_islandsOf_14 : decode cL_islandsOf 14 = .ok (.ireturn, 1) := by decide +kernel
theorem dL_islandsOf_15 : decode cL_islandsOf 15 = .ok (.iconst 0, 1) := by decide +kernel
theorem dL_islandsOf_16 : decode cL_islandsOf 16 = .ok (.ireturn, 1) := by decide +kernel
theorem dL_isJoined_0 : decode cL_isJoined 0 = .ok (.aload 5, 2) := by decide +kernel
theorem dL_isJoined_2 : decode cL_isJoined 2 = .ok (.iconst 0, 1) := by decide +kernel
theorem dL_isJoined_3 : decode cL_isJoined 3 = .ok (.aload_n 0, 1) := by decide +kernel
theorem dL_isJoined_4 : decode cL_isJoined 4 = .ok (.iload_n 1, 1) := by decide +kernel
theorem dL_isJoined_5 : decode cL_isJoined 5 = .ok (.iload_n 2, 1) := by decide +kernel
theorem dL_isJoined_6 : decode cL_isJoined 6 = .ok (.iload_n 3, 1) := by decide +kernel
theorem dL_isJoined_7 : decode cL_isJoined 7 = .ok (.iload 4, 2) := by decide +kernel
theorem dL_isJoined_9 : decode cL_isJoined 9 = .ok (.invokevirtual 76, 3) := by decide +kernel
theorem dL_isJoined_12 : decode cL_isJoined 12 = .ok (.ifCond .eq 7, 3) := by decide +kernel
theorem dL_isJoined_15 : decode cL_isJoined 15 = .ok (.lconst 1, 1) := by decide +kernel
theorem dL_isJoined_16 : decode cL_isJoined 16 = .ok (.goto 4, 3) := by decide +kernel
theorem dL_isJoined_19 : decode cL_isJoined 19 = .ok (.lconst 0, 1) := by decide +kernel
theorem dL_isJoined_20 : decode cL_isJoined 20 = .ok (.lastore, 1) := by decide +kernel
theorem dL_isJoined_21 : decode cL_isJoined 21 = .ok (.goto 7, 3) := by decide +kernel
theorem dL_isJoined_24 : decode cL_isJoined 24 = .ok (.astore 6, 2) := by decide +kernel
theorem dL_isJoined_26 : decode cL_isJoined 26 = .ok (.iconst 1, 1) := by decide +kernel
theorem dL_isJoined_27 : decode cL_isJoined 27 = .ok (.ireturn, 1) := by decide +kernel
theorem dL_isJoined_28 : decode cL_isJoined 28 = .ok (.iconst 0, 1) := by decide +kernel
theorem dL_isJoined_29 : decode cL_isJoined 29 = .ok (.ireturn, 1) := by decide +kernel
theorem dL_passTides_0 : decode cL_passTides 0 = .ok (.aload_n 2, 1) := by decide +kernel
theorem dL_passTides_1 : decode cL_passTides 1 = .ok (.iconst 0, 1) := by decide +kernel
theorem dL_passTides_2 : decode cL_passTides 2 = .ok (.aload_n 0, 1) := by decide +kernel
theorem dL_passTides_3 : decode cL_passTides 3 = .ok (.iload_n 1, 1) := by decide +kernel
theorem dL_passTides_4 : decode cL_passTides 4 = .ok (.invokevirtual 80, 3) := by decide +kernel
theorem dL_passTides_7 : decode cL_passTides 7 = .ok (.i2l, 1) := by decide +kernel
theorem dL_passTides_8 : decode cL_passTides 8 = .ok (.lastore, 1) := by decide +kernel
theorem dL_passTides_9 : decode cL_passTides 9 = .ok (.goto 6, 3) := by decide +kernel
theorem dL_passTides_12 : decode cL_passTides 12 = .ok (.astore_n 3, 1) := by decide +kernel
theorem dL_passTides_13 : decode cL_passTides 13 = .ok (.iconst 1, 1) := by decide +kernel
theorem dL_passTides_14 : decode cL_passTides 14 = .ok (.ireturn, 1) := by decide +kernel
theorem dL_passTides_15 : decode cL_passTides 15 = .ok (.iconst 0, 1) := by decide +kernel
theorem dL_passTides_16 : decode cL_passTides 16 = .ok (.ireturn, 1) := by decide +kernel
theorem dL_wouldLive_0 : decode cL_wouldLive 0 = .ok (.aload_n 3, 1) := by decide +kernel
theorem dL_wouldLive_1 : decode cL_wouldLive 1 = .ok (.iconst 0, 1) := by decide +kernel
theorem dL_wouldLive_2 : decode cL_wouldLive 2 = .ok (.aload_n 0, 1) := by decide +kernel
theorem dL_wouldLive_3 : decode cL_wouldLive 3 = .ok (.iload_n 1, 1) := by decide +kernel
theorem dL_wouldLive_4 : decode cL_wouldLive 4 = .ok (.iload_n 2, 1) := by decide +kernel
theorem dL_wouldLive_5 : decode cL_wouldLive 5 = .ok (.invokevirtual 84, 3) := by decide +kernel
theorem dL_wouldLive_8 : decode cL_wouldLive 8 = .ok (.ifCond .eq 7, 3) := by decide +kernel
theorem dL_wouldLive_11 : decode cL_wouldLive 11 = .ok (.lconst 1, 1) := by decide +kernel
theorem dL_wouldLive_12 : decode cL_wouldLive 12 = .ok (.goto 4, 3) := by decide +kernel
theorem dL_wouldLive_15 : decode cL_wouldLive 15 = .ok (.lconst 0, 1) := by decide +kernel
theorem dL_wouldLive_16 : decode cL_wouldLive 16 = .ok (.lastore, 1) := by decide +kernel
theorem dL_wouldLive_17 : decode cL_wouldLive 17 = .ok (.goto 7, 3) := by decide +kernel
theorem dL_wouldLive_20 : decode cL_wouldLive 20 = .ok (.astore 4, 2) := by decide +kernel
theorem dL_wouldLive_22 : decode cL_wouldLive 22 = .ok (.iconst 1, 1) := by decide +kernel
theorem dL_wouldLive_23 : decode cL_wouldLive 23 = .ok (.ireturn, 1) := by decide +kernel
theorem dL_wouldLive_24 : decode cL_wouldLive 24 = .ok (.iconst 0, 1) := by decide +kernel
theorem dL_wouldLive_25 : decode cL_wouldLive 25 = .ok (.ireturn, 1) := by decide +kernel
theorem dL_livingAfter_0 : decode cL_livingAfter 0 = .ok (.aload_n 2, 1) := by decide +kernel
theorem dL_livingAfter_1 : decode cL_livingAfter 1 = .ok (.iconst 0, 1) := by decide +kernel
theorem dL_livingAfter_2 : decode cL_livingAfter 2 = .ok (.aload_n 0, 1) := by decide +kernel
theorem dL_livingAfter_3 : decode cL_livingAfter 3 = .ok (.iload_n 1, 1) := by decide +kernel
theorem dL_livingAfter_4 : decode cL_livingAfter 4 = .ok (.invokevirtual 87, 3) := by decide +kernel
theorem dL_livingAfter_7 : decode cL_livingAfter 7 = .ok (.i2l, 1) := by decide +kernel
theorem dL_livingAfter_8 : decode cL_livingAfter 8 = .ok (.lastore, 1) := by decide +kernel
theorem dL_livingAfter_9 : decode cL_livingAfter 9 = .ok (.goto 6, 3) := by decide +kernel
theorem dL_livingAfter_12 : decode cL_livingAfter 12 = .ok (.astore_n 3, 1) := by decide +kernel
theorem dL_livingAfter_13 : decode cL_livingAfter 13 = .ok (.iconst 1, 1) := by decide +kernel
theorem dL_livingAfter_14 : decode cL_livingAfter 14 = .ok (.ireturn, 1) := by decide +kernel
theorem dL_livingAfter_15 : decode cL_livingAfter 15 = .ok (.iconst 0, 1) := by decide +kernel
theorem dL_livingAfter_16 : decode cL_livingAfter 16 = .ok (.ireturn, 1) := by decide +kernel
theorem dL_tidesUntilStill_0 : decode cL_tidesUntilStill 0 = .ok (.aload_n 1, 1) := by decide +kernel
theorem dL_tidesUntilStill_1 : decode cL_tidesUntilStill 1 = .ok (.iconst 0, 1) := by decide +kernel
theorem dL_tidesUntilStill_2 : decode cL_tidesUntilStill 2 = .ok (.aload_n 0, 1) := by decide +kernel
theorem dL_tidesUntilStill_3 : decode cL_tidesUntilStill 3 = .ok (.invokevirtual 90, 3) := by decide +kernel
theorem dL_tidesUntilStill_6 : decode cL_tidesUntilStill 6 = .ok (.i2l, 1) := by decide +kernel
theorem dL_tidesUntilStill_7 : decode cL_tidesUntilStill 7 = .ok (.lastore, 1) := by decide +kernel
theorem dL_tidesUntilStill_8 : decode cL_tidesUntilStill 8 = .ok (.goto 6, 3) := by decide +kernel
theorem dL_tidesUntilStill_11 : decode cL_tidesUntilStill 11 = .ok (.astore_n 2, 1) := by decide +kernel
theorem dL_tidesUntilStill_12 : decode cL_tidesUntilStill 12 = .ok (.iconst 1, 1) := by decide +kernel
theorem dL_tidesUntilStill_13 : decode cL_tidesUntilStill 13 = .ok (.ireturn, 1) := by decide +kernel
theorem dL_tidesUntilStill_14 : decode cL_tidesUntilStill 14 = .ok (.iconst 0, 1) := by decide +kernel
theorem dL_tidesUntilStill_15 : decode cL_tidesUntilStill 15 = .ok (.ireturn, 1) := by decide +kernel
theorem dL_isBirth_0 : decode cL_isBirth 0 = .ok (.aload_n 2, 1) := by decide +kernel
theorem dL_isBirth_1 : decode cL_isBirth 1 = .ok (.iconst 0, 1) := by decide +kernel
theorem dL_isBirth_2 : decode cL_isBirth 2 = .ok (.aload_n 0, 1) := by decide +kernel
theorem dL_isBirth_3 : decode cL_isBirth 3 = .ok (.iload_n 1, 1) := by decide +kernel
theorem dL_isBirth_4 : decode cL_isBirth 4 = .ok (.invokevirtual 94, 3) := by decide +kernel
theorem dL_isBirth_7 : decode cL_isBirth 7 = .ok (.ifCond .eq 7, 3) := by decide +kernel
theorem dL_isBirth_10 : decode cL_isBirth 10 = .ok (.lconst 1, 1) := by decide +kernel
theorem dL_isBirth_11 : decode cL_isBirth 11 = .ok (.goto 4, 3) := by decide +kernel
theorem dL_isBirth_14 : decode cL_isBirth 14 = .ok (.lconst 0, 1) := by decide +kernel
theorem dL_isBirth_15 : decode cL_isBirth 15 = .ok (.lastore, 1) := by decide +kernel
theorem dL_isBirth_16 : decode cL_isBirth 16 = .ok (.goto 6, 3) := by decide +kernel
theorem dL_isBirth_19 : decode cL_isBirth 19 = .ok (.astore_n 3, 1) := by decide +kernel
theorem dL_isBirth_20 : decode cL_isBirth 20 = .ok (.iconst 1, 1) := by decide +kernel
theorem dL_isBirth_21 : decode cL_isBirth 21 = .ok (.ireturn, 1) := by decide +kernel
theorem dL_isBirth_22 : decode cL_isBirth 22 = .ok (.iconst 0, 1) := by decide +kernel
theorem dL_isBirth_23 : decode cL_isBirth 23 = .ok (.ireturn, 1) := by decide +kernel
theorem dL_isSurvival_0 : decode cL_isSurvival 0 = .ok (.aload_n 2, 1) := by decide +kernel
theorem dL_isSurvival_1 : decode cL_isSurvival 1 = .ok (.iconst 0, 1) := by decide +kernel
theorem dL_isSurvival_2 : decode cL_isSurvival 2 = .ok (.aload_n 0, 1) := by decide +kernel
theorem dL_isSurvival_3 : decode cL_isSurvival 3 = .ok (.iload_n 1, 1) := by decide +kernel
theorem dL_isSurvival_4 : decode cL_isSurvival 4 = .ok (.invokevirtual 98, 3) := by decide +kernel
theorem dL_isSurvival_7 : decode cL_isSurvival 7 = .ok (.ifCond .eq 7, 3) := by decide +kernel
theorem dL_isSurvival_10 : decode cL_isSurvival 10 = .ok (.lconst 1, 1) := by decide +kernel
theorem dL_isSurvival_11 : decode cL_isSurvival 11 = .ok (.goto 4, 3) := by decide +kernel
theorem dL_isSurvival_14 : decode cL_isSurvival 14 = .ok (.lconst 0, 1) := by decide +kernel
theorem dL_isSurvival_15 : decode cL_isSurvival 15 = .ok (.lastore, 1) := by decide +kernel
theorem dL_isSurvival_16 : decode cL_isSurvival 16 = .ok (.goto 6, 3) := by decide +kernel
theorem dL_isSurvival_19 : decode cL_isSurvival 19 = .ok (.astore_n 3, 1) := by decide +kernel
theorem dL_isSurvival_20 : decode cL_isSurvival 20 = .ok (.iconst 1, 1) := by decide +kernel
theorem dL_isSurvival_21 : decode cL_isSurvival 21 = .ok (.ireturn, 1) := by decide +kernel
theorem dL_isSurvival_22 : decode cL_isSurvival 22 = .ok (.iconst 0, 1) := by decide +kernel
theorem dL_isSurvival_23 : decode cL_isSurvival 23 = .ok (.ireturn, 1) := by decide +kernel
theorem dL_rowByLiving_0 : decode cL_rowByLiving 0 = .ok (.aload_n 2, 1) := by decide +kernel
theorem dL_rowByLiving_1 : decode cL_rowByLiving 1 = .ok (.iconst 0, 1) := by decide +kernel
theorem dL_rowByLiving_2 : decode cL_rowByLiving 2 = .ok (.aload_n 0, 1) := by decide +kernel
theorem dL_rowByLiving_3 : decode cL_rowByLiving 3 = .ok (.iload_n 1, 1) := by decide +kernel
theorem dL_rowByLiving_4 : decode cL_rowByLiving 4 = .ok (.invokevirtual 101, 3) := by decide +kernel
theorem dL_rowByLiving_7 : decode cL_rowByLiving 7 = .ok (.i2l, 1) := by decide +kernel
theorem dL_rowByLiving_8 : decode cL_rowByLiving 8 = .ok (.lastore, 1) := by decide +kernel
theorem dL_rowByLiving_9 : decode cL_rowByLiving 9 = .ok (.goto 6, 3) := by decide +kernel
theorem dL_rowByLiving_12 : decode cL_rowByLiving 12 = .ok (.astore_n 3, 1) := by decide +kernel
theorem dL_rowByLiving_13 : decode cL_rowByLiving 13 = .ok (.iconst 1, 1) := by decide +kernel
theorem dL_rowByLiving_14 : decode cL_rowByLiving 14 = .ok (.ireturn, 1) := by decide +kernel
theorem dL_rowByLiving_15 : decode cL_rowByLiving 15 = .ok (.iconst 0, 1) := by decide +kernel
theorem dL_rowByLiving_16 : decode cL_rowByLiving 16 = .ok (.ireturn, 1) := by decide +kernel
theorem dL_colourByCount_0 : decode cL_colourByCount 0 = .ok (.aload_n 2, 1) := by decide +kernel
theorem dL_colourByCount_1 : decode cL_colourByCount 1 = .ok (.iconst 0, 1) := by decide +kernel
theorem dL_colourByCount_2 : decode cL_colourByCount 2 = .ok (.aload_n 0, 1) := by decide +kernel
theorem dL_colourByCount_3 : decode cL_colourByCount 3 = .ok (.iload_n 1, 1) := by decide +kernel
theorem dL_colourByCount_4 : decode cL_colourByCount 4 = .ok (.invokevirtual 104, 3) := by decide +kernel
theorem dL_colourByCount_7 : decode cL_colourByCount 7 = .ok (.i2l, 1) := by decide +kernel
theorem dL_colourByCount_8 : decode cL_colourByCount 8 = .ok (.lastore, 1) := by decide +kernel
theorem dL_colourByCount_9 : decode cL_colourByCount 9 = .ok (.goto 6, 3) := by decide +kernel
theorem dL_colourByCount_12 : decode cL_colourByCount 12 = .ok (.astore_n 3, 1) := by decide +kernel
theorem dL_colourByCount_13 : decode cL_colourByCount 13 = .ok (.iconst 1, 1) := by decide +kernel
theorem dL_colourByCount_14 : decode cL_colourByCount 14 = .ok (.ireturn, 1) := by decide +kernel
theorem dL_colourByCount_15 : decode cL_colourByCount 15 = .ok (.iconst 0, 1) := by decide +kernel
theorem dL_colourByCount_16 : decode cL_colourByCount 16 = .ok (.ireturn, 1) := by decide +kernel
theorem dL_meanAge_0 : decode cL_meanAge 0 = .ok (.aload_n 1, 1) := by decide +kernel
theorem dL_meanAge_1 : decode cL_meanAge 1 = .ok (.iconst 0, 1) := by decide +kernel
theorem dL_meanAge_2 : decode cL_meanAge 2 = .ok (.aload_n 0, 1) := by decide +kernel
theorem dL_meanAge_3 : decode cL_meanAge 3 = .ok (.invokevirtual 108, 3) := by decide +kernel
theorem dL_meanAge_6 : decode cL_meanAge 6 = .ok (.dastore, 1) := by decide +kernel
theorem dL_meanAge_7 : decode cL_meanAge 7 = .ok (.goto 6, 3) := by decide +kernel
theorem dL_meanAge_10 : decode cL_meanAge 10 = .ok (.astore_n 2, 1) := by decide +kernel
theorem dL_meanAge_11 : decode cL_meanAge 11 = .ok (.iconst 1, 1) := by decide +kernel
theorem dL_meanAge_12 : decode cL_meanAge 12 = .ok (.ireturn, 1) := by decide +kernel
theorem dL_meanAge_13 : decode cL_meanAge 13 = .ok (.iconst 0, 1) := by decide +kernel
theorem dL_meanAge_14 : decode cL_meanAge 14 = .ok (.ireturn, 1) := by decide +kernel
theorem dL_livingShare_0 : decode cL_livingShare 0 = .ok (.aload_n 1, 1) := by decide +kernel
theorem dL_livingShare_1 : decode cL_livingShare 1 = .ok (.iconst 0, 1) := by decide +kernel
theorem dL_livingShare_2 : decode cL_livingShare 2 = .ok (.aload_n 0, 1) := by decide +kernel
theorem dL_livingShare_3 : decode cL_livingShare 3 = .ok (.invokevirtual 114, 3) := by decide +kernel
theorem dL_livingShare_6 : decode cL_livingShare 6 = .ok (.f2d, 1) := by decide +kernel
theorem dL_livingShare_7 : decode cL_livingShare 7 = .ok (.dastore, 1) := by decide +kernel
theorem dL_livingShare_8 : decode cL_livingShare 8 = .ok (.goto 6, 3) := by decide +kernel
theorem dL_livingShare_11 : decode cL_livingShare 11 = .ok (.astore_n 2, 1) := by decide +kernel
theorem dL_livingShare_12 : decode cL_livingShare 12 = .ok (.iconst 1, 1) := by decide +kernel
theorem dL_livingShare_13 : decode cL_livingShare 13 = .ok (.ireturn, 1) := by decide +kernel
theorem dL_livingShare_14 : decode cL_livingShare 14 = .ok (.iconst 0, 1) := by decide +kernel
theorem dL_livingShare_15 : decode cL_livingShare 15 = .ok (.ireturn, 1) := by decide +kernel
theorem dL_writeRow_0 : decode cL_writeRow 0 = .ok (.aload_n 2, 1) := by decide +kernel
theorem dL_writeRow_1 : decode cL_writeRow 1 = .ok (.iconst 0, 1) := by decide +kernel
theorem dL_writeRow_2 : decode cL_writeRow 2 = .ok (.aload_n 0, 1) := by decide +kernel
theorem dL_writeRow_3 : decode cL_writeRow 3 = .ok (.iload_n 1, 1) := by decide +kernel
theorem dL_writeRow_4 : decode cL_writeRow 4 = .ok (.invokevirtual 118, 3) := by decide +kernel
theorem dL_writeRow_7 : decode cL_writeRow 7 = .ok (.i2l, 1) := by decide +kernel
theorem dL_writeRow_8 : decode cL_writeRow 8 = .ok (.lastore, 1) := by decide +kernel
theorem dL_writeRow_9 : decode cL_writeRow 9 = .ok (.goto 6, 3) := by decide +kernel
theorem dL_writeRow_12 : decode cL_writeRow 12 = .ok (.astore_n 3, 1) := by decide +kernel
theorem dL_writeRow_13 : decode cL_writeRow 13 = .ok (.iconst 1, 1) := by decide +kernel
theorem dL_writeRow_14 : decode cL_writeRow 14 = .ok (.ireturn, 1) := by decide +kernel
theorem dL_writeRow_15 : decode cL_writeRow 15 = .ok (.iconst 0, 1) := by decide +kernel
theorem dL_writeRow_16 : decode cL_writeRow 16 = .ok (.ireturn, 1) := by decide +kernel
theorem dL_outputAt_0 : decode cL_outputAt 0 = .ok (.aload_n 2, 1) := by decide +kernel
theorem dL_outputAt_1 : decode cL_outputAt 1 = .ok (.iconst 0, 1) := by decide +kernel
theorem dL_outputAt_2 : decode cL_outputAt 2 = .ok (.aload_n 0, 1) := by decide +kernel
theorem dL_outputAt_3 : decode cL_outputAt 3 = .ok (.iload_n 1, 1) := by decide +kernel
theorem dL_outputAt_4 : decode cL_outputAt 4 = .ok (.invokevirtual 121, 3) := by decide +kernel
theorem dL_outputAt_7 : decode cL_outputAt 7 = .ok (.i2l, 1) := by decide +kernel
theorem dL_outputAt_8 : decode cL_outputAt 8 = .ok (.lastore, 1) := by decide +kernel
theorem dL_outputAt_9 : decode cL_outputAt 9 = .ok (.goto 6, 3) := by decide +kernel
theorem dL_outputAt_12 : decode cL_outputAt 12 = .ok (.astore_n 3, 1) := by decide +kernel
theorem dL_outputAt_13 : decode cL_outputAt 13 = .ok (.iconst 1, 1) := by decide +kernel
theorem dL_outputAt_14 : decode cL_outputAt 14 = .ok (.ireturn, 1) := by decide +kernel
theorem dL_outputAt_15 : decode cL_outputAt 15 = .ok (.iconst 0, 1) := by decide +kernel
theorem dL_outputAt_16 : decode cL_outputAt 16 = .ok (.ireturn, 1) := by decide +kernel
theorem dL_appendInput_0 : decode cL_appendInput 0 = .ok (.aload_n 2, 1) := by decide +kernel
theorem dL_appendInput_1 : decode cL_appendInput 1 = .ok (.iconst 0, 1) := by decide +kernel
theorem dL_appendInput_2 : decode cL_appendInput 2 = .ok (.aload_n 0, 1) := by decide +kernel
theorem dL_appendInput_3 : decode cL_appendInput 3 = .ok (.iload_n 1, 1) := by decide +kernel
theorem dL_appendInput_4 : decode cL_appendInput 4 = .ok (.invokevirtual 124, 3) := by decide +kernel
theorem dL_appendInput_7 : decode cL_appendInput 7 = .ok (.i2l, 1) := by decide +kernel
theorem dL_appendInput_8 : decode cL_appendInput 8 = .ok (.lastore, 1) := by decide +kernel
theorem dL_appendInput_9 : decode cL_appendInput 9 = .ok (.goto 9, 3) := by decide +kernel
theorem dL_appendInput_12 : decode cL_appendInput 12 = .ok (.astore_n 3, 1) := by decide +kernel
theorem dL_appendInput_13 : decode cL_appendInput 13 = .ok (.iconst 1, 1) := by decide +kernel
theorem dL_appendInput_14 : decode cL_appendInput 14 = .ok (.ireturn, 1) := by decide +kernel
theorem dL_appendInput_15 : decode cL_appendInput 15 = .ok (.astore_n 3, 1) := by decide +kernel
theorem dL_appendInput_16 : decode cL_appendInput 16 = .ok (.iconst 2, 1) := by decide +kernel
theorem dL_appendInput_17 : decode cL_appendInput 17 = .ok (.ireturn, 1) := by decide +kernel
theorem dL_appendInput_18 : decode cL_appendInput 18 = .ok (.iconst 0, 1) := by decide +kernel
theorem dL_appendInput_19 : decode cL_appendInput 19 = .ok (.ireturn, 1) := by decide +kernel
theorem dL_execute_0 : decode cL_execute 0 = .ok (.aload_n 1, 1) := by decide +kernel
theorem dL_execute_1 : decode cL_execute 1 = .ok (.iconst 0, 1) := by decide +kernel
theorem dL_execute_2 : decode cL_execute 2 = .ok (.aload_n 0, 1) := by decide +kernel
theorem dL_execute_3 : decode cL_execute 3 = .ok (.invokevirtual 129, 3) := by decide +kernel
theorem dL_execute_6 : decode cL_execute 6 = .ok (.i2l, 1) := by decide +kernel
theorem dL_execute_7 : decode cL_execute 7 = .ok (.lastore, 1) := by decide +kernel
theorem dL_execute_8 : decode cL_execute 8 = .ok (.goto 12, 3) := by decide +kernel
theorem dL_execute_11 : decode cL_execute 11 = .ok (.astore_n 2, 1) := by decide +kernel
theorem dL_execute_12 : decode cL_execute 12 = .ok (.iconst 1, 1) := by decide +kernel
theorem dL_execute_13 : decode cL_execute 13 = .ok (.ireturn, 1) := by decide +kernel
theorem dL_execute_14 : decode cL_execute 14 = .ok (.astore_n 2, 1) := by decide +kernel
theorem dL_execute_15 : decode cL_execute 15 = .ok (.iconst 2, 1) := by decide +kernel
theorem dL_execute_16 : decode cL_execute 16 = .ok (.ireturn, 1) := by decide +kernel
theorem dL_execute_17 : decode cL_execute 17 = .ok (.astore_n 2, 1) := by decide +kernel
theorem dL_execute_18 : decode cL_execute 18 = .ok (.iconst 3, 1) := by decide +kernel
theorem dL_execute_19 : decode cL_execute 19 = .ok (.ireturn, 1) := by decide +kernel
theorem dL_execute_20 : decode cL_execute 20 = .ok (.iconst 0, 1) := by decide +kernel
theorem dL_execute_21 : decode cL_execute 21 = .ok (.ireturn, 1) := by decide +kernel
theorem dL_syntaxErrorOffset_0 : decode cL_syntaxErrorOffset 0 = .ok (.aload_n 1, 1) := by decide +kernel
theorem dL_syntaxErrorOffset_1 : decode cL_syntaxErrorOffset 1 = .ok (.iconst 0, 1) := by decide +kernel
theorem dL_syntaxErrorOffset_2 : decode cL_syntaxErrorOffset 2 = .ok (.aload_n 0, 1) := by decide +kernel
theorem dL_syntaxErrorOffset_3 : decode cL_syntaxErrorOffset 3 = .ok (.invokevirtual 132, 3) := by decide +kernel
theorem dL_syntaxErrorOffset_6 : decode cL_syntaxErrorOffset 6 = .ok (.i2l, 1) := by decide +kernel
theorem dL_syntaxErrorOffset_7 : decode cL_syntaxErrorOffset 7 = .ok (.lastore, 1) := by decide +kernel
theorem dL_syntaxErrorOffset_8 : decode cL_syntaxErrorOffset 8 = .ok (.goto 6, 3) := by decide +kernel
theorem dL_syntaxErrorOffset_11 : decode cL_syntaxErrorOffset 11 = .ok (.astore_n 2, 1) := by decide +kernel
theorem dL_syntaxErrorOffset_12 : decode cL_syntaxErrorOffset 12 = .ok (.iconst 1, 1) := by decide +kernel
theorem dL_syntaxErrorOffset_13 : decode cL_syntaxErrorOffset 13 = .ok (.ireturn, 1) := by decide +kernel
theorem dL_syntaxErrorOffset_14 : decode cL_syntaxErrorOffset 14 = .ok (.iconst 0, 1) := by decide +kernel
theorem dL_syntaxErrorOffset_15 : decode cL_syntaxErrorOffset 15 = .ok (.ireturn, 1) := by decide +kernel
theorem dL_rejectionReason_0 : decode cL_rejectionReason 0 = .ok (.aload_n 1, 1) := by decide +kernel
theorem dL_rejectionReason_1 : decode cL_rejectionReason 1 = .ok (.iconst 0, 1) := by decide +kernel
theorem dL_rejectionReason_2 : decode cL_rejectionReason 2 = .ok (.aload_n 0, 1) := by decide +kernel
theorem dL_rejectionReason_3 : decode cL_rejectionReason 3 = .ok (.invokevirtual 135, 3) := by decide +kernel
theorem dL_rejectionReason_6 : decode cL_rejectionReason 6 = .ok (.i2l, 1) := by decide +kernel
theorem dL_rejectionReason_7 : decode cL_rejectionReason 7 = .ok (.lastore, 1) := by decide +kernel
theorem dL_rejectionReason_8 : decode cL_rejectionReason 8 = .ok (.goto 6, 3) := by decide +kernel
theorem dL_rejectionReason_11 : decode cL_rejectionReason 11 = .ok (.astore_n 2, 1) := by decide +kernel
theorem dL_rejectionReason_12 : decode cL_rejectionReason 12 = .ok (.iconst 1, 1) := by decide +kernel
theorem dL_rejectionReason_13 : decode cL_rejectionReason 13 = .ok (.ireturn, 1) := by decide +kernel
theorem dL_rejectionReason_14 : decode cL_rejectionReason 14 = .ok (.iconst 0, 1) := by decide +kernel
theorem dL_rejectionReason_15 : decode cL_rejectionReason 15 = .ok (.ireturn, 1) := by decide +kernel
theorem dL_rejectionDetail_0 : decode cL_rejectionDetail 0 = .ok (.aload_n 1, 1) := by decide +kernel
theorem dL_rejectionDetail_1 : decode cL_rejectionDetail 1 = .ok (.iconst 0, 1) := by decide +kernel
theorem dL_rejectionDetail_2 : decode cL_rejectionDetail 2 = .ok (.aload_n 0, 1) := by decide +kernel
theorem dL_rejectionDetail_3 : decode cL_rejectionDetail 3 = .ok (.invokevirtual 138, 3) := by decide +kernel
theorem dL_rejectionDetail_6 : decode cL_rejectionDetail 6 = .ok (.i2l, 1) := by decide +kernel
theorem dL_rejectionDetail_7 : decode cL_rejectionDetail 7 = .ok (.lastore, 1) := by decide +kernel
theorem dL_rejectionDetail_8 : decode cL_rejectionDetail 8 = .ok (.goto 6, 3) := by decide +kernel
theorem dL_rejectionDetail_11 : decode cL_rejectionDetail 11 = .ok (.astore_n 2, 1) := by decide +kernel
theorem dL_rejectionDetail_12 : decode cL_rejectionDetail 12 = .ok (.iconst 1, 1) := by decide +kernel
theorem dL_rejectionDetail_13 : decode cL_rejectionDetail 13 = .ok (.ireturn, 1) := by decide +kernel
theorem dL_rejectionDetail_14 : decode cL_rejectionDetail 14 = .ok (.iconst 0, 1) := by decide +kernel
theorem dL_rejectionDetail_15 : decode cL_rejectionDetail 15 = .ok (.ireturn, 1) := by decide +kernel
theorem dL_causeReason_0 : decode cL_causeReason 0 = .ok (.aload_n 1, 1) := by decide +kernel
theorem dL_causeReason_1 : decode cL_causeReason 1 = .ok (.iconst 0, 1) := by decide +kernel
theorem dL_causeReason_2 : decode cL_causeReason 2 = .ok (.aload_n 0, 1) := by decide +kernel
theorem dL_causeReason_3 : decode cL_causeReason 3 = .ok (.invokevirtual 141, 3) := by decide +kernel
theorem dL_causeReason_6 : decode cL_causeReason 6 = .ok (.i2l, 1) := by decide +kernel
theorem dL_causeReason_7 : decode cL_causeReason 7 = .ok (.lastore, 1) := by decide +kernel
theorem dL_causeReason_8 : decode cL_causeReason 8 = .ok (.goto 6, 3) := by decide +kernel
theorem dL_causeReason_11 : decode cL_causeReason 11 = .ok (.astore_n 2, 1) := by decide +kernel
theorem dL_causeReason_12 : decode cL_causeReason 12 = .ok (.iconst 1, 1) := by decide +kernel
theorem dL_causeReason_13 : decode cL_causeReason 13 = .ok (.ireturn, 1) := by decide +kernel
theorem dL_causeReason_14 : decode cL_causeReason 14 = .ok (.iconst 0, 1) := by decide +kernel
theorem dL_causeReason_15 : decode cL_causeReason 15 = .ok (.ireturn, 1) := by decide +kernel
theorem dL_undo_0 : decode cL_undo 0 = .ok (.aload_n 1, 1) := by decide +kernel
theorem dL_undo_1 : decode cL_undo 1 = .ok (.iconst 0, 1) := by decide +kernel
theorem dL_undo_2 : decode cL_undo 2 = .ok (.aload_n 0, 1) := by decide +kernel
theorem dL_undo_3 : decode cL_undo 3 = .ok (.invokevirtual 144, 3) := by decide +kernel
theorem dL_undo_6 : decode cL_undo 6 = .ok (.i2l, 1) := by decide +kernel
theorem dL_undo_7 : decode cL_undo 7 = .ok (.lastore, 1) := by decide +kernel
theorem dL_undo_8 : decode cL_undo 8 = .ok (.goto 6, 3) := by decide +kernel
theorem dL_undo_11 : decode cL_undo 11 = .ok (.astore_n 2, 1) := by decide +kernel
theorem dL_undo_12 : decode cL_undo 12 = .ok (.iconst 1, 1) := by decide +kernel
theorem dL_undo_13 : decode cL_undo 13 = .ok (.ireturn, 1) := by decide +kernel
theorem dL_undo_14 : decode cL_undo 14 = .ok (.iconst 0, 1) := by decide +kernel
theorem dL_undo_15 : decode cL_undo 15 = .ok (.ireturn, 1) := by decide +kernel
theorem dL_restoreSnapshot_0 : decode cL_restoreSnapshot 0 = .ok (.aload_n 1, 1) := by decide +kernel
theorem dL_restoreSnapshot_1 : decode cL_restoreSnapshot 1 = .ok (.iconst 0, 1) := by decide +kernel
theorem dL_restoreSnapshot_2 : decode cL_restoreSnapshot 2 = .ok (.aload_n 0, 1) := by decide +kernel
theorem dL_restoreSnapshot_3 : decode cL_restoreSnapshot 3 = .ok (.invokevirtual 147, 3) := by decide +kernel
theorem dL_restoreSnapshot_6 : decode cL_restoreSnapshot 6 = .ok (.i2l, 1) := by decide +kernel
theorem dL_restoreSnapshot_7 : decode cL_restoreSnapshot 7 = .ok (.lastore, 1) := by decide +kernel
theorem dL_restoreSnapshot_8 : decode cL_restoreSnapshot 8 = .ok (.goto 6, 3) := by decide +kernel
theorem dL_restoreSnapshot_11 : decode cL_restoreSnapshot 11 = .ok (.astore_n 2, 1) := by decide +kernel
theorem dL_restoreSnapshot_12 : decode cL_restoreSnapshot 12 = .ok (.iconst 1, 1) := by decide +kernel
theorem dL_restoreSnapshot_13 : decode cL_restoreSnapshot 13 = .ok (.ireturn, 1) := by decide +kernel
theorem dL_restoreSnapshot_14 : decode cL_restoreSnapshot 14 = .ok (.iconst 0, 1) := by decide +kernel
theorem dL_restoreSnapshot_15 : decode cL_restoreSnapshot 15 = .ok (.ireturn, 1) := by decide +kernel
