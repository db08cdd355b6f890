theorem dL_place_0 : decode cL_place 0 = .ok (.aload 4, 2) := by decide +kernel
theorem dL_place_2 : decode cL_place 2 = .ok (.iconst 0, 1) := by decide +kernel
theorem dL_place_3 : decode cL_place 3 = .ok (.aload_n 0, 1) := by decide +kernel
theorem dL_place_4 : decode cL_place 4 = .ok (.iload_n 1, 1) := by decide +kernel
theorem dL_place_5 : decode cL_place 5 = .ok (.iload_n 2, 1) := by decide +kernel
theorem dL_place_6 : decode cL_place 6 = .ok (.iload_n 3, 1) := by decide +kernel
theorem dL_place_7 : decode cL_place 7 = .ok (.invokevirtual 7, 3) := by decide +kernel
theorem dL_place_10 : decode cL_place 10 = .ok (.i2l, 1) := by decide +kernel
theorem dL_place_11 : decode cL_place 11 = .ok (.lastore, 1) := by decide +kernel
theorem dL_place_12 : decode cL_place 12 = .ok (.goto 15, 3) := by decide +kernel
theorem dL_place_15 : decode cL_place 15 = .ok (.astore 5, 2) := by decide +kernel
theorem dL_place_17 : decode cL_place 17 = .ok (.iconst 1, 1) := by decide +kernel
theorem dL_place_18 : decode cL_place 18 = .ok (.ireturn, 1) := by decide +kernel
theorem dL_place_19 : decode cL_place 19 = .ok (.astore 5, 2) := by decide +kernel
theorem dL_place_21 : decode cL_place 21 = .ok (.iconst 2, 1) := by decide +kernel
theorem dL_place_22 : decode cL_place 22 = .ok (.ireturn, 1) := by decide +kernel
theorem dL_place_23 : decode cL_place 23 = .ok (.astore 5, 2) := by decide +kernel
theorem dL_place_25 : decode cL_place 25 = .ok (.iconst 3, 1) := by decide +kernel
theorem dL_place_26 : decode cL_place 26 = .ok (.ireturn, 1) := by decide +kernel
theorem dL_place_27 : decode cL_place 27 = .ok (.iconst 0, 1) := by decide +kernel
theorem dL_place_28 : decode cL_place 28 = .ok (.ireturn, 1) := by decide +kernel
theorem dL_remove_0 : decode cL_remove 0 = .ok (.aload_n 3, 1) := by decide +kernel
theorem dL_remove_1 : decode cL_remove 1 = .ok (.iconst 0, 1) := by decide +kernel
theorem dL_remove_2 : decode cL_remove 2 = .ok (.aload_n 0, 1) := by decide +kernel
theorem dL_remove_3 : decode cL_remove 3 = .ok (.iload_n 1, 1) := by decide +kernel
theorem dL_remove_4 : decode cL_remove 4 = .ok (.iload_n 2, 1) := by decide +kernel
theorem dL_remove_5 : decode cL_remove 5 = .ok (.invokevirtual 19, 3) := by decide +kernel
theorem dL_remove_8 : decode cL_remove 8 = .ok (.i2l, 1) := by decide +kernel
theorem dL_remove_9 : decode cL_remove 9 = .ok (.lastore, 1) := by decide +kernel
theorem dL_remove_10 : decode cL_remove 10 = .ok (.goto 11, 3) := by decide +kernel
theorem dL_remove_13 : decode cL_remove 13 = .ok (.astore 4, 2) := by decide +kernel
theorem dL_remove_15 : decode cL_remove 15 = .ok (.iconst 1, 1) := by decide +kernel
theorem dL_remove_16 : decode cL_remove 16 = .ok (.ireturn, 1) := by decide +kernel
theorem dL_remove_17 : decode cL_remove 17 = .ok (.astore 4, 2) := by decide +kernel
theorem dL_remove_19 : decode cL_remove 19 = .ok (.iconst 2, 1) := by decide +kernel
theorem dL_remove_20 : decode cL_remove 20 = .ok (.ireturn, 1) := by decide +kernel
theorem dL_remove_21 : decode cL_remove 21 = .ok (.iconst 0, 1) := by decide +kernel
theorem dL_remove_22 : decode cL_remove 22 = .ok (.ireturn, 1) := by decide +kernel
theorem dL_bleach_0 : decode cL_bleach 0 = .ok (.aload_n 3, 1) := by decide +kernel
theorem dL_bleach_1 : decode cL_bleach 1 = .ok (.iconst 0, 1) := by decide +kernel
theorem dL_bleach_2 : decode cL_bleach 2 = .ok (.aload_n 0, 1) := by decide +kernel
theorem dL_bleach_3 : decode cL_bleach 3 = .ok (.iload_n 1, 1) := by decide +kernel
theorem dL_bleach_4 : decode cL_bleach 4 = .ok (.iload_n 2, 1) := by decide +kernel
theorem dL_bleach_5 : decode cL_bleach 5 = .ok (.invokevirtual 23, 3) := by decide +kernel
theorem dL_bleach_8 : decode cL_bleach 8 = .ok (.i2l, 1) := by decide +kernel
theorem dL_bleach_9 : decode cL_bleach 9 = .ok (.lastore, 1) := by decide +kernel
theorem dL_bleach_10 : decode cL_bleach 10 = .ok (.goto 11, 3) := by decide +kernel
theorem dL_bleach_13 : decode cL_bleach 13 = .ok (.astore 4, 2) := by decide +kernel
theorem dL_bleach_15 : decode cL_bleach 15 = .ok (.iconst 1, 1) := by decide +kernel
theorem dL_bleach_16 : decode cL_bleach 16 = .ok (.ireturn, 1) := by decide +kernel
theorem dL_bleach_17 : decode cL_bleach 17 = .ok (.astore 4, 2) := by decide +kernel
theorem dL_bleach_19 : decode cL_bleach 19 = .ok (.iconst 2, 1) := by decide +kernel
theorem dL_bleach_20 : decode cL_bleach 20 = .ok (.ireturn, 1) := by decide +kernel
theorem dL_bleach_21 : decode cL_bleach 21 = .ok (.iconst 0, 1) := by decide +kernel
theorem dL_bleach_22 : decode cL_bleach 22 = .ok (.ireturn, 1) := by decide +kernel
theorem dL_recolour_0 : decode cL_recolour 0 = .ok (.aload 4, 2) := by decide +kernel
theorem dL_recolour_2 : decode cL_recolour 2 = .ok (.iconst 0, 1) := by decide +kernel
theorem dL_recolour_3 : decode cL_recolour 3 = .ok (.aload_n 0, 1) := by decide +kernel
theorem dL_recolour_4 : decode cL_recolour 4 = .ok (.iload_n 1, 1) := by decide +kernel
theorem dL_recolour_5 : decode cL_recolour 5 = .ok (.iload_n 2, 1) := by decide +kernel
theorem dL_recolour_6 : decode cL_recolour 6 = .ok (.iload_n 3, 1) := by decide +kernel
theorem dL_recolour_7 : decode cL_recolour 7 = .ok (.invokevirtual 26, 3) := by decide +kernel
theorem dL_recolour_10 : decode cL_recolour 10 = .ok (.i2l, 1) := by decide +kernel
theorem dL_recolour_11 : decode cL_recolour 11 = .ok (.lastore, 1) := by decide +kernel
theorem dL_recolour_12 : decode cL_recolour 12 = .ok (.goto 15, 3) := by decide +kernel
theorem dL_recolour_15 : decode cL_recolour 15 = .ok (.astore 5, 2) := by decide +kernel
theorem dL_recolour_17 : decode cL_recolour 17 = .ok (.iconst 1, 1) := by decide +kernel
theorem dL_recolour_18 : decode cL_recolour 18 = .ok (.ireturn, 1) := by decide +kernel
theorem dL_recolour_19 : decode cL_recolour 19 = .ok (.astore 5, 2) := by decide +kernel
theorem dL_recolour_21 : decode cL_recolour 21 = .ok (.iconst 2, 1) := by decide +kernel
theorem dL_recolour_22 : decode cL_recolour 22 = .ok (.ireturn, 1) := by decide +kernel
theorem dL_recolour_23 : decode cL_recolour 23 = .ok (.astore 5, 2) := by decide +kernel
theorem dL_recolour_25 : decode cL_recolour 25 = .ok (.iconst 3, 1) := by decide +kernel
theorem dL_recolour_26 : decode cL_recolour 26 = .ok (.ireturn, 1) := by decide +kernel
theorem dL_recolour_27 : decode cL_recolour 27 = .ok (.iconst 0, 1) := by decide +kernel
theorem dL_recolour_28 : decode cL_recolour 28 = .ok (.ireturn, 1) := by decide +kernel
theorem dL_plant_0 : decode cL_plant 0 = .ok (.aload 5, 2) := by decide +kernel
theorem dL_plant_2 : decode cL_plant 2 = .ok (.iconst 0, 1) := by decide +kernel
theorem dL_plant_3 : decode cL_plant 3 = .ok (.aload_n 0, 1) := by decide +kernel
theorem dL_plant_4 : decode cL_plant 4 = .ok (.iload_n 1, 1) := by decide +kernel
theorem dL_plant_5 : decode cL_plant 5 = .ok (.iload_n 2, 1) := by decide +kernel
theorem dL_plant_6 : decode cL_plant 6 = .ok (.iload_n 3, 1) := by decide +kernel
theorem dL_plant_7 : decode cL_plant 7 = .ok (.iload 4, 2) := by decide +kernel
theorem dL_plant_9 : decode cL_plant 9 = .ok (.invokevirtual 30, 3) := by decide +kernel
theorem dL_plant_12 : decode cL_plant 12 = .ok (.i2l, 1) := by decide +kernel
theorem dL_plant_13 : decode cL_plant 13 = .ok (.lastore, 1) := by decide +kernel
theorem dL_plant_14 : decode cL_plant 14 = .ok (.goto 15, 3) := by decide +kernel
theorem dL_plant_17 : decode cL_plant 17 = .ok (.astore 6, 2) := by decide +kernel
theorem dL_plant_19 : decode cL_plant 19 = .ok (.iconst 1, 1) := by decide +kernel
theorem dL_plant_20 : decode cL_plant 20 = .ok (.ireturn, 1) := by decide +kernel
theorem dL_plant_21 : decode cL_plant 21 = .ok (.astore 6, 2) := by decide +kernel
theorem dL_plant_23 : decode cL_plant 23 = .ok (.iconst 2, 1) := by decide +kernel
theorem dL_plant_24 : decode cL_plant 24 = .ok (.ireturn, 1) := by decide +kernel
theorem dL_plant_25 : decode cL_plant 25 = .ok (.astore 6, 2) := by decide +kernel
theorem dL_plant_27 : decode cL_plant 27 = .ok (.iconst 3, 1) := by decide +kernel
theorem dL_plant_28 : decode cL_plant 28 = .ok (.ireturn, 1) := by decide +kernel
theorem dL_plant_29 : decode cL_plant 29 = .ok (.iconst 0, 1) := by decide +kernel
theorem dL_plant_30 : decode cL_plant 30 = .ok (.ireturn, 1) := by decide +kernel
theorem dL_setRule_0 : decode cL_setRule 0 = .ok (.aload_n 2, 1) := by decide +kernel
theorem dL_setRule_1 : decode cL_setRule 1 = .ok (.iconst 0, 1) := by decide +kernel
theorem dL_setRule_2 : decode cL_setRule 2 = .ok (.aload_n 0, 1) := by decide +kernel
theorem dL_setRule_3 : decode cL_setRule 3 = .ok (.iload_n 1, 1) := by decide +kernel
theorem dL_setRule_4 : decode cL_setRule 4 = .ok (.invokevirtual 34, 3) := by decide +kernel
theorem dL_setRule_7 : decode cL_setRule 7 = .ok (.i2l, 1) := by decide +kernel
theorem dL_setRule_8 : decode cL_setRule 8 = .ok (.lastore, 1) := by decide +kernel
theorem dL_setRule_9 : decode cL_setRule 9 = .ok (.goto 9, 3) := by decide +kernel
theorem dL_setRule_12 : decode cL_setRule 12 = .ok (.astore_n 3, 1) := by decide +kernel
theorem dL_setRule_13 : decode cL_setRule 13 = .ok (.iconst 1, 1) := by decide +kernel
theorem dL_setRule_14 : decode cL_setRule 14 = .ok (.ireturn, 1) := by decide +kernel
theorem dL_setRule_15 : decode cL_setRule 15 = .ok (.astore_n 3, 1) := by decide +kernel
theorem dL_setRule_16 : decode cL_setRule 16 = .ok (.iconst 2, 1) := by decide +kernel
theorem dL_setRule_17 : decode cL_setRule 17 = .ok (.ireturn, 1) := by decide +kernel
theorem dL_setRule_18 : decode cL_setRule 18 = .ok (.iconst 0, 1) := by decide +kernel
theorem dL_setRule_19 : decode cL_setRule 19 = .ok (.ireturn, 1) := by decide +kernel
theorem dL_isEmpty_0 : decode cL_isEmpty 0 = .ok (.aload_n 3, 1) := by decide +kernel
theorem dL_isEmpty_1 : decode cL_isEmpty 1 = .ok (.iconst 0, 1) := by decide +kernel
theorem dL_isEmpty_2 : decode cL_isEmpty 2 = .ok (.aload_n 0, 1) := by decide +kernel
theorem dL_isEmpty_3 : decode cL_isEmpty 3 = .ok (.iload_n 1, 1) := by decide +kernel
theorem dL_isEmpty_4 : decode cL_isEmpty 4 = .ok (.iload_n 2, 1) := by decide +kernel
theorem dL_isEmpty_5 : decode cL_isEmpty 5 = .ok (.invokevirtual 38, 3) := by decide +kernel
theorem dL_isEmpty_8 : decode cL_isEmpty 8 = .ok (.ifCond .eq 7, 3) := by decide +kernel
theorem dL_isEmpty_11 : decode cL_isEmpty 11 = .ok (.lconst 1, 1) := by decide +kernel
theorem dL_isEmpty_12 : decode cL_isEmpty 12 = .ok (.goto 4, 3) := by decide +kernel
theorem dL_isEmpty_15 : decode cL_isEmpty 15 = .ok (.lconst 0, 1) := by decide +kernel
theorem dL_isEmpty_16 : decode cL_isEmpty 16 = .ok (.lastore, 1) := by decide +kernel
theorem dL_isEmpty_17 : decode cL_isEmpty 17 = .ok (.goto 7, 3) := by decide +kernel
theorem dL_isEmpty_20 : decode cL_isEmpty 20 = .ok (.astore 4, 2) := by decide +kernel
theorem dL_isEmpty_22 : decode cL_isEmpty 22 = .ok (.iconst 1, 1) := by decide +kernel
theorem dL_isEmpty_23 : decode cL_isEmpty 23 = .ok (.ireturn, 1) := by decide +kernel
theorem dL_isEmpty_24 : decode cL_isEmpty 24 = .ok (.iconst 0, 1) := by decide +kernel
theorem dL_isEmpty_25 : decode cL_isEmpty 25 = .ok (.ireturn, 1) := by decide +kernel
theorem dL_isLiving_0 : decode cL_isLiving 0 = .ok (.aload_n 3, 1) := by decide +kernel
theorem dL_isLiving_1 : decode cL_isLiving 1 = .ok (.iconst 0, 1) := by decide +kernel
theorem dL_isLiving_2 : decode cL_isLiving 2 = .ok (.aload_n 0, 1) := by decide +kernel
theorem dL_isLiving_3 : decode cL_isLiving 3 = .ok (.iload_n 1, 1) := by decide +kernel
theorem dL_isLiving_4 : decode cL_isLiving 4 = .ok (.iload_n 2, 1) := by decide +kernel
theorem dL_isLiving_5 : decode cL_isLiving 5 = .ok (.invokevirtual 42, 3) := by decide +kernel
theorem dL_isLiving_8 : decode cL_isLiving 8 = .ok (.ifCond .eq 7, 3) := by decide +kernel
theorem dL_isLiving_11 : decode cL_isLiving 11 = .ok (.lconst 1, 1) := by decide +kernel
theorem dL_isLiving_12 : decode cL_isLiving 12 = .ok (.goto 4, 3) := by decide +kernel
theorem dL_isLiving_15 : decode cL_isLiving 15 = .ok (.lconst 0, 1) := by decide +kernel
theorem dL_isLiving_16 : decode cL_isLiving 16 = .ok (.lastore, 1) := by decide +kernel
theorem dL_isLiving_17 : decode cL_isLiving 17 = .ok (.goto 7, 3) := by decide +kernel
theorem dL_isLiving_20 : decode cL_isLiving 20 = .ok (.astore 4, 2) := by decide +kernel
theorem dL_isLiving_22 : decode cL_isLiving 22 = .ok (.iconst 1, 1) := by decide +kernel
theorem dL_isLiving_23 : decode cL_isLiving 23 = .ok (.ireturn, 1) := by decide +kernel
theorem dL_isLiving_24 : decode cL_isLiving 24 = .ok (.iconst 0, 1) := by decide +kernel
theorem dL_isLiving_25 : decode cL_isLiving 25 = .ok (.ireturn, 1) := by decide +kernel
theorem dL_isBleached_0 : decode cL_isBleached 0 = .ok (.aload_n 3, 1) := by decide +kernel
theorem dL_isBleached_1 : decode cL_isBleached 1 = .ok (.iconst 0, 1) := by decide +kernel
theorem dL_isBleached_2 : decode cL_isBleached 2 = .ok (.aload_n 0, 1) := by decide +kernel
theorem dL_isBleached_3 : decode cL_isBleached 3 = .ok (.iload_n 1, 1) := by decide +kernel
theorem dL_isBleached_4 : decode cL_isBleached 4 = .ok (.iload_n 2, 1) := by decide +kernel
theorem dL_isBleached_5 : decode cL_isBleached 5 = .ok (.invokevirtual 45, 3) := by decide +kernel
theorem dL_isBleached_8 : decode cL_isBleached 8 = .ok (.ifCond .eq 7, 3) := by decide +kernel
theorem dL_isBleached_11 : decode cL_isBleached 11 = .ok (.lconst 1, 1) := by decide +kernel
theorem dL_isBleached_12 : decode cL_isBleached 12 = .ok (.goto 4, 3) := by decide +kernel
theorem dL_isBleached_15 : decode cL_isBleached 15 = .ok (.lconst 0, 1) := by decide +kernel
theorem dL_isBleached_16 : decode cL_isBleached 16 = .ok (.lastore, 1) := by decide +kernel
theorem dL_isBleached_17 : decode cL_isBleached 17 = .ok (.goto 7, 3) := by decide +kernel
theorem dL_isBleached_20 : decode cL_isBleached 20 = .ok (.astore 4, 2) := by decide +kernel
theorem dL_isBleached_22 : decode cL_isBleached 22 = .ok (.iconst 1, 1) := by decide +kernel
theorem dL_isBleached_23 : decode cL_isBleached 23 = .ok (.ireturn, 1) := by decide +kernel
theorem dL_isBleached_24 : decode cL_isBleached 24 = .ok (.iconst 0, 1) := by decide +kernel
theorem dL_isBleached_25 : decode cL_isBleached 25 = .ok (.ireturn, 1) := by decide +kernel
theorem dL_colourAt_0 : decode cL_colourAt 0 = .ok (.aload_n 3, 1) := by decide +kernel
theorem dL_colourAt_1 : decode cL_colourAt 1 = .ok (.iconst 0, 1) := by decide +kernel
theorem dL_colourAt_2 : decode cL_colourAt 2 = .ok (.aload_n 0, 1) := by decide +kernel
theorem dL_colourAt_3 : decode cL_colourAt 3 = .ok (.iload_n 1, 1) := by decide +kernel
theorem dL_colourAt_4 : decode cL_colourAt 4 = .ok (.iload_n 2, 1) := by decide +kernel
theorem dL_colourAt_5 : decode cL_colourAt 5 = .ok (.invokevirtual 48, 3) := by decide +kernel
theorem dL_colourAt_8 : decode cL_colourAt 8 = .ok (.i2l, 1) := by decide +kernel
theorem dL_colourAt_9 : decode cL_colourAt 9 = .ok (.lastore, 1) := by decide +kernel
theorem dL_colourAt_10 : decode cL_colourAt 10 = .ok (.goto 11, 3) := by decide +kernel
theorem dL_colourAt_13 : decode cL_colourAt 13 = .ok (.astore 4, 2) := by decide +kernel
theorem dL_colourAt_15 : decode cL_colourAt 15 = .ok (.iconst 1, 1) := by decide +kernel
theorem dL_colourAt_16 : decode cL_colourAt 16 = .ok (.ireturn, 1) := by decide +kernel
theorem dL_colourAt_17 : decode cL_colourAt 17 = .ok (.astore 4, 2) := by decide +kernel
theorem dL_colourAt_19 : decode cL_colourAt 19 = .ok (.iconst 2, 1) := by decide +kernel
theorem dL_colourAt_20 : decode cL_colourAt 20 = .ok (.ireturn, 1) := by decide +kernel
theorem dL_colourAt_21 : decode cL_colourAt 21 = .ok (.iconst 0, 1) := by decide +kernel
theorem dL_colourAt_22 : decode cL_colourAt 22 = .ok (.ireturn, 1) := by decide +kernel
theorem dL_ageAt_0 : decode cL_ageAt 0 = .ok (.aload_n 3, 1) := by decide +kernel
theorem dL_ageAt_1 : decode cL_ageAt 1 = .ok (.iconst 0, 1) := by decide +kernel
theorem dL_ageAt_2 : decode cL_ageAt 2 = .ok (.aload_n 0, 1) := by decide +kernel
theorem dL_ageAt_3 : decode cL_ageAt 3 = .ok (.iload_n 1, 1) := by decide +kernel
theorem dL_ageAt_4 : decode cL_ageAt 4 = .ok (.iload_n 2, 1) := by decide +kernel
theorem dL_ageAt_5 : decode cL_ageAt 5 = .ok (.invokevirtual 54, 3) := by decide +kernel
theorem dL_ageAt_8 : decode cL_ageAt 8 = .ok (.i2l, 1) := by decide +kernel
theorem dL_ageAt_9 : decode cL_ageAt 9 = .ok (.lastore, 1) := by decide +kernel
theorem dL_ageAt_10 : decode cL_ageAt 10 = .ok (.goto 11, 3) := by decide +kernel
theorem dL_ageAt_13 : decode cL_ageAt 13 = .ok (.astore 4, 2) := by decide +kernel
theorem dL_ageAt_15 : decode cL_ageAt 15 = .ok (.iconst 1, 1) := by decide +kernel
theorem dL_ageAt_16 : decode cL_ageAt 16 = .ok (.ireturn, 1) := by decide +kernel
theorem dL_ageAt_17 : decode cL_ageAt 17 = .ok (.astore 4, 2) := by decide +kernel
theorem dL_ageAt_19 : decode cL_ageAt 19 = .ok (.iconst 2, 1) := by decide +kernel
theorem dL_ageAt_20 : decode cL_ageAt 20 = .ok (.ireturn, 1) := by decide +kernel
theorem dL_ageAt_21 : decode cL_ageAt 21 = .ok (.iconst 0, 1) := by decide +kernel
theorem dL_ageAt_22 : decode cL_ageAt 22 = .ok (.ireturn, 1) := by decide +kernel
theorem dL_neighbours_0 : decode cL_neighbours 0 = .ok (.aload_n 3, 1) := by decide +kernel
theorem dL_neighbours_1 : decode cL_neighbours 1 = .ok (.iconst 0, 1) := by decide +kernel
theorem dL_neighbours_2 : decode cL_neighbours 2 = .ok (.aload_n 0, 1) := by decide +kernel
theorem dL_neighbours_3 : decode cL_neighbours 3 = .ok (.iload_n 1, 1) := by decide +kernel
theorem dL_neighbours_4 : decode cL_neighbours 4 = .ok (.iload_n 2, 1) := by decide +kernel
theorem dL_neighbours_5 : decode cL_neighbours 5 = .ok (.invokevirtual 57, 3) := by decide +kernel
theorem dL_neighbours_8 : decode cL_neighbours 8 = .ok (.i2l, 1) := by decide +kernel
theorem dL_neighbours_9 : decode cL_neighbours 9 = .ok (.lastore, 1) := by decide +kernel
theorem dL_neighbours_10 : decode cL_neighbours 10 = .ok (.goto 7, 3) := by decide +kernel
theorem dL_neighbours_13 : decode cL_neighbours 13 = .ok (.astore 4, 2) := by decide +kernel
theorem dL_neighbours_15 : decode cL_neighbours 15 = .ok (.iconst 1, 1) := by decide +kernel
theorem dL_neighbours_16 : decode cL_neighbours 16 = .ok (.ireturn, 1) := by decide +kernel
theorem dL_neighbours_17 : decode cL_neighbours 17 = .ok (.iconst 0, 1) := by decide +kernel
theorem dL_neighbours_18 : decode cL_neighbours 18 = .ok (.ireturn, 1) := by decide +kernel
theorem dL_neighboursOf_0 : decode cL_neighboursOf 0 = .ok (.aload 4, 2) := by decide +kernel
theorem dL_neighboursOf_2 : decode cL_neighboursOf 2 = .ok (.iconst 0, 1) := by decide +kernel
theorem dL_neighboursOf_3 : decode cL_neighboursOf 3 = .ok (.aload_n 0, 1) := by decide +kernel
theorem dL_neighboursOf_4 : decode cL_neighboursOf 4 = .ok (.iload_n 1, 1) := by decide +kernel
theorem dL_neighboursOf_5 : decode cL_neighboursOf 5 = .ok (.iload_n 2, 1) := by decide +kernel
theorem dL_neighboursOf_6 : decode cL_neighboursOf 6 = .ok (.iload_n 3, 1) := by decide +kernel
theorem dL_neighboursOf_7 : decode cL_neighboursOf 7 = .ok (.invokevirtual 60, 3) := by decide +kernel
theorem dL_neighboursOf_10 : decode cL_neighboursOf 10 = .ok (.i2l, 1) := by decide +kernel
theorem dL_neighboursOf_11 : decode cL_neighboursOf 11 = .ok (.lastore, 1) := by decide +kernel
theorem dL_neighboursOf_12 : decode cL_neighboursOf 12 = .ok (.goto 11, 3) := by decide +kernel
theorem dL_neighboursOf_15 : decode cL_neighboursOf 15 = .ok (.astore 5, 2) := by decide +kernel
theorem dL_neighboursOf_17 : decode cL_neighboursOf 17 = .ok (.iconst 1, 1) := by decide +kernel
theorem dL_neighboursOf_18 : decode cL_neighboursOf 18 = .ok (.ireturn, 1) := by decide +kernel
theorem dL_neighboursOf_19 : decode cL_neighboursOf 19 = .ok (.astore 5, 2) := by decide +kernel
theorem dL_neighboursOf_21 : decode cL_neighboursOf 21 = .ok (.iconst 2, 1) := by decide +kernel
theorem dL_neighboursOf_22 : decode cL_neighboursOf 22 = .ok (.ireturn, 1) := by decide +kernel
theorem dL_neighboursOf_23 : decode cL_neighboursOf 23 = .ok (.iconst 0, 1) := by decide +kernel
theorem dL_neighboursOf_24 : decode cL_neighboursOf 24 = .ok (.ireturn, 1) := by decide +kernel
theorem dL_birthColour_0 : decode cL_birthColour 0 = .ok (.aload_n 3, 1) := by decide +kernel
theorem dL_birthColour_1 : decode cL_birthColour 1 = .ok (.iconst 0, 1) := by decide +kernel
theorem dL_birthColour_2 : decode cL_birthColour 2 = .ok (.aload_n 0, 1) := by decide +kernel
theorem dL_birthColour_3 : decode cL_birthColour 3 = .ok (.iload_n 1, 1) := by decide +kernel
theorem dL_birthColour_4 : decode cL_birthColour 4 = .ok (.iload_n 2, 1) := by decide +kernel
theorem dL_birthColour_5 : decode cL_birthColour 5 = .ok (.invokevirtual 63, 3) := by decide +kernel
theorem dL_birthColour_8 : decode cL_birthColour 8 = .ok (.i2l, 1) := by decide +kernel
theorem dL_birthColour_9 : decode cL_birthColour 9 = .ok (.lastore, 1) := by decide +kernel
theorem dL_birthColour_10 : decode cL_birthColour 10 = .ok (.goto 11, 3) := by decide +kernel
theorem dL_birthColour_13 : decode cL_birthColour 13 = .ok (.astore 4, 2) := by decide +kernel
theorem dL_birthColour_15 : decode cL_birthColour 15 = .ok (.iconst 1, 1) := by decide +kernel
theorem dL_birthColour_16 : decode cL_birthColour 16 = .ok (.ireturn, 1) := by decide +kernel
theorem dL_birthColour_17 : decode cL_birthColour 17 = .ok (.astore 4, 2) := by decide +kernel
theorem dL_birthColour_19 : decode cL_birthColour 19 = .ok (.iconst 2, 1) := by decide +kernel
theorem dL_birthColour_20 : decode cL_birthColour 20 = .ok (.ireturn, 1) := by decide +kernel
theorem dL_birthColour_21 : decode cL_birthColour 21 = .ok (.iconst 0, 1) := by decide +kernel
theorem dL_birthColour_22 : decode cL_birthColour 22 = .ok (.ireturn, 1) := by decide +kernel
theorem dL_countOf_0 : decode cL_countOf 0 = .ok (.aload_n 2, 1) := by decide +kernel
theorem dL_countOf_1 : decode cL_countOf 1 = .ok (.iconst 0, 1) := by decide +kernel
theorem dL_countOf_2 : decode cL_countOf 2 = .ok (.aload_n 0, 1) := by decide +kernel
theorem dL_countOf_3 : decode cL_countOf 3 = .ok (.iload_n 1, 1) := by decide +kernel
theorem dL_countOf_4 : decode cL_countOf 4 = .ok (.invokevirtual 66, 3) := by decide +kernel
theorem dL_countOf_7 : decode cL_countOf 7 = .ok (.i2l, 1) := by decide +kernel
theorem dL_countOf_8 : decode cL_countOf 8 = .ok (.lastore, 1) := by decide +kernel
theorem dL_countOf_9 : decode cL_countOf 9 = .ok (.goto 6, 3) := by decide +kernel
theorem dL_countOf_12 : decode cL_countOf 12 = .ok (.astore_n 3, 1) := by decide +kernel
theorem dL_countOf_13 : decode cL_countOf 13 = .ok (.iconst 1, 1) := by decide +kernel
theorem dL_countOf_14 : decode cL_countOf 14 = .ok (.ireturn, 1) := by decide +kernel
theorem dL_countOf_15 : decode cL_countOf 15 = .ok (.iconst 0, 1) := by decide +kernel
theorem dL_countOf_16 : decode cL_countOf 16 = .ok (.ireturn, 1) := by decide +kernel
theorem dL_islandSize_0 : decode cL_islandSize 0 = .ok (.aload_n 3, 1) := by decide +kernel
theorem dL_islandSize_1 : decode cL_islandSize 1 = .ok (.iconst 0, 1) := by decide +kernel
theorem dL_islandSize_2 : decode cL_islandSize 2 = .ok (.aload_n 0, 1) := by decide +kernel
theorem dL_islandSize_3 : decode cL_islandSize 3 = .ok (.iload_n 1, 1) := by decide +kernel
theorem dL_islandSize_4 : decode cL_islandSize 4 = .ok (.iload_n 2, 1) := by decide +kernel
theorem dL_islandSize_5 : decode cL_islandSize 5 = .ok (.invokevirtual 70, 3) := by decide +kernel
theorem dL_islandSize_8 : decode cL_islandSize 8 = .ok (.i2l, 1) := by decide +kernel
theorem dL_islandSize_9 : decode cL_islandSize 9 = .ok (.lastore, 1) := by decide +kernel
theorem dL_islandSize_10 : decode cL_islandSize 10 = .ok (.goto 11, 3) := by decide +kernel
theorem dL_islandSize_13 : decode cL_islandSize 13 = .ok (.astore 4, 2) := by decide +kernel
theorem dL_islandSize_15 : decode cL_islandSize 15 = .ok (.iconst 1, 1) := by decide +kernel
theorem dL_islandSize_16 : decode cL_islandSize 16 = .ok (.ireturn, 1) := by decide +kernel
theorem dL_islandSize_17 : decode cL_islandSize 17 = .ok (.astore 4, 2) := by decide +kernel
theorem dL_islandSize_19 : decode cL_islandSize 19 = .ok (.iconst 2, 1) := by decide +kernel
theorem dL_islandSize_20 : decode cL_islandSize 20 = .ok (.ireturn, 1) := by decide +kernel
theorem dL_islandSize_21 : decode cL_islandSize 21 = .ok (.iconst 0, 1) := by decide +kernel
theorem dL_islandSize_22 : decode cL_islandSize 22 = .ok (.ireturn, 1) := by decide +kernel
theorem dL_islandsOf_0 : decode cL_islandsOf 0 = .ok (.aload_n 2, 1) := by decide +kernel
theorem dL_islandsOf_1 : decode cL_islandsOf 1 = .ok (.iconst 0, 1) := by decide +kernel
theorem dL_islandsOf_2 : decode cL_islandsOf 2 = .ok (.aload_n 0, 1) := by decide +kernel
theorem dL_islandsOf_3 : decode cL_islandsOf 3 = .ok (.iload_n 1, 1) := by decide +kernel
theorem dL_islandsOf_4 : decode cL_islandsOf 4 = .ok (.invokevirtual 73, 3) := by decide +kernel
theorem dL_islandsOf_7 : decode cL_islandsOf 7 = .ok (.i2l, 1) := by decide +kernel
theorem dL_islandsOf_8 : decode cL_islandsOf 8 = .ok (.lastore, 1) := by decide +kernel
theorem dL_islandsOf_9 : decode cL_islandsOf 9 = .ok (.goto 6, 3) := by decide +kernel
theorem dL_islandsOf_12 : decode cL_islandsOf 12 = .ok (.astore_n 3, 1) := by decide +kernel
theorem dL_islandsOf_13 : decode cL_islandsOf 13 = .ok (.iconst 1, 1) := by decide +kernel
theorem dL_islandsOf_14 : decode cL_islandsOf 14 = .ok (.ireturn, 1) := by decide +kernel
theorem dL_islandsOf_15 : decode cL_islandsOf 15 = .ok (.iconst 0, 1) := by decide +kernel
theorem dL_islandsOf_16 : decode cL_islandsOf 16 = .ok (.ireturn, 1) := by decide +kernel
theorem dL_isJoined_0 : decode cL_isJoined 0 = .ok (.aload 5, 2) := by decide +kernel
theorem dL_isJoined_2 : decode cL_isJoined 2 = .ok (.iconst 0, 1) := by decide +kernel
theorem dL_isJoined_3 : decode cL_isJoined 3 = .ok (.aload_n 0, 1) := by decide +kernel
theorem dL_isJoined_4 : decode cL_isJoined 4 = .ok (.iload_n 1, 1) := by decide +kernel
theorem dL_isJoined_5 : decode cL_isJoined 5 = .ok (.iload_n 2, 1) := by decide +kernel
theorem dL_isJoined_6 : decode cL_isJoined 6 = .ok (.iload_n 3, 1) := by decide +kernel
theorem dL_isJoined_7 : decode cL_isJoined 7 = .ok (.iload 4, 2) := by decide +kernel
theorem dL_isJoined_9 : decode cL_isJoined 9 = .ok (.invokevirtual 76, 3) := by decide +kernel
theorem dL_isJoined_12 : decode cL_isJoined 12 = .ok (.ifCond .eq 7, 3) := by decide +kernel
theorem dL_isJoined_15 : decode cL_isJoined 15 = .ok (.lconst 1, 1) := by decide +kernel
theorem dL_isJoined_16 : decode cL_isJoined 16 = .ok (.goto 4, 3) := by decide +kernel
theorem dL_isJoined_19 : decode cL_isJoined 19 = .ok (.lconst 0, 1) := by decide +kernel
theorem dL_isJoined_20 : decode cL_isJoined 20 = .ok (.lastore, 1) := by decide +kernel
theorem dL_isJoined_21 : decode cL_isJoined 21 = .ok (.goto 7, 3) := by decide +kernel
theorem dL_isJoined_24 : decode cL_isJoined 24 = .ok (.astore 6, 2) := by decide +kernel
theorem dL_isJoined_26 : decode cL_isJoined 26 = .ok (.iconst 1, 1) := by decide +kernel
theorem dL_isJoined_27 : decode cL_isJoined 27 = .ok (.ireturn, 1) := by decide +kernel
theorem dL_isJoined_28 : decode cL_isJoined 28 = .ok (.iconst 0, 1) := by decide +kernel
theorem dL_isJoined_29 : decode cL_isJoined 29 = .ok (.ireturn, 1) := by decide +kernel
theorem dL_passTides_0 : decode cL_passTides 0 = .ok (.aload_n 2, 1) := by decide +kernel
theorem dL_passTides_1 : decode cL_passTides 1 = .ok (.iconst 0, 1) := by decide +kernel
theorem dL_passTides_2 : decode cL_passTides 2 = .ok (.aload_n 0, 1) := by decide +kernel
theorem dL_passTides_3 : decode cL_passTides 3 = .ok (.iload_n 1, 1) := by decide +kernel
theorem dL_passTides_4 : decode cL_passTides 4 = .ok (.invokevirtual 80, 3) := by decide +kernel
theorem dL_passTides_7 : decode cL_passTides 7 = .ok (.i2l, 1) := by decide +kernel
theorem dL_passTides_8 : decode cL_passTides 8 = .ok (.lastore, 1) := by decide +kernel
theorem dL_passTides_9 : decode cL_passTides 9 = .ok (.goto 6, 3) := by decide +kernel
theorem dL_passTides_12 : decode cL_passTides 12 = .ok (.astore_n 3, 1) := by decide +kernel
theorem dL_passTides_13 : decode cL_passTides 13 = .ok (.iconst 1, 1) := by decide +kernel
theorem dL_passTides_14 : decode cL_passTides 14 = .ok (.ireturn, 1) := by decide +kernel
theorem dL_passTides_15 : decode cL_passTides 15 = .ok (.iconst 0, 1) := by decide +kernel
theorem dL_passTides_16 : decode cL_passTides 16 = .ok (.ireturn, 1) := by decide +kernel
theorem dL_wouldLive_0 : decode cL_wouldLive 0 = .ok (.aload_n 3, 1) := by decide +kernel
theorem dL_wouldLive_1 : decode cL_wouldLive 1 = .ok (.iconst 0, 1) := by decide +kernel
theorem dL_wouldLive_2 : decode cL_wouldLive 2 = .ok (.aload_n 0, 1) := by decide +kernel
theorem dL_wouldLive_3 : decode cL_wouldLive 3 = .ok (.iload_n 1, 1) := by decide +kernel
theorem dL_wouldLive_4 : decode cL_wouldLive 4 = .ok (.iload_n 2, 1) := by decide +kernel
theorem dL_wouldLive_5 : decode cL_wouldLive 5 = .ok (.invokevirtual 84, 3) := by decide +kernel
theorem dL_wouldLive_8 : decode cL_wouldLive 8 = .ok (.ifCond .eq 7, 3) := by decide +kernel
theorem dL_wouldLive_11 : decode cL_wouldLive 11 = .ok (.lconst 1, 1) := by decide +kernel
theorem dL_wouldLive_12 : decode cL_wouldLive 12 = .ok (.goto 4, 3) := by decide +kernel
theorem dL_wouldLive_15 : decode cL_wouldLive 15 = .ok (.lconst 0, 1) := by decide +kernel
theorem dL_wouldLive_16 : decode cL_wouldLive 16 = .ok (.lastore, 1) := by decide +kernel
theorem dL_wouldLive_17 : decode cL_wouldLive 17 = .ok (.goto 7, 3) := by decide +kernel
theorem dL_wouldLive_20 : decode cL_wouldLive 20 = .ok (.astore 4, 2) := by decide +kernel
theorem dL_wouldLive_22 : decode cL_wouldLive 22 = .ok (.iconst 1, 1) := by decide +kernel
theorem dL_wouldLive_23 : decode cL_wouldLive 23 = .ok (.ireturn, 1) := by decide +kernel
theorem dL_wouldLive_24 : decode cL_wouldLive 24 = .ok (.iconst 0, 1) := by decide +kernel
theorem dL_wouldLive_25 : decode cL_wouldLive 25 = .ok (.ireturn, 1) := by decide +kernel
theorem dL_livingAfter_0 : decode cL_livingAfter 0 = .ok (.aload_n 2, 1) := by decide +kernel
theorem dL_livingAfter_1 : decode cL_livingAfter 1 = .ok (.iconst 0, 1) := by decide +kernel
theorem dL_livingAfter_2 : decode cL_livingAfter 2 = .ok (.aload_n 0, 1) := by decide +kernel
theorem dL_livingAfter_3 : decode cL_livingAfter 3 = .ok (.iload_n 1, 1) := by decide +kernel
theorem dL_livingAfter_4 : decode cL_livingAfter 4 = .ok (.invokevirtual 87, 3) := by decide +kernel
theorem dL_livingAfter_7 : decode cL_livingAfter 7 = .ok (.i2l, 1) := by decide +kernel
theorem dL_livingAfter_8 : decode cL_livingAfter 8 = .ok (.lastore, 1) := by decide +kernel
theorem dL_livingAfter_9 : decode cL_livingAfter 9 = .ok (.goto 6, 3) := by decide +kernel
theorem dL_livingAfter_12 : decode cL_livingAfter 12 = .ok (.astore_n 3, 1) := by decide +kernel
theorem dL_livingAfter_13 : decode cL_livingAfter 13 = .ok (.iconst 1, 1) := by decide +kernel
theorem dL_livingAfter_14 : decode cL_livingAfter 14 = .ok (.ireturn, 1) := by decide +kernel
theorem dL_livingAfter_15 : decode cL_livingAfter 15 = .ok (.iconst 0, 1) := by decide +kernel
theorem dL_livingAfter_16 : decode cL_livingAfter 16 = .ok (.ireturn, 1) := by decide +kernel
theorem dL_tidesUntilStill_0 : decode cL_tidesUntilStill 0 = .ok (.aload_n 1, 1) := by decide +kernel
theorem dL_tidesUntilStill_1 : decode cL_tidesUntilStill 1 = .ok (.iconst 0, 1) := by decide +kernel
theorem dL_tidesUntilStill_2 : decode cL_tidesUntilStill 2 = .ok (.aload_n 0, 1) := by decide +kernel
theorem dL_tidesUntilStill_3 : decode cL_tidesUntilStill 3 = .ok (.invokevirtual 90, 3) := by decide +kernel
theorem dL_tidesUntilStill_6 : decode cL_tidesUntilStill 6 = .ok (.i2l, 1) := by decide +kernel
theorem dL_tidesUntilStill_7 : decode cL_tidesUntilStill 7 = .ok (.lastore, 1) := by decide +kernel
theorem dL_tidesUntilStill_8 : decode cL_tidesUntilStill 8 = .ok (.goto 6, 3) := by decide +kernel
theorem dL_tidesUntilStill_11 : decode cL_tidesUntilStill 11 = .ok (.astore_n 2, 1) := by decide +kernel
theorem dL_tidesUntilStill_12 : decode cL_tidesUntilStill 12 = .ok (.iconst 1, 1) := by decide +kernel
theorem dL_tidesUntilStill_13 : decode cL_tidesUntilStill 13 = .ok (.ireturn, 1) := by decide +kernel
theorem dL_tidesUntilStill_14 : decode cL_tidesUntilStill 14 = .ok (.iconst 0, 1) := by decide +kernel
theorem dL_tidesUntilStill_15 : decode cL_tidesUntilStill 15 = .ok (.ireturn, 1) := by decide +kernel
theorem dL_isBirth_0 : decode cL_isBirth 0 = .ok (.aload_n 2, 1) := by decide +kernel
theorem dL_isBirth_1 : decode cL_isBirth 1 = .ok (.iconst 0, 1) := by decide +kernel
theorem dL_isBirth_2 : decode cL_isBirth 2 = .ok (.aload_n 0, 1) := by decide +kernel
theorem dL_isBirth_3 : decode cL_isBirth 3 = .ok (.iload_n 1, 1) := by decide +kernel
theorem dL_isBirth_4 : decode cL_isBirth 4 = .ok (.invokevirtual 94, 3) := by decide +kernel
theorem dL_isBirth_7 : decode cL_isBirth 7 = .ok (.ifCond .eq 7, 3) := by decide +kernel
theorem dL_isBirth_10 : decode cL_isBirth 10 = .ok (.lconst 1, 1) := by decide +kernel
theorem dL_isBirth_11 : decode cL_isBirth 11 = .ok (.goto 4, 3) := by decide +kernel
theorem dL_isBirth_14 : decode cL_isBirth 14 = .ok (.lconst 0, 1) := by decide +kernel
theorem dL_isBirth_15 : decode cL_isBirth 15 = .ok (.lastore, 1) := by decide +kernel
theorem dL_isBirth_16 : decode cL_isBirth 16 = .ok (.goto 6, 3) := by decide +kernel
theorem dL_isBirth_19 : decode cL_isBirth 19 = .ok (.astore_n 3, 1) := by decide +kernel
theorem dL_isBirth_20 : decode cL_isBirth 20 = .ok (.iconst 1, 1) := by decide +kernel
theorem dL_isBirth_21 : decode cL_isBirth 21 = .ok (.ireturn, 1) := by decide +kernel
theorem dL_isBirth_22 : decode cL_isBirth 22 = .ok (.iconst 0, 1) := by decide +kernel
theorem dL_isBirth_23 : decode cL_isBirth 23 = .ok (.ireturn, 1) := by decide +kernel
theorem dL_isSurvival_0 : decode cL_isSurvival 0 = .ok (.aload_n 2, 1) := by decide +kernel
theorem dL_isSurvival_1 : decode cL_isSurvival 1 = .ok (.iconst 0, 1) := by decide +kernel
theorem dL_isSurvival_2 : decode cL_isSurvival 2 = .ok (.aload_n 0, 1) := by decide +kernel
theorem dL_isSurvival_3 : decode cL_isSurvival 3 = .ok (.iload_n 1, 1) := by decide +kernel
theorem dL_isSurvival_4 : decode cL_isSurvival 4 = .ok (.invokevirtual 98, 3) := by decide +kernel
theorem dL_isSurvival_7 : decode cL_isSurvival 7 = .ok (.ifCond .eq 7, 3) := by decide +kernel
theorem dL_isSurvival_10 : decode cL_isSurvival 10 = .ok (.lconst 1, 1) := by decide +kernel
theorem dL_isSurvival_11 : decode cL_isSurvival 11 = .ok (.goto 4, 3) := by decide +kernel
theorem dL_isSurvival_14 : decode cL_isSurvival 14 = .ok (.lconst 0, 1) := by decide +kernel
theorem dL_isSurvival_15 : decode cL_isSurvival 15 = .ok (.lastore, 1) := by decide +kernel
theorem dL_isSurvival_16 : decode cL_isSurvival 16 = .ok (.goto 6, 3) := by decide +kernel
theorem dL_isSurvival_19 : decode cL_isSurvival 19 = .ok (.astore_n 3, 1) := by decide +kernel
theorem dL_isSurvival_20 : decode cL_isSurvival 20 = .ok (.iconst 1, 1) := by decide +kernel
theorem dL_isSurvival_21 : decode cL_isSurvival 21 = .ok (.ireturn, 1) := by decide +kernel
theorem dL_isSurvival_22 : decode cL_isSurvival 22 = .ok (.iconst 0, 1) := by decide +kernel
theorem dL_isSurvival_23 : decode cL_isSurvival 23 = .ok (.ireturn, 1) := by decide +kernel
theorem dL_rowByLiving_0 : decode cL_rowByLiving 0 = .ok (.aload_n 2, 1) := by decide +kernel
theorem dL_rowByLiving_1 : decode cL_rowByLiving 1 = .ok (.iconst 0, 1) := by decide +kernel
theorem dL_rowByLiving_2 : decode cL_rowByLiving 2 = .ok (.aload_n 0, 1) := by decide +kernel
theorem dL_rowByLiving_3 : decode cL_rowByLiving 3 = .ok (.iload_n 1, 1) := by decide +kernel
theorem dL_rowByLiving_4 : decode cL_rowByLiving 4 = .ok (.invokevirtual 101, 3) := by decide +kernel
theorem dL_rowByLiving_7 : decode cL_rowByLiving 7 = .ok (.i2l, 1) := by decide +kernel
theorem dL_rowByLiving_8 : decode cL_rowByLiving 8 = .ok (.lastore, 1) := by decide +kernel
theorem dL_rowByLiving_9 : decode cL_rowByLiving 9 = .ok (.goto 6, 3) := by decide +kernel
theorem dL_rowByLiving_12 : decode cL_rowByLiving 12 = .ok (.astore_n 3, 1) := by decide +kernel
theorem dL_rowByLiving_13 : decode cL_rowByLiving 13 = .ok (.iconst 1, 1) := by decide +kernel
theorem dL_rowByLiving_14 : decode cL_rowByLiving 14 = .ok (.ireturn, 1) := by decide +kernel
theorem dL_rowByLiving_15 : decode cL_rowByLiving 15 = .ok (.iconst 0, 1) := by decide +kernel
theorem dL_rowByLiving_16 : decode cL_rowByLiving 16 = .ok (.ireturn, 1) := by decide +kernel
theorem dL_colourByCount_0 : decode cL_colourByCount 0 = .ok (.aload_n 2, 1) := by decide +kernel
theorem dL_colourByCount_1 : decode cL_colourByCount 1 = .ok (.iconst 0, 1) := by decide +kernel
theorem dL_colourByCount_2 : decode cL_colourByCount 2 = .ok (.aload_n 0, 1) := by decide +kernel
theorem dL_colourByCount_3 : decode cL_colourByCount 3 = .ok (.iload_n 1, 1) := by decide +kernel
theorem dL_colourByCount_4 : decode cL_colourByCount 4 = .ok (.invokevirtual 104, 3) := by decide +kernel
theorem dL_colourByCount_7 : decode cL_colourByCount 7 = .ok (.i2l, 1) := by decide +kernel
theorem dL_colourByCount_8 : decode cL_colourByCount 8 = .ok (.lastore, 1) := by decide +kernel
theorem dL_colourByCount_9 : decode cL_colourByCount 9 = .ok (.goto 6, 3) := by decide +kernel
theorem dL_colourByCount_12 : decode cL_colourByCount 12 = .ok (.astore_n 3, 1) := by decide +kernel
theorem dL_colourByCount_13 : decode cL_colourByCount 13 = .ok (.iconst 1, 1) := by decide +kernel
theorem dL_colourByCount_14 : decode cL_colourByCount 14 = .ok (.ireturn, 1) := by decide +kernel
theorem dL_colourByCount_15 : decode cL_colourByCount 15 = .ok (.iconst 0, 1) := by decide +kernel
theorem dL_colourByCount_16 : decode cL_colourByCount 16 = .ok (.ireturn, 1) := by decide +kernel
theorem dL_meanAge_0 : decode cL_meanAge 0 = .ok (.aload_n 1, 1) := by decide +kernel
theorem dL_meanAge_1 : decode cL_meanAge 1 = .ok (.iconst 0, 1) := by decide +kernel
theorem dL_meanAge_2 : decode cL_meanAge 2 = .ok (.aload_n 0, 1) := by decide +kernel
theorem dL_meanAge_3 : decode cL_meanAge 3 = .ok (.invokevirtual 108, 3) := by decide +kernel
theorem dL_meanAge_6 : decode cL_meanAge 6 = .ok (.dastore, 1) := by decide +kernel
theorem dL_meanAge_7 : decode cL_meanAge 7 = .ok (.goto 6, 3) := by decide +kernel
theorem dL_meanAge_10 : decode cL_meanAge 10 = .ok (.astore_n 2, 1) := by decide +kernel
theorem dL_meanAge_11 : decode cL_meanAge 11 = .ok (.iconst 1, 1) := by decide +kernel
theorem dL_meanAge_12 : decode cL_meanAge 12 = .ok (.ireturn, 1) := by decide +kernel
theorem dL_meanAge_13 : decode cL_meanAge 13 = .ok (.iconst 0, 1) := by decide +kernel
theorem dL_meanAge_14 : decode cL_meanAge 14 = .ok (.ireturn, 1) := by decide +kernel
theorem dL_livingShare_0 : decode cL_livingShare 0 = .ok (.aload_n 1, 1) := by decide +kernel
theorem dL_livingShare_1 : decode cL_livingShare 1 = .ok (.iconst 0, 1) := by decide +kernel
theorem dL_livingShare_2 : decode cL_livingShare 2 = .ok (.aload_n 0, 1) := by decide +kernel
theorem dL_livingShare_3 : decode cL_livingShare 3 = .ok (.invokevirtual 114, 3) := by decide +kernel
theorem dL_livingShare_6 : decode cL_livingShare 6 = .ok (.f2d, 1) := by decide +kernel
theorem dL_livingShare_7 : decode cL_livingShare 7 = .ok (.dastore, 1) := by decide +kernel
theorem dL_livingShare_8 : decode cL_livingShare 8 = .ok (.goto 6, 3) := by decide +kernel
theorem dL_livingShare_11 : decode cL_livingShare 11 = .ok (.astore_n 2, 1) := by decide +kernel
theorem dL_livingShare_12 : decode cL_livingShare 12 = .ok (.iconst 1, 1) := by decide +kernel
theorem dL_livingShare_13 : decode cL_livingShare 13 = .ok (.ireturn, 1) := by decide +kernel
theorem dL_livingShare_14 : decode cL_livingShare 14 = .ok (.iconst 0, 1) := by decide +kernel
theorem dL_livingShare_15 : decode cL_livingShare 15 = .ok (.ireturn, 1) := by decide +kernel
theorem dL_writeRow_0 : decode cL_writeRow 0 = .ok (.aload_n 2, 1) := by decide +kernel
theorem dL_writeRow_1 : decode cL_writeRow 1 = .ok (.iconst 0, 1) := by decide +kernel
theorem dL_writeRow_2 : decode cL_writeRow 2 = .ok (.aload_n 0, 1) := by decide +kernel
theorem dL_writeRow_3 : decode cL_writeRow 3 = .ok (.iload_n 1, 1) := by decide +kernel
theorem dL_writeRow_4 : decode cL_writeRow 4 = .ok (.invokevirtual 118, 3) := by decide +kernel
theorem dL_writeRow_7 : decode cL_writeRow 7 = .ok (.i2l, 1) := by decide +kernel
theorem dL_writeRow_8 : decode cL_writeRow 8 = .ok (.lastore, 1) := by decide +kernel
theorem dL_writeRow_9 : decode cL_writeRow 9 = .ok (.goto 6, 3) := by decide +kernel
theorem dL_writeRow_12 : decode cL_writeRow 12 = .ok (.astore_n 3, 1) := by decide +kernel
theorem dL_writeRow_13 : decode cL_writeRow 13 = .ok (.iconst 1, 1) := by decide +kernel
theorem dL_writeRow_14 : decode cL_writeRow 14 = .ok (.ireturn, 1) := by decide +kernel
theorem dL_writeRow_15 : decode cL_writeRow 15 = .ok (.iconst 0, 1) := by decide +kernel
theorem dL_writeRow_16 : decode cL_writeRow 16 = .ok (.ireturn, 1) := by decide +kernel
theorem dL_outputAt_0 : decode cL_outputAt 0 = .ok (.aload_n 2, 1) := by decide +kernel
theorem dL_outputAt_1 : decode cL_outputAt 1 = .ok (.iconst 0, 1) := by decide +kernel
theorem dL_outputAt_2 : decode cL_outputAt 2 = .ok (.aload_n 0, 1) := by decide +kernel
theorem dL_outputAt_3 : decode cL_outputAt 3 = .ok (.iload_n 1, 1) := by decide +kernel
theorem dL_outputAt_4 : decode cL_outputAt 4 = .ok (.invokevirtual 121, 3) := by decide +kernel
theorem dL_outputAt_7 : decode cL_outputAt 7 = .ok (.i2l, 1) := by decide +kernel
theorem dL_outputAt_8 : decode cL_outputAt 8 = .ok (.lastore, 1) := by decide +kernel
theorem dL_outputAt_9 : decode cL_outputAt 9 = .ok (.goto 6, 3) := by decide +kernel
theorem dL_outputAt_12 : decode cL_outputAt 12 = .ok (.astore_n 3, 1) := by decide +kernel
theorem dL_outputAt_13 : decode cL_outputAt 13 = .ok (.iconst 1, 1) := by decide +kernel
theorem dL_outputAt_14 : decode cL_outputAt 14 = .ok (.ireturn, 1) := by decide +kernel
theorem dL_outputAt_15 : decode cL_outputAt 15 = .ok (.iconst 0, 1) := by decide +kernel
theorem dL_outputAt_16 : decode cL_outputAt 16 = .ok (.ireturn, 1) := by decide +kernel
theorem dL_appendInput_0 : decode cL_appendInput 0 = .ok (.aload_n 2, 1) := by decide +kernel
theorem dL_appendInput_1 : decode cL_appendInput 1 = .ok (.iconst 0, 1) := by decide +kernel
theorem dL_appendInput_2 : decode cL_appendInput 2 = .ok (.aload_n 0, 1) := by decide +kernel
theorem dL_appendInput_3 : decode cL_appendInput 3 = .ok (.iload_n 1, 1) := by decide +kernel
theorem dL_appendInput_4 : decode cL_appendInput 4 = .ok (.invokevirtual 124, 3) := by decide +kernel
theorem dL_appendInput_7 : decode cL_appendInput 7 = .ok (.i2l, 1) := by decide +kernel
theorem dL_appendInput_8 : decode cL_appendInput 8 = .ok (.lastore, 1) := by decide +kernel
theorem dL_appendInput_9 : decode cL_appendInput 9 = .ok (.goto 9, 3) := by decide +kernel
theorem dL_appendInput_12 : decode cL_appendInput 12 = .ok (.astore_n 3, 1) := by decide +kernel
theorem dL_appendInput_13 : decode cL_appendInput 13 = .ok (.iconst 1, 1) := by decide +kernel
theorem dL_appendInput_14 : decode cL_appendInput 14 = .ok (.ireturn, 1) := by decide +kernel
theorem dL_appendInput_15 : decode cL_appendInput 15 = .ok (.astore_n 3, 1) := by decide +kernel
theorem dL_appendInput_16 : decode cL_appendInput 16 = .ok (.iconst 2, 1) := by decide +kernel
theorem dL_appendInput_17 : decode cL_appendInput 17 = .ok (.ireturn, 1) := by decide +kernel
theorem dL_appendInput_18 : decode cL_appendInput 18 = .ok (.iconst 0, 1) := by decide +kernel
theorem dL_appendInput_19 : decode cL_appendInput 19 = .ok (.ireturn, 1) := by decide +kernel
theorem dL_execute_0 : decode cL_execute 0 = .ok (.aload_n 1, 1) := by decide +kernel
theorem dL_execute_1 : decode cL_execute 1 = .ok (.iconst 0, 1) := by decide +kernel
theorem dL_execute_2 : decode cL_execute 2 = .ok (.aload_n 0, 1) := by decide +kernel
theorem dL_execute_3 : decode cL_execute 3 = .ok (.invokevirtual 129, 3) := by decide +kernel
theorem dL_execute_6 : decode cL_execute 6 = .ok (.i2l, 1) := by decide +kernel
theorem dL_execute_7 : decode cL_execute 7 = .ok (.lastore, 1) := by decide +kernel
theorem dL_execute_8 : decode cL_execute 8 = .ok (.goto 12, 3) := by decide +kernel
theorem dL_execute_11 : decode cL_execute 11 = .ok (.astore_n 2, 1) := by decide +kernel
theorem dL_execute_12 : decode cL_execute 12 = .ok (.iconst 1, 1) := by decide +kernel
theorem dL_execute_13 : decode cL_execute 13 = .ok (.ireturn, 1) := by decide +kernel
theorem dL_execute_14 : decode cL_execute 14 = .ok (.astore_n 2, 1) := by decide +kernel
theorem dL_execute_15 : decode cL_execute 15 = .ok (.iconst 2, 1) := by decide +kernel
theorem dL_execute_16 : decode cL_execute 16 = .ok (.ireturn, 1) := by decide +kernel
theorem dL_execute_17 : decode cL_execute 17 = .ok (.astore_n 2, 1) := by decide +kernel
theorem dL_execute_18 : decode cL_execute 18 = .ok (.iconst 3, 1) := by decide +kernel
theorem dL_execute_19 : decode cL_execute 19 = .ok (.ireturn, 1) := by decide +kernel
theorem dL_execute_20 : decode cL_execute 20 = .ok (.iconst 0, 1) := by decide +kernel
theorem dL_execute_21 : decode cL_execute 21 = .ok (.ireturn, 1) := by decide +kernel
theorem dL_syntaxErrorOffset_0 : decode cL_syntaxErrorOffset 0 = .ok (.aload_n 1, 1) := by decide +kernel
theorem dL_syntaxErrorOffset_1 : decode cL_syntaxErrorOffset 1 = .ok (.iconst 0, 1) := by decide +kernel
theorem dL_syntaxErrorOffset_2 : decode cL_syntaxErrorOffset 2 = .ok (.aload_n 0, 1) := by decide +kernel
theorem dL_syntaxErrorOffset_3 : decode cL_syntaxErrorOffset 3 = .ok (.invokevirtual 132, 3) := by decide +kernel
theorem dL_syntaxErrorOffset_6 : decode cL_syntaxErrorOffset 6 = .ok (.i2l, 1) := by decide +kernel
theorem dL_syntaxErrorOffset_7 : decode cL_syntaxErrorOffset 7 = .ok (.lastore, 1) := by decide +kernel
theorem dL_syntaxErrorOffset_8 : decode cL_syntaxErrorOffset 8 = .ok (.goto 6, 3) := by decide +kernel
theorem dL_syntaxErrorOffset_11 : decode cL_syntaxErrorOffset 11 = .ok (.astore_n 2, 1) := by decide +kernel
theorem dL_syntaxErrorOffset_12 : decode cL_syntaxErrorOffset 12 = .ok (.iconst 1, 1) := by decide +kernel
theorem dL_syntaxErrorOffset_13 : decode cL_syntaxErrorOffset 13 = .ok (.ireturn, 1) := by decide +kernel
theorem dL_syntaxErrorOffset_14 : decode cL_syntaxErrorOffset 14 = .ok (.iconst 0, 1) := by decide +kernel
theorem dL_syntaxErrorOffset_15 : decode cL_syntaxErrorOffset 15 = .ok (.ireturn, 1) := by decide +kernel
theorem dL_rejectionReason_0 : decode cL_rejectionReason 0 = .ok (.aload_n 1, 1) := by decide +kernel
theorem dL_rejectionReason_1 : decode cL_rejectionReason 1 = .ok (.iconst 0, 1) := by decide +kernel
theorem dL_rejectionReason_2 : decode cL_rejectionReason 2 = .ok (.aload_n 0, 1) := by decide +kernel
theorem dL_rejectionReason_3 : decode cL_rejectionReason 3 = .ok (.invokevirtual 135, 3) := by decide +kernel
theorem dL_rejectionReason_6 : decode cL_rejectionReason 6 = .ok (.i2l, 1) := by decide +kernel
theorem dL_rejectionReason_7 : decode cL_rejectionReason 7 = .ok (.lastore, 1) := by decide +kernel
theorem dL_rejectionReason_8 : decode cL_rejectionReason 8 = .ok (.goto 6, 3) := by decide +kernel
theorem dL_rejectionReason_11 : decode cL_rejectionReason 11 = .ok (.astore_n 2, 1) := by decide +kernel
theorem dL_rejectionReason_12 : decode cL_rejectionReason 12 = .ok (.iconst 1, 1) := by decide +kernel
theorem dL_rejectionReason_13 : decode cL_rejectionReason 13 = .ok (.ireturn, 1) := by decide +kernel
theorem dL_rejectionReason_14 : decode cL_rejectionReason 14 = .ok (.iconst 0, 1) := by decide +kernel
theorem dL_rejectionReason_15 : decode cL_rejectionReason 15 = .ok (.ireturn, 1) := by decide +kernel
theorem dL_rejectionDetail_0 : decode cL_rejectionDetail 0 = .ok (.aload_n 1, 1) := by decide +kernel
theorem dL_rejectionDetail_1 : decode cL_rejectionDetail 1 = .ok (.iconst 0, 1) := by decide +kernel
theorem dL_rejectionDetail_2 : decode cL_rejectionDetail 2 = .ok (.aload_n 0, 1) := by decide +kernel
theorem dL_rejectionDetail_3 : decode cL_rejectionDetail 3 = .ok (.invokevirtual 138, 3) := by decide +kernel
theorem dL_rejectionDetail_6 : decode cL_rejectionDetail 6 = .ok (.i2l, 1) := by decide +kernel
theorem dL_rejectionDetail_7 : decode cL_rejectionDetail 7 = .ok (.lastore, 1) := by decide +kernel
theorem dL_rejectionDetail_8 : decode cL_rejectionDetail 8 = .ok (.goto 6, 3) := by decide +kernel
theorem dL_rejectionDetail_11 : decode cL_rejectionDetail 11 = .ok (.astore_n 2, 1) := by decide +kernel
theorem dL_rejectionDetail_12 : decode cL_rejectionDetail 12 = .ok (.iconst 1, 1) := by decide +kernel
theorem dL_rejectionDetail_13 : decode cL_rejectionDetail 13 = .ok (.ireturn, 1) := by decide +kernel
theorem dL_rejectionDetail_14 : decode cL_rejectionDetail 14 = .ok (.iconst 0, 1) := by decide +kernel
theorem dL_rejectionDetail_15 : decode cL_rejectionDetail 15 = .ok (.ireturn, 1) := by decide +kernel
theorem dL_causeReason_0 : decode cL_causeReason 0 = .ok (.aload_n 1, 1) := by decide +kernel
theorem dL_causeReason_1 : decode cL_causeReason 1 = .ok (.iconst 0, 1) := by decide +kernel
theorem dL_causeReason_2 : decode cL_causeReason 2 = .ok (.aload_n 0, 1) := by decide +kernel
theorem dL_causeReason_3 : decode cL_causeReason 3 = .ok (.invokevirtual 141, 3) := by decide +kernel
theorem dL_causeReason_6 : decode cL_causeReason 6 = .ok (.i2l, 1) := by decide +kernel
theorem dL_causeReason_7 : decode cL_causeReason 7 = .ok (.lastore, 1) := by decide +kernel
theorem dL_causeReason_8 : decode cL_causeReason 8 = .ok (.goto 6, 3) := by decide +kernel
theorem dL_causeReason_11 : decode cL_causeReason 11 = .ok (.astore_n 2, 1) := by decide +kernel
theorem dL_causeReason_12 : decode cL_causeReason 12 = .ok (.iconst 1, 1) := by decide +kernel
theorem dL_causeReason_13 : decode cL_causeReason 13 = .ok (.ireturn, 1) := by decide +kernel
theorem dL_causeReason_14 : decode cL_causeReason 14 = .ok (.iconst 0, 1) := by decide +kernel
theorem dL_causeReason_15 : decode cL_causeReason 15 = .ok (.ireturn, 1) := by decide +kernel
theorem dL_undo_0 : decode cL_undo 0 = .ok (.aload_n 1, 1) := by decide +kernel
theorem dL_undo_1 : decode cL_undo 1 = .ok (.iconst 0, 1) := by decide +kernel
theorem dL_undo_2 : decode cL_undo 2 = .ok (.aload_n 0, 1) := by decide +kernel
theorem dL_undo_3 : decode cL_undo 3 = .ok (.invokevirtual 144, 3) := by decide +kernel
theorem dL_undo_6 : decode cL_undo 6 = .ok (.i2l, 1) := by decide +kernel
theorem dL_undo_7 : decode cL_undo 7 = .ok (.lastore, 1) := by decide +kernel
theorem dL_undo_8 : decode cL_undo 8 = .ok (.goto 6, 3) := by decide +kernel
theorem dL_undo_11 : decode cL_undo 11 = .ok (.astore_n 2, 1) := by decide +kernel
theorem dL_undo_12 : decode cL_undo 12 = .ok (.iconst 1, 1) := by decide +kernel
theorem dL_undo_13 : decode cL_undo 13 = .ok (.ireturn, 1) := by decide +kernel
theorem dL_undo_14 : decode cL_undo 14 = .ok (.iconst 0, 1) := by decide +kernel
theorem dL_undo_15 : decode cL_undo 15 = .ok (.ireturn, 1) := by decide +kernel
theorem dL_restoreSnapshot_0 : decode cL_restoreSnapshot 0 = .ok (.aload_n 1, 1) := by decide +kernel
theorem dL_restoreSnapshot_1 : decode cL_restoreSnapshot 1 = .ok (.iconst 0, 1) := by decide +kernel
theorem dL_restoreSnapshot_2 : decode cL_restoreSnapshot 2 = .ok (.aload_n 0, 1) := by decide +kernel
theorem dL_restoreSnapshot_3 : decode cL_restoreSnapshot 3 = .ok (.invokevirtual 147, 3) := by decide +kernel
theorem dL_restoreSnapshot_6 : decode cL_restoreSnapshot 6 = .ok (.i2l, 1) := by decide +kernel
theorem dL_restoreSnapshot_7 : decode cL_restoreSnapshot 7 = .ok (.lastore, 1) := by decide +kernel
theorem dL_restoreSnapshot_8 : decode cL_restoreSnapshot 8 = .ok (.goto 6, 3) := by decide +kernel
theorem dL_restoreSnapshot_11 : decode cL_restoreSnapshot 11 = .ok (.astore_n 2, 1) := by decide +kernel
theorem dL_restoreSnapshot_12 : decode cL_restoreSnapshot 12 = .ok (.iconst 1, 1) := by decide +kernel
theorem dL_restoreSnapshot_13 : decode cL_restoreSnapshot 13 = .ok (.ireturn, 1) := by decide +kernel
theorem dL_restoreSnapshot_14 : decode cL_restoreSnapshot 14 = .ok (.iconst 0, 1) := by decide +kernel
theorem dL_restoreSnapshot_15 : decode cL_restoreSnapshot 15 = .ok (.ireturn, 1) := by decide +kernel
theorem dL_law_0 : decode cL_law 0 = .ok (.new 8, 3) := by decide +kernel
theorem dL_law_3 : decode cL_law 3 = .ok (.dup, 1) := by decide +kernel
theorem dL_law_4 : decode cL_law 4 = .ok (.invokespecial 150, 3) := by decide +kernel
theorem dL_law_7 : decode cL_law 7 = .ok (.astore_n 1, 1) := by decide +kernel
theorem dL_law_8 : decode cL_law 8 = .ok (.new 151, 3) := by decide +kernel
theorem dL_law_11 : decode cL_law 11 = .ok (.dup, 1) := by decide +kernel
theorem dL_law_12 : decode cL_law 12 = .ok (.invokespecial 153, 3) := by decide +kernel
theorem dL_law_15 : decode cL_law 15 = .ok (.astore_n 2, 1) := by decide +kernel
theorem dL_law_16 : decode cL_law 16 = .ok (.iconst 1, 1) := by decide +kernel
theorem dL_law_17 : decode cL_law 17 = .ok (.newarray .long, 2) := by decide +kernel
theorem dL_law_19 : decode cL_law 19 = .ok (.astore_n 3, 1) := by decide +kernel
theorem dL_law_20 : decode cL_law 20 = .ok (.iconst 1, 1) := by decide +kernel
theorem dL_law_21 : decode cL_law 21 = .ok (.newarray .double, 2) := by decide +kernel
theorem dL_law_23 : decode cL_law 23 = .ok (.astore 4, 2) := by decide +kernel
theorem dL_law_25 : decode cL_law 25 = .ok (.iconst 0, 1) := by decide +kernel
theorem dL_law_26 : decode cL_law 26 = .ok (.istore 5, 2) := by decide +kernel
theorem dL_law_28 : decode cL_law 28 = .ok (.iload 5, 2) := by decide +kernel
theorem dL_law_30 : decode cL_law 30 = .ok (.aload_n 0, 1) := by decide +kernel
theorem dL_law_31 : decode cL_law 31 = .ok (.arraylength, 1) := by decide +kernel
theorem dL_law_32 : decode cL_law 32 = .ok (.iconst 5, 1) := by decide +kernel
theorem dL_law_33 : decode cL_law 33 = .ok (.isub, 1) := by decide +kernel
theorem dL_law_34 : decode cL_law 34 = .ok (.if_icmp .gt 2850, 3) := by decide +kernel
theorem dL_law_37 : decode cL_law 37 = .ok (.aload_n 0, 1) := by decide +kernel
theorem dL_law_38 : decode cL_law 38 = .ok (.iload 5, 2) := by decide +kernel
theorem dL_law_40 : decode cL_law 40 = .ok (.iaload, 1) := by decide +kernel
theorem dL_law_41 : decode cL_law 41 = .ok (.bipush 63, 2) := by decide +kernel
theorem dL_law_43 : decode cL_law 43 = .ok (.iand, 1) := by decide +kernel
theorem dL_law_44 : decode cL_law 44 = .ok (.tableswitch 2834 0 53 #[232, 314, 382, 450, 532, 628, 686, 761, 836, 911, 979, 1047, 1115, 1197, 1265, 1278, 1291, 1349, 1362, 1375, 1443, 1456, 1514, 1613, 1669, 1744, 1800, 1813, 1857, 1870, 1933, 1996, 2009, 2022, 2035, 2048, 2061, 2074, 2130, 2186, 2251, 2317, 2330, 2386, 2399, 2455, 2513, 2557, 2601, 2645, 2689, 2733, 2777, 2790], 232) := by decide +kernel
theorem dL_law_276 : decode cL_law 276 = .ok (.aload_n 1, 1) := by decide +kernel
theorem dL_law_277 : decode cL_law 277 = .ok (.aload_n 0, 1) := by decide +kernel
theorem dL_law_278 : decode cL_law 278 = .ok (.iload 5, 2) := by decide +kernel
theorem dL_law_280 : decode cL_law 280 = .ok (.iconst 1, 1) := by decide +kernel
theorem dL_law_281 : decode cL_law 281 = .ok (.iadd, 1) := by decide +kernel
theorem dL_law_282 : decode cL_law 282 = .ok (.iaload, 1) := by decide +kernel
theorem dL_law_283 : decode cL_law 283 = .ok (.aload_n 0, 1) := by decide +kernel
theorem dL_law_284 : decode cL_law 284 = .ok (.iload 5, 2) := by decide +kernel
theorem dL_law_286 : decode cL_law 286 = .ok (.iconst 2, 1) := by decide +kernel
theorem dL_law_287 : decode cL_law 287 = .ok (.iadd, 1) := by decide +kernel
theorem dL_law_288 : decode cL_law 288 = .ok (.iaload, 1) := by decide +kernel
theorem dL_law_289 : decode cL_law 289 = .ok (.aload_n 0, 1) := by decide +kernel
theorem dL_law_290 : decode cL_law 290 = .ok (.iload 5, 2) := by decide +kernel
theorem dL_law_292 : decode cL_law 292 = .ok (.iconst 3, 1) := by decide +kernel
theorem dL_law_293 : decode cL_law 293 = .ok (.iadd, 1) := by decide +kernel
theorem dL_law_294 : decode cL_law 294 = .ok (.iaload, 1) := by decide +kernel
theorem dL_law_295 : decode cL_law 295 = .ok (.i2c, 1) := by decide +kernel
theorem dL_law_296 : decode cL_law 296 = .ok (.aload_n 3, 1) := by decide +kernel
theorem dL_law_297 : decode cL_law 297 = .ok (.invokestatic 154, 3) := by decide +kernel
theorem dL_law_300 : decode cL_law 300 = .ok (.istore 6, 2) := by decide +kernel
theorem dL_law_302 : decode cL_law 302 = .ok (.aload_n 2, 1) := by decide +kernel
theorem dL_law_303 : decode cL_law 303 = .ok (.aload_n 0, 1) := by decide +kernel
theorem dL_law_304 : decode cL_law 304 = .ok (.iload 5, 2) := by decide +kernel
theorem dL_law_306 : decode cL_law 306 = .ok (.iconst 1, 1) := by decide +kernel
theorem dL_law_307 : decode cL_law 307 = .ok (.iadd, 1) := by decide +kernel
theorem dL_law_308 : decode cL_law 308 = .ok (.iaload, 1) := by decide +kernel
theorem dL_law_309 : decode cL_law 309 = .ok (.aload_n 0, 1) := by decide +kernel
theorem dL_law_310 : decode cL_law 310 = .ok (.iload 5, 2) := by decide +kernel
theorem dL_law_312 : decode cL_law 312 = .ok (.iconst 2, 1) := by decide +kernel
theorem dL_law_313 : decode cL_law 313 = .ok (.iadd, 1) := by decide +kernel
theorem dL_law_314 : decode cL_law 314 = .ok (.iaload, 1) := by decide +kernel
theorem dL_law_315 : decode cL_law 315 = .ok (.aload_n 0, 1) := by decide +kernel
theorem dL_law_316 : decode cL_law 316 = .ok (.iload 5, 2) := by decide +kernel
theorem dL_law_318 : decode cL_law 318 = .ok (.iconst 3, 1) := by decide +kernel
theorem dL_law_319 : decode cL_law 319 = .ok (.iadd, 1) := by decide +kernel
theorem dL_law_320 : decode cL_law 320 = .ok (.iaload, 1) := by decide +kernel
theorem dL_law_321 : decode cL_law 321 = .ok (.i2c, 1) := by decide +kernel
theorem dL_law_322 : decode cL_law 322 = .ok (.invokevirtual 159, 3) := by decide +kernel
theorem dL_law_325 : decode cL_law 325 = .ok (.istore 7, 2) := by decide +kernel
theorem dL_law_327 : decode cL_law 327 = .ok (.aload_n 2, 1) := by decide +kernel
theorem dL_law_328 : decode cL_law 328 = .ok (.invokevirtual 160, 3) := by decide +kernel
theorem dL_law_331 : decode cL_law 331 = .ok (.iload 6, 2) := by decide +kernel
theorem dL_law_333 : decode cL_law 333 = .ok (.if_icmp .eq 5, 3) := by decide +kernel
theorem dL_law_336 : decode cL_law 336 = .ok (.iconst 0, 1) := by decide +kernel
theorem dL_law_337 : decode cL_law 337 = .ok (.ireturn, 1) := by decide +kernel
theorem dL_law_338 : decode cL_law 338 = .ok (.iload 6, 2) := by decide +kernel
theorem dL_law_340 : decode cL_law 340 = .ok (.ifCond .ne 15, 3) := by decide +kernel
theorem dL_law_343 : decode cL_law 343 = .ok (.aload_n 3, 1) := by decide +kernel
theorem dL_law_344 : decode cL_law 344 = .ok (.iconst 0, 1) := by decide +kernel
theorem dL_law_345 : decode cL_law 345 = .ok (.laload, 1) := by decide +kernel
theorem dL_law_346 : decode cL_law 346 = .ok (.iload 7, 2) := by decide +kernel
theorem dL_law_348 : decode cL_law 348 = .ok (.i2l, 1) := by decide +kernel
theorem dL_law_349 : decode cL_law 349 = .ok (.lcmp, 1) := by decide +kernel
theorem dL_law_350 : decode cL_law 350 = .ok (.ifCond .eq 5, 3) := by decide +kernel
theorem dL_law_353 : decode cL_law 353 = .ok (.iconst 0, 1) := by decide +kernel
theorem dL_law_354 : decode cL_law 354 = .ok (.ireturn, 1) := by decide +kernel
theorem dL_law_355 : decode cL_law 355 = .ok (.goto 2523, 3) := by decide +kernel
theorem dL_law_358 : decode cL_law 358 = .ok (.aload_n 1, 1) := by decide +kernel
theorem dL_law_359 : decode cL_law 359 = .ok (.aload_n 0, 1) := by decide +kernel
theorem dL_law_360 : decode cL_law 360 = .ok (.iload 5, 2) := by decide +kernel
theorem dL_law_362 : decode cL_law 362 = .ok (.iconst 1, 1) := by decide +kernel
theorem dL_law_363 : decode cL_law 363 = .ok (.iadd, 1) := by decide +kernel
theorem dL_law_364 : decode cL_law 364 = .ok (.iaload, 1) := by decide +kernel
theorem dL_law_365 : decode cL_law 365 = .ok (.aload_n 0, 1) := by decide +kernel
theorem dL_law_366 : decode cL_law 366 = .ok (.iload 5, 2) := by decide +kernel
theorem dL_law_368 : decode cL_law 368 = .ok (.iconst 2, 1) := by decide +kernel
theorem dL_law_369 : decode cL_law 369 = .ok (.iadd, 1) := by decide +kernel
theorem dL_law_370 : decode cL_law 370 = .ok (.iaload, 1) := by decide +kernel
theorem dL_law_371 : decode cL_law 371 = .ok (.aload_n 3, 1) := by decide +kernel
theorem dL_law_372 : decode cL_law 372 = .ok (.invokestatic 163, 3) := by decide +kernel
theorem dL_law_375 : decode cL_law 375 = .ok (.istore 6, 2) := by decide +kernel
theorem dL_law_377 : decode cL_law 377 = .ok (.aload_n 2, 1) := by decide +kernel
theorem dL_law_378 : decode cL_law 378 = .ok (.aload_n 0, 1) := by decide +kernel
theorem dL_law_379 : decode cL_law 379 = .ok (.iload 5, 2) := by decide +kernel
theorem dL_law_381 : decode cL_law 381 = .ok (.iconst 1, 1) := by decide +kernel
theorem dL_law_382 : decode cL_law 382 = .ok (.iadd, 1) := by decide +kernel
theorem dL_law_383 : decode cL_law 383 = .ok (.iaload, 1) := by decide +kernel
theorem dL_law_384 : decode cL_law 384 = .ok (.aload_n 0, 1) := by decide +kernel
theorem dL_law_385 : decode cL_law 385 = .ok (.iload 5, 2) := by decide +kernel
theorem dL_law_387 : decode cL_law 387 = .ok (.iconst 2, 1) := by decide +kernel
theorem dL_law_388 : decode cL_law 388 = .ok (.iadd, 1) := by decide +kernel
theorem dL_law_389 : decode cL_law 389 = .ok (.iaload, 1) := by decide +kernel
theorem dL_law_390 : decode cL_law 390 = .ok (.invokevirtual 166, 3) := by decide +kernel
theorem dL_law_393 : decode cL_law 393 = .ok (.istore 7, 2) := by decide +kernel
theorem dL_law_395 : decode cL_law 395 = .ok (.aload_n 2, 1) := by decide +kernel
theorem dL_law_396 : decode cL_law 396 = .ok (.invokevirtual 160, 3) := by decide +kernel
theorem dL_law_399 : decode cL_law 399 = .ok (.iload 6, 2) := by decide +kernel
theorem dL_law_401 : decode cL_law 401 = .ok (.if_icmp .eq 5, 3) := by decide +kernel
theorem dL_law_404 : decode cL_law 404 = .ok (.iconst 0, 1) := by decide +kernel
theorem dL_law_405 : decode cL_law 405 = .ok (.ireturn, 1) := by decide +kernel
theorem dL_law_406 : decode cL_law 406 = .ok (.iload 6, 2) := by decide +kernel
theorem dL_law_408 : decode cL_law 408 = .ok (.ifCond .ne 15, 3) := by decide +kernel
theorem dL_law_411 : decode cL_law 411 = .ok (.aload_n 3, 1) := by decide +kernel
theorem dL_law_412 : decode cL_law 412 = .ok (.iconst 0, 1) := by decide +kernel
theorem dL_law_413 : decode cL_law 413 = .ok (.laload, 1) := by decide +kernel
theorem dL_law_414 : decode cL_law 414 = .ok (.iload 7, 2) := by decide +kernel
theorem dL_law_416 : decode cL_law 416 = .ok (.i2l, 1) := by decide +kernel
theorem dL_law_417 : decode cL_law 417 = .ok (.lcmp, 1) := by decide +kernel
theorem dL_law_418 : decode cL_law 418 = .ok (.ifCond .eq 5, 3) := by decide +kernel
theorem dL_law_421 : decode cL_law 421 = .ok (.iconst 0, 1) := by decide +kernel
theorem dL_law_422 : decode cL_law 422 = .ok (.ireturn, 1) := by decide +kernel
theorem dL_law_423 : decode cL_law 423 = .ok (.goto 2455, 3) := by decide +kernel
theorem dL_law_426 : decode cL_law 426 = .ok (.aload_n 1, 1) := by decide +kernel
theorem dL_law_427 : decode cL_law 427 = .ok (.aload_n 0, 1) := by decide +kernel
theorem dL_law_428 : decode cL_law 428 = .ok (.iload 5, 2) := by decide +kernel
theorem dL_law_430 : decode cL_law 430 = .ok (.iconst 1, 1) := by decide +kernel
theorem dL_law_431 : decode cL_law 431 = .ok (.iadd, 1) := by decide +kernel
theorem dL_law_432 : decode cL_law 432 = .ok (.iaload, 1) := by decide +kernel
theorem dL_law_433 : decode cL_law 433 = .ok (.aload_n 0, 1) := by decide +kernel
theorem dL_law_434 : decode cL_law 434 = .ok (.iload 5, 2) := by decide +kernel
theorem dL_law_436 : decode cL_law 436 = .ok (.iconst 2, 1) := by decide +kernel
theorem dL_law_437 : decode cL_law 437 = .ok (.iadd, 1) := by decide +kernel
theorem dL_law_438 : decode cL_law 438 = .ok (.iaload, 1) := by decide +kernel
theorem dL_law_439 : decode cL_law 439 = .ok (.aload_n 3, 1) := by decide +kernel
theorem dL_law_440 : decode cL_law 440 = .ok (.invokestatic 167, 3) := by decide +kernel
theorem dL_law_443 : decode cL_law 443 = .ok (.istore 6, 2) := by decide +kernel
theorem dL_law_445 : decode cL_law 445 = .ok (.aload_n 2, 1) := by decide +kernel
theorem dL_law_446 : decode cL_law 446 = .ok (.aload_n 0, 1) := by decide +kernel
theorem dL_law_447 : decode cL_law 447 = .ok (.iload 5, 2) := by decide +kernel
theorem dL_law_449 : decode cL_law 449 = .ok (.iconst 1, 1) := by decide +kernel
theorem dL_law_450 : decode cL_law 450 = .ok (.iadd, 1) := by decide +kernel
theorem dL_law_451 : decode cL_law 451 = .ok (.iaload, 1) := by decide +kernel
theorem dL_law_452 : decode cL_law 452 = .ok (.aload_n 0, 1) := by decide +kernel
theorem dL_law_453 : decode cL_law 453 = .ok (.iload 5, 2) := by decide +kernel
theorem dL_law_455 : decode cL_law 455 = .ok (.iconst 2, 1) := by decide +kernel
theorem dL_law_456 : decode cL_law 456 = .ok (.iadd, 1) := by decide +kernel
theorem dL_law_457 : decode cL_law 457 = .ok (.iaload, 1) := by decide +kernel
theorem dL_law_458 : decode cL_law 458 = .ok (.invokevirtual 169, 3) := by decide +kernel
theorem dL_law_461 : decode cL_law 461 = .ok (.istore 7, 2) := by decide +kernel
theorem dL_law_463 : decode cL_law 463 = .ok (.aload_n 2, 1) := by decide +kernel
theorem dL_law_464 : decode cL_law 464 = .ok (.invokevirtual 160, 3) := by decide +kernel
theorem dL_law_467 : decode cL_law 467 = .ok (.iload 6, 2) := by decide +kernel
theorem dL_law_469 : decode cL_law 469 = .ok (.if_icmp .eq 5, 3) := by decide +kernel
theorem dL_law_472 : decode cL_law 472 = .ok (.iconst 0, 1) := by decide +kernel
theorem dL_law_473 : decode cL_law 473 = .ok (.ireturn, 1) := by decide +kernel
theorem dL_law_474 : decode cL_law 474 = .ok (.iload 6, 2) := by decide +kernel
theorem dL_law_476 : decode cL_law 476 = .ok (.ifCond .ne 15, 3) := by decide +kernel
theorem dL_law_479 : decode cL_law 479 = .ok (.aload_n 3, 1) := by decide +kernel
theorem dL_law_480 : decode cL_law 480 = .ok (.iconst 0, 1) := by decide +kernel
theorem dL_law_481 : decode cL_law 481 = .ok (.laload, 1) := by decide +kernel
theorem dL_law_482 : decode cL_law 482 = .ok (.iload 7, 2) := by decide +kernel
theorem dL_law_484 : decode cL_law 484 = .ok (.i2l, 1) := by decide +kernel
theorem dL_law_485 : decode cL_law 485 = .ok (.lcmp, 1) := by decide +kernel
theorem dL_law_486 : decode cL_law 486 = .ok (.ifCond .eq 5, 3) := by decide +kernel
theorem dL_law_489 : decode cL_law 489 = .ok (.iconst 0, 1) := by decide +kernel
theorem dL_law_490 : decode cL_law 490 = .ok (.ireturn, 1) := by decide +kernel
theorem dL_law_491 : decode cL_law 491 = .ok (.goto 2387, 3) := by decide +kernel
theorem dL_law_494 : decode cL_law 494 = .ok (.aload_n 1, 1) := by decide +kernel
theorem dL_law_495 : decode cL_law 495 = .ok (.aload_n 0, 1) := by decide +kernel
theorem dL_law_496 : decode cL_law 496 = .ok (.iload 5, 2) := by decide +kernel
theorem dL_law_498 : decode cL_law 498 = .ok (.iconst 1, 1) := by decide +kernel
theorem dL_law_499 : decode cL_law 499 = .ok (.iadd, 1) := by decide +kernel
theorem dL_law_500 : decode cL_law 500 = .ok (.iaload, 1) := by decide +kernel
theorem dL_law_501 : decode cL_law 501 = .ok (.aload_n 0, 1) := by decide +kernel
theorem dL_law_502 : decode cL_law 502 = .ok (.iload 5, 2) := by decide +kernel
theorem dL_law_504 : decode cL_law 504 = .ok (.iconst 2, 1) := by decide +kernel
theorem dL_law_505 : decode cL_law 505 = .ok (.iadd, 1) := by decide +kernel
theorem dL_law_506 : decode cL_law 506 = .ok (.iaload, 1) := by decide +kernel
theorem dL_law_507 : decode cL_law 507 = .ok (.aload_n 0, 1) := by decide +kernel
theorem dL_law_508 : decode cL_law 508 = .ok (.iload 5, 2) := by decide +kernel
theorem dL_law_510 : decode cL_law 510 = .ok (.iconst 3, 1) := by decide +kernel
theorem dL_law_511 : decode cL_law 511 = .ok (.iadd, 1) := by decide +kernel
theorem dL_law_512 : decode cL_law 512 = .ok (.iaload, 1) := by decide +kernel
theorem dL_law_513 : decode cL_law 513 = .ok (.i2c, 1) := by decide +kernel
theorem dL_law_514 : decode cL_law 514 = .ok (.aload_n 3, 1) := by decide +kernel
theorem dL_law_515 : decode cL_law 515 = .ok (.invokestatic 170, 3) := by decide +kernel
theorem dL_law_518 : decode cL_law 518 = .ok (.istore 6, 2) := by decide +kernel
theorem dL_law_520 : decode cL_law 520 = .ok (.aload_n 2, 1) := by decide +kernel
theorem dL_law_521 : decode cL_law 521 = .ok (.aload_n 0, 1) := by decide +kernel
theorem dL_law_522 : decode cL_law 522 = .ok (.iload 5, 2) := by decide +kernel
theorem dL_law_524 : decode cL_law 524 = .ok (.iconst 1, 1) := by decide +kernel
theorem dL_law_525 : decode cL_law 525 = .ok (.iadd, 1) := by decide +kernel
theorem dL_law_526 : decode cL_law 526 = .ok (.iaload, 1) := by decide +kernel
theorem dL_law_527 : decode cL_law 527 = .ok (.aload_n 0, 1) := by decide +kernel
theorem dL_law_528 : decode cL_law 528 = .ok (.iload 5, 2) := by decide +kernel
theorem dL_law_530 : decode cL_law 530 = .ok (.iconst 2, 1) := by decide +kernel
theorem dL_law_531 : decode cL_law 531 = .ok (.iadd, 1) := by decide +kernel
theorem dL_law_532 : decode cL_law 532 = .ok (.iaload, 1) := by decide +kernel
theorem dL_law_533 : decode cL_law 533 = .ok (.aload_n 0, 1) := by decide +kernel
theorem dL_law_534 : decode cL_law 534 = .ok (.iload 5, 2) := by decide +kernel
theorem dL_law_536 : decode cL_law 536 = .ok (.iconst 3, 1) := by decide +kernel
theorem dL_law_537 : decode cL_law 537 = .ok (.iadd, 1) := by decide +kernel
theorem dL_law_538 : decode cL_law 538 = .ok (.iaload, 1) := by decide +kernel
theorem dL_law_539 : decode cL_law 539 = .ok (.i2c, 1) := by decide +kernel
theorem dL_law_540 : decode cL_law 540 = .ok (.invokevirtual 172, 3) := by decide +kernel
theorem dL_law_543 : decode cL_law 543 = .ok (.istore 7, 2) := by decide +kernel
theorem dL_law_545 : decode cL_law 545 = .ok (.aload_n 2, 1) := by decide +kernel
theorem dL_law_546 : decode cL_law 546 = .ok (.invokevirtual 160, 3) := by decide +kernel
theorem dL_law_549 : decode cL_law 549 = .ok (.iload 6, 2) := by decide +kernel
theorem dL_law_551 : decode cL_law 551 = .ok (.if_icmp .eq 5, 3) := by decide +kernel
theorem dL_law_554 : decode cL_law 554 = .ok (.iconst 0, 1) := by decide +kernel
theorem dL_law_555 : decode cL_law 555 = .ok (.ireturn, 1) := by decide +kernel
theorem dL_law_556 : decode cL_law 556 = .ok (.iload 6, 2) := by decide +kernel
theorem dL_law_558 : decode cL_law 558 = .ok (.ifCond .ne 15, 3) := by decide +kernel
theorem dL_law_561 : decode cL_law 561 = .ok (.aload_n 3, 1) := by decide +kernel
theorem dL_law_562 : decode cL_law 562 = .ok (.iconst 0, 1) := by decide +kernel
theorem dL_law_563 : decode cL_law 563 = .ok (.laload, 1) := by decide +kernel
theorem dL_law_564 : decode cL_law 564 = .ok (.iload 7, 2) := by decide +kernel
theorem dL_law_566 : decode cL_law 566 = .ok (.i2l, 1) := by decide +kernel
theorem dL_law_567 : decode cL_law 567 = .ok (.lcmp, 1) := by decide +kernel
theorem dL_law_568 : decode cL_law 568 = .ok (.ifCond .eq 5, 3) := by decide +kernel
theorem dL_law_571 : decode cL_law 571 = .ok (.iconst 0, 1) := by decide +kernel
theorem dL_law_572 : decode cL_law 572 = .ok (.ireturn, 1) := by decide +kernel
theorem dL_law_573 : decode cL_law 573 = .ok (.goto 2305, 3) := by decide +kernel
theorem dL_law_576 : decode cL_law 576 = .ok (.aload_n 1, 1) := by decide +kernel
theorem dL_law_577 : decode cL_law 577 = .ok (.aload_n 0, 1) := by decide +kernel
theorem dL_law_578 : decode cL_law 578 = .ok (.iload 5, 2) := by decide +kernel
theorem dL_law_580 : decode cL_law 580 = .ok (.iconst 1, 1) := by decide +kernel
theorem dL_law_581 : decode cL_law 581 = .ok (.iadd, 1) := by decide +kernel
theorem dL_law_582 : decode cL_law 582 = .ok (.iaload, 1) := by decide +kernel
theorem dL_law_583 : decode cL_law 583 = .ok (.aload_n 0, 1) := by decide +kernel
theorem dL_law_584 : decode cL_law 584 = .ok (.iload 5, 2) := by decide +kernel
theorem dL_law_586 : decode cL_law 586 = .ok (.iconst 2, 1) := by decide +kernel
theorem dL_law_587 : decode cL_law 587 = .ok (.iadd, 1) := by decide +kernel
theorem dL_law_588 : decode cL_law 588 = .ok (.iaload, 1) := by decide +kernel
theorem dL_law_589 : decode cL_law 589 = .ok (.aload_n 0, 1) := by decide +kernel
theorem dL_law_590 : decode cL_law 590 = .ok (.iload 5, 2) := by decide +kernel
theorem dL_law_592 : decode cL_law 592 = .ok (.iconst 3, 1) := by decide +kernel
theorem dL_law_593 : decode cL_law 593 = .ok (.iadd, 1) := by decide +kernel
theorem dL_law_594 : decode cL_law 594 = .ok (.iaload, 1) := by decide +kernel
theorem dL_law_595 : decode cL_law 595 = .ok (.i2c, 1) := by decide +kernel
theorem dL_law_596 : decode cL_law 596 = .ok (.aload_n 0, 1) := by decide +kernel
theorem dL_law_597 : decode cL_law 597 = .ok (.iload 5, 2) := by decide +kernel
theorem dL_law_599 : decode cL_law 599 = .ok (.iconst 4, 1) := by decide +kernel
theorem dL_law_600 : decode cL_law 600 = .ok (.iadd, 1) := by decide +kernel
theorem dL_law_601 : decode cL_law 601 = .ok (.iaload, 1) := by decide +kernel
theorem dL_law_602 : decode cL_law 602 = .ok (.i2c, 1) := by decide +kernel
theorem dL_law_603 : decode cL_law 603 = .ok (.aload_n 3, 1) := by decide +kernel
theorem dL_law_604 : decode cL_law 604 = .ok (.invokestatic 173, 3) := by decide +kernel
theorem dL_law_607 : decode cL_law 607 = .ok (.istore 6, 2) := by decide +kernel
theorem dL_law_609 : decode cL_law 609 = .ok (.aload_n 2, 1) := by decide +kernel
theorem dL_law_610 : decode cL_law 610 = .ok (.aload_n 0, 1) := by decide +kernel
theorem dL_law_611 : decode cL_law 611 = .ok (.iload 5, 2) := by decide +kernel
theorem dL_law_613 : decode cL_law 613 = .ok (.iconst 1, 1) := by decide +kernel
theorem dL_law_614 : decode cL_law 614 = .ok (.iadd, 1) := by decide +kernel
theorem dL_law_615 : decode cL_law 615 = .ok (.iaload, 1) := by decide +kernel
theorem dL_law_616 : decode cL_law 616 = .ok (.aload_n 0, 1) := by decide +kernel
theorem dL_law_617 : decode cL_law 617 = .ok (.iload 5, 2) := by decide +kernel
theorem dL_law_619 : decode cL_law 619 = .ok (.iconst 2, 1) := by decide +kernel
theorem dL_law_620 : decode cL_law 620 = .ok (.iadd, 1) := by decide +kernel
theorem dL_law_621 : decode cL_law 621 = .ok (.iaload, 1) := by decide +kernel
theorem dL_law_622 : decode cL_law 622 = .ok (.aload_n 0, 1) := by decide +kernel
theorem dL_law_623 : decode cL_law 623 = .ok (.iload 5, 2) := by decide +kernel
theorem dL_law_625 : decode cL_law 625 = .ok (.iconst 3, 1) := by decide +kernel
theorem dL_law_626 : decode cL_law 626 = .ok (.iadd, 1) := by decide +kernel
theorem dL_law_627 : decode cL_law 627 = .ok (.iaload, 1) := by decide +kernel
theorem dL_law_628 : decode cL_law 628 = .ok (.i2c, 1) := by decide +kernel
theorem dL_law_629 : decode cL_law 629 = .ok (.aload_n 0, 1) := by decide +kernel
theorem dL_law_630 : decode cL_law 630 = .ok (.iload 5, 2) := by decide +kernel
theorem dL_law_632 : decode cL_law 632 = .ok (.iconst 4, 1) := by decide +kernel
theorem dL_law_633 : decode cL_law 633 = .ok (.iadd, 1) := by decide +kernel
theorem dL_law_634 : decode cL_law 634 = .ok (.iaload, 1) := by decide +kernel
theorem dL_law_635 : decode cL_law 635 = .ok (.i2c, 1) := by decide +kernel
theorem dL_law_636 : decode cL_law 636 = .ok (.invokevirtual 176, 3) := by decide +kernel
theorem dL_law_639 : decode cL_law 639 = .ok (.istore 7, 2) := by decide +kernel
theorem dL_law_641 : decode cL_law 641 = .ok (.aload_n 2, 1) := by decide +kernel
theorem dL_law_642 : decode cL_law 642 = .ok (.invokevirtual 160, 3) := by decide +kernel
theorem dL_law_645 : decode cL_law 645 = .ok (.iload 6, 2) := by decide +kernel
theorem dL_law_647 : decode cL_law 647 = .ok (.if_icmp .eq 5, 3) := by decide +kernel
theorem dL_law_650 : decode cL_law 650 = .ok (.iconst 0, 1) := by decide +kernel
theorem dL_law_651 : decode cL_law 651 = .ok (.ireturn, 1) := by decide +kernel
theorem dL_law_652 : decode cL_law 652 = .ok (.iload 6, 2) := by decide +kernel
theorem dL_law_654 : decode cL_law 654 = .ok (.ifCond .ne 15, 3) := by decide +kernel
theorem dL_law_657 : decode cL_law 657 = .ok (.aload_n 3, 1) := by decide +kernel
theorem dL_law_658 : decode cL_law 658 = .ok (.iconst 0, 1) := by decide +kernel
theorem dL_law_659 : decode cL_law 659 = .ok (.laload, 1) := by decide +kernel
theorem dL_law_660 : decode cL_law 660 = .ok (.iload 7, 2) := by decide +kernel
theorem dL_law_662 : decode cL_law 662 = .ok (.i2l, 1) := by decide +kernel
theorem dL_law_663 : decode cL_law 663 = .ok (.lcmp, 1) := by decide +kernel
theorem dL_law_664 : decode cL_law 664 = .ok (.ifCond .eq 5, 3) := by decide +kernel
theorem dL_law_667 : decode cL_law 667 = .ok (.iconst 0, 1) := by decide +kernel
theorem dL_law_668 : decode cL_law 668 = .ok (.ireturn, 1) := by decide +kernel
theorem dL_law_669 : decode cL_law 669 = .ok (.goto 2209, 3) := by decide +kernel
theorem dL_law_672 : decode cL_law 672 = .ok (.aload_n 1, 1) := by decide +kernel
theorem dL_law_673 : decode cL_law 673 = .ok (.aload_n 0, 1) := by decide +kernel
theorem dL_law_674 : decode cL_law 674 = .ok (.iload 5, 2) := by decide +kernel
theorem dL_law_676 : decode cL_law 676 = .ok (.iconst 1, 1) := by decide +kernel
theorem dL_law_677 : decode cL_law 677 = .ok (.iadd, 1) := by decide +kernel
theorem dL_law_678 : decode cL_law 678 = .ok (.iaload, 1) := by decide +kernel
theorem dL_law_679 : decode cL_law 679 = .ok (.i2c, 1) := by decide +kernel
theorem dL_law_680 : decode cL_law 680 = .ok (.aload_n 3, 1) := by decide +kernel
theorem dL_law_681 : decode cL_law 681 = .ok (.invokestatic 177, 3) := by decide +kernel
theorem dL_law_684 : decode cL_law 684 = .ok (.istore 6, 2) := by decide +kernel
theorem dL_law_686 : decode cL_law 686 = .ok (.aload_n 2, 1) := by decide +kernel
theorem dL_law_687 : decode cL_law 687 = .ok (.aload_n 0, 1) := by decide +kernel
theorem dL_law_688 : decode cL_law 688 = .ok (.iload 5, 2) := by decide +kernel
theorem dL_law_690 : decode cL_law 690 = .ok (.iconst 1, 1) := by decide +kernel
theorem dL_law_691 : decode cL_law 691 = .ok (.iadd, 1) := by decide +kernel
theorem dL_law_692 : decode cL_law 692 = .ok (.iaload, 1) := by decide +kernel
theorem dL_law_693 : decode cL_law 693 = .ok (.i2c, 1) := by decide +kernel
theorem dL_law_694 : decode cL_law 694 = .ok (.invokevirtual 180, 3) := by decide +kernel
theorem dL_law_697 : decode cL_law 697 = .ok (.istore 7, 2) := by decide +kernel
theorem dL_law_699 : decode cL_law 699 = .ok (.aload_n 2, 1) := by decide +kernel
theorem dL_law_700 : decode cL_law 700 = .ok (.invokevirtual 160, 3) := by decide +kernel
theorem dL_law_703 : decode cL_law 703 = .ok (.iload 6, 2) := by decide +kernel
theorem dL_law_705 : decode cL_law 705 = .ok (.if_icmp .eq 5, 3) := by decide +kernel
theorem dL_law_708 : decode cL_law 708 = .ok (.iconst 0, 1) := by decide +kernel
theorem dL_law_709 : decode cL_law 709 = .ok (.ireturn, 1) := by decide +kernel
theorem dL_law_710 : decode cL_law 710 = .ok (.iload 6, 2) := by decide +kernel
theorem dL_law_712 : decode cL_law 712 = .ok (.ifCond .ne 15, 3) := by decide +kernel
theorem dL_law_715 : decode cL_law 715 = .ok (.aload_n 3, 1) := by decide +kernel
theorem dL_law_716 : decode cL_law 716 = .ok (.iconst 0, 1) := by decide +kernel
theorem dL_law_717 : decode cL_law 717 = .ok (.laload, 1) := by decide +kernel
theorem dL_law_718 : decode cL_law 718 = .ok (.iload 7, 2) := by decide +kernel
theorem dL_law_720 : decode cL_law 720 = .ok (.i2l, 1) := by decide +kernel
theorem dL_law_721 : decode cL_law 721 = .ok (.lcmp, 1) := by decide +kernel
theorem dL_law_722 : decode cL_law 722 = .ok (.ifCond .eq 5, 3) := by decide +kernel
theorem dL_law_725 : decode cL_law 725 = .ok (.iconst 0, 1) := by decide +kernel
theorem dL_law_726 : decode cL_law 726 = .ok (.ireturn, 1) := by decide +kernel
theorem dL_law_727 : decode cL_law 727 = .ok (.goto 2151, 3) := by decide +kernel
theorem dL_law_730 : decode cL_law 730 = .ok (.aload_n 1, 1) := by decide +kernel
theorem dL_law_731 : decode cL_law 731 = .ok (.aload_n 0, 1) := by decide +kernel
theorem dL_law_732 : decode cL_law 732 = .ok (.iload 5, 2) := by decide +kernel
theorem dL_law_734 : decode cL_law 734 = .ok (.iconst 1, 1) := by decide +kernel
theorem dL_law_735 : decode cL_law 735 = .ok (.iadd, 1) := by decide +kernel
theorem dL_law_736 : decode cL_law 736 = .ok (.iaload, 1) := by decide +kernel
theorem dL_law_737 : decode cL_law 737 = .ok (.aload_n 0, 1) := by decide +kernel
theorem dL_law_738 : decode cL_law 738 = .ok (.iload 5, 2) := by decide +kernel
theorem dL_law_740 : decode cL_law 740 = .ok (.iconst 2, 1) := by decide +kernel
theorem dL_law_741 : decode cL_law 741 = .ok (.iadd, 1) := by decide +kernel
theorem dL_law_742 : decode cL_law 742 = .ok (.iaload, 1) := by decide +kernel
theorem dL_law_743 : decode cL_law 743 = .ok (.aload_n 3, 1) := by decide +kernel
theorem dL_law_744 : decode cL_law 744 = .ok (.invokestatic 181, 3) := by decide +kernel
theorem dL_law_747 : decode cL_law 747 = .ok (.istore 6, 2) := by decide +kernel
theorem dL_law_749 : decode cL_law 749 = .ok (.aload_n 2, 1) := by decide +kernel
theorem dL_law_750 : decode cL_law 750 = .ok (.aload_n 0, 1) := by decide +kernel
theorem dL_law_751 : decode cL_law 751 = .ok (.iload 5, 2) := by decide +kernel
theorem dL_law_753 : decode cL_law 753 = .ok (.iconst 1, 1) := by decide +kernel
theorem dL_law_754 : decode cL_law 754 = .ok (.iadd, 1) := by decide +kernel
theorem dL_law_755 : decode cL_law 755 = .ok (.iaload, 1) := by decide +kernel
theorem dL_law_756 : decode cL_law 756 = .ok (.aload_n 0, 1) := by decide +kernel
theorem dL_law_757 : decode cL_law 757 = .ok (.iload 5, 2) := by decide +kernel
theorem dL_law_759 : decode cL_law 759 = .ok (.iconst 2, 1) := by decide +kernel
theorem dL_law_760 : decode cL_law 760 = .ok (.iadd, 1) := by decide +kernel
theorem dL_law_761 : decode cL_law 761 = .ok (.iaload, 1) := by decide +kernel
theorem dL_law_762 : decode cL_law 762 = .ok (.invokevirtual 183, 3) := by decide +kernel
theorem dL_law_765 : decode cL_law 765 = .ok (.istore 7, 2) := by decide +kernel
theorem dL_law_767 : decode cL_law 767 = .ok (.aload_n 2, 1) := by decide +kernel
theorem dL_law_768 : decode cL_law 768 = .ok (.invokevirtual 160, 3) := by decide +kernel
theorem dL_law_771 : decode cL_law 771 = .ok (.iload 6, 2) := by decide +kernel
theorem dL_law_773 : decode cL_law 773 = .ok (.if_icmp .eq 5, 3) := by decide +kernel
theorem dL_law_776 : decode cL_law 776 = .ok (.iconst 0, 1) := by decide +kernel
theorem dL_law_777 : decode cL_law 777 = .ok (.ireturn, 1) := by decide +kernel
theorem dL_law_778 : decode cL_law 778 = .ok (.iload 6, 2) := by decide +kernel
theorem dL_law_780 : decode cL_law 780 = .ok (.ifCond .ne 22, 3) := by decide +kernel
theorem dL_law_783 : decode cL_law 783 = .ok (.aload_n 3, 1) := by decide +kernel
theorem dL_law_784 : decode cL_law 784 = .ok (.iconst 0, 1) := by decide +kernel
theorem dL_law_785 : decode cL_law 785 = .ok (.laload, 1) := by decide +kernel
theorem dL_law_786 : decode cL_law 786 = .ok (.iload 7, 2) := by decide +kernel
theorem dL_law_788 : decode cL_law 788 = .ok (.ifCond .eq 7, 3) := by decide +kernel
theorem dL_law_791 : decode cL_law 791 = .ok (.lconst 1, 1) := by decide +kernel
theorem dL_law_792 : decode cL_law 792 = .ok (.goto 4, 3) := by decide +kernel
theorem dL_law_795 : decode cL_law 795 = .ok (.lconst 0, 1) := by decide +kernel
theorem dL_law_796 : decode cL_law 796 = .ok (.lcmp, 1) := by decide +kernel
theorem dL_law_797 : decode cL_law 797 = .ok (.ifCond .eq 5, 3) := by decide +kernel
theorem dL_law_800 : decode cL_law 800 = .ok (.iconst 0, 1) := by decide +kernel
theorem dL_law_801 : decode cL_law 801 = .ok (.ireturn, 1) := by decide +kernel
theorem dL_law_802 : decode cL_law 802 = .ok (.goto 2076, 3) := by decide +kernel
theorem dL_law_805 : decode cL_law 805 = .ok (.aload_n 1, 1) := by decide +kernel
theorem dL_law_806 : decode cL_law 806 = .ok (.aload_n 0, 1) := by decide +kernel
theorem dL_law_807 : decode cL_law 807 = .ok (.iload 5, 2) := by decide +kernel
theorem dL_law_809 : decode cL_law 809 = .ok (.iconst 1, 1) := by decide +kernel
theorem dL_law_810 : decode cL_law 810 = .ok (.iadd, 1) := by decide +kernel
theorem dL_law_811 : decode cL_law 811 = .ok (.iaload, 1) := by decide +kernel
theorem dL_law_812 : decode cL_law 812 = .ok (.aload_n 0, 1) := by decide +kernel
theorem dL_law_813 : decode cL_law 813 = .ok (.iload 5, 2) := by decide +kernel
theorem dL_law_815 : decode cL_law 815 = .ok (.iconst 2, 1) := by decide +kernel
theorem dL_law_816 : decode cL_law 816 = .ok (.iadd, 1) := by decide +kernel
theorem dL_law_817 : decode cL_law 817 = .ok (.iaload, 1) := by decide +kernel
theorem dL_law_818 : decode cL_law 818 = .ok (.aload_n 3, 1) := by decide +kernel
theorem dL_law_819 : decode cL_law 819 = .ok (.invokestatic 184, 3) := by decide +kernel
theorem dL_law_822 : decode cL_law 822 = .ok (.istore 6, 2) := by decide +kernel
theorem dL_law_824 : decode cL_law 824 = .ok (.aload_n 2, 1) := by decide +kernel
theorem dL_law_825 : decode cL_law 825 = .ok (.aload_n 0, 1) := by decide +kernel
theorem dL_law_826 : decode cL_law 826 = .ok (.iload 5, 2) := by decide +kernel
theorem dL_law_828 : decode cL_law 828 = .ok (.iconst 1, 1) := by decide +kernel
theorem dL_law_829 : decode cL_law 829 = .ok (.iadd, 1) := by decide +kernel
theorem dL_law_830 : decode cL_law 830 = .ok (.iaload, 1) := by decide +kernel
theorem dL_law_831 : decode cL_law 831 = .ok (.aload_n 0, 1) := by decide +kernel
theorem dL_law_832 : decode cL_law 832 = .ok (.iload 5, 2) := by decide +kernel
theorem dL_law_834 : decode cL_law 834 = .ok (.iconst 2, 1) := by decide +kernel
theorem dL_law_835 : decode cL_law 835 = .ok (.iadd, 1) := by decide +kernel
theorem dL_law_836 : decode cL_law 836 = .ok (.iaload, 1) := by decide +kernel
theorem dL_law_837 : decode cL_law 837 = .ok (.invokevirtual 186, 3) := by decide +kernel
theorem dL_law_840 : decode cL_law 840 = .ok (.istore 7, 2) := by decide +kernel
theorem dL_law_842 : decode cL_law 842 = .ok (.aload_n 2, 1) := by decide +kernel
theorem dL_law_843 : decode cL_law 843 = .ok (.invokevirtual 160, 3) := by decide +kernel
theorem dL_law_846 : decode cL_law 846 = .ok (.iload 6, 2) := by decide +kernel
theorem dL_law_848 : decode cL_law 848 = .ok (.if_icmp .eq 5, 3) := by decide +kernel
theorem dL_law_851 : decode cL_law 851 = .ok (.iconst 0, 1) := by decide +kernel
theorem dL_law_852 : decode cL_law 852 = .ok (.ireturn, 1) := by decide +kernel
theorem dL_law_853 : decode cL_law 853 = .ok (.iload 6, 2) := by decide +kernel
theorem dL_law_855 : decode cL_law 855 = .ok (.ifCond .ne 22, 3) := by decide +kernel
theorem dL_law_858 : decode cL_law 858 = .ok (.aload_n 3, 1) := by decide +kernel
theorem dL_law_859 : decode cL_law 859 = .ok (.iconst 0, 1) := by decide +kernel
theorem dL_law_860 : decode cL_law 860 = .ok (.laload, 1) := by decide +kernel
theorem dL_law_861 : decode cL_law 861 = .ok (.iload 7, 2) := by decide +kernel
theorem dL_law_863 : decode cL_law 863 = .ok (.ifCond .eq 7, 3) := by decide +kernel
theorem dL_law_866 : decode cL_law 866 = .ok (.lconst 1, 1) := by decide +kernel
theorem dL_law_867 : decode cL_law 867 = .ok (.goto 4, 3) := by decide +kernel
theorem dL_law_870 : decode cL_law 870 = .ok (.lconst 0, 1) := by decide +kernel
theorem dL_law_871 : decode cL_law 871 = .ok (.lcmp, 1) := by decide +kernel
theorem dL_law_872 : decode cL_law 872 = .ok (.ifCond .eq 5, 3) := by decide +kernel
theorem dL_law_875 : decode cL_law 875 = .ok (.iconst 0, 1) := by decide +kernel
theorem dL_law_876 : decode cL_law 876 = .ok (.ireturn, 1) := by decide +kernel
theorem dL_law_877 : decode cL_law 877 = .ok (.goto 2001, 3) := by decide +kernel
theorem dL_law_880 : decode cL_law 880 = .ok (.aload_n 1, 1) := by decide +kernel
theorem dL_law_881 : decode cL_law 881 = .ok (.aload_n 0, 1) := by decide +kernel
theorem dL_law_882 : decode cL_law 882 = .ok (.iload 5, 2) := by decide +kernel
theorem dL_law_884 : decode cL_law 884 = .ok (.iconst 1, 1) := by decide +kernel
theorem dL_law_885 : decode cL_law 885 = .ok (.iadd, 1) := by decide +kernel
theorem dL_law_886 : decode cL_law 886 = .ok (.iaload, 1) := by decide +kernel
theorem dL_law_887 : decode cL_law 887 = .ok (.aload_n 0, 1) := by decide +kernel
theorem dL_law_888 : decode cL_law 888 = .ok (.iload 5, 2) := by decide +kernel
theorem dL_law_890 : decode cL_law 890 = .ok (.iconst 2, 1) := by decide +kernel
theorem dL_law_891 : decode cL_law 891 = .ok (.iadd, 1) := by decide +kernel
theorem dL_law_892 : decode cL_law 892 = .ok (.iaload, 1) := by decide +kernel
theorem dL_law_893 : decode cL_law 893 = .ok (.aload_n 3, 1) := by decide +kernel
theorem dL_law_894 : decode cL_law 894 = .ok (.invokestatic 187, 3) := by decide +kernel
theorem dL_law_897 : decode cL_law 897 = .ok (.istore 6, 2) := by decide +kernel
theorem dL_law_899 : decode cL_law 899 = .ok (.aload_n 2, 1) := by decide +kernel
theorem dL_law_900 : decode cL_law 900 = .ok (.aload_n 0, 1) := by decide +kernel
theorem dL_law_901 : decode cL_law 901 = .ok (.iload 5, 2) := by decide +kernel
theorem dL_law_903 : decode cL_law 903 = .ok (.iconst 1, 1) := by decide +kernel
theorem dL_law_904 : decode cL_law 904 = .ok (.iadd, 1) := by decide +kernel
theorem dL_law_905 : decode cL_law 905 = .ok (.iaload, 1) := by decide +kernel
theorem dL_law_906 : decode cL_law 906 = .ok (.aload_n 0, 1) := by decide +kernel
theorem dL_law_907 : decode cL_law 907 = .ok (.iload 5, 2) := by decide +kernel
theorem dL_law_909 : decode cL_law 909 = .ok (.iconst 2, 1) := by decide +kernel
theorem dL_law_910 : decode cL_law 910 = .ok (.iadd, 1) := by decide +kernel
theorem dL_law_911 : decode cL_law 911 = .ok (.iaload, 1) := by decide +kernel
theorem dL_law_912 : decode cL_law 912 = .ok (.invokevirtual 189, 3) := by decide +kernel
theorem dL_law_915 : decode cL_law 915 = .ok (.istore 7, 2) := by decide +kernel
theorem dL_law_917 : decode cL_law 917 = .ok (.aload_n 2, 1) := by decide +kernel
theorem dL_law_918 : decode cL_law 918 = .ok (.invokevirtual 160, 3) := by decide +kernel
theorem dL_law_921 : decode cL_law 921 = .ok (.iload 6, 2) := by decide +kernel
theorem dL_law_923 : decode cL_law 923 = .ok (.if_icmp .eq 5, 3) := by decide +kernel
theorem dL_law_926 : decode cL_law 926 = .ok (.iconst 0, 1) := by decide +kernel
theorem dL_law_927 : decode cL_law 927 = .ok (.ireturn, 1) := by decide +kernel
theorem dL_law_928 : decode cL_law 928 = .ok (.iload 6, 2) := by decide +kernel
theorem dL_law_930 : decode cL_law 930 = .ok (.ifCond .ne 22, 3) := by decide +kernel
theorem dL_law_933 : decode cL_law 933 = .ok (.aload_n 3, 1) := by decide +kernel
theorem dL_law_934 : decode cL_law 934 = .ok (.iconst 0, 1) := by decide +kernel
theorem dL_law_935 : decode cL_law 935 = .ok (.laload, 1) := by decide +kernel
theorem dL_law_936 : decode cL_law 936 = .ok (.iload 7, 2) := by decide +kernel
theorem dL_law_938 : decode cL_law 938 = .ok (.ifCond .eq 7, 3) := by decide +kernel
theorem dL_law_941 : decode cL_law 941 = .ok (.lconst 1, 1) := by decide +kernel
theorem dL_law_942 : decode cL_law 942 = .ok (.goto 4, 3) := by decide +kernel
theorem dL_law_945 : decode cL_law 945 = .ok (.lconst 0, 1) := by decide +kernel
theorem dL_law_946 : decode cL_law 946 = .ok (.lcmp, 1) := by decide +kernel
theorem dL_law_947 : decode cL_law 947 = .ok (.ifCond .eq 5, 3) := by decide +kernel
theorem dL_law_950 : decode cL_law 950 = .ok (.iconst 0, 1) := by decide +kernel
theorem dL_law_951 : decode cL_law 951 = .ok (.ireturn, 1) := by decide +kernel
theorem dL_law_952 : decode cL_law 952 = .ok (.goto 1926, 3) := by decide +kernel
theorem dL_law_955 : decode cL_law 955 = .ok (.aload_n 1, 1) := by decide +kernel
theorem dL_law_956 : decode cL_law 956 = .ok (.aload_n 0, 1) := by decide +kernel
theorem dL_law_957 : decode cL_law 957 = .ok (.iload 5, 2) := by decide +kernel
theorem dL_law_959 : decode cL_law 959 = .ok (.iconst 1, 1) := by decide +kernel
theorem dL_law_960 : decode cL_law 960 = .ok (.iadd, 1) := by decide +kernel
theorem dL_law_961 : decode cL_law 961 = .ok (.iaload, 1) := by decide +kernel
theorem dL_law_962 : decode cL_law 962 = .ok (.aload_n 0, 1) := by decide +kernel
theorem dL_law_963 : decode cL_law 963 = .ok (.iload 5, 2) := by decide +kernel
theorem dL_law_965 : decode cL_law 965 = .ok (.iconst 2, 1) := by decide +kernel
theorem dL_law_966 : decode cL_law 966 = .ok (.iadd, 1) := by decide +kernel
theorem dL_law_967 : decode cL_law 967 = .ok (.iaload, 1) := by decide +kernel
theorem dL_law_968 : decode cL_law 968 = .ok (.aload_n 3, 1) := by decide +kernel
theorem dL_law_969 : decode cL_law 969 = .ok (.invokestatic 190, 3) := by decide +kernel
theorem dL_law_972 : decode cL_law 972 = .ok (.istore 6, 2) := by decide +kernel
theorem dL_law_974 : decode cL_law 974 = .ok (.aload_n 2, 1) := by decide +kernel
theorem dL_law_975 : decode cL_law 975 = .ok (.aload_n 0, 1) := by decide +kernel
theorem dL_law_976 : decode cL_law 976 = .ok (.iload 5, 2) := by decide +kernel
theorem dL_law_978 : decode cL_law 978 = .ok (.iconst 1, 1) := by decide +kernel
theorem dL_law_979 : decode cL_law 979 = .ok (.iadd, 1) := by decide +kernel
theorem dL_law_980 : decode cL_law 980 = .ok (.iaload, 1) := by decide +kernel
theorem dL_law_981 : decode cL_law 981 = .ok (.aload_n 0, 1) := by decide +kernel
theorem dL_law_982 : decode cL_law 982 = .ok (.iload 5, 2) := by decide +kernel
theorem dL_law_984 : decode cL_law 984 = .ok (.iconst 2, 1) := by decide +kernel
theorem dL_law_985 : decode cL_law 985 = .ok (.iadd, 1) := by decide +kernel
theorem dL_law_986 : decode cL_law 986 = .ok (.iaload, 1) := by decide +kernel
theorem dL_law_987 : decode cL_law 987 = .ok (.invokevirtual 192, 3) := by decide +kernel
theorem dL_law_990 : decode cL_law 990 = .ok (.istore 7, 2) := by decide +kernel
theorem dL_law_992 : decode cL_law 992 = .ok (.aload_n 2, 1) := by decide +kernel
theorem dL_law_993 : decode cL_law 993 = .ok (.invokevirtual 160, 3) := by decide +kernel
theorem dL_law_996 : decode cL_law 996 = .ok (.iload 6, 2) := by decide +kernel
theorem dL_law_998 : decode cL_law 998 = .ok (.if_icmp .eq 5, 3) := by decide +kernel
theorem dL_law_1001 : decode cL_law 1001 = .ok (.iconst 0, 1) := by decide +kernel
theorem dL_law_1002 : decode cL_law 1002 = .ok (.ireturn, 1) := by decide +kernel
theorem dL_law_1003 : decode cL_law 1003 = .ok (.iload 6, 2) := by decide +kernel
theorem dL_law_1005 : decode cL_law 1005 = .ok (.ifCond .ne 15, 3) := by decide +kernel
theorem dL_law_1008 : decode cL_law 1008 = .ok (.aload_n 3, 1) := by decide +kernel
theorem dL_law_1009 : decode cL_law 1009 = .ok (.iconst 0, 1) := by decide +kernel
theorem dL_law_1010 : decode cL_law 1010 = .ok (.laload, 1) := by decide +kernel
theorem dL_law_1011 : decode cL_law 1011 = .ok (.iload 7, 2) := by decide +kernel
theorem dL_law_1013 : decode cL_law 1013 = .ok (.i2l, 1) := by decide +kernel
theorem dL_law_1014 : decode cL_law 1014 = .ok (.lcmp, 1) := by decide +kernel
theorem dL_law_1015 : decode cL_law 1015 = .ok (.ifCond .eq 5, 3) := by decide +kernel
theorem dL_law_1018 : decode cL_law 1018 = .ok (.iconst 0, 1) := by decide +kernel
theorem dL_law_1019 : decode cL_law 1019 = .ok (.ireturn, 1) := by decide +kernel
theorem dL_law_1020 : decode cL_law 1020 = .ok (.goto 1858, 3) := by decide +kernel
theorem dL_law_1023 : decode cL_law 1023 = .ok (.aload_n 1, 1) := by decide +kernel
theorem dL_law_1024 : decode cL_law 1024 = .ok (.aload_n 0, 1) := by decide +kernel
theorem dL_law_1025 : decode cL_law 1025 = .ok (.iload 5, 2) := by decide +kernel
theorem dL_law_1027 : decode cL_law 1027 = .ok (.iconst 1, 1) := by decide +kernel
theorem dL_law_1028 : decode cL_law 1028 = .ok (.iadd, 1) := by decide +kernel
theorem dL_law_1029 : decode cL_law 1029 = .ok (.iaload, 1) := by decide +kernel
theorem dL_law_1030 : decode cL_law 1030 = .ok (.aload_n 0, 1) := by decide +kernel
theorem dL_law_1031 : decode cL_law 1031 = .ok (.iload 5, 2) := by decide +kernel
theorem dL_law_1033 : decode cL_law 1033 = .ok (.iconst 2, 1) := by decide +kernel
theorem dL_law_1034 : decode cL_law 1034 = .ok (.iadd, 1) := by decide +kernel
theorem dL_law_1035 : decode cL_law 1035 = .ok (.iaload, 1) := by decide +kernel
theorem dL_law_1036 : decode cL_law 1036 = .ok (.aload_n 3, 1) := by decide +kernel
theorem dL_law_1037 : decode cL_law 1037 = .ok (.invokestatic 193, 3) := by decide +kernel
theorem dL_law_1040 : decode cL_law 1040 = .ok (.istore 6, 2) := by decide +kernel
theorem dL_law_1042 : decode cL_law 1042 = .ok (.aload_n 2, 1) := by decide +kernel
theorem dL_law_1043 : decode cL_law 1043 = .ok (.aload_n 0, 1) := by decide +kernel
theorem dL_law_1044 : decode cL_law 1044 = .ok (.iload 5, 2) := by decide +kernel
theorem dL_law_1046 : decode cL_law 1046 = .ok (.iconst 1, 1) := by decide +kernel
theorem dL_law_1047 : decode cL_law 1047 = .ok (.iadd, 1) := by decide +kernel
theorem dL_law_1048 : decode cL_law 1048 = .ok (.iaload, 1) := by decide +kernel
theorem dL_law_1049 : decode cL_law 1049 = .ok (.aload_n 0, 1) := by decide +kernel
theorem dL_law_1050 : decode cL_law 1050 = .ok (.iload 5, 2) := by decide +kernel
theorem dL_law_1052 : decode cL_law 1052 = .ok (.iconst 2, 1) := by decide +kernel
theorem dL_law_1053 : decode cL_law 1053 = .ok (.iadd, 1) := by decide +kernel
theorem dL_law_1054 : decode cL_law 1054 = .ok (.iaload, 1) := by decide +kernel
theorem dL_law_1055 : decode cL_law 1055 = .ok (.invokevirtual 195, 3) := by decide +kernel
theorem dL_law_1058 : decode cL_law 1058 = .ok (.istore 7, 2) := by decide +kernel
theorem dL_law_1060 : decode cL_law 1060 = .ok (.aload_n 2, 1) := by decide +kernel
theorem dL_law_1061 : decode cL_law 1061 = .ok (.invokevirtual 160, 3) := by decide +kernel
theorem dL_law_1064 : decode cL_law 1064 = .ok (.iload 6, 2) := by decide +kernel
theorem dL_law_1066 : decode cL_law 1066 = .ok (.if_icmp .eq 5, 3) := by decide +kernel
theorem dL_law_1069 : decode cL_law 1069 = .ok (.iconst 0, 1) := by decide +kernel
theorem dL_law_1070 : decode cL_law 1070 = .ok (.ireturn, 1) := by decide +kernel
theorem dL_law_1071 : decode cL_law 1071 = .ok (.iload 6, 2) := by decide +kernel
theorem dL_law_1073 : decode cL_law 1073 = .ok (.ifCond .ne 15, 3) := by decide +kernel
theorem dL_law_1076 : decode cL_law 1076 = .ok (.aload_n 3, 1) := by decide +kernel
theorem dL_law_1077 : decode cL_law 1077 = .ok (.iconst 0, 1) := by decide +kernel
theorem dL_law_1078 : decode cL_law 1078 = .ok (.laload, 1) := by decide +kernel
theorem dL_law_1079 : decode cL_law 1079 = .ok (.iload 7, 2) := by decide +kernel
theorem dL_law_1081 : decode cL_law 1081 = .ok (.i2l, 1) := by decide +kernel
theorem dL_law_1082 : decode cL_law 1082 = .ok (.lcmp, 1) := by decide +kernel
theorem dL_law_1083 : decode cL_law 1083 = .ok (.ifCond .eq 5, 3) := by decide +kernel
theorem dL_law_1086 : decode cL_law 1086 = .ok (.iconst 0, 1) := by decide +kernel
theorem dL_law_1087 : decode cL_law 1087 = .ok (.ireturn, 1) := by decide +kernel
theorem dL_law_1088 : decode cL_law 1088 = .ok (.goto 1790, 3) := by decide +kernel
theorem dL_law_1091 : decode cL_law 1091 = .ok (.aload_n 1, 1) := by decide +kernel
theorem dL_law_1092 : decode cL_law 1092 = .ok (.aload_n 0, 1) := by decide +kernel
theorem dL_law_1093 : decode cL_law 1093 = .ok (.iload 5, 2) := by decide +kernel
theorem dL_law_1095 : decode cL_law 1095 = .ok (.iconst 1, 1) := by decide +kernel
theorem dL_law_1096 : decode cL_law 1096 = .ok (.iadd, 1) := by decide +kernel
theorem dL_law_1097 : decode cL_law 1097 = .ok (.iaload, 1) := by decide +kernel
theorem dL_law_1098 : decode cL_law 1098 = .ok (.aload_n 0, 1) := by decide +kernel
theorem dL_law_1099 : decode cL_law 1099 = .ok (.iload 5, 2) := by decide +kernel
theorem dL_law_1101 : decode cL_law 1101 = .ok (.iconst 2, 1) := by decide +kernel
theorem dL_law_1102 : decode cL_law 1102 = .ok (.iadd, 1) := by decide +kernel
theorem dL_law_1103 : decode cL_law 1103 = .ok (.iaload, 1) := by decide +kernel
theorem dL_law_1104 : decode cL_law 1104 = .ok (.aload_n 3, 1) := by decide +kernel
theorem dL_law_1105 : decode cL_law 1105 = .ok (.invokestatic 196, 3) := by decide +kernel
theorem dL_law_1108 : decode cL_law 1108 = .ok (.istore 6, 2) := by decide +kernel
theorem dL_law_1110 : decode cL_law 1110 = .ok (.aload_n 2, 1) := by decide +kernel
theorem dL_law_1111 : decode cL_law 1111 = .ok (.aload_n 0, 1) := by decide +kernel
theorem dL_law_1112 : decode cL_law 1112 = .ok (.iload 5, 2) := by decide +kernel
theorem dL_law_1114 : decode cL_law 1114 = .ok (.iconst 1, 1) := by decide +kernel
theorem dL_law_1115 : decode cL_law 1115 = .ok (.iadd, 1) := by decide +kernel
theorem dL_law_1116 : decode cL_law 1116 = .ok (.iaload, 1) := by decide +kernel
theorem dL_law_1117 : decode cL_law 1117 = .ok (.aload_n 0, 1) := by decide +kernel
theorem dL_law_1118 : decode cL_law 1118 = .ok (.iload 5, 2) := by decide +kernel
theorem dL_law_1120 : decode cL_law 1120 = .ok (.iconst 2, 1) := by decide +kernel
theorem dL_law_1121 : decode cL_law 1121 = .ok (.iadd, 1) := by decide +kernel
theorem dL_law_1122 : decode cL_law 1122 = .ok (.iaload, 1) := by decide +kernel
theorem dL_law_1123 : decode cL_law 1123 = .ok (.invokevirtual 198, 3) := by decide +kernel
theorem dL_law_1126 : decode cL_law 1126 = .ok (.istore 7, 2) := by decide +kernel
theorem dL_law_1128 : decode cL_law 1128 = .ok (.aload_n 2, 1) := by decide +kernel
theorem dL_law_1129 : decode cL_law 1129 = .ok (.invokevirtual 160, 3) := by decide +kernel
theorem dL_law_1132 : decode cL_law 1132 = .ok (.iload 6, 2) := by decide +kernel
theorem dL_law_1134 : decode cL_law 1134 = .ok (.if_icmp .eq 5, 3) := by decide +kernel
theorem dL_law_1137 : decode cL_law 1137 = .ok (.iconst 0, 1) := by decide +kernel
theorem dL_law_1138 : decode cL_law 1138 = .ok (.ireturn, 1) := by decide +kernel
theorem dL_law_1139 : decode cL_law 1139 = .ok (.iload 6, 2) := by decide +kernel
theorem dL_law_1141 : decode cL_law 1141 = .ok (.ifCond .ne 15, 3) := by decide +kernel
theorem dL_law_1144 : decode cL_law 1144 = .ok (.aload_n 3, 1) := by decide +kernel
theorem dL_law_1145 : decode cL_law 1145 = .ok (.iconst 0, 1) := by decide +kernel
theorem dL_law_1146 : decode cL_law 1146 = .ok (.laload, 1) := by decide +kernel
theorem dL_law_1147 : decode cL_law 1147 = .ok (.iload 7, 2) := by decide +kernel
theorem dL_law_1149 : decode cL_law 1149 = .ok (.i2l, 1) := by decide +kernel
theorem dL_law_1150 : decode cL_law 1150 = .ok (.lcmp, 1) := by decide +kernel
theorem dL_law_1151 : decode cL_law 1151 = .ok (.ifCond .eq 5, 3) := by decide +kernel
theorem dL_law_1154 : decode cL_law 1154 = .ok (.iconst 0, 1) := by decide +kernel
theorem dL_law_1155 : decode cL_law 1155 = .ok (.ireturn, 1) := by decide +kernel
theorem dL_law_1156 : decode cL_law 1156 = .ok (.goto 1722, 3) := by decide +kernel
theorem dL_law_1159 : decode cL_law 1159 = .ok (.aload_n 1, 1) := by decide +kernel
theorem dL_law_1160 : decode cL_law 1160 = .ok (.aload_n 0, 1) := by decide +kernel
theorem dL_law_1161 : decode cL_law 1161 = .ok (.iload 5, 2) := by decide +kernel
theorem dL_law_1163 : decode cL_law 1163 = .ok (.iconst 1, 1) := by decide +kernel
theorem dL_law_1164 : decode cL_law 1164 = .ok (.iadd, 1) := by decide +kernel
theorem dL_law_1165 : decode cL_law 1165 = .ok (.iaload, 1) := by decide +kernel
theorem dL_law_1166 : decode cL_law 1166 = .ok (.aload_n 0, 1) := by decide +kernel
theorem dL_law_1167 : decode cL_law 1167 = .ok (.iload 5, 2) := by decide +kernel
theorem dL_law_1169 : decode cL_law 1169 = .ok (.iconst 2, 1) := by decide +kernel
theorem dL_law_1170 : decode cL_law 1170 = .ok (.iadd, 1) := by decide +kernel
theorem dL_law_1171 : decode cL_law 1171 = .ok (.iaload, 1) := by decide +kernel
theorem dL_law_1172 : decode cL_law 1172 = .ok (.aload_n 0, 1) := by decide +kernel
theorem dL_law_1173 : decode cL_law 1173 = .ok (.iload 5, 2) := by decide +kernel
theorem dL_law_1175 : decode cL_law 1175 = .ok (.iconst 3, 1) := by decide +kernel
theorem dL_law_1176 : decode cL_law 1176 = .ok (.iadd, 1) := by decide +kernel
theorem dL_law_1177 : decode cL_law 1177 = .ok (.iaload, 1) := by decide +kernel
theorem dL_law_1178 : decode cL_law 1178 = .ok (.i2c, 1) := by decide +kernel
theorem dL_law_1179 : decode cL_law 1179 = .ok (.aload_n 3, 1) := by decide +kernel
theorem dL_law_1180 : decode cL_law 1180 = .ok (.invokestatic 199, 3) := by decide +kernel
theorem dL_law_1183 : decode cL_law 1183 = .ok (.istore 6, 2) := by decide +kernel
theorem dL_law_1185 : decode cL_law 1185 = .ok (.aload_n 2, 1) := by decide +kernel
theorem dL_law_1186 : decode cL_law 1186 = .ok (.aload_n 0, 1) := by decide +kernel
theorem dL_law_1187 : decode cL_law 1187 = .ok (.iload 5, 2) := by decide +kernel
theorem dL_law_1189 : decode cL_law 1189 = .ok (.iconst 1, 1) := by decide +kernel
theorem dL_law_1190 : decode cL_law 1190 = .ok (.iadd, 1) := by decide +kernel
theorem dL_law_1191 : decode cL_law 1191 = .ok (.iaload, 1) := by decide +kernel
theorem dL_law_1192 : decode cL_law 1192 = .ok (.aload_n 0, 1) := by decide +kernel
theorem dL_law_1193 : decode cL_law 1193 = .ok (.iload 5, 2) := by decide +kernel
theorem dL_law_1195 : decode cL_law 1195 = .ok (.iconst 2, 1) := by decide +kernel
theorem dL_law_1196 : decode cL_law 1196 = .ok (.iadd, 1) := by decide +kernel
theorem dL_law_1197 : decode cL_law 1197 = .ok (.iaload, 1) := by decide +kernel
theorem dL_law_1198 : decode cL_law 1198 = .ok (.aload_n 0, 1) := by decide +kernel
theorem dL_law_1199 : decode cL_law 1199 = .ok (.iload 5, 2) := by decide +kernel
theorem dL_law_1201 : decode cL_law 1201 = .ok (.iconst 3, 1) := by decide +kernel
theorem dL_law_1202 : decode cL_law 1202 = .ok (.iadd, 1) := by decide +kernel
theorem dL_law_1203 : decode cL_law 1203 = .ok (.iaload, 1) := by decide +kernel
theorem dL_law_1204 : decode cL_law 1204 = .ok (.i2c, 1) := by decide +kernel
theorem dL_law_1205 : decode cL_law 1205 = .ok (.invokevirtual 201, 3) := by decide +kernel
theorem dL_law_1208 : decode cL_law 1208 = .ok (.istore 7, 2) := by decide +kernel
theorem dL_law_1210 : decode cL_law 1210 = .ok (.aload_n 2, 1) := by decide +kernel
theorem dL_law_1211 : decode cL_law 1211 = .ok (.invokevirtual 160, 3) := by decide +kernel
theorem dL_law_1214 : decode cL_law 1214 = .ok (.iload 6, 2) := by decide +kernel
theorem dL_law_1216 : decode cL_law 1216 = .ok (.if_icmp .eq 5, 3) := by decide +kernel
theorem dL_law_1219 : decode cL_law 1219 = .ok (.iconst 0, 1) := by decide +kernel
theorem dL_law_1220 : decode cL_law 1220 = .ok (.ireturn, 1) := by decide +kernel
theorem dL_law_1221 : decode cL_law 1221 = .ok (.iload 6, 2) := by decide +kernel
theorem dL_law_1223 : decode cL_law 1223 = .ok (.ifCond .ne 15, 3) := by decide +kernel
theorem dL_law_1226 : decode cL_law 1226 = .ok (.aload_n 3, 1) := by decide +kernel
theorem dL_law_1227 : decode cL_law 1227 = .ok (.iconst 0, 1) := by decide +kernel
theorem dL_law_1228 : decode cL_law 1228 = .ok (.laload, 1) := by decide +kernel
theorem dL_law_1229 : decode cL_law 1229 = .ok (.iload 7, 2) := by decide +kernel
theorem dL_law_1231 : decode cL_law 1231 = .ok (.i2l, 1) := by decide +kernel
theorem dL_law_1232 : decode cL_law 1232 = .ok (.lcmp, 1) := by decide +kernel
theorem dL_law_1233 : decode cL_law 1233 = .ok (.ifCond .eq 5, 3) := by decide +kernel
theorem dL_law_1236 : decode cL_law 1236 = .ok (.iconst 0, 1) := by decide +kernel
theorem dL_law_1237 : decode cL_law 1237 = .ok (.ireturn, 1) := by decide +kernel
theorem dL_law_1238 : decode cL_law 1238 = .ok (.goto 1640, 3) := by decide +kernel
theorem dL_law_1241 : decode cL_law 1241 = .ok (.aload_n 1, 1) := by decide +kernel
theorem dL_law_1242 : decode cL_law 1242 = .ok (.aload_n 0, 1) := by decide +kernel
theorem dL_law_1243 : decode cL_law 1243 = .ok (.iload 5, 2) := by decide +kernel
theorem dL_law_1245 : decode cL_law 1245 = .ok (.iconst 1, 1) := by decide +kernel
theorem dL_law_1246 : decode cL_law 1246 = .ok (.iadd, 1) := by decide +kernel
theorem dL_law_1247 : decode cL_law 1247 = .ok (.iaload, 1) := by decide +kernel
theorem dL_law_1248 : decode cL_law 1248 = .ok (.aload_n 0, 1) := by decide +kernel
theorem dL_law_1249 : decode cL_law 1249 = .ok (.iload 5, 2) := by decide +kernel
theorem dL_law_1251 : decode cL_law 1251 = .ok (.iconst 2, 1) := by decide +kernel
theorem dL_law_1252 : decode cL_law 1252 = .ok (.iadd, 1) := by decide +kernel
theorem dL_law_1253 : decode cL_law 1253 = .ok (.iaload, 1) := by decide +kernel
theorem dL_law_1254 : decode cL_law 1254 = .ok (.aload_n 3, 1) := by decide +kernel
theorem dL_law_1255 : decode cL_law 1255 = .ok (.invokestatic 202, 3) := by decide +kernel
theorem dL_law_1258 : decode cL_law 1258 = .ok (.istore 6, 2) := by decide +kernel
theorem dL_law_1260 : decode cL_law 1260 = .ok (.aload_n 2, 1) := by decide +kernel
theorem dL_law_1261 : decode cL_law 1261 = .ok (.aload_n 0, 1) := by decide +kernel
theorem dL_law_1262 : decode cL_law 1262 = .ok (.iload 5, 2) := by decide +kernel
theorem dL_law_1264 : decode cL_law 1264 = .ok (.iconst 1, 1) := by decide +kernel
theorem dL_law_1265 : decode cL_law 1265 = .ok (.iadd, 1) := by decide +kernel
theorem dL_law_1266 : decode cL_law 1266 = .ok (.iaload, 1) := by decide +kernel
theorem dL_law_1267 : decode cL_law 1267 = .ok (.aload_n 0, 1) := by decide +kernel
theorem dL_law_1268 : decode cL_law 1268 = .ok (.iload 5, 2) := by decide +kernel
theorem dL_law_1270 : decode cL_law 1270 = .ok (.iconst 2, 1) := by decide +kernel
theorem dL_law_1271 : decode cL_law 1271 = .ok (.iadd, 1) := by decide +kernel
theorem dL_law_1272 : decode cL_law 1272 = .ok (.iaload, 1) := by decide +kernel
theorem dL_law_1273 : decode cL_law 1273 = .ok (.invokevirtual 204, 3) := by decide +kernel
theorem dL_law_1276 : decode cL_law 1276 = .ok (.istore 7, 2) := by decide +kernel
theorem dL_law_1278 : decode cL_law 1278 = .ok (.aload_n 2, 1) := by decide +kernel
theorem dL_law_1279 : decode cL_law 1279 = .ok (.invokevirtual 160, 3) := by decide +kernel
theorem dL_law_1282 : decode cL_law 1282 = .ok (.iload 6, 2) := by decide +kernel
theorem dL_law_1284 : decode cL_law 1284 = .ok (.if_icmp .eq 5, 3) := by decide +kernel
theorem dL_law_1287 : decode cL_law 1287 = .ok (.iconst 0, 1) := by decide +kernel
theorem dL_law_1288 : decode cL_law 1288 = .ok (.ireturn, 1) := by decide +kernel
theorem dL_law_1289 : decode cL_law 1289 = .ok (.iload 6, 2) := by decide +kernel
theorem dL_law_1291 : decode cL_law 1291 = .ok (.ifCond .ne 15, 3) := by decide +kernel
theorem dL_law_1294 : decode cL_law 1294 = .ok (.aload_n 3, 1) := by decide +kernel
theorem dL_law_1295 : decode cL_law 1295 = .ok (.iconst 0, 1) := by decide +kernel
theorem dL_law_1296 : decode cL_law 1296 = .ok (.laload, 1) := by decide +kernel
theorem dL_law_1297 : decode cL_law 1297 = .ok (.iload 7, 2) := by decide +kernel
theorem dL_law_1299 : decode cL_law 1299 = .ok (.i2l, 1) := by decide +kernel
theorem dL_law_1300 : decode cL_law 1300 = .ok (.lcmp, 1) := by decide +kernel
theorem dL_law_1301 : decode cL_law 1301 = .ok (.ifCond .eq 5, 3) := by decide +kernel
theorem dL_law_1304 : decode cL_law 1304 = .ok (.iconst 0, 1) := by decide +kernel
theorem dL_law_1305 : decode cL_law 1305 = .ok (.ireturn, 1) := by decide +kernel
theorem dL_law_1306 : decode cL_law 1306 = .ok (.goto 1572, 3) := by decide +kernel
theorem dL_law_1309 : decode cL_law 1309 = .ok (.aload_n 1, 1) := by decide +kernel
theorem dL_law_1310 : decode cL_law 1310 = .ok (.invokevirtual 205, 3) := by decide +kernel
theorem dL_law_1313 : decode cL_law 1313 = .ok (.aload_n 2, 1) := by decide +kernel
theorem dL_law_1314 : decode cL_law 1314 = .ok (.invokevirtual 208, 3) := by decide +kernel
theorem dL_law_1317 : decode cL_law 1317 = .ok (.if_icmp .eq 1561, 3) := by decide +kernel
theorem dL_law_1320 : decode cL_law 1320 = .ok (.iconst 0, 1) := by decide +kernel
theorem dL_law_1321 : decode cL_law 1321 = .ok (.ireturn, 1) := by decide +kernel
theorem dL_law_1322 : decode cL_law 1322 = .ok (.aload_n 1, 1) := by decide +kernel
theorem dL_law_1323 : decode cL_law 1323 = .ok (.invokevirtual 209, 3) := by decide +kernel
theorem dL_law_1326 : decode cL_law 1326 = .ok (.aload_n 2, 1) := by decide +kernel
theorem dL_law_1327 : decode cL_law 1327 = .ok (.invokevirtual 212, 3) := by decide +kernel
theorem dL_law_1330 : decode cL_law 1330 = .ok (.if_icmp .eq 1548, 3) := by decide +kernel
theorem dL_law_1333 : decode cL_law 1333 = .ok (.iconst 0, 1) := by decide +kernel
theorem dL_law_1334 : decode cL_law 1334 = .ok (.ireturn, 1) := by decide +kernel
theorem dL_law_1335 : decode cL_law 1335 = .ok (.aload_n 1, 1) := by decide +kernel
theorem dL_law_1336 : decode cL_law 1336 = .ok (.aload_n 0, 1) := by decide +kernel
theorem dL_law_1337 : decode cL_law 1337 = .ok (.iload 5, 2) := by decide +kernel
theorem dL_law_1339 : decode cL_law 1339 = .ok (.iconst 1, 1) := by decide +kernel
theorem dL_law_1340 : decode cL_law 1340 = .ok (.iadd, 1) := by decide +kernel
theorem dL_law_1341 : decode cL_law 1341 = .ok (.iaload, 1) := by decide +kernel
theorem dL_law_1342 : decode cL_law 1342 = .ok (.i2c, 1) := by decide +kernel
theorem dL_law_1343 : decode cL_law 1343 = .ok (.aload_n 3, 1) := by decide +kernel
theorem dL_law_1344 : decode cL_law 1344 = .ok (.invokestatic 213, 3) := by decide +kernel
theorem dL_law_1347 : decode cL_law 1347 = .ok (.istore 6, 2) := by decide +kernel
theorem dL_law_1349 : decode cL_law 1349 = .ok (.aload_n 2, 1) := by decide +kernel
theorem dL_law_1350 : decode cL_law 1350 = .ok (.aload_n 0, 1) := by decide +kernel
theorem dL_law_1351 : decode cL_law 1351 = .ok (.iload 5, 2) := by decide +kernel
theorem dL_law_1353 : decode cL_law 1353 = .ok (.iconst 1, 1) := by decide +kernel
theorem dL_law_1354 : decode cL_law 1354 = .ok (.iadd, 1) := by decide +kernel
theorem dL_law_1355 : decode cL_law 1355 = .ok (.iaload, 1) := by decide +kernel
theorem dL_law_1356 : decode cL_law 1356 = .ok (.i2c, 1) := by decide +kernel
theorem dL_law_1357 : decode cL_law 1357 = .ok (.invokevirtual 215, 3) := by decide +kernel
theorem dL_law_1360 : decode cL_law 1360 = .ok (.istore 7, 2) := by decide +kernel
theorem dL_law_1362 : decode cL_law 1362 = .ok (.aload_n 2, 1) := by decide +kernel
theorem dL_law_1363 : decode cL_law 1363 = .ok (.invokevirtual 160, 3) := by decide +kernel
theorem dL_law_1366 : decode cL_law 1366 = .ok (.iload 6, 2) := by decide +kernel
theorem dL_law_1368 : decode cL_law 1368 = .ok (.if_icmp .eq 5, 3) := by decide +kernel
theorem dL_law_1371 : decode cL_law 1371 = .ok (.iconst 0, 1) := by decide +kernel
theorem dL_law_1372 : decode cL_law 1372 = .ok (.ireturn, 1) := by decide +kernel
theorem dL_law_1373 : decode cL_law 1373 = .ok (.iload 6, 2) := by decide +kernel
theorem dL_law_1375 : decode cL_law 1375 = .ok (.ifCond .ne 15, 3) := by decide +kernel
theorem dL_law_1378 : decode cL_law 1378 = .ok (.aload_n 3, 1) := by decide +kernel
theorem dL_law_1379 : decode cL_law 1379 = .ok (.iconst 0, 1) := by decide +kernel
theorem dL_law_1380 : decode cL_law 1380 = .ok (.laload, 1) := by decide +kernel
theorem dL_law_1381 : decode cL_law 1381 = .ok (.iload 7, 2) := by decide +kernel
theorem dL_law_1383 : decode cL_law 1383 = .ok (.i2l, 1) := by decide +kernel
theorem dL_law_1384 : decode cL_law 1384 = .ok (.lcmp, 1) := by decide +kernel
theorem dL_law_1385 : decode cL_law 1385 = .ok (.ifCond .eq 5, 3) := by decide +kernel
theorem dL_law_1388 : decode cL_law 1388 = .ok (.iconst 0, 1) := by decide +kernel
theorem dL_law_1389 : decode cL_law 1389 = .ok (.ireturn, 1) := by decide +kernel
theorem dL_law_1390 : decode cL_law 1390 = .ok (.goto 1488, 3) := by decide +kernel
theorem dL_law_1393 : decode cL_law 1393 = .ok (.aload_n 1, 1) := by decide +kernel
theorem dL_law_1394 : decode cL_law 1394 = .ok (.invokevirtual 216, 3) := by decide +kernel
theorem dL_law_1397 : decode cL_law 1397 = .ok (.aload_n 2, 1) := by decide +kernel
theorem dL_law_1398 : decode cL_law 1398 = .ok (.invokevirtual 219, 3) := by decide +kernel
theorem dL_law_1401 : decode cL_law 1401 = .ok (.if_icmp .eq 1477, 3) := by decide +kernel
theorem dL_law_1404 : decode cL_law 1404 = .ok (.iconst 0, 1) := by decide +kernel
theorem dL_law_1405 : decode cL_law 1405 = .ok (.ireturn, 1) := by decide +kernel
theorem dL_law_1406 : decode cL_law 1406 = .ok (.aload_n 1, 1) := by decide +kernel
theorem dL_law_1407 : decode cL_law 1407 = .ok (.invokevirtual 220, 3) := by decide +kernel
theorem dL_law_1410 : decode cL_law 1410 = .ok (.aload_n 2, 1) := by decide +kernel
theorem dL_law_1411 : decode cL_law 1411 = .ok (.invokevirtual 223, 3) := by decide +kernel
theorem dL_law_1414 : decode cL_law 1414 = .ok (.if_icmp .eq 1464, 3) := by decide +kernel
theorem dL_law_1417 : decode cL_law 1417 = .ok (.iconst 0, 1) := by decide +kernel
theorem dL_law_1418 : decode cL_law 1418 = .ok (.ireturn, 1) := by decide +kernel
theorem dL_law_1419 : decode cL_law 1419 = .ok (.aload_n 1, 1) := by decide +kernel
theorem dL_law_1420 : decode cL_law 1420 = .ok (.aload_n 0, 1) := by decide +kernel
theorem dL_law_1421 : decode cL_law 1421 = .ok (.iload 5, 2) := by decide +kernel
theorem dL_law_1423 : decode cL_law 1423 = .ok (.iconst 1, 1) := by decide +kernel
theorem dL_law_1424 : decode cL_law 1424 = .ok (.iadd, 1) := by decide +kernel
theorem dL_law_1425 : decode cL_law 1425 = .ok (.iaload, 1) := by decide +kernel
theorem dL_law_1426 : decode cL_law 1426 = .ok (.aload_n 0, 1) := by decide +kernel
theorem dL_law_1427 : decode cL_law 1427 = .ok (.iload 5, 2) := by decide +kernel
theorem dL_law_1429 : decode cL_law 1429 = .ok (.iconst 2, 1) := by decide +kernel
theorem dL_law_1430 : decode cL_law 1430 = .ok (.iadd, 1) := by decide +kernel
theorem dL_law_1431 : decode cL_law 1431 = .ok (.iaload, 1) := by decide +kernel
theorem dL_law_1432 : decode cL_law 1432 = .ok (.aload_n 3, 1) := by decide +kernel
theorem dL_law_1433 : decode cL_law 1433 = .ok (.invokestatic 224, 3) := by decide +kernel
theorem dL_law_1436 : decode cL_law 1436 = .ok (.istore 6, 2) := by decide +kernel
theorem dL_law_1438 : decode cL_law 1438 = .ok (.aload_n 2, 1) := by decide +kernel
theorem dL_law_1439 : decode cL_law 1439 = .ok (.aload_n 0, 1) := by decide +kernel
theorem dL_law_1440 : decode cL_law 1440 = .ok (.iload 5, 2) := by decide +kernel
theorem dL_law_1442 : decode cL_law 1442 = .ok (.iconst 1, 1) := by decide +kernel
theorem dL_law_1443 : decode cL_law 1443 = .ok (.iadd, 1) := by decide +kernel
theorem dL_law_1444 : decode cL_law 1444 = .ok (.iaload, 1) := by decide +kernel
theorem dL_law_1445 : decode cL_law 1445 = .ok (.aload_n 0, 1) := by decide +kernel
theorem dL_law_1446 : decode cL_law 1446 = .ok (.iload 5, 2) := by decide +kernel
theorem dL_law_1448 : decode cL_law 1448 = .ok (.iconst 2, 1) := by decide +kernel
theorem dL_law_1449 : decode cL_law 1449 = .ok (.iadd, 1) := by decide +kernel
theorem dL_law_1450 : decode cL_law 1450 = .ok (.iaload, 1) := by decide +kernel
theorem dL_law_1451 : decode cL_law 1451 = .ok (.invokevirtual 226, 3) := by decide +kernel
theorem dL_law_1454 : decode cL_law 1454 = .ok (.istore 7, 2) := by decide +kernel
theorem dL_law_1456 : decode cL_law 1456 = .ok (.aload_n 2, 1) := by decide +kernel
theorem dL_law_1457 : decode cL_law 1457 = .ok (.invokevirtual 160, 3) := by decide +kernel
theorem dL_law_1460 : decode cL_law 1460 = .ok (.iload 6, 2) := by decide +kernel
theorem dL_law_1462 : decode cL_law 1462 = .ok (.if_icmp .eq 5, 3) := by decide +kernel
theorem dL_law_1465 : decode cL_law 1465 = .ok (.iconst 0, 1) := by decide +kernel
theorem dL_law_1466 : decode cL_law 1466 = .ok (.ireturn, 1) := by decide +kernel
theorem dL_law_1467 : decode cL_law 1467 = .ok (.iload 6, 2) := by decide +kernel
theorem dL_law_1469 : decode cL_law 1469 = .ok (.ifCond .ne 15, 3) := by decide +kernel
theorem dL_law_1472 : decode cL_law 1472 = .ok (.aload_n 3, 1) := by decide +kernel
theorem dL_law_1473 : decode cL_law 1473 = .ok (.iconst 0, 1) := by decide +kernel
theorem dL_law_1474 : decode cL_law 1474 = .ok (.laload, 1) := by decide +kernel
theorem dL_law_1475 : decode cL_law 1475 = .ok (.iload 7, 2) := by decide +kernel
theorem dL_law_1477 : decode cL_law 1477 = .ok (.i2l, 1) := by decide +kernel
theorem dL_law_1478 : decode cL_law 1478 = .ok (.lcmp, 1) := by decide +kernel
theorem dL_law_1479 : decode cL_law 1479 = .ok (.ifCond .eq 5, 3) := by decide +kernel
theorem dL_law_1482 : decode cL_law 1482 = .ok (.iconst 0, 1) := by decide +kernel
theorem dL_law_1483 : decode cL_law 1483 = .ok (.ireturn, 1) := by decide +kernel
theorem dL_law_1484 : decode cL_law 1484 = .ok (.goto 1394, 3) := by decide +kernel
theorem dL_law_1487 : decode cL_law 1487 = .ok (.aload_n 1, 1) := by decide +kernel
theorem dL_law_1488 : decode cL_law 1488 = .ok (.invokevirtual 227, 3) := by decide +kernel
theorem dL_law_1491 : decode cL_law 1491 = .ok (.aload_n 2, 1) := by decide +kernel
theorem dL_law_1492 : decode cL_law 1492 = .ok (.invokevirtual 230, 3) := by decide +kernel
theorem dL_law_1495 : decode cL_law 1495 = .ok (.if_icmp .eq 1383, 3) := by decide +kernel
theorem dL_law_1498 : decode cL_law 1498 = .ok (.iconst 0, 1) := by decide +kernel
theorem dL_law_1499 : decode cL_law 1499 = .ok (.ireturn, 1) := by decide +kernel
theorem dL_law_1500 : decode cL_law 1500 = .ok (.aload_n 1, 1) := by decide +kernel
theorem dL_law_1501 : decode cL_law 1501 = .ok (.aload_n 0, 1) := by decide +kernel
theorem dL_law_1502 : decode cL_law 1502 = .ok (.iload 5, 2) := by decide +kernel
theorem dL_law_1504 : decode cL_law 1504 = .ok (.iconst 1, 1) := by decide +kernel
theorem dL_law_1505 : decode cL_law 1505 = .ok (.iadd, 1) := by decide +kernel
theorem dL_law_1506 : decode cL_law 1506 = .ok (.iaload, 1) := by decide +kernel
theorem dL_law_1507 : decode cL_law 1507 = .ok (.i2c, 1) := by decide +kernel
theorem dL_law_1508 : decode cL_law 1508 = .ok (.aload_n 3, 1) := by decide +kernel
theorem dL_law_1509 : decode cL_law 1509 = .ok (.invokestatic 231, 3) := by decide +kernel
theorem dL_law_1512 : decode cL_law 1512 = .ok (.istore 6, 2) := by decide +kernel
theorem dL_law_1514 : decode cL_law 1514 = .ok (.aload_n 2, 1) := by decide +kernel
theorem dL_law_1515 : decode cL_law 1515 = .ok (.aload_n 0, 1) := by decide +kernel
theorem dL_law_1516 : decode cL_law 1516 = .ok (.iload 5, 2) := by decide +kernel
theorem dL_law_1518 : decode cL_law 1518 = .ok (.iconst 1, 1) := by decide +kernel
theorem dL_law_1519 : decode cL_law 1519 = .ok (.iadd, 1) := by decide +kernel
theorem dL_law_1520 : decode cL_law 1520 = .ok (.iaload, 1) := by decide +kernel
theorem dL_law_1521 : decode cL_law 1521 = .ok (.i2c, 1) := by decide +kernel
theorem dL_law_1522 : decode cL_law 1522 = .ok (.invokevirtual 233, 3) := by decide +kernel
theorem dL_law_1525 : decode cL_law 1525 = .ok (.istore 7, 2) := by decide +kernel
theorem dL_law_1527 : decode cL_law 1527 = .ok (.aload_n 2, 1) := by decide +kernel
theorem dL_law_1528 : decode cL_law 1528 = .ok (.invokevirtual 160, 3) := by decide +kernel
theorem dL_law_1531 : decode cL_law 1531 = .ok (.iload 6, 2) := by decide +kernel
theorem dL_law_1533 : decode cL_law 1533 = .ok (.if_icmp .eq 5, 3) := by decide +kernel
theorem dL_law_1536 : decode cL_law 1536 = .ok (.iconst 0, 1) := by decide +kernel
theorem dL_law_1537 : decode cL_law 1537 = .ok (.ireturn, 1) := by decide +kernel
theorem dL_law_1538 : decode cL_law 1538 = .ok (.iload 6, 2) := by decide +kernel
theorem dL_law_1540 : decode cL_law 1540 = .ok (.ifCond .ne 15, 3) := by decide +kernel
theorem dL_law_1543 : decode cL_law 1543 = .ok (.aload_n 3, 1) := by decide +kernel
theorem dL_law_1544 : decode cL_law 1544 = .ok (.iconst 0, 1) := by decide +kernel
theorem dL_law_1545 : decode cL_law 1545 = .ok (.laload, 1) := by decide +kernel
theorem dL_law_1546 : decode cL_law 1546 = .ok (.iload 7, 2) := by decide +kernel
theorem dL_law_1548 : decode cL_law 1548 = .ok (.i2l, 1) := by decide +kernel
theorem dL_law_1549 : decode cL_law 1549 = .ok (.lcmp, 1) := by decide +kernel
theorem dL_law_1550 : decode cL_law 1550 = .ok (.ifCond .eq 5, 3) := by decide +kernel
theorem dL_law_1553 : decode cL_law 1553 = .ok (.iconst 0, 1) := by decide +kernel
theorem dL_law_1554 : decode cL_law 1554 = .ok (.ireturn, 1) := by decide +kernel
theorem dL_law_1555 : decode cL_law 1555 = .ok (.goto 1323, 3) := by decide +kernel
theorem dL_law_1558 : decode cL_law 1558 = .ok (.aload_n 1, 1) := by decide +kernel
theorem dL_law_1559 : decode cL_law 1559 = .ok (.aload_n 0, 1) := by decide +kernel
theorem dL_law_1560 : decode cL_law 1560 = .ok (.iload 5, 2) := by decide +kernel
theorem dL_law_1562 : decode cL_law 1562 = .ok (.iconst 1, 1) := by decide +kernel
theorem dL_law_1563 : decode cL_law 1563 = .ok (.iadd, 1) := by decide +kernel
theorem dL_law_1564 : decode cL_law 1564 = .ok (.iaload, 1) := by decide +kernel
theorem dL_law_1565 : decode cL_law 1565 = .ok (.aload_n 0, 1) := by decide +kernel
theorem dL_law_1566 : decode cL_law 1566 = .ok (.iload 5, 2) := by decide +kernel
theorem dL_law_1568 : decode cL_law 1568 = .ok (.iconst 2, 1) := by decide +kernel
theorem dL_law_1569 : decode cL_law 1569 = .ok (.iadd, 1) := by decide +kernel
theorem dL_law_1570 : decode cL_law 1570 = .ok (.iaload, 1) := by decide +kernel
theorem dL_law_1571 : decode cL_law 1571 = .ok (.aload_n 0, 1) := by decide +kernel
theorem dL_law_1572 : decode cL_law 1572 = .ok (.iload 5, 2) := by decide +kernel
theorem dL_law_1574 : decode cL_law 1574 = .ok (.iconst 3, 1) := by decide +kernel
theorem dL_law_1575 : decode cL_law 1575 = .ok (.iadd, 1) := by decide +kernel
theorem dL_law_1576 : decode cL_law 1576 = .ok (.iaload, 1) := by decide +kernel
theorem dL_law_1577 : decode cL_law 1577 = .ok (.aload_n 0, 1) := by decide +kernel
theorem dL_law_1578 : decode cL_law 1578 = .ok (.iload 5, 2) := by decide +kernel
theorem dL_law_1580 : decode cL_law 1580 = .ok (.iconst 4, 1) := by decide +kernel
theorem dL_law_1581 : decode cL_law 1581 = .ok (.iadd, 1) := by decide +kernel
theorem dL_law_1582 : decode cL_law 1582 = .ok (.iaload, 1) := by decide +kernel
theorem dL_law_1583 : decode cL_law 1583 = .ok (.aload_n 3, 1) := by decide +kernel
theorem dL_law_1584 : decode cL_law 1584 = .ok (.invokestatic 234, 3) := by decide +kernel
theorem dL_law_1587 : decode cL_law 1587 = .ok (.istore 6, 2) := by decide +kernel
theorem dL_law_1589 : decode cL_law 1589 = .ok (.aload_n 2, 1) := by decide +kernel
theorem dL_law_1590 : decode cL_law 1590 = .ok (.aload_n 0, 1) := by decide +kernel
theorem dL_law_1591 : decode cL_law 1591 = .ok (.iload 5, 2) := by decide +kernel
theorem dL_law_1593 : decode cL_law 1593 = .ok (.iconst 1, 1) := by decide +kernel
theorem dL_law_1594 : decode cL_law 1594 = .ok (.iadd, 1) := by decide +kernel
theorem dL_law_1595 : decode cL_law 1595 = .ok (.iaload, 1) := by decide +kernel
theorem dL_law_1596 : decode cL_law 1596 = .ok (.aload_n 0, 1) := by decide +kernel
theorem dL_law_1597 : decode cL_law 1597 = .ok (.iload 5, 2) := by decide +kernel
theorem dL_law_1599 : decode cL_law 1599 = .ok (.iconst 2, 1) := by decide +kernel
theorem dL_law_1600 : decode cL_law 1600 = .ok (.iadd, 1) := by decide +kernel
theorem dL_law_1601 : decode cL_law 1601 = .ok (.iaload, 1) := by decide +kernel
theorem dL_law_1602 : decode cL_law 1602 = .ok (.aload_n 0, 1) := by decide +kernel
theorem dL_law_1603 : decode cL_law 1603 = .ok (.iload 5, 2) := by decide +kernel
theorem dL_law_1605 : decode cL_law 1605 = .ok (.iconst 3, 1) := by decide +kernel
theorem dL_law_1606 : decode cL_law 1606 = .ok (.iadd, 1) := by decide +kernel
theorem dL_law_1607 : decode cL_law 1607 = .ok (.iaload, 1) := by decide +kernel
theorem dL_law_1608 : decode cL_law 1608 = .ok (.aload_n 0, 1) := by decide +kernel
theorem dL_law_1609 : decode cL_law 1609 = .ok (.iload 5, 2) := by decide +kernel
theorem dL_law_1611 : decode cL_law 1611 = .ok (.iconst 4, 1) := by decide +kernel
theorem dL_law_1612 : decode cL_law 1612 = .ok (.iadd, 1) := by decide +kernel
theorem dL_law_1613 : decode cL_law 1613 = .ok (.iaload, 1) := by decide +kernel
theorem dL_law_1614 : decode cL_law 1614 = .ok (.invokevirtual 237, 3) := by decide +kernel
theorem dL_law_1617 : decode cL_law 1617 = .ok (.istore 7, 2) := by decide +kernel
theorem dL_law_1619 : decode cL_law 1619 = .ok (.aload_n 2, 1) := by decide +kernel
theorem dL_law_1620 : decode cL_law 1620 = .ok (.invokevirtual 160, 3) := by decide +kernel
theorem dL_law_1623 : decode cL_law 1623 = .ok (.iload 6, 2) := by decide +kernel
theorem dL_law_1625 : decode cL_law 1625 = .ok (.if_icmp .eq 5, 3) := by decide +kernel
theorem dL_law_1628 : decode cL_law 1628 = .ok (.iconst 0, 1) := by decide +kernel
theorem dL_law_1629 : decode cL_law 1629 = .ok (.ireturn, 1) := by decide +kernel
theorem dL_law_1630 : decode cL_law 1630 = .ok (.iload 6, 2) := by decide +kernel
theorem dL_law_1632 : decode cL_law 1632 = .ok (.ifCond .ne 22, 3) := by decide +kernel
theorem dL_law_1635 : decode cL_law 1635 = .ok (.aload_n 3, 1) := by decide +kernel
theorem dL_law_1636 : decode cL_law 1636 = .ok (.iconst 0, 1) := by decide +kernel
theorem dL_law_1637 : decode cL_law 1637 = .ok (.laload, 1) := by decide +kernel
theorem dL_law_1638 : decode cL_law 1638 = .ok (.iload 7, 2) := by decide +kernel
theorem dL_law_1640 : decode cL_law 1640 = .ok (.ifCond .eq 7, 3) := by decide +kernel
theorem dL_law_1643 : decode cL_law 1643 = .ok (.lconst 1, 1) := by decide +kernel
theorem dL_law_1644 : decode cL_law 1644 = .ok (.goto 4, 3) := by decide +kernel
theorem dL_law_1647 : decode cL_law 1647 = .ok (.lconst 0, 1) := by decide +kernel
theorem dL_law_1648 : decode cL_law 1648 = .ok (.lcmp, 1) := by decide +kernel
theorem dL_law_1649 : decode cL_law 1649 = .ok (.ifCond .eq 5, 3) := by decide +kernel
theorem dL_law_1652 : decode cL_law 1652 = .ok (.iconst 0, 1) := by decide +kernel
theorem dL_law_1653 : decode cL_law 1653 = .ok (.ireturn, 1) := by decide +kernel
theorem dL_law_1654 : decode cL_law 1654 = .ok (.goto 1224, 3) := by decide +kernel
theorem dL_law_1657 : decode cL_law 1657 = .ok (.aload_n 1, 1) := by decide +kernel
theorem dL_law_1658 : decode cL_law 1658 = .ok (.aload_n 0, 1) := by decide +kernel
theorem dL_law_1659 : decode cL_law 1659 = .ok (.iload 5, 2) := by decide +kernel
theorem dL_law_1661 : decode cL_law 1661 = .ok (.iconst 1, 1) := by decide +kernel
theorem dL_law_1662 : decode cL_law 1662 = .ok (.iadd, 1) := by decide +kernel
theorem dL_law_1663 : decode cL_law 1663 = .ok (.iaload, 1) := by decide +kernel
theorem dL_law_1664 : decode cL_law 1664 = .ok (.aload_n 3, 1) := by decide +kernel
theorem dL_law_1665 : decode cL_law 1665 = .ok (.invokestatic 238, 3) := by decide +kernel
theorem dL_law_1668 : decode cL_law 1668 = .ok (.istore 6, 2) := by decide +kernel
theorem dL_law_1670 : decode cL_law 1670 = .ok (.aload_n 2, 1) := by decide +kernel
theorem dL_law_1671 : decode cL_law 1671 = .ok (.aload_n 0, 1) := by decide +kernel
theorem dL_law_1672 : decode cL_law 1672 = .ok (.iload 5, 2) := by decide +kernel
theorem dL_law_1674 : decode cL_law 1674 = .ok (.iconst 1, 1) := by decide +kernel
theorem dL_law_1675 : decode cL_law 1675 = .ok (.iadd, 1) := by decide +kernel
theorem dL_law_1676 : decode cL_law 1676 = .ok (.iaload, 1) := by decide +kernel
theorem dL_law_1677 : decode cL_law 1677 = .ok (.invokevirtual 241, 3) := by decide +kernel
theorem dL_law_1680 : decode cL_law 1680 = .ok (.istore 7, 2) := by decide +kernel
theorem dL_law_1682 : decode cL_law 1682 = .ok (.aload_n 2, 1) := by decide +kernel
theorem dL_law_1683 : decode cL_law 1683 = .ok (.invokevirtual 160, 3) := by decide +kernel
theorem dL_law_1686 : decode cL_law 1686 = .ok (.iload 6, 2) := by decide +kernel
theorem dL_law_1688 : decode cL_law 1688 = .ok (.if_icmp .eq 5, 3) := by decide +kernel
theorem dL_law_1691 : decode cL_law 1691 = .ok (.iconst 0, 1) := by decide +kernel
theorem dL_law_1692 : decode cL_law 1692 = .ok (.ireturn, 1) := by decide +kernel
theorem dL_law_1693 : decode cL_law 1693 = .ok (.iload 6, 2) := by decide +kernel
theorem dL_law_1695 : decode cL_law 1695 = .ok (.ifCond .ne 15, 3) := by decide +kernel
theorem dL_law_1698 : decode cL_law 1698 = .ok (.aload_n 3, 1) := by decide +kernel
theorem dL_law_1699 : decode cL_law 1699 = .ok (.iconst 0, 1) := by decide +kernel
theorem dL_law_1700 : decode cL_law 1700 = .ok (.laload, 1) := by decide +kernel
theorem dL_law_1701 : decode cL_law 1701 = .ok (.iload 7, 2) := by decide +kernel
theorem dL_law_1703 : decode cL_law 1703 = .ok (.i2l, 1) := by decide +kernel
theorem dL_law_1704 : decode cL_law 1704 = .ok (.lcmp, 1) := by decide +kernel
theorem dL_law_1705 : decode cL_law 1705 = .ok (.ifCond .eq 5, 3) := by decide +kernel
theorem dL_law_1708 : decode cL_law 1708 = .ok (.iconst 0, 1) := by decide +kernel
theorem dL_law_1709 : decode cL_law 1709 = .ok (.ireturn, 1) := by decide +kernel
theorem dL_law_1710 : decode cL_law 1710 = .ok (.goto 1168, 3) := by decide +kernel
theorem dL_law_1713 : decode cL_law 1713 = .ok (.aload_n 1, 1) := by decide +kernel
theorem dL_law_1714 : decode cL_law 1714 = .ok (.aload_n 0, 1) := by decide +kernel
theorem dL_law_1715 : decode cL_law 1715 = .ok (.iload 5, 2) := by decide +kernel
theorem dL_law_1717 : decode cL_law 1717 = .ok (.iconst 1, 1) := by decide +kernel
theorem dL_law_1718 : decode cL_law 1718 = .ok (.iadd, 1) := by decide +kernel
theorem dL_law_1719 : decode cL_law 1719 = .ok (.iaload, 1) := by decide +kernel
theorem dL_law_1720 : decode cL_law 1720 = .ok (.aload_n 0, 1) := by decide +kernel
theorem dL_law_1721 : decode cL_law 1721 = .ok (.iload 5, 2) := by decide +kernel
theorem dL_law_1723 : decode cL_law 1723 = .ok (.iconst 2, 1) := by decide +kernel
theorem dL_law_1724 : decode cL_law 1724 = .ok (.iadd, 1) := by decide +kernel
theorem dL_law_1725 : decode cL_law 1725 = .ok (.iaload, 1) := by decide +kernel
theorem dL_law_1726 : decode cL_law 1726 = .ok (.aload_n 3, 1) := by decide +kernel
theorem dL_law_1727 : decode cL_law 1727 = .ok (.invokestatic 242, 3) := by decide +kernel
theorem dL_law_1730 : decode cL_law 1730 = .ok (.istore 6, 2) := by decide +kernel
theorem dL_law_1732 : decode cL_law 1732 = .ok (.aload_n 2, 1) := by decide +kernel
theorem dL_law_1733 : decode cL_law 1733 = .ok (.aload_n 0, 1) := by decide +kernel
theorem dL_law_1734 : decode cL_law 1734 = .ok (.iload 5, 2) := by decide +kernel
theorem dL_law_1736 : decode cL_law 1736 = .ok (.iconst 1, 1) := by decide +kernel
theorem dL_law_1737 : decode cL_law 1737 = .ok (.iadd, 1) := by decide +kernel
theorem dL_law_1738 : decode cL_law 1738 = .ok (.iaload, 1) := by decide +kernel
theorem dL_law_1739 : decode cL_law 1739 = .ok (.aload_n 0, 1) := by decide +kernel
theorem dL_law_1740 : decode cL_law 1740 = .ok (.iload 5, 2) := by decide +kernel
theorem dL_law_1742 : decode cL_law 1742 = .ok (.iconst 2, 1) := by decide +kernel
theorem dL_law_1743 : decode cL_law 1743 = .ok (.iadd, 1) := by decide +kernel
theorem dL_law_1744 : decode cL_law 1744 = .ok (.iaload, 1) := by decide +kernel
theorem dL_law_1745 : decode cL_law 1745 = .ok (.invokevirtual 244, 3) := by decide +kernel
theorem dL_law_1748 : decode cL_law 1748 = .ok (.istore 7, 2) := by decide +kernel
theorem dL_law_1750 : decode cL_law 1750 = .ok (.aload_n 2, 1) := by decide +kernel
theorem dL_law_1751 : decode cL_law 1751 = .ok (.invokevirtual 160, 3) := by decide +kernel
theorem dL_law_1754 : decode cL_law 1754 = .ok (.iload 6, 2) := by decide +kernel
theorem dL_law_1756 : decode cL_law 1756 = .ok (.if_icmp .eq 5, 3) := by decide +kernel
theorem dL_law_1759 : decode cL_law 1759 = .ok (.iconst 0, 1) := by decide +kernel
theorem dL_law_1760 : decode cL_law 1760 = .ok (.ireturn, 1) := by decide +kernel
theorem dL_law_1761 : decode cL_law 1761 = .ok (.iload 6, 2) := by decide +kernel
theorem dL_law_1763 : decode cL_law 1763 = .ok (.ifCond .ne 22, 3) := by decide +kernel
theorem dL_law_1766 : decode cL_law 1766 = .ok (.aload_n 3, 1) := by decide +kernel
theorem dL_law_1767 : decode cL_law 1767 = .ok (.iconst 0, 1) := by decide +kernel
theorem dL_law_1768 : decode cL_law 1768 = .ok (.laload, 1) := by decide +kernel
theorem dL_law_1769 : decode cL_law 1769 = .ok (.iload 7, 2) := by decide +kernel
theorem dL_law_1771 : decode cL_law 1771 = .ok (.ifCond .eq 7, 3) := by decide +kernel
theorem dL_law_1774 : decode cL_law 1774 = .ok (.lconst 1, 1) := by decide +kernel
theorem dL_law_1775 : decode cL_law 1775 = .ok (.goto 4, 3) := by decide +kernel
theorem dL_law_1778 : decode cL_law 1778 = .ok (.lconst 0, 1) := by decide +kernel
theorem dL_law_1779 : decode cL_law 1779 = .ok (.lcmp, 1) := by decide +kernel
theorem dL_law_1780 : decode cL_law 1780 = .ok (.ifCond .eq 5, 3) := by decide +kernel
theorem dL_law_1783 : decode cL_law 1783 = .ok (.iconst 0, 1) := by decide +kernel
theorem dL_law_1784 : decode cL_law 1784 = .ok (.ireturn, 1) := by decide +kernel
theorem dL_law_1785 : decode cL_law 1785 = .ok (.goto 1093, 3) := by decide +kernel
theorem dL_law_1788 : decode cL_law 1788 = .ok (.aload_n 1, 1) := by decide +kernel
theorem dL_law_1789 : decode cL_law 1789 = .ok (.aload_n 0, 1) := by decide +kernel
theorem dL_law_1790 : decode cL_law 1790 = .ok (.iload 5, 2) := by decide +kernel
theorem dL_law_1792 : decode cL_law 1792 = .ok (.iconst 1, 1) := by decide +kernel
theorem dL_law_1793 : decode cL_law 1793 = .ok (.iadd, 1) := by decide +kernel
theorem dL_law_1794 : decode cL_law 1794 = .ok (.iaload, 1) := by decide +kernel
theorem dL_law_1795 : decode cL_law 1795 = .ok (.aload_n 3, 1) := by decide +kernel
theorem dL_law_1796 : decode cL_law 1796 = .ok (.invokestatic 245, 3) := by decide +kernel
theorem dL_law_1799 : decode cL_law 1799 = .ok (.istore 6, 2) := by decide +kernel
theorem dL_law_1801 : decode cL_law 1801 = .ok (.aload_n 2, 1) := by decide +kernel
theorem dL_law_1802 : decode cL_law 1802 = .ok (.aload_n 0, 1) := by decide +kernel
theorem dL_law_1803 : decode cL_law 1803 = .ok (.iload 5, 2) := by decide +kernel
theorem dL_law_1805 : decode cL_law 1805 = .ok (.iconst 1, 1) := by decide +kernel
theorem dL_law_1806 : decode cL_law 1806 = .ok (.iadd, 1) := by decide +kernel
theorem dL_law_1807 : decode cL_law 1807 = .ok (.iaload, 1) := by decide +kernel
theorem dL_law_1808 : decode cL_law 1808 = .ok (.invokevirtual 247, 3) := by decide +kernel
theorem dL_law_1811 : decode cL_law 1811 = .ok (.istore 7, 2) := by decide +kernel
theorem dL_law_1813 : decode cL_law 1813 = .ok (.aload_n 2, 1) := by decide +kernel
theorem dL_law_1814 : decode cL_law 1814 = .ok (.invokevirtual 160, 3) := by decide +kernel
theorem dL_law_1817 : decode cL_law 1817 = .ok (.iload 6, 2) := by decide +kernel
theorem dL_law_1819 : decode cL_law 1819 = .ok (.if_icmp .eq 5, 3) := by decide +kernel
theorem dL_law_1822 : decode cL_law 1822 = .ok (.iconst 0, 1) := by decide +kernel
theorem dL_law_1823 : decode cL_law 1823 = .ok (.ireturn, 1) := by decide +kernel
theorem dL_law_1824 : decode cL_law 1824 = .ok (.iload 6, 2) := by decide +kernel
theorem dL_law_1826 : decode cL_law 1826 = .ok (.ifCond .ne 15, 3) := by decide +kernel
theorem dL_law_1829 : decode cL_law 1829 = .ok (.aload_n 3, 1) := by decide +kernel
theorem dL_law_1830 : decode cL_law 1830 = .ok (.iconst 0, 1) := by decide +kernel
theorem dL_law_1831 : decode cL_law 1831 = .ok (.laload, 1) := by decide +kernel
theorem dL_law_1832 : decode cL_law 1832 = .ok (.iload 7, 2) := by decide +kernel
theorem dL_law_1834 : decode cL_law 1834 = .ok (.i2l, 1) := by decide +kernel
theorem dL_law_1835 : decode cL_law 1835 = .ok (.lcmp, 1) := by decide +kernel
theorem dL_law_1836 : decode cL_law 1836 = .ok (.ifCond .eq 5, 3) := by decide +kernel
theorem dL_law_1839 : decode cL_law 1839 = .ok (.iconst 0, 1) := by decide +kernel
theorem dL_law_1840 : decode cL_law 1840 = .ok (.ireturn, 1) := by decide +kernel
theorem dL_law_1841 : decode cL_law 1841 = .ok (.goto 1037, 3) := by decide +kernel
theorem dL_law_1844 : decode cL_law 1844 = .ok (.aload_n 1, 1) := by decide +kernel
theorem dL_law_1845 : decode cL_law 1845 = .ok (.invokevirtual 248, 3) := by decide +kernel
theorem dL_law_1848 : decode cL_law 1848 = .ok (.aload_n 2, 1) := by decide +kernel
theorem dL_law_1849 : decode cL_law 1849 = .ok (.invokevirtual 252, 3) := by decide +kernel
theorem dL_law_1852 : decode cL_law 1852 = .ok (.if_icmp .eq 1026, 3) := by decide +kernel
theorem dL_law_1855 : decode cL_law 1855 = .ok (.iconst 0, 1) := by decide +kernel
theorem dL_law_1856 : decode cL_law 1856 = .ok (.ireturn, 1) := by decide +kernel
theorem dL_law_1857 : decode cL_law 1857 = .ok (.aload_n 1, 1) := by decide +kernel
theorem dL_law_1858 : decode cL_law 1858 = .ok (.aload_n 3, 1) := by decide +kernel
theorem dL_law_1859 : decode cL_law 1859 = .ok (.invokestatic 253, 3) := by decide +kernel
theorem dL_law_1862 : decode cL_law 1862 = .ok (.istore 6, 2) := by decide +kernel
theorem dL_law_1864 : decode cL_law 1864 = .ok (.aload_n 2, 1) := by decide +kernel
theorem dL_law_1865 : decode cL_law 1865 = .ok (.invokevirtual 256, 3) := by decide +kernel
theorem dL_law_1868 : decode cL_law 1868 = .ok (.istore 7, 2) := by decide +kernel
theorem dL_law_1870 : decode cL_law 1870 = .ok (.aload_n 2, 1) := by decide +kernel
theorem dL_law_1871 : decode cL_law 1871 = .ok (.invokevirtual 160, 3) := by decide +kernel
theorem dL_law_1874 : decode cL_law 1874 = .ok (.iload 6, 2) := by decide +kernel
theorem dL_law_1876 : decode cL_law 1876 = .ok (.if_icmp .eq 5, 3) := by decide +kernel
theorem dL_law_1879 : decode cL_law 1879 = .ok (.iconst 0, 1) := by decide +kernel
theorem dL_law_1880 : decode cL_law 1880 = .ok (.ireturn, 1) := by decide +kernel
theorem dL_law_1881 : decode cL_law 1881 = .ok (.iload 6, 2) := by decide +kernel
theorem dL_law_1883 : decode cL_law 1883 = .ok (.ifCond .ne 15, 3) := by decide +kernel
theorem dL_law_1886 : decode cL_law 1886 = .ok (.aload_n 3, 1) := by decide +kernel
theorem dL_law_1887 : decode cL_law 1887 = .ok (.iconst 0, 1) := by decide +kernel
theorem dL_law_1888 : decode cL_law 1888 = .ok (.laload, 1) := by decide +kernel
theorem dL_law_1889 : decode cL_law 1889 = .ok (.iload 7, 2) := by decide +kernel
theorem dL_law_1891 : decode cL_law 1891 = .ok (.i2l, 1) := by decide +kernel
theorem dL_law_1892 : decode cL_law 1892 = .ok (.lcmp, 1) := by decide +kernel
theorem dL_law_1893 : decode cL_law 1893 = .ok (.ifCond .eq 5, 3) := by decide +kernel
theorem dL_law_1896 : decode cL_law 1896 = .ok (.iconst 0, 1) := by decide +kernel
theorem dL_law_1897 : decode cL_law 1897 = .ok (.ireturn, 1) := by decide +kernel
theorem dL_law_1898 : decode cL_law 1898 = .ok (.goto 980, 3) := by decide +kernel
theorem dL_law_1901 : decode cL_law 1901 = .ok (.aload_n 1, 1) := by decide +kernel
theorem dL_law_1902 : decode cL_law 1902 = .ok (.invokevirtual 257, 3) := by decide +kernel
theorem dL_law_1905 : decode cL_law 1905 = .ok (.aload_n 2, 1) := by decide +kernel
theorem dL_law_1906 : decode cL_law 1906 = .ok (.invokevirtual 261, 3) := by decide +kernel
theorem dL_law_1909 : decode cL_law 1909 = .ok (.if_icmp .eq 969, 3) := by decide +kernel
theorem dL_law_1912 : decode cL_law 1912 = .ok (.iconst 0, 1) := by decide +kernel
theorem dL_law_1913 : decode cL_law 1913 = .ok (.ireturn, 1) := by decide +kernel
theorem dL_law_1914 : decode cL_law 1914 = .ok (.aload_n 1, 1) := by decide +kernel
theorem dL_law_1915 : decode cL_law 1915 = .ok (.aload_n 0, 1) := by decide +kernel
theorem dL_law_1916 : decode cL_law 1916 = .ok (.iload 5, 2) := by decide +kernel
theorem dL_law_1918 : decode cL_law 1918 = .ok (.iconst 1, 1) := by decide +kernel
theorem dL_law_1919 : decode cL_law 1919 = .ok (.iadd, 1) := by decide +kernel
theorem dL_law_1920 : decode cL_law 1920 = .ok (.iaload, 1) := by decide +kernel
theorem dL_law_1921 : decode cL_law 1921 = .ok (.aload_n 3, 1) := by decide +kernel
theorem dL_law_1922 : decode cL_law 1922 = .ok (.invokestatic 262, 3) := by decide +kernel
theorem dL_law_1925 : decode cL_law 1925 = .ok (.istore 6, 2) := by decide +kernel
theorem dL_law_1927 : decode cL_law 1927 = .ok (.aload_n 2, 1) := by decide +kernel
theorem dL_law_1928 : decode cL_law 1928 = .ok (.aload_n 0, 1) := by decide +kernel
theorem dL_law_1929 : decode cL_law 1929 = .ok (.iload 5, 2) := by decide +kernel
theorem dL_law_1931 : decode cL_law 1931 = .ok (.iconst 1, 1) := by decide +kernel
theorem dL_law_1932 : decode cL_law 1932 = .ok (.iadd, 1) := by decide +kernel
theorem dL_law_1933 : decode cL_law 1933 = .ok (.iaload, 1) := by decide +kernel
theorem dL_law_1934 : decode cL_law 1934 = .ok (.invokevirtual 264, 3) := by decide +kernel
theorem dL_law_1937 : decode cL_law 1937 = .ok (.istore 7, 2) := by decide +kernel
theorem dL_law_1939 : decode cL_law 1939 = .ok (.aload_n 2, 1) := by decide +kernel
theorem dL_law_1940 : decode cL_law 1940 = .ok (.invokevirtual 160, 3) := by decide +kernel
theorem dL_law_1943 : decode cL_law 1943 = .ok (.iload 6, 2) := by decide +kernel
theorem dL_law_1945 : decode cL_law 1945 = .ok (.if_icmp .eq 5, 3) := by decide +kernel
theorem dL_law_1948 : decode cL_law 1948 = .ok (.iconst 0, 1) := by decide +kernel
theorem dL_law_1949 : decode cL_law 1949 = .ok (.ireturn, 1) := by decide +kernel
theorem dL_law_1950 : decode cL_law 1950 = .ok (.iload 6, 2) := by decide +kernel
theorem dL_law_1952 : decode cL_law 1952 = .ok (.ifCond .ne 22, 3) := by decide +kernel
theorem dL_law_1955 : decode cL_law 1955 = .ok (.aload_n 3, 1) := by decide +kernel
theorem dL_law_1956 : decode cL_law 1956 = .ok (.iconst 0, 1) := by decide +kernel
theorem dL_law_1957 : decode cL_law 1957 = .ok (.laload, 1) := by decide +kernel
theorem dL_law_1958 : decode cL_law 1958 = .ok (.iload 7, 2) := by decide +kernel
theorem dL_law_1960 : decode cL_law 1960 = .ok (.ifCond .eq 7, 3) := by decide +kernel
theorem dL_law_1963 : decode cL_law 1963 = .ok (.lconst 1, 1) := by decide +kernel
theorem dL_law_1964 : decode cL_law 1964 = .ok (.goto 4, 3) := by decide +kernel
theorem dL_law_1967 : decode cL_law 1967 = .ok (.lconst 0, 1) := by decide +kernel
theorem dL_law_1968 : decode cL_law 1968 = .ok (.lcmp, 1) := by decide +kernel
theorem dL_law_1969 : decode cL_law 1969 = .ok (.ifCond .eq 5, 3) := by decide +kernel
theorem dL_law_1972 : decode cL_law 1972 = .ok (.iconst 0, 1) := by decide +kernel
theorem dL_law_1973 : decode cL_law 1973 = .ok (.ireturn, 1) := by decide +kernel
theorem dL_law_1974 : decode cL_law 1974 = .ok (.goto 904, 3) := by decide +kernel
theorem dL_law_1977 : decode cL_law 1977 = .ok (.aload_n 1, 1) := by decide +kernel
theorem dL_law_1978 : decode cL_law 1978 = .ok (.aload_n 0, 1) := by decide +kernel
theorem dL_law_1979 : decode cL_law 1979 = .ok (.iload 5, 2) := by decide +kernel
theorem dL_law_1981 : decode cL_law 1981 = .ok (.iconst 1, 1) := by decide +kernel
theorem dL_law_1982 : decode cL_law 1982 = .ok (.iadd, 1) := by decide +kernel
theorem dL_law_1983 : decode cL_law 1983 = .ok (.iaload, 1) := by decide +kernel
theorem dL_law_1984 : decode cL_law 1984 = .ok (.aload_n 3, 1) := by decide +kernel
theorem dL_law_1985 : decode cL_law 1985 = .ok (.invokestatic 265, 3) := by decide +kernel
theorem dL_law_1988 : decode cL_law 1988 = .ok (.istore 6, 2) := by decide +kernel
theorem dL_law_1990 : decode cL_law 1990 = .ok (.aload_n 2, 1) := by decide +kernel
theorem dL_law_1991 : decode cL_law 1991 = .ok (.aload_n 0, 1) := by decide +kernel
theorem dL_law_1992 : decode cL_law 1992 = .ok (.iload 5, 2) := by decide +kernel
theorem dL_law_1994 : decode cL_law 1994 = .ok (.iconst 1, 1) := by decide +kernel
theorem dL_law_1995 : decode cL_law 1995 = .ok (.iadd, 1) := by decide +kernel
theorem dL_law_1996 : decode cL_law 1996 = .ok (.iaload, 1) := by decide +kernel
theorem dL_law_1997 : decode cL_law 1997 = .ok (.invokevirtual 267, 3) := by decide +kernel
theorem dL_law_2000 : decode cL_law 2000 = .ok (.istore 7, 2) := by decide +kernel
theorem dL_law_2002 : decode cL_law 2002 = .ok (.aload_n 2, 1) := by decide +kernel
theorem dL_law_2003 : decode cL_law 2003 = .ok (.invokevirtual 160, 3) := by decide +kernel
theorem dL_law_2006 : decode cL_law 2006 = .ok (.iload 6, 2) := by decide +kernel
theorem dL_law_2008 : decode cL_law 2008 = .ok (.if_icmp .eq 5, 3) := by decide +kernel
theorem dL_law_2011 : decode cL_law 2011 = .ok (.iconst 0, 1) := by decide +kernel
theorem dL_law_2012 : decode cL_law 2012 = .ok (.ireturn, 1) := by decide +kernel
theorem dL_law_2013 : decode cL_law 2013 = .ok (.iload 6, 2) := by decide +kernel
theorem dL_law_2015 : decode cL_law 2015 = .ok (.ifCond .ne 22, 3) := by decide +kernel
theorem dL_law_2018 : decode cL_law 2018 = .ok (.aload_n 3, 1) := by decide +kernel
theorem dL_law_2019 : decode cL_law 2019 = .ok (.iconst 0, 1) := by decide +kernel
theorem dL_law_2020 : decode cL_law 2020 = .ok (.laload, 1) := by decide +kernel
theorem dL_law_2021 : decode cL_law 2021 = .ok (.iload 7, 2) := by decide +kernel
theorem dL_law_2023 : decode cL_law 2023 = .ok (.ifCond .eq 7, 3) := by decide +kernel
theorem dL_law_2026 : decode cL_law 2026 = .ok (.lconst 1, 1) := by decide +kernel
theorem dL_law_2027 : decode cL_law 2027 = .ok (.goto 4, 3) := by decide +kernel
theorem dL_law_2030 : decode cL_law 2030 = .ok (.lconst 0, 1) := by decide +kernel
theorem dL_law_2031 : decode cL_law 2031 = .ok (.lcmp, 1) := by decide +kernel
theorem dL_law_2032 : decode cL_law 2032 = .ok (.ifCond .eq 5, 3) := by decide +kernel
theorem dL_law_2035 : decode cL_law 2035 = .ok (.iconst 0, 1) := by decide +kernel
theorem dL_law_2036 : decode cL_law 2036 = .ok (.ireturn, 1) := by decide +kernel
theorem dL_law_2037 : decode cL_law 2037 = .ok (.goto 841, 3) := by decide +kernel
theorem dL_law_2040 : decode cL_law 2040 = .ok (.aload_n 1, 1) := by decide +kernel
theorem dL_law_2041 : decode cL_law 2041 = .ok (.invokevirtual 268, 3) := by decide +kernel
theorem dL_law_2044 : decode cL_law 2044 = .ok (.aload_n 2, 1) := by decide +kernel
theorem dL_law_2045 : decode cL_law 2045 = .ok (.invokevirtual 271, 3) := by decide +kernel
theorem dL_law_2048 : decode cL_law 2048 = .ok (.if_icmp .eq 830, 3) := by decide +kernel
theorem dL_law_2051 : decode cL_law 2051 = .ok (.iconst 0, 1) := by decide +kernel
theorem dL_law_2052 : decode cL_law 2052 = .ok (.ireturn, 1) := by decide +kernel
theorem dL_law_2053 : decode cL_law 2053 = .ok (.aload_n 1, 1) := by decide +kernel
theorem dL_law_2054 : decode cL_law 2054 = .ok (.invokevirtual 272, 3) := by decide +kernel
theorem dL_law_2057 : decode cL_law 2057 = .ok (.aload_n 2, 1) := by decide +kernel
theorem dL_law_2058 : decode cL_law 2058 = .ok (.invokevirtual 275, 3) := by decide +kernel
theorem dL_law_2061 : decode cL_law 2061 = .ok (.if_icmp .eq 817, 3) := by decide +kernel
theorem dL_law_2064 : decode cL_law 2064 = .ok (.iconst 0, 1) := by decide +kernel
theorem dL_law_2065 : decode cL_law 2065 = .ok (.ireturn, 1) := by decide +kernel
theorem dL_law_2066 : decode cL_law 2066 = .ok (.aload_n 1, 1) := by decide +kernel
theorem dL_law_2067 : decode cL_law 2067 = .ok (.invokevirtual 276, 3) := by decide +kernel
theorem dL_law_2070 : decode cL_law 2070 = .ok (.aload_n 2, 1) := by decide +kernel
theorem dL_law_2071 : decode cL_law 2071 = .ok (.invokevirtual 279, 3) := by decide +kernel
theorem dL_law_2074 : decode cL_law 2074 = .ok (.if_icmp .eq 804, 3) := by decide +kernel
theorem dL_law_2077 : decode cL_law 2077 = .ok (.iconst 0, 1) := by decide +kernel
theorem dL_law_2078 : decode cL_law 2078 = .ok (.ireturn, 1) := by decide +kernel
theorem dL_law_2079 : decode cL_law 2079 = .ok (.aload_n 1, 1) := by decide +kernel
theorem dL_law_2080 : decode cL_law 2080 = .ok (.invokevirtual 280, 3) := by decide +kernel
theorem dL_law_2083 : decode cL_law 2083 = .ok (.aload_n 2, 1) := by decide +kernel
theorem dL_law_2084 : decode cL_law 2084 = .ok (.invokevirtual 283, 3) := by decide +kernel
theorem dL_law_2087 : decode cL_law 2087 = .ok (.if_icmp .eq 791, 3) := by decide +kernel
theorem dL_law_2090 : decode cL_law 2090 = .ok (.iconst 0, 1) := by decide +kernel
theorem dL_law_2091 : decode cL_law 2091 = .ok (.ireturn, 1) := by decide +kernel
theorem dL_law_2092 : decode cL_law 2092 = .ok (.aload_n 1, 1) := by decide +kernel
theorem dL_law_2093 : decode cL_law 2093 = .ok (.invokevirtual 284, 3) := by decide +kernel
theorem dL_law_2096 : decode cL_law 2096 = .ok (.aload_n 2, 1) := by decide +kernel
theorem dL_law_2097 : decode cL_law 2097 = .ok (.invokevirtual 287, 3) := by decide +kernel
theorem dL_law_2100 : decode cL_law 2100 = .ok (.if_icmp .eq 778, 3) := by decide +kernel
theorem dL_law_2103 : decode cL_law 2103 = .ok (.iconst 0, 1) := by decide +kernel
theorem dL_law_2104 : decode cL_law 2104 = .ok (.ireturn, 1) := by decide +kernel
theorem dL_law_2105 : decode cL_law 2105 = .ok (.aload_n 1, 1) := by decide +kernel
theorem dL_law_2106 : decode cL_law 2106 = .ok (.invokevirtual 288, 3) := by decide +kernel
theorem dL_law_2109 : decode cL_law 2109 = .ok (.aload_n 2, 1) := by decide +kernel
theorem dL_law_2110 : decode cL_law 2110 = .ok (.invokevirtual 291, 3) := by decide +kernel
theorem dL_law_2113 : decode cL_law 2113 = .ok (.if_icmp .eq 765, 3) := by decide +kernel
theorem dL_law_2116 : decode cL_law 2116 = .ok (.iconst 0, 1) := by decide +kernel
theorem dL_law_2117 : decode cL_law 2117 = .ok (.ireturn, 1) := by decide +kernel
theorem dL_law_2118 : decode cL_law 2118 = .ok (.aload_n 1, 1) := by decide +kernel
theorem dL_law_2119 : decode cL_law 2119 = .ok (.aload_n 0, 1) := by decide +kernel
theorem dL_law_2120 : decode cL_law 2120 = .ok (.iload 5, 2) := by decide +kernel
theorem dL_law_2122 : decode cL_law 2122 = .ok (.iconst 1, 1) := by decide +kernel
theorem dL_law_2123 : decode cL_law 2123 = .ok (.iadd, 1) := by decide +kernel
theorem dL_law_2124 : decode cL_law 2124 = .ok (.iaload, 1) := by decide +kernel
theorem dL_law_2125 : decode cL_law 2125 = .ok (.aload_n 3, 1) := by decide +kernel
theorem dL_law_2126 : decode cL_law 2126 = .ok (.invokestatic 292, 3) := by decide +kernel
theorem dL_law_2129 : decode cL_law 2129 = .ok (.istore 6, 2) := by decide +kernel
theorem dL_law_2131 : decode cL_law 2131 = .ok (.aload_n 2, 1) := by decide +kernel
theorem dL_law_2132 : decode cL_law 2132 = .ok (.aload_n 0, 1) := by decide +kernel
theorem dL_law_2133 : decode cL_law 2133 = .ok (.iload 5, 2) := by decide +kernel
theorem dL_law_2135 : decode cL_law 2135 = .ok (.iconst 1, 1) := by decide +kernel
theorem dL_law_2136 : decode cL_law 2136 = .ok (.iadd, 1) := by decide +kernel
theorem dL_law_2137 : decode cL_law 2137 = .ok (.iaload, 1) := by decide +kernel
theorem dL_law_2138 : decode cL_law 2138 = .ok (.invokevirtual 294, 3) := by decide +kernel
theorem dL_law_2141 : decode cL_law 2141 = .ok (.istore 7, 2) := by decide +kernel
theorem dL_law_2143 : decode cL_law 2143 = .ok (.aload_n 2, 1) := by decide +kernel
theorem dL_law_2144 : decode cL_law 2144 = .ok (.invokevirtual 160, 3) := by decide +kernel
theorem dL_law_2147 : decode cL_law 2147 = .ok (.iload 6, 2) := by decide +kernel
theorem dL_law_2149 : decode cL_law 2149 = .ok (.if_icmp .eq 5, 3) := by decide +kernel
theorem dL_law_2152 : decode cL_law 2152 = .ok (.iconst 0, 1) := by decide +kernel
theorem dL_law_2153 : decode cL_law 2153 = .ok (.ireturn, 1) := by decide +kernel
theorem dL_law_2154 : decode cL_law 2154 = .ok (.iload 6, 2) := by decide +kernel
theorem dL_law_2156 : decode cL_law 2156 = .ok (.ifCond .ne 15, 3) := by decide +kernel
theorem dL_law_2159 : decode cL_law 2159 = .ok (.aload_n 3, 1) := by decide +kernel
theorem dL_law_2160 : decode cL_law 2160 = .ok (.iconst 0, 1) := by decide +kernel
theorem dL_law_2161 : decode cL_law 2161 = .ok (.laload, 1) := by decide +kernel
theorem dL_law_2162 : decode cL_law 2162 = .ok (.iload 7, 2) := by decide +kernel
theorem dL_law_2164 : decode cL_law 2164 = .ok (.i2l, 1) := by decide +kernel
theorem dL_law_2165 : decode cL_law 2165 = .ok (.lcmp, 1) := by decide +kernel
theorem dL_law_2166 : decode cL_law 2166 = .ok (.ifCond .eq 5, 3) := by decide +kernel
theorem dL_law_2169 : decode cL_law 2169 = .ok (.iconst 0, 1) := by decide +kernel
theorem dL_law_2170 : decode cL_law 2170 = .ok (.ireturn, 1) := by decide +kernel
theorem dL_law_2171 : decode cL_law 2171 = .ok (.goto 707, 3) := by decide +kernel
theorem dL_law_2174 : decode cL_law 2174 = .ok (.aload_n 1, 1) := by decide +kernel
theorem dL_law_2175 : decode cL_law 2175 = .ok (.aload_n 0, 1) := by decide +kernel
theorem dL_law_2176 : decode cL_law 2176 = .ok (.iload 5, 2) := by decide +kernel
theorem dL_law_2178 : decode cL_law 2178 = .ok (.iconst 1, 1) := by decide +kernel
theorem dL_law_2179 : decode cL_law 2179 = .ok (.iadd, 1) := by decide +kernel
theorem dL_law_2180 : decode cL_law 2180 = .ok (.iaload, 1) := by decide +kernel
theorem dL_law_2181 : decode cL_law 2181 = .ok (.aload_n 3, 1) := by decide +kernel
theorem dL_law_2182 : decode cL_law 2182 = .ok (.invokestatic 295, 3) := by decide +kernel
theorem dL_law_2185 : decode cL_law 2185 = .ok (.istore 6, 2) := by decide +kernel
theorem dL_law_2187 : decode cL_law 2187 = .ok (.aload_n 2, 1) := by decide +kernel
theorem dL_law_2188 : decode cL_law 2188 = .ok (.aload_n 0, 1) := by decide +kernel
theorem dL_law_2189 : decode cL_law 2189 = .ok (.iload 5, 2) := by decide +kernel
theorem dL_law_2191 : decode cL_law 2191 = .ok (.iconst 1, 1) := by decide +kernel
theorem dL_law_2192 : decode cL_law 2192 = .ok (.iadd, 1) := by decide +kernel
theorem dL_law_2193 : decode cL_law 2193 = .ok (.iaload, 1) := by decide +kernel
theorem dL_law_2194 : decode cL_law 2194 = .ok (.invokevirtual 297, 3) := by decide +kernel
theorem dL_law_2197 : decode cL_law 2197 = .ok (.istore 7, 2) := by decide +kernel
theorem dL_law_2199 : decode cL_law 2199 = .ok (.aload_n 2, 1) := by decide +kernel
theorem dL_law_2200 : decode cL_law 2200 = .ok (.invokevirtual 160, 3) := by decide +kernel
theorem dL_law_2203 : decode cL_law 2203 = .ok (.iload 6, 2) := by decide +kernel
theorem dL_law_2205 : decode cL_law 2205 = .ok (.if_icmp .eq 5, 3) := by decide +kernel
theorem dL_law_2208 : decode cL_law 2208 = .ok (.iconst 0, 1) := by decide +kernel
theorem dL_law_2209 : decode cL_law 2209 = .ok (.ireturn, 1) := by decide +kernel
theorem dL_law_2210 : decode cL_law 2210 = .ok (.iload 6, 2) := by decide +kernel
theorem dL_law_2212 : decode cL_law 2212 = .ok (.ifCond .ne 15, 3) := by decide +kernel
theorem dL_law_2215 : decode cL_law 2215 = .ok (.aload_n 3, 1) := by decide +kernel
theorem dL_law_2216 : decode cL_law 2216 = .ok (.iconst 0, 1) := by decide +kernel
theorem dL_law_2217 : decode cL_law 2217 = .ok (.laload, 1) := by decide +kernel
theorem dL_law_2218 : decode cL_law 2218 = .ok (.iload 7, 2) := by decide +kernel
theorem dL_law_2220 : decode cL_law 2220 = .ok (.i2l, 1) := by decide +kernel
theorem dL_law_2221 : decode cL_law 2221 = .ok (.lcmp, 1) := by decide +kernel
theorem dL_law_2222 : decode cL_law 2222 = .ok (.ifCond .eq 5, 3) := by decide +kernel
theorem dL_law_2225 : decode cL_law 2225 = .ok (.iconst 0, 1) := by decide +kernel
theorem dL_law_2226 : decode cL_law 2226 = .ok (.ireturn, 1) := by decide +kernel
theorem dL_law_2227 : decode cL_law 2227 = .ok (.goto 651, 3) := by decide +kernel
theorem dL_law_2230 : decode cL_law 2230 = .ok (.aload_n 1, 1) := by decide +kernel
theorem dL_law_2231 : decode cL_law 2231 = .ok (.aload 4, 2) := by decide +kernel
theorem dL_law_2233 : decode cL_law 2233 = .ok (.invokestatic 298, 3) := by decide +kernel
theorem dL_law_2236 : decode cL_law 2236 = .ok (.istore 6, 2) := by decide +kernel
theorem dL_law_2238 : decode cL_law 2238 = .ok (.aload_n 2, 1) := by decide +kernel
theorem dL_law_2239 : decode cL_law 2239 = .ok (.invokevirtual 301, 3) := by decide +kernel
theorem dL_law_2242 : decode cL_law 2242 = .ok (.dstore 7, 2) := by decide +kernel
theorem dL_law_2244 : decode cL_law 2244 = .ok (.aload_n 2, 1) := by decide +kernel
theorem dL_law_2245 : decode cL_law 2245 = .ok (.invokevirtual 160, 3) := by decide +kernel
theorem dL_law_2248 : decode cL_law 2248 = .ok (.iload 6, 2) := by decide +kernel
theorem dL_law_2250 : decode cL_law 2250 = .ok (.if_icmp .eq 5, 3) := by decide +kernel
theorem dL_law_2253 : decode cL_law 2253 = .ok (.iconst 0, 1) := by decide +kernel
theorem dL_law_2254 : decode cL_law 2254 = .ok (.ireturn, 1) := by decide +kernel
theorem dL_law_2255 : decode cL_law 2255 = .ok (.iload 6, 2) := by decide +kernel
theorem dL_law_2257 : decode cL_law 2257 = .ok (.ifCond .ne 35, 3) := by decide +kernel
theorem dL_law_2260 : decode cL_law 2260 = .ok (.aload 4, 2) := by decide +kernel
theorem dL_law_2262 : decode cL_law 2262 = .ok (.iconst 0, 1) := by decide +kernel
theorem dL_law_2263 : decode cL_law 2263 = .ok (.daload, 1) := by decide +kernel
theorem dL_law_2264 : decode cL_law 2264 = .ok (.dload 7, 2) := by decide +kernel
theorem dL_law_2266 : decode cL_law 2266 = .ok (.dcmp .l, 1) := by decide +kernel
theorem dL_law_2267 : decode cL_law 2267 = .ok (.ifCond .eq 25, 3) := by decide +kernel
theorem dL_law_2270 : decode cL_law 2270 = .ok (.aload 4, 2) := by decide +kernel
theorem dL_law_2272 : decode cL_law 2272 = .ok (.iconst 0, 1) := by decide +kernel
theorem dL_law_2273 : decode cL_law 2273 = .ok (.daload, 1) := by decide +kernel
theorem dL_law_2274 : decode cL_law 2274 = .ok (.aload 4, 2) := by decide +kernel
theorem dL_law_2276 : decode cL_law 2276 = .ok (.iconst 0, 1) := by decide +kernel
theorem dL_law_2277 : decode cL_law 2277 = .ok (.daload, 1) := by decide +kernel
theorem dL_law_2278 : decode cL_law 2278 = .ok (.dcmp .l, 1) := by decide +kernel
theorem dL_law_2279 : decode cL_law 2279 = .ok (.ifCond .eq 11, 3) := by decide +kernel
theorem dL_law_2282 : decode cL_law 2282 = .ok (.dload 7, 2) := by decide +kernel
theorem dL_law_2284 : decode cL_law 2284 = .ok (.dload 7, 2) := by decide +kernel
theorem dL_law_2286 : decode cL_law 2286 = .ok (.dcmp .l, 1) := by decide +kernel
theorem dL_law_2287 : decode cL_law 2287 = .ok (.ifCond .ne 5, 3) := by decide +kernel
theorem dL_law_2290 : decode cL_law 2290 = .ok (.iconst 0, 1) := by decide +kernel
theorem dL_law_2291 : decode cL_law 2291 = .ok (.ireturn, 1) := by decide +kernel
theorem dL_law_2292 : decode cL_law 2292 = .ok (.goto 586, 3) := by decide +kernel
theorem dL_law_2295 : decode cL_law 2295 = .ok (.aload_n 1, 1) := by decide +kernel
theorem dL_law_2296 : decode cL_law 2296 = .ok (.aload 4, 2) := by decide +kernel
theorem dL_law_2298 : decode cL_law 2298 = .ok (.invokestatic 302, 3) := by decide +kernel
theorem dL_law_2301 : decode cL_law 2301 = .ok (.istore 6, 2) := by decide +kernel
theorem dL_law_2303 : decode cL_law 2303 = .ok (.aload_n 2, 1) := by decide +kernel
theorem dL_law_2304 : decode cL_law 2304 = .ok (.invokevirtual 304, 3) := by decide +kernel
theorem dL_law_2307 : decode cL_law 2307 = .ok (.fstore 7, 2) := by decide +kernel
theorem dL_law_2309 : decode cL_law 2309 = .ok (.aload_n 2, 1) := by decide +kernel
theorem dL_law_2310 : decode cL_law 2310 = .ok (.invokevirtual 160, 3) := by decide +kernel
theorem dL_law_2313 : decode cL_law 2313 = .ok (.iload 6, 2) := by decide +kernel
theorem dL_law_2315 : decode cL_law 2315 = .ok (.if_icmp .eq 5, 3) := by decide +kernel
theorem dL_law_2318 : decode cL_law 2318 = .ok (.iconst 0, 1) := by decide +kernel
theorem dL_law_2319 : decode cL_law 2319 = .ok (.ireturn, 1) := by decide +kernel
theorem dL_law_2320 : decode cL_law 2320 = .ok (.iload 6, 2) := by decide +kernel
theorem dL_law_2322 : decode cL_law 2322 = .ok (.ifCond .ne 36, 3) := by decide +kernel
theorem dL_law_2325 : decode cL_law 2325 = .ok (.aload 4, 2) := by decide +kernel
theorem dL_law_2327 : decode cL_law 2327 = .ok (.iconst 0, 1) := by decide +kernel
theorem dL_law_2328 : decode cL_law 2328 = .ok (.daload, 1) := by decide +kernel
theorem dL_law_2329 : decode cL_law 2329 = .ok (.fload 7, 2) := by decide +kernel
theorem dL_law_2331 : decode cL_law 2331 = .ok (.f2d, 1) := by decide +kernel
theorem dL_law_2332 : decode cL_law 2332 = .ok (.dcmp .l, 1) := by decide +kernel
theorem dL_law_2333 : decode cL_law 2333 = .ok (.ifCond .eq 25, 3) := by decide +kernel
theorem dL_law_2336 : decode cL_law 2336 = .ok (.aload 4, 2) := by decide +kernel
theorem dL_law_2338 : decode cL_law 2338 = .ok (.iconst 0, 1) := by decide +kernel
theorem dL_law_2339 : decode cL_law 2339 = .ok (.daload, 1) := by decide +kernel
theorem dL_law_2340 : decode cL_law 2340 = .ok (.aload 4, 2) := by decide +kernel
theorem dL_law_2342 : decode cL_law 2342 = .ok (.iconst 0, 1) := by decide +kernel
theorem dL_law_2343 : decode cL_law 2343 = .ok (.daload, 1) := by decide +kernel
theorem dL_law_2344 : decode cL_law 2344 = .ok (.dcmp .l, 1) := by decide +kernel
theorem dL_law_2345 : decode cL_law 2345 = .ok (.ifCond .eq 11, 3) := by decide +kernel
theorem dL_law_2348 : decode cL_law 2348 = .ok (.fload 7, 2) := by decide +kernel
theorem dL_law_2350 : decode cL_law 2350 = .ok (.fload 7, 2) := by decide +kernel
theorem dL_law_2352 : decode cL_law 2352 = .ok (.fcmp .l, 1) := by decide +kernel
theorem dL_law_2353 : decode cL_law 2353 = .ok (.ifCond .ne 5, 3) := by decide +kernel
theorem dL_law_2356 : decode cL_law 2356 = .ok (.iconst 0, 1) := by decide +kernel
theorem dL_law_2357 : decode cL_law 2357 = .ok (.ireturn, 1) := by decide +kernel
theorem dL_law_2358 : decode cL_law 2358 = .ok (.goto 520, 3) := by decide +kernel
theorem dL_law_2361 : decode cL_law 2361 = .ok (.aload_n 1, 1) := by decide +kernel
theorem dL_law_2362 : decode cL_law 2362 = .ok (.invokevirtual 305, 3) := by decide +kernel
theorem dL_law_2365 : decode cL_law 2365 = .ok (.aload_n 2, 1) := by decide +kernel
theorem dL_law_2366 : decode cL_law 2366 = .ok (.invokevirtual 308, 3) := by decide +kernel
theorem dL_law_2369 : decode cL_law 2369 = .ok (.if_icmp .eq 509, 3) := by decide +kernel
theorem dL_law_2372 : decode cL_law 2372 = .ok (.iconst 0, 1) := by decide +kernel
theorem dL_law_2373 : decode cL_law 2373 = .ok (.ireturn, 1) := by decide +kernel
theorem dL_law_2374 : decode cL_law 2374 = .ok (.aload_n 1, 1) := by decide +kernel
theorem dL_law_2375 : decode cL_law 2375 = .ok (.aload_n 0, 1) := by decide +kernel
theorem dL_law_2376 : decode cL_law 2376 = .ok (.iload 5, 2) := by decide +kernel
theorem dL_law_2378 : decode cL_law 2378 = .ok (.iconst 1, 1) := by decide +kernel
theorem dL_law_2379 : decode cL_law 2379 = .ok (.iadd, 1) := by decide +kernel
theorem dL_law_2380 : decode cL_law 2380 = .ok (.iaload, 1) := by decide +kernel
theorem dL_law_2381 : decode cL_law 2381 = .ok (.aload_n 3, 1) := by decide +kernel
theorem dL_law_2382 : decode cL_law 2382 = .ok (.invokestatic 309, 3) := by decide +kernel
theorem dL_law_2385 : decode cL_law 2385 = .ok (.istore 6, 2) := by decide +kernel
theorem dL_law_2387 : decode cL_law 2387 = .ok (.aload_n 2, 1) := by decide +kernel
theorem dL_law_2388 : decode cL_law 2388 = .ok (.aload_n 0, 1) := by decide +kernel
theorem dL_law_2389 : decode cL_law 2389 = .ok (.iload 5, 2) := by decide +kernel
theorem dL_law_2391 : decode cL_law 2391 = .ok (.iconst 1, 1) := by decide +kernel
theorem dL_law_2392 : decode cL_law 2392 = .ok (.iadd, 1) := by decide +kernel
theorem dL_law_2393 : decode cL_law 2393 = .ok (.iaload, 1) := by decide +kernel
theorem dL_law_2394 : decode cL_law 2394 = .ok (.invokevirtual 311, 3) := by decide +kernel
theorem dL_law_2397 : decode cL_law 2397 = .ok (.istore 7, 2) := by decide +kernel
theorem dL_law_2399 : decode cL_law 2399 = .ok (.aload_n 2, 1) := by decide +kernel
theorem dL_law_2400 : decode cL_law 2400 = .ok (.invokevirtual 160, 3) := by decide +kernel
theorem dL_law_2403 : decode cL_law 2403 = .ok (.iload 6, 2) := by decide +kernel
theorem dL_law_2405 : decode cL_law 2405 = .ok (.if_icmp .eq 5, 3) := by decide +kernel
theorem dL_law_2408 : decode cL_law 2408 = .ok (.iconst 0, 1) := by decide +kernel
theorem dL_law_2409 : decode cL_law 2409 = .ok (.ireturn, 1) := by decide +kernel
theorem dL_law_2410 : decode cL_law 2410 = .ok (.iload 6, 2) := by decide +kernel
theorem dL_law_2412 : decode cL_law 2412 = .ok (.ifCond .ne 15, 3) := by decide +kernel
theorem dL_law_2415 : decode cL_law 2415 = .ok (.aload_n 3, 1) := by decide +kernel
theorem dL_law_2416 : decode cL_law 2416 = .ok (.iconst 0, 1) := by decide +kernel
theorem dL_law_2417 : decode cL_law 2417 = .ok (.laload, 1) := by decide +kernel
theorem dL_law_2418 : decode cL_law 2418 = .ok (.iload 7, 2) := by decide +kernel
theorem dL_law_2420 : decode cL_law 2420 = .ok (.i2l, 1) := by decide +kernel
theorem dL_law_2421 : decode cL_law 2421 = .ok (.lcmp, 1) := by decide +kernel
theorem dL_law_2422 : decode cL_law 2422 = .ok (.ifCond .eq 5, 3) := by decide +kernel
theorem dL_law_2425 : decode cL_law 2425 = .ok (.iconst 0, 1) := by decide +kernel
theorem dL_law_2426 : decode cL_law 2426 = .ok (.ireturn, 1) := by decide +kernel
theorem dL_law_2427 : decode cL_law 2427 = .ok (.goto 451, 3) := by decide +kernel
theorem dL_law_2430 : decode cL_law 2430 = .ok (.aload_n 1, 1) := by decide +kernel
theorem dL_law_2431 : decode cL_law 2431 = .ok (.invokevirtual 312, 3) := by decide +kernel
theorem dL_law_2434 : decode cL_law 2434 = .ok (.aload_n 2, 1) := by decide +kernel
theorem dL_law_2435 : decode cL_law 2435 = .ok (.invokevirtual 315, 3) := by decide +kernel
theorem dL_law_2438 : decode cL_law 2438 = .ok (.if_icmp .eq 440, 3) := by decide +kernel
theorem dL_law_2441 : decode cL_law 2441 = .ok (.iconst 0, 1) := by decide +kernel
theorem dL_law_2442 : decode cL_law 2442 = .ok (.ireturn, 1) := by decide +kernel
theorem dL_law_2443 : decode cL_law 2443 = .ok (.aload_n 1, 1) := by decide +kernel
theorem dL_law_2444 : decode cL_law 2444 = .ok (.aload_n 0, 1) := by decide +kernel
theorem dL_law_2445 : decode cL_law 2445 = .ok (.iload 5, 2) := by decide +kernel
theorem dL_law_2447 : decode cL_law 2447 = .ok (.iconst 1, 1) := by decide +kernel
theorem dL_law_2448 : decode cL_law 2448 = .ok (.iadd, 1) := by decide +kernel
theorem dL_law_2449 : decode cL_law 2449 = .ok (.iaload, 1) := by decide +kernel
theorem dL_law_2450 : decode cL_law 2450 = .ok (.aload_n 3, 1) := by decide +kernel
theorem dL_law_2451 : decode cL_law 2451 = .ok (.invokestatic 316, 3) := by decide +kernel
theorem dL_law_2454 : decode cL_law 2454 = .ok (.istore 6, 2) := by decide +kernel
theorem dL_law_2456 : decode cL_law 2456 = .ok (.aload_n 2, 1) := by decide +kernel
theorem dL_law_2457 : decode cL_law 2457 = .ok (.aload_n 0, 1) := by decide +kernel
theorem dL_law_2458 : decode cL_law 2458 = .ok (.iload 5, 2) := by decide +kernel
theorem dL_law_2460 : decode cL_law 2460 = .ok (.iconst 1, 1) := by decide +kernel
theorem dL_law_2461 : decode cL_law 2461 = .ok (.iadd, 1) := by decide +kernel
theorem dL_law_2462 : decode cL_law 2462 = .ok (.iaload, 1) := by decide +kernel
theorem dL_law_2463 : decode cL_law 2463 = .ok (.invokevirtual 318, 3) := by decide +kernel
theorem dL_law_2466 : decode cL_law 2466 = .ok (.istore 7, 2) := by decide +kernel
theorem dL_law_2468 : decode cL_law 2468 = .ok (.aload_n 2, 1) := by decide +kernel
theorem dL_law_2469 : decode cL_law 2469 = .ok (.invokevirtual 160, 3) := by decide +kernel
theorem dL_law_2472 : decode cL_law 2472 = .ok (.iload 6, 2) := by decide +kernel
theorem dL_law_2474 : decode cL_law 2474 = .ok (.if_icmp .eq 5, 3) := by decide +kernel
theorem dL_law_2477 : decode cL_law 2477 = .ok (.iconst 0, 1) := by decide +kernel
theorem dL_law_2478 : decode cL_law 2478 = .ok (.ireturn, 1) := by decide +kernel
theorem dL_law_2479 : decode cL_law 2479 = .ok (.iload 6, 2) := by decide +kernel
theorem dL_law_2481 : decode cL_law 2481 = .ok (.ifCond .ne 15, 3) := by decide +kernel
theorem dL_law_2484 : decode cL_law 2484 = .ok (.aload_n 3, 1) := by decide +kernel
theorem dL_law_2485 : decode cL_law 2485 = .ok (.iconst 0, 1) := by decide +kernel
theorem dL_law_2486 : decode cL_law 2486 = .ok (.laload, 1) := by decide +kernel
theorem dL_law_2487 : decode cL_law 2487 = .ok (.iload 7, 2) := by decide +kernel
theorem dL_law_2489 : decode cL_law 2489 = .ok (.i2l, 1) := by decide +kernel
theorem dL_law_2490 : decode cL_law 2490 = .ok (.lcmp, 1) := by decide +kernel
theorem dL_law_2491 : decode cL_law 2491 = .ok (.ifCond .eq 5, 3) := by decide +kernel
theorem dL_law_2494 : decode cL_law 2494 = .ok (.iconst 0, 1) := by decide +kernel
theorem dL_law_2495 : decode cL_law 2495 = .ok (.ireturn, 1) := by decide +kernel
theorem dL_law_2496 : decode cL_law 2496 = .ok (.goto 382, 3) := by decide +kernel
theorem dL_law_2499 : decode cL_law 2499 = .ok (.aload_n 1, 1) := by decide +kernel
theorem dL_law_2500 : decode cL_law 2500 = .ok (.aload_n 0, 1) := by decide +kernel
theorem dL_law_2501 : decode cL_law 2501 = .ok (.iload 5, 2) := by decide +kernel
theorem dL_law_2503 : decode cL_law 2503 = .ok (.iconst 1, 1) := by decide +kernel
theorem dL_law_2504 : decode cL_law 2504 = .ok (.iadd, 1) := by decide +kernel
theorem dL_law_2505 : decode cL_law 2505 = .ok (.iaload, 1) := by decide +kernel
theorem dL_law_2506 : decode cL_law 2506 = .ok (.i2c, 1) := by decide +kernel
theorem dL_law_2507 : decode cL_law 2507 = .ok (.aload_n 3, 1) := by decide +kernel
theorem dL_law_2508 : decode cL_law 2508 = .ok (.invokestatic 319, 3) := by decide +kernel
theorem dL_law_2511 : decode cL_law 2511 = .ok (.istore 6, 2) := by decide +kernel
theorem dL_law_2513 : decode cL_law 2513 = .ok (.aload_n 2, 1) := by decide +kernel
theorem dL_law_2514 : decode cL_law 2514 = .ok (.aload_n 0, 1) := by decide +kernel
theorem dL_law_2515 : decode cL_law 2515 = .ok (.iload 5, 2) := by decide +kernel
theorem dL_law_2517 : decode cL_law 2517 = .ok (.iconst 1, 1) := by decide +kernel
theorem dL_law_2518 : decode cL_law 2518 = .ok (.iadd, 1) := by decide +kernel
theorem dL_law_2519 : decode cL_law 2519 = .ok (.iaload, 1) := by decide +kernel
theorem dL_law_2520 : decode cL_law 2520 = .ok (.i2c, 1) := by decide +kernel
theorem dL_law_2521 : decode cL_law 2521 = .ok (.invokevirtual 321, 3) := by decide +kernel
theorem dL_law_2524 : decode cL_law 2524 = .ok (.istore 7, 2) := by decide +kernel
theorem dL_law_2526 : decode cL_law 2526 = .ok (.aload_n 2, 1) := by decide +kernel
theorem dL_law_2527 : decode cL_law 2527 = .ok (.invokevirtual 160, 3) := by decide +kernel
theorem dL_law_2530 : decode cL_law 2530 = .ok (.iload 6, 2) := by decide +kernel
theorem dL_law_2532 : decode cL_law 2532 = .ok (.if_icmp .eq 5, 3) := by decide +kernel
theorem dL_law_2535 : decode cL_law 2535 = .ok (.iconst 0, 1) := by decide +kernel
theorem dL_law_2536 : decode cL_law 2536 = .ok (.ireturn, 1) := by decide +kernel
theorem dL_law_2537 : decode cL_law 2537 = .ok (.iload 6, 2) := by decide +kernel
theorem dL_law_2539 : decode cL_law 2539 = .ok (.ifCond .ne 15, 3) := by decide +kernel
theorem dL_law_2542 : decode cL_law 2542 = .ok (.aload_n 3, 1) := by decide +kernel
theorem dL_law_2543 : decode cL_law 2543 = .ok (.iconst 0, 1) := by decide +kernel
theorem dL_law_2544 : decode cL_law 2544 = .ok (.laload, 1) := by decide +kernel
theorem dL_law_2545 : decode cL_law 2545 = .ok (.iload 7, 2) := by decide +kernel
theorem dL_law_2547 : decode cL_law 2547 = .ok (.i2l, 1) := by decide +kernel
theorem dL_law_2548 : decode cL_law 2548 = .ok (.lcmp, 1) := by decide +kernel
theorem dL_law_2549 : decode cL_law 2549 = .ok (.ifCond .eq 5, 3) := by decide +kernel
theorem dL_law_2552 : decode cL_law 2552 = .ok (.iconst 0, 1) := by decide +kernel
theorem dL_law_2553 : decode cL_law 2553 = .ok (.ireturn, 1) := by decide +kernel
theorem dL_law_2554 : decode cL_law 2554 = .ok (.goto 324, 3) := by decide +kernel
theorem dL_law_2557 : decode cL_law 2557 = .ok (.aload_n 1, 1) := by decide +kernel
theorem dL_law_2558 : decode cL_law 2558 = .ok (.aload_n 3, 1) := by decide +kernel
theorem dL_law_2559 : decode cL_law 2559 = .ok (.invokestatic 322, 3) := by decide +kernel
theorem dL_law_2562 : decode cL_law 2562 = .ok (.istore 6, 2) := by decide +kernel
theorem dL_law_2564 : decode cL_law 2564 = .ok (.aload_n 2, 1) := by decide +kernel
theorem dL_law_2565 : decode cL_law 2565 = .ok (.invokevirtual 324, 3) := by decide +kernel
theorem dL_law_2568 : decode cL_law 2568 = .ok (.istore 7, 2) := by decide +kernel
theorem dL_law_2570 : decode cL_law 2570 = .ok (.aload_n 2, 1) := by decide +kernel
theorem dL_law_2571 : decode cL_law 2571 = .ok (.invokevirtual 160, 3) := by decide +kernel
theorem dL_law_2574 : decode cL_law 2574 = .ok (.iload 6, 2) := by decide +kernel
theorem dL_law_2576 : decode cL_law 2576 = .ok (.if_icmp .eq 5, 3) := by decide +kernel
theorem dL_law_2579 : decode cL_law 2579 = .ok (.iconst 0, 1) := by decide +kernel
theorem dL_law_2580 : decode cL_law 2580 = .ok (.ireturn, 1) := by decide +kernel
theorem dL_law_2581 : decode cL_law 2581 = .ok (.iload 6, 2) := by decide +kernel
theorem dL_law_2583 : decode cL_law 2583 = .ok (.ifCond .ne 15, 3) := by decide +kernel
theorem dL_law_2586 : decode cL_law 2586 = .ok (.aload_n 3, 1) := by decide +kernel
theorem dL_law_2587 : decode cL_law 2587 = .ok (.iconst 0, 1) := by decide +kernel
theorem dL_law_2588 : decode cL_law 2588 = .ok (.laload, 1) := by decide +kernel
theorem dL_law_2589 : decode cL_law 2589 = .ok (.iload 7, 2) := by decide +kernel
theorem dL_law_2591 : decode cL_law 2591 = .ok (.i2l, 1) := by decide +kernel
theorem dL_law_2592 : decode cL_law 2592 = .ok (.lcmp, 1) := by decide +kernel
theorem dL_law_2593 : decode cL_law 2593 = .ok (.ifCond .eq 5, 3) := by decide +kernel
theorem dL_law_2596 : decode cL_law 2596 = .ok (.iconst 0, 1) := by decide +kernel
theorem dL_law_2597 : decode cL_law 2597 = .ok (.ireturn, 1) := by decide +kernel
theorem dL_law_2598 : decode cL_law 2598 = .ok (.goto 280, 3) := by decide +kernel
theorem dL_law_2601 : decode cL_law 2601 = .ok (.aload_n 1, 1) := by decide +kernel
theorem dL_law_2602 : decode cL_law 2602 = .ok (.aload_n 3, 1) := by decide +kernel
theorem dL_law_2603 : decode cL_law 2603 = .ok (.invokestatic 325, 3) := by decide +kernel
theorem dL_law_2606 : decode cL_law 2606 = .ok (.istore 6, 2) := by decide +kernel
theorem dL_law_2608 : decode cL_law 2608 = .ok (.aload_n 2, 1) := by decide +kernel
theorem dL_law_2609 : decode cL_law 2609 = .ok (.invokevirtual 327, 3) := by decide +kernel
theorem dL_law_2612 : decode cL_law 2612 = .ok (.istore 7, 2) := by decide +kernel
theorem dL_law_2614 : decode cL_law 2614 = .ok (.aload_n 2, 1) := by decide +kernel
theorem dL_law_2615 : decode cL_law 2615 = .ok (.invokevirtual 160, 3) := by decide +kernel
theorem dL_law_2618 : decode cL_law 2618 = .ok (.iload 6, 2) := by decide +kernel
theorem dL_law_2620 : decode cL_law 2620 = .ok (.if_icmp .eq 5, 3) := by decide +kernel
theorem dL_law_2623 : decode cL_law 2623 = .ok (.iconst 0, 1) := by decide +kernel
theorem dL_law_2624 : decode cL_law 2624 = .ok (.ireturn, 1) := by decide +kernel
theorem dL_law_2625 : decode cL_law 2625 = .ok (.iload 6, 2) := by decide +kernel
theorem dL_law_2627 : decode cL_law 2627 = .ok (.ifCond .ne 15, 3) := by decide +kernel
theorem dL_law_2630 : decode cL_law 2630 = .ok (.aload_n 3, 1) := by decide +kernel
theorem dL_law_2631 : decode cL_law 2631 = .ok (.iconst 0, 1) := by decide +kernel
theorem dL_law_2632 : decode cL_law 2632 = .ok (.laload, 1) := by decide +kernel
theorem dL_law_2633 : decode cL_law 2633 = .ok (.iload 7, 2) := by decide +kernel
theorem dL_law_2635 : decode cL_law 2635 = .ok (.i2l, 1) := by decide +kernel
theorem dL_law_2636 : decode cL_law 2636 = .ok (.lcmp, 1) := by decide +kernel
theorem dL_law_2637 : decode cL_law 2637 = .ok (.ifCond .eq 5, 3) := by decide +kernel
theorem dL_law_2640 : decode cL_law 2640 = .ok (.iconst 0, 1) := by decide +kernel
theorem dL_law_2641 : decode cL_law 2641 = .ok (.ireturn, 1) := by decide +kernel
theorem dL_law_2642 : decode cL_law 2642 = .ok (.goto 236, 3) := by decide +kernel
theorem dL_law_2645 : decode cL_law 2645 = .ok (.aload_n 1, 1) := by decide +kernel
theorem dL_law_2646 : decode cL_law 2646 = .ok (.aload_n 3, 1) := by decide +kernel
theorem dL_law_2647 : decode cL_law 2647 = .ok (.invokestatic 328, 3) := by decide +kernel
theorem dL_law_2650 : decode cL_law 2650 = .ok (.istore 6, 2) := by decide +kernel
theorem dL_law_2652 : decode cL_law 2652 = .ok (.aload_n 2, 1) := by decide +kernel
theorem dL_law_2653 : decode cL_law 2653 = .ok (.invokevirtual 330, 3) := by decide +kernel
theorem dL_law_2656 : decode cL_law 2656 = .ok (.istore 7, 2) := by decide +kernel
theorem dL_law_2658 : decode cL_law 2658 = .ok (.aload_n 2, 1) := by decide +kernel
theorem dL_law_2659 : decode cL_law 2659 = .ok (.invokevirtual 160, 3) := by decide +kernel
theorem dL_law_2662 : decode cL_law 2662 = .ok (.iload 6, 2) := by decide +kernel
theorem dL_law_2664 : decode cL_law 2664 = .ok (.if_icmp .eq 5, 3) := by decide +kernel
theorem dL_law_2667 : decode cL_law 2667 = .ok (.iconst 0, 1) := by decide +kernel
theorem dL_law_2668 : decode cL_law 2668 = .ok (.ireturn, 1) := by decide +kernel
theorem dL_law_2669 : decode cL_law 2669 = .ok (.iload 6, 2) := by decide +kernel
theorem dL_law_2671 : decode cL_law 2671 = .ok (.ifCond .ne 15, 3) := by decide +kernel
theorem dL_law_2674 : decode cL_law 2674 = .ok (.aload_n 3, 1) := by decide +kernel
theorem dL_law_2675 : decode cL_law 2675 = .ok (.iconst 0, 1) := by decide +kernel
theorem dL_law_2676 : decode cL_law 2676 = .ok (.laload, 1) := by decide +kernel
theorem dL_law_2677 : decode cL_law 2677 = .ok (.iload 7, 2) := by decide +kernel
theorem dL_law_2679 : decode cL_law 2679 = .ok (.i2l, 1) := by decide +kernel
theorem dL_law_2680 : decode cL_law 2680 = .ok (.lcmp, 1) := by decide +kernel
theorem dL_law_2681 : decode cL_law 2681 = .ok (.ifCond .eq 5, 3) := by decide +kernel
theorem dL_law_2684 : decode cL_law 2684 = .ok (.iconst 0, 1) := by decide +kernel
theorem dL_law_2685 : decode cL_law 2685 = .ok (.ireturn, 1) := by decide +kernel
theorem dL_law_2686 : decode cL_law 2686 = .ok (.goto 192, 3) := by decide +kernel
theorem dL_law_2689 : decode cL_law 2689 = .ok (.aload_n 1, 1) := by decide +kernel
theorem dL_law_2690 : decode cL_law 2690 = .ok (.aload_n 3, 1) := by decide +kernel
theorem dL_law_2691 : decode cL_law 2691 = .ok (.invokestatic 331, 3) := by decide +kernel
theorem dL_law_2694 : decode cL_law 2694 = .ok (.istore 6, 2) := by decide +kernel
theorem dL_law_2696 : decode cL_law 2696 = .ok (.aload_n 2, 1) := by decide +kernel
theorem dL_law_2697 : decode cL_law 2697 = .ok (.invokevirtual 333, 3) := by decide +kernel
theorem dL_law_2700 : decode cL_law 2700 = .ok (.istore 7, 2) := by decide +kernel
theorem dL_law_2702 : decode cL_law 2702 = .ok (.aload_n 2, 1) := by decide +kernel
theorem dL_law_2703 : decode cL_law 2703 = .ok (.invokevirtual 160, 3) := by decide +kernel
theorem dL_law_2706 : decode cL_law 2706 = .ok (.iload 6, 2) := by decide +kernel
theorem dL_law_2708 : decode cL_law 2708 = .ok (.if_icmp .eq 5, 3) := by decide +kernel
theorem dL_law_2711 : decode cL_law 2711 = .ok (.iconst 0, 1) := by decide +kernel
theorem dL_law_2712 : decode cL_law 2712 = .ok (.ireturn, 1) := by decide +kernel
theorem dL_law_2713 : decode cL_law 2713 = .ok (.iload 6, 2) := by decide +kernel
theorem dL_law_2715 : decode cL_law 2715 = .ok (.ifCond .ne 15, 3) := by decide +kernel
theorem dL_law_2718 : decode cL_law 2718 = .ok (.aload_n 3, 1) := by decide +kernel
theorem dL_law_2719 : decode cL_law 2719 = .ok (.iconst 0, 1) := by decide +kernel
theorem dL_law_2720 : decode cL_law 2720 = .ok (.laload, 1) := by decide +kernel
theorem dL_law_2721 : decode cL_law 2721 = .ok (.iload 7, 2) := by decide +kernel
theorem dL_law_2723 : decode cL_law 2723 = .ok (.i2l, 1) := by decide +kernel
theorem dL_law_2724 : decode cL_law 2724 = .ok (.lcmp, 1) := by decide +kernel
theorem dL_law_2725 : decode cL_law 2725 = .ok (.ifCond .eq 5, 3) := by decide +kernel
theorem dL_law_2728 : decode cL_law 2728 = .ok (.iconst 0, 1) := by decide +kernel
theorem dL_law_2729 : decode cL_law 2729 = .ok (.ireturn, 1) := by decide +kernel
theorem dL_law_2730 : decode cL_law 2730 = .ok (.goto 148, 3) := by decide +kernel
theorem dL_law_2733 : decode cL_law 2733 = .ok (.aload_n 1, 1) := by decide +kernel
theorem dL_law_2734 : decode cL_law 2734 = .ok (.aload_n 3, 1) := by decide +kernel
theorem dL_law_2735 : decode cL_law 2735 = .ok (.invokestatic 334, 3) := by decide +kernel
theorem dL_law_2738 : decode cL_law 2738 = .ok (.istore 6, 2) := by decide +kernel
theorem dL_law_2740 : decode cL_law 2740 = .ok (.aload_n 2, 1) := by decide +kernel
theorem dL_law_2741 : decode cL_law 2741 = .ok (.invokevirtual 336, 3) := by decide +kernel
theorem dL_law_2744 : decode cL_law 2744 = .ok (.istore 7, 2) := by decide +kernel
theorem dL_law_2746 : decode cL_law 2746 = .ok (.aload_n 2, 1) := by decide +kernel
theorem dL_law_2747 : decode cL_law 2747 = .ok (.invokevirtual 160, 3) := by decide +kernel
theorem dL_law_2750 : decode cL_law 2750 = .ok (.iload 6, 2) := by decide +kernel
theorem dL_law_2752 : decode cL_law 2752 = .ok (.if_icmp .eq 5, 3) := by decide +kernel
theorem dL_law_2755 : decode cL_law 2755 = .ok (.iconst 0, 1) := by decide +kernel
theorem dL_law_2756 : decode cL_law 2756 = .ok (.ireturn, 1) := by decide +kernel
theorem dL_law_2757 : decode cL_law 2757 = .ok (.iload 6, 2) := by decide +kernel
theorem dL_law_2759 : decode cL_law 2759 = .ok (.ifCond .ne 15, 3) := by decide +kernel
theorem dL_law_2762 : decode cL_law 2762 = .ok (.aload_n 3, 1) := by decide +kernel
theorem dL_law_2763 : decode cL_law 2763 = .ok (.iconst 0, 1) := by decide +kernel
theorem dL_law_2764 : decode cL_law 2764 = .ok (.laload, 1) := by decide +kernel
theorem dL_law_2765 : decode cL_law 2765 = .ok (.iload 7, 2) := by decide +kernel
theorem dL_law_2767 : decode cL_law 2767 = .ok (.i2l, 1) := by decide +kernel
theorem dL_law_2768 : decode cL_law 2768 = .ok (.lcmp, 1) := by decide +kernel
theorem dL_law_2769 : decode cL_law 2769 = .ok (.ifCond .eq 5, 3) := by decide +kernel
theorem dL_law_2772 : decode cL_law 2772 = .ok (.iconst 0, 1) := by decide +kernel
theorem dL_law_2773 : decode cL_law 2773 = .ok (.ireturn, 1) := by decide +kernel
theorem dL_law_2774 : decode cL_law 2774 = .ok (.goto 104, 3) := by decide +kernel
theorem dL_law_2777 : decode cL_law 2777 = .ok (.aload_n 1, 1) := by decide +kernel
theorem dL_law_2778 : decode cL_law 2778 = .ok (.aload_n 3, 1) := by decide +kernel
theorem dL_law_2779 : decode cL_law 2779 = .ok (.invokestatic 337, 3) := by decide +kernel
theorem dL_law_2782 : decode cL_law 2782 = .ok (.istore 6, 2) := by decide +kernel
theorem dL_law_2784 : decode cL_law 2784 = .ok (.aload_n 2, 1) := by decide +kernel
theorem dL_law_2785 : decode cL_law 2785 = .ok (.invokevirtual 339, 3) := by decide +kernel
theorem dL_law_2788 : decode cL_law 2788 = .ok (.istore 7, 2) := by decide +kernel
theorem dL_law_2790 : decode cL_law 2790 = .ok (.aload_n 2, 1) := by decide +kernel
theorem dL_law_2791 : decode cL_law 2791 = .ok (.invokevirtual 160, 3) := by decide +kernel
theorem dL_law_2794 : decode cL_law 2794 = .ok (.iload 6, 2) := by decide +kernel
theorem dL_law_2796 : decode cL_law 2796 = .ok (.if_icmp .eq 5, 3) := by decide +kernel
theorem dL_law_2799 : decode cL_law 2799 = .ok (.iconst 0, 1) := by decide +kernel
theorem dL_law_2800 : decode cL_law 2800 = .ok (.ireturn, 1) := by decide +kernel
theorem dL_law_2801 : decode cL_law 2801 = .ok (.iload 6, 2) := by decide +kernel
theorem dL_law_2803 : decode cL_law 2803 = .ok (.ifCond .ne 15, 3) := by decide +kernel
theorem dL_law_2806 : decode cL_law 2806 = .ok (.aload_n 3, 1) := by decide +kernel
theorem dL_law_2807 : decode cL_law 2807 = .ok (.iconst 0, 1) := by decide +kernel
theorem dL_law_2808 : decode cL_law 2808 = .ok (.laload, 1) := by decide +kernel
theorem dL_law_2809 : decode cL_law 2809 = .ok (.iload 7, 2) := by decide +kernel
theorem dL_law_2811 : decode cL_law 2811 = .ok (.i2l, 1) := by decide +kernel
theorem dL_law_2812 : decode cL_law 2812 = .ok (.lcmp, 1) := by decide +kernel
theorem dL_law_2813 : decode cL_law 2813 = .ok (.ifCond .eq 5, 3) := by decide +kernel
theorem dL_law_2816 : decode cL_law 2816 = .ok (.iconst 0, 1) := by decide +kernel
theorem dL_law_2817 : decode cL_law 2817 = .ok (.ireturn, 1) := by decide +kernel
theorem dL_law_2818 : decode cL_law 2818 = .ok (.goto 60, 3) := by decide +kernel
theorem dL_law_2821 : decode cL_law 2821 = .ok (.aload_n 1, 1) := by decide +kernel
theorem dL_law_2822 : decode cL_law 2822 = .ok (.invokevirtual 340, 3) := by decide +kernel
theorem dL_law_2825 : decode cL_law 2825 = .ok (.aload_n 2, 1) := by decide +kernel
theorem dL_law_2826 : decode cL_law 2826 = .ok (.invokevirtual 343, 3) := by decide +kernel
theorem dL_law_2829 : decode cL_law 2829 = .ok (.if_icmp .eq 49, 3) := by decide +kernel
theorem dL_law_2832 : decode cL_law 2832 = .ok (.iconst 0, 1) := by decide +kernel
theorem dL_law_2833 : decode cL_law 2833 = .ok (.ireturn, 1) := by decide +kernel
theorem dL_law_2834 : decode cL_law 2834 = .ok (.aload_n 1, 1) := by decide +kernel
theorem dL_law_2835 : decode cL_law 2835 = .ok (.aload_n 3, 1) := by decide +kernel
theorem dL_law_2836 : decode cL_law 2836 = .ok (.invokestatic 344, 3) := by decide +kernel
theorem dL_law_2839 : decode cL_law 2839 = .ok (.istore 6, 2) := by decide +kernel
theorem dL_law_2841 : decode cL_law 2841 = .ok (.aload_n 2, 1) := by decide +kernel
theorem dL_law_2842 : decode cL_law 2842 = .ok (.invokevirtual 346, 3) := by decide +kernel
theorem dL_law_2845 : decode cL_law 2845 = .ok (.istore 7, 2) := by decide +kernel
theorem dL_law_2847 : decode cL_law 2847 = .ok (.aload_n 2, 1) := by decide +kernel
theorem dL_law_2848 : decode cL_law 2848 = .ok (.invokevirtual 160, 3) := by decide +kernel
theorem dL_law_2851 : decode cL_law 2851 = .ok (.iload 6, 2) := by decide +kernel
theorem dL_law_2853 : decode cL_law 2853 = .ok (.if_icmp .eq 5, 3) := by decide +kernel
theorem dL_law_2856 : decode cL_law 2856 = .ok (.iconst 0, 1) := by decide +kernel
theorem dL_law_2857 : decode cL_law 2857 = .ok (.ireturn, 1) := by decide +kernel
theorem dL_law_2858 : decode cL_law 2858 = .ok (.iload 6, 2) := by decide +kernel
theorem dL_law_2860 : decode cL_law 2860 = .ok (.ifCond .ne 15, 3) := by decide +kernel
theorem dL_law_2863 : decode cL_law 2863 = .ok (.aload_n 3, 1) := by decide +kernel
theorem dL_law_2864 : decode cL_law 2864 = .ok (.iconst 0, 1) := by decide +kernel
theorem dL_law_2865 : decode cL_law 2865 = .ok (.laload, 1) := by decide +kernel
theorem dL_law_2866 : decode cL_law 2866 = .ok (.iload 7, 2) := by decide +kernel
theorem dL_law_2868 : decode cL_law 2868 = .ok (.i2l, 1) := by decide +kernel
theorem dL_law_2869 : decode cL_law 2869 = .ok (.lcmp, 1) := by decide +kernel
theorem dL_law_2870 : decode cL_law 2870 = .ok (.ifCond .eq 5, 3) := by decide +kernel
theorem dL_law_2873 : decode cL_law 2873 = .ok (.iconst 0, 1) := by decide +kernel
theorem dL_law_2874 : decode cL_law 2874 = .ok (.ireturn, 1) := by decide +kernel
theorem dL_law_2875 : decode cL_law 2875 = .ok (.goto 3, 3) := by decide +kernel
theorem dL_law_2878 : decode cL_law 2878 = .ok (.iinc 5 5, 3) := by decide +kernel
theorem dL_law_2881 : decode cL_law 2881 = .ok (.goto (-2853), 3) := by decide +kernel
theorem dL_law_2884 : decode cL_law 2884 = .ok (.iconst 1, 1) := by decide +kernel
theorem dL_law_2885 : decode cL_law 2885 = .ok (.ireturn, 1) := by decide +kernel
