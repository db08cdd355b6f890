theorem dX1_init_0 : decode cX1_init 0 = .ok (.aload_n 0, 1) := by decide +kernel
theorem dX1_init_1 : decode cX1_init 1 = .ok (.invokespecial 3, 3) := by decide +kernel
theorem dX1_init_4 : decode cX1_init 4 = .ok (.aload_n 0, 1) := by decide +kernel
theorem dX1_init_5 : decode cX1_init 5 = .ok (.bipush 60, 2) := by decide +kernel
theorem dX1_init_7 : decode cX1_init 7 = .ok (.newarray .char, 2) := by decide +kernel
theorem dX1_init_9 : decode cX1_init 9 = .ok (.putfield 9, 3) := by decide +kernel
theorem dX1_init_12 : decode cX1_init 12 = .ok (.aload_n 0, 1) := by decide +kernel
theorem dX1_init_13 : decode cX1_init 13 = .ok (.iconst 0, 1) := by decide +kernel
theorem dX1_init_14 : decode cX1_init 14 = .ok (.putfield 15, 3) := by decide +kernel
theorem dX1_init_17 : decode cX1_init 17 = .ok (.aload_n 0, 1) := by decide +kernel
theorem dX1_init_18 : decode cX1_init 18 = .ok (.iconst 0, 1) := by decide +kernel
theorem dX1_init_19 : decode cX1_init 19 = .ok (.putfield 19, 3) := by decide +kernel
theorem dX1_init_22 : decode cX1_init 22 = .ok (.aload_n 0, 1) := by decide +kernel
theorem dX1_init_23 : decode cX1_init 23 = .ok (.getstatic 22, 3) := by decide +kernel
theorem dX1_init_26 : decode cX1_init 26 = .ok (.putfield 28, 3) := by decide +kernel
theorem dX1_init_29 : decode cX1_init 29 = .ok (.aload_n 0, 1) := by decide +kernel
theorem dX1_init_30 : decode cX1_init 30 = .ok (.iconst 0, 1) := by decide +kernel
theorem dX1_init_31 : decode cX1_init 31 = .ok (.putfield 31, 3) := by decide +kernel
theorem dX1_init_34 : decode cX1_init 34 = .ok (.aload_n 0, 1) := by decide +kernel
theorem dX1_init_35 : decode cX1_init 35 = .ok (.iconst 0, 1) := by decide +kernel
theorem dX1_init_36 : decode cX1_init 36 = .ok (.putfield 34, 3) := by decide +kernel
theorem dX1_init_39 : decode cX1_init 39 = .ok (.aload_n 0, 1) := by decide +kernel
theorem dX1_init_40 : decode cX1_init 40 = .ok (.iconst 0, 1) := by decide +kernel
theorem dX1_init_41 : decode cX1_init 41 = .ok (.putfield 37, 3) := by decide +kernel
theorem dX1_init_44 : decode cX1_init 44 = .ok (.aload_n 0, 1) := by decide +kernel
theorem dX1_init_45 : decode cX1_init 45 = .ok (.iconst 0, 1) := by decide +kernel
theorem dX1_init_46 : decode cX1_init 46 = .ok (.putfield 40, 3) := by decide +kernel
theorem dX1_init_49 : decode cX1_init 49 = .ok (.aload_n 0, 1) := by decide +kernel
theorem dX1_init_50 : decode cX1_init 50 = .ok (.bipush 97, 2) := by decide +kernel
theorem dX1_init_52 : decode cX1_init 52 = .ok (.putfield 44, 3) := by decide +kernel
theorem dX1_init_55 : decode cX1_init 55 = .ok (.aload_n 0, 1) := by decide +kernel
theorem dX1_init_56 : decode cX1_init 56 = .ok (.getstatic 48, 3) := by decide +kernel
theorem dX1_init_59 : decode cX1_init 59 = .ok (.putfield 54, 3) := by decide +kernel
theorem dX1_init_62 : decode cX1_init 62 = .ok (.aload_n 0, 1) := by decide +kernel
theorem dX1_init_63 : decode cX1_init 63 = .ok (.getstatic 57, 3) := by decide +kernel
theorem dX1_init_66 : decode cX1_init 66 = .ok (.putfield 63, 3) := by decide +kernel
theorem dX1_init_69 : decode cX1_init 69 = .ok (.return_, 1) := by decide +kernel
theorem dX1_append_0 : decode cX1_append 0 = .ok (.aload_n 0, 1) := by decide +kernel
theorem dX1_append_1 : decode cX1_append 1 = .ok (.getfield 15, 3) := by decide +kernel
theorem dX1_append_4 : decode cX1_append 4 = .ok (.ifCond .lt 32, 3) := by decide +kernel
theorem dX1_append_7 : decode cX1_append 7 = .ok (.aload_n 0, 1) := by decide +kernel
theorem dX1_append_8 : decode cX1_append 8 = .ok (.getfield 15, 3) := by decide +kernel
theorem dX1_append_11 : decode cX1_append 11 = .ok (.bipush 60, 2) := by decide +kernel
theorem dX1_append_13 : decode cX1_append 13 = .ok (.if_icmp .ge 23, 3) := by decide +kernel
theorem dX1_append_16 : decode cX1_append 16 = .ok (.aload_n 0, 1) := by decide +kernel
theorem dX1_append_17 : decode cX1_append 17 = .ok (.getfield 9, 3) := by decide +kernel
theorem dX1_append_20 : decode cX1_append 20 = .ok (.aload_n 0, 1) := by decide +kernel
theorem dX1_append_21 : decode cX1_append 21 = .ok (.getfield 15, 3) := by decide +kernel
theorem dX1_append_24 : decode cX1_append 24 = .ok (.iload_n 1, 1) := by decide +kernel
theorem dX1_append_25 : decode cX1_append 25 = .ok (.castore, 1) := by decide +kernel
theorem dX1_append_26 : decode cX1_append 26 = .ok (.aload_n 0, 1) := by decide +kernel
theorem dX1_append_27 : decode cX1_append 27 = .ok (.dup, 1) := by decide +kernel
theorem dX1_append_28 : decode cX1_append 28 = .ok (.getfield 15, 3) := by decide +kernel
theorem dX1_append_31 : decode cX1_append 31 = .ok (.iconst 1, 1) := by decide +kernel
theorem dX1_append_32 : decode cX1_append 32 = .ok (.iadd, 1) := by decide +kernel
theorem dX1_append_33 : decode cX1_append 33 = .ok (.putfield 15, 3) := by decide +kernel
theorem dX1_append_36 : decode cX1_append 36 = .ok (.return_, 1) := by decide +kernel
theorem dX1_empty_0 : decode cX1_empty 0 = .ok (.aload_n 0, 1) := by decide +kernel
theorem dX1_empty_1 : decode cX1_empty 1 = .ok (.iconst 0, 1) := by decide +kernel
theorem dX1_empty_2 : decode cX1_empty 2 = .ok (.putfield 15, 3) := by decide +kernel
theorem dX1_empty_5 : decode cX1_empty 5 = .ok (.return_, 1) := by decide +kernel
theorem dX1_rewind_0 : decode cX1_rewind 0 = .ok (.aload_n 0, 1) := by decide +kernel
theorem dX1_rewind_1 : decode cX1_rewind 1 = .ok (.iconst 0, 1) := by decide +kernel
theorem dX1_rewind_2 : decode cX1_rewind 2 = .ok (.putfield 19, 3) := by decide +kernel
theorem dX1_rewind_5 : decode cX1_rewind 5 = .ok (.return_, 1) := by decide +kernel
theorem dX1_countCommands_0 : decode cX1_countCommands 0 = .ok (.aload_n 0, 1) := by decide +kernel
theorem dX1_countCommands_1 : decode cX1_countCommands 1 = .ok (.invokevirtual 66, 3) := by decide +kernel
theorem dX1_countCommands_4 : decode cX1_countCommands 4 = .ok (.iconst 1, 1) := by decide +kernel
theorem dX1_countCommands_5 : decode cX1_countCommands 5 = .ok (.istore_n 1, 1) := by decide +kernel
theorem dX1_countCommands_6 : decode cX1_countCommands 6 = .ok (.iload_n 1, 1) := by decide +kernel
theorem dX1_countCommands_7 : decode cX1_countCommands 7 = .ok (.bipush 60, 2) := by decide +kernel
theorem dX1_countCommands_9 : decode cX1_countCommands 9 = .ok (.if_icmp .gt 27, 3) := by decide +kernel
theorem dX1_countCommands_12 : decode cX1_countCommands 12 = .ok (.aload_n 0, 1) := by decide +kernel
theorem dX1_countCommands_13 : decode cX1_countCommands 13 = .ok (.invokevirtual 69, 3) := by decide +kernel
theorem dX1_countCommands_16 : decode cX1_countCommands 16 = .ok (.ifCond .ne 5, 3) := by decide +kernel
theorem dX1_countCommands_19 : decode cX1_countCommands 19 = .ok (.iconst (-1), 1) := by decide +kernel
theorem dX1_countCommands_20 : decode cX1_countCommands 20 = .ok (.ireturn, 1) := by decide +kernel
theorem dX1_countCommands_21 : decode cX1_countCommands 21 = .ok (.aload_n 0, 1) := by decide +kernel
theorem dX1_countCommands_22 : decode cX1_countCommands 22 = .ok (.getfield 40, 3) := by decide +kernel
theorem dX1_countCommands_25 : decode cX1_countCommands 25 = .ok (.ifCond .eq 5, 3) := by decide +kernel
theorem dX1_countCommands_28 : decode cX1_countCommands 28 = .ok (.iload_n 1, 1) := by decide +kernel
theorem dX1_countCommands_29 : decode cX1_countCommands 29 = .ok (.ireturn, 1) := by decide +kernel
theorem dX1_countCommands_30 : decode cX1_countCommands 30 = .ok (.iinc 1 1, 3) := by decide +kernel
theorem dX1_countCommands_33 : decode cX1_countCommands 33 = .ok (.goto (-27), 3) := by decide +kernel
theorem dX1_countCommands_36 : decode cX1_countCommands 36 = .ok (.iconst (-1), 1) := by decide +kernel
theorem dX1_countCommands_37 : decode cX1_countCommands 37 = .ok (.ireturn, 1) := by decide +kernel
theorem dX1_readCommand_0 : decode cX1_readCommand 0 = .ok (.aload_n 0, 1) := by decide +kernel
theorem dX1_readCommand_1 : decode cX1_readCommand 1 = .ok (.invokevirtual 73, 3) := by decide +kernel
theorem dX1_readCommand_4 : decode cX1_readCommand 4 = .ok (.astore_n 1, 1) := by decide +kernel
theorem dX1_readCommand_5 : decode cX1_readCommand 5 = .ok (.aload_n 1, 1) := by decide +kernel
theorem dX1_readCommand_6 : decode cX1_readCommand 6 = .ok (.ifnonnull 5, 3) := by decide +kernel
theorem dX1_readCommand_9 : decode cX1_readCommand 9 = .ok (.iconst 0, 1) := by decide +kernel
theorem dX1_readCommand_10 : decode cX1_readCommand 10 = .ok (.ireturn, 1) := by decide +kernel
theorem dX1_readCommand_11 : decode cX1_readCommand 11 = .ok (.aload_n 0, 1) := by decide +kernel
theorem dX1_readCommand_12 : decode cX1_readCommand 12 = .ok (.aload_n 1, 1) := by decide +kernel
theorem dX1_readCommand_13 : decode cX1_readCommand 13 = .ok (.putfield 28, 3) := by decide +kernel
theorem dX1_readCommand_16 : decode cX1_readCommand 16 = .ok (.aload_n 0, 1) := by decide +kernel
theorem dX1_readCommand_17 : decode cX1_readCommand 17 = .ok (.invokevirtual 77, 3) := by decide +kernel
theorem dX1_readCommand_20 : decode cX1_readCommand 20 = .ok (.ifCond .eq 14, 3) := by decide +kernel
theorem dX1_readCommand_23 : decode cX1_readCommand 23 = .ok (.aload_n 0, 1) := by decide +kernel
theorem dX1_readCommand_24 : decode cX1_readCommand 24 = .ok (.invokevirtual 80, 3) := by decide +kernel
theorem dX1_readCommand_27 : decode cX1_readCommand 27 = .ok (.ifCond .eq 7, 3) := by decide +kernel
theorem dX1_readCommand_30 : decode cX1_readCommand 30 = .ok (.iconst 1, 1) := by decide +kernel
theorem dX1_readCommand_31 : decode cX1_readCommand 31 = .ok (.goto 4, 3) := by decide +kernel
theorem dX1_readCommand_34 : decode cX1_readCommand 34 = .ok (.iconst 0, 1) := by decide +kernel
theorem dX1_readCommand_35 : decode cX1_readCommand 35 = .ok (.ireturn, 1) := by decide +kernel
theorem dX1_isAccepted_0 : decode cX1_isAccepted 0 = .ok (.aload_n 0, 1) := by decide +kernel
theorem dX1_isAccepted_1 : decode cX1_isAccepted 1 = .ok (.getfield 28, 3) := by decide +kernel
theorem dX1_isAccepted_4 : decode cX1_isAccepted 4 = .ok (.getstatic 22, 3) := by decide +kernel
theorem dX1_isAccepted_7 : decode cX1_isAccepted 7 = .ok (.if_acmp .ne 26, 3) := by decide +kernel
theorem dX1_isAccepted_10 : decode cX1_isAccepted 10 = .ok (.aload_n 0, 1) := by decide +kernel
theorem dX1_isAccepted_11 : decode cX1_isAccepted 11 = .ok (.getfield 37, 3) := by decide +kernel
theorem dX1_isAccepted_14 : decode cX1_isAccepted 14 = .ok (.iconst 1, 1) := by decide +kernel
theorem dX1_isAccepted_15 : decode cX1_isAccepted 15 = .ok (.if_icmp .lt 16, 3) := by decide +kernel
theorem dX1_isAccepted_18 : decode cX1_isAccepted 18 = .ok (.aload_n 0, 1) := by decide +kernel
theorem dX1_isAccepted_19 : decode cX1_isAccepted 19 = .ok (.getfield 37, 3) := by decide +kernel
theorem dX1_isAccepted_22 : decode cX1_isAccepted 22 = .ok (.bipush 20, 2) := by decide +kernel
theorem dX1_isAccepted_24 : decode cX1_isAccepted 24 = .ok (.if_icmp .gt 7, 3) := by decide +kernel
theorem dX1_isAccepted_27 : decode cX1_isAccepted 27 = .ok (.iconst 1, 1) := by decide +kernel
theorem dX1_isAccepted_28 : decode cX1_isAccepted 28 = .ok (.goto 4, 3) := by decide +kernel
theorem dX1_isAccepted_31 : decode cX1_isAccepted 31 = .ok (.iconst 0, 1) := by decide +kernel
theorem dX1_isAccepted_32 : decode cX1_isAccepted 32 = .ok (.ireturn, 1) := by decide +kernel
theorem dX1_isAccepted_33 : decode cX1_isAccepted 33 = .ok (.aload_n 0, 1) := by decide +kernel
theorem dX1_isAccepted_34 : decode cX1_isAccepted 34 = .ok (.getfield 28, 3) := by decide +kernel
theorem dX1_isAccepted_37 : decode cX1_isAccepted 37 = .ok (.getfield 83, 3) := by decide +kernel
theorem dX1_isAccepted_40 : decode cX1_isAccepted 40 = .ok (.ifCond .eq 17, 3) := by decide +kernel
theorem dX1_isAccepted_43 : decode cX1_isAccepted 43 = .ok (.aload_n 0, 1) := by decide +kernel
theorem dX1_isAccepted_44 : decode cX1_isAccepted 44 = .ok (.getfield 31, 3) := by decide +kernel
theorem dX1_isAccepted_47 : decode cX1_isAccepted 47 = .ok (.aload_n 0, 1) := by decide +kernel
theorem dX1_isAccepted_48 : decode cX1_isAccepted 48 = .ok (.getfield 34, 3) := by decide +kernel
theorem dX1_isAccepted_51 : decode cX1_isAccepted 51 = .ok (.invokestatic 86, 3) := by decide +kernel
theorem dX1_isAccepted_54 : decode cX1_isAccepted 54 = .ok (.ifCond .eq 7, 3) := by decide +kernel
theorem dX1_isAccepted_57 : decode cX1_isAccepted 57 = .ok (.iconst 1, 1) := by decide +kernel
theorem dX1_isAccepted_58 : decode cX1_isAccepted 58 = .ok (.goto 4, 3) := by decide +kernel
theorem dX1_isAccepted_61 : decode cX1_isAccepted 61 = .ok (.iconst 0, 1) := by decide +kernel
theorem dX1_isAccepted_62 : decode cX1_isAccepted 62 = .ok (.ireturn, 1) := by decide +kernel
theorem dX1_readArguments_0 : decode cX1_readArguments 0 = .ok (.aload_n 0, 1) := by decide +kernel
theorem dX1_readArguments_1 : decode cX1_readArguments 1 = .ok (.getfield 28, 3) := by decide +kernel
theorem dX1_readArguments_4 : decode cX1_readArguments 4 = .ok (.getstatic 90, 3) := by decide +kernel
theorem dX1_readArguments_7 : decode cX1_readArguments 7 = .ok (.if_acmp .ne 8, 3) := by decide +kernel
theorem dX1_readArguments_10 : decode cX1_readArguments 10 = .ok (.aload_n 0, 1) := by decide +kernel
theorem dX1_readArguments_11 : decode cX1_readArguments 11 = .ok (.invokevirtual 93, 3) := by decide +kernel
theorem dX1_readArguments_14 : decode cX1_readArguments 14 = .ok (.ireturn, 1) := by decide +kernel
theorem dX1_readArguments_15 : decode cX1_readArguments 15 = .ok (.aload_n 0, 1) := by decide +kernel
theorem dX1_readArguments_16 : decode cX1_readArguments 16 = .ok (.getfield 28, 3) := by decide +kernel
theorem dX1_readArguments_19 : decode cX1_readArguments 19 = .ok (.getstatic 22, 3) := by decide +kernel
theorem dX1_readArguments_22 : decode cX1_readArguments 22 = .ok (.if_acmp .ne 8, 3) := by decide +kernel
theorem dX1_readArguments_25 : decode cX1_readArguments 25 = .ok (.aload_n 0, 1) := by decide +kernel
theorem dX1_readArguments_26 : decode cX1_readArguments 26 = .ok (.invokevirtual 96, 3) := by decide +kernel
theorem dX1_readArguments_29 : decode cX1_readArguments 29 = .ok (.ireturn, 1) := by decide +kernel
theorem dX1_readArguments_30 : decode cX1_readArguments 30 = .ok (.aload_n 0, 1) := by decide +kernel
theorem dX1_readArguments_31 : decode cX1_readArguments 31 = .ok (.invokevirtual 99, 3) := by decide +kernel
theorem dX1_readArguments_34 : decode cX1_readArguments 34 = .ok (.ifCond .ne 5, 3) := by decide +kernel
theorem dX1_readArguments_37 : decode cX1_readArguments 37 = .ok (.iconst 0, 1) := by decide +kernel
theorem dX1_readArguments_38 : decode cX1_readArguments 38 = .ok (.ireturn, 1) := by decide +kernel
theorem dX1_readArguments_39 : decode cX1_readArguments 39 = .ok (.aload_n 0, 1) := by decide +kernel
theorem dX1_readArguments_40 : decode cX1_readArguments 40 = .ok (.getfield 28, 3) := by decide +kernel
theorem dX1_readArguments_43 : decode cX1_readArguments 43 = .ok (.getfield 102, 3) := by decide +kernel
theorem dX1_readArguments_46 : decode cX1_readArguments 46 = .ok (.ifCond .ne 5, 3) := by decide +kernel
theorem dX1_readArguments_49 : decode cX1_readArguments 49 = .ok (.iconst 1, 1) := by decide +kernel
theorem dX1_readArguments_50 : decode cX1_readArguments 50 = .ok (.ireturn, 1) := by decide +kernel
theorem dX1_readArguments_51 : decode cX1_readArguments 51 = .ok (.aload_n 0, 1) := by decide +kernel
theorem dX1_readArguments_52 : decode cX1_readArguments 52 = .ok (.bipush 32, 2) := by decide +kernel
theorem dX1_readArguments_54 : decode cX1_readArguments 54 = .ok (.invokevirtual 105, 3) := by decide +kernel
theorem dX1_readArguments_57 : decode cX1_readArguments 57 = .ok (.ifCond .eq 31, 3) := by decide +kernel
theorem dX1_readArguments_60 : decode cX1_readArguments 60 = .ok (.aload_n 0, 1) := by decide +kernel
theorem dX1_readArguments_61 : decode cX1_readArguments 61 = .ok (.getfield 28, 3) := by decide +kernel
theorem dX1_readArguments_64 : decode cX1_readArguments 64 = .ok (.getstatic 109, 3) := by decide +kernel
theorem dX1_readArguments_67 : decode cX1_readArguments 67 = .ok (.if_acmp .ne 10, 3) := by decide +kernel
theorem dX1_readArguments_70 : decode cX1_readArguments 70 = .ok (.aload_n 0, 1) := by decide +kernel
theorem dX1_readArguments_71 : decode cX1_readArguments 71 = .ok (.invokevirtual 112, 3) := by decide +kernel
theorem dX1_readArguments_74 : decode cX1_readArguments 74 = .ok (.ifCond .eq 14, 3) := by decide +kernel
theorem dX1_readArguments_77 : decode cX1_readArguments 77 = .ok (.aload_n 0, 1) := by decide +kernel
theorem dX1_readArguments_78 : decode cX1_readArguments 78 = .ok (.invokevirtual 115, 3) := by decide +kernel
theorem dX1_readArguments_81 : decode cX1_readArguments 81 = .ok (.ifCond .eq 7, 3) := by decide +kernel
theorem dX1_readArguments_84 : decode cX1_readArguments 84 = .ok (.iconst 1, 1) := by decide +kernel
theorem dX1_readArguments_85 : decode cX1_readArguments 85 = .ok (.goto 4, 3) := by decide +kernel
theorem dX1_readArguments_88 : decode cX1_readArguments 88 = .ok (.iconst 0, 1) := by decide +kernel
theorem dX1_readArguments_89 : decode cX1_readArguments 89 = .ok (.ireturn, 1) := by decide +kernel
theorem dX1_readEnd_0 : decode cX1_readEnd 0 = .ok (.aload_n 0, 1) := by decide +kernel
theorem dX1_readEnd_1 : decode cX1_readEnd 1 = .ok (.aload_n 0, 1) := by decide +kernel
theorem dX1_readEnd_2 : decode cX1_readEnd 2 = .ok (.getfield 19, 3) := by decide +kernel
theorem dX1_readEnd_5 : decode cX1_readEnd 5 = .ok (.aload_n 0, 1) := by decide +kernel
theorem dX1_readEnd_6 : decode cX1_readEnd 6 = .ok (.getfield 15, 3) := by decide +kernel
theorem dX1_readEnd_9 : decode cX1_readEnd 9 = .ok (.if_icmp .lt 7, 3) := by decide +kernel
theorem dX1_readEnd_12 : decode cX1_readEnd 12 = .ok (.iconst 1, 1) := by decide +kernel
theorem dX1_readEnd_13 : decode cX1_readEnd 13 = .ok (.goto 4, 3) := by decide +kernel
theorem dX1_readEnd_16 : decode cX1_readEnd 16 = .ok (.iconst 0, 1) := by decide +kernel
theorem dX1_readEnd_17 : decode cX1_readEnd 17 = .ok (.putfield 40, 3) := by decide +kernel
theorem dX1_readEnd_20 : decode cX1_readEnd 20 = .ok (.aload_n 0, 1) := by decide +kernel
theorem dX1_readEnd_21 : decode cX1_readEnd 21 = .ok (.getfield 40, 3) := by decide +kernel
theorem dX1_readEnd_24 : decode cX1_readEnd 24 = .ok (.ifCond .ne 12, 3) := by decide +kernel
theorem dX1_readEnd_27 : decode cX1_readEnd 27 = .ok (.aload_n 0, 1) := by decide +kernel
theorem dX1_readEnd_28 : decode cX1_readEnd 28 = .ok (.bipush 59, 2) := by decide +kernel
theorem dX1_readEnd_30 : decode cX1_readEnd 30 = .ok (.invokevirtual 105, 3) := by decide +kernel
theorem dX1_readEnd_33 : decode cX1_readEnd 33 = .ok (.ifCond .eq 7, 3) := by decide +kernel
theorem dX1_readEnd_36 : decode cX1_readEnd 36 = .ok (.iconst 1, 1) := by decide +kernel
theorem dX1_readEnd_37 : decode cX1_readEnd 37 = .ok (.goto 4, 3) := by decide +kernel
theorem dX1_readEnd_40 : decode cX1_readEnd 40 = .ok (.iconst 0, 1) := by decide +kernel
theorem dX1_readEnd_41 : decode cX1_readEnd 41 = .ok (.ireturn, 1) := by decide +kernel
theorem dX1_readVerb_0 : decode cX1_readVerb 0 = .ok (.aconst_null, 1) := by decide +kernel
theorem dX1_readVerb_1 : decode cX1_readVerb 1 = .ok (.astore_n 1, 1) := by decide +kernel
theorem dX1_readVerb_2 : decode cX1_readVerb 2 = .ok (.iconst 0, 1) := by decide +kernel
theorem dX1_readVerb_3 : decode cX1_readVerb 3 = .ok (.istore_n 2, 1) := by decide +kernel
theorem dX1_readVerb_4 : decode cX1_readVerb 4 = .ok (.iconst 0, 1) := by decide +kernel
theorem dX1_readVerb_5 : decode cX1_readVerb 5 = .ok (.istore_n 3, 1) := by decide +kernel
theorem dX1_readVerb_6 : decode cX1_readVerb 6 = .ok (.iload_n 3, 1) := by decide +kernel
theorem dX1_readVerb_7 : decode cX1_readVerb 7 = .ok (.getstatic 118, 3) := by decide +kernel
theorem dX1_readVerb_10 : decode cX1_readVerb 10 = .ok (.arraylength, 1) := by decide +kernel
theorem dX1_readVerb_11 : decode cX1_readVerb 11 = .ok (.if_icmp .ge 52, 3) := by decide +kernel
theorem dX1_readVerb_14 : decode cX1_readVerb 14 = .ok (.aload_n 0, 1) := by decide +kernel
theorem dX1_readVerb_15 : decode cX1_readVerb 15 = .ok (.getstatic 118, 3) := by decide +kernel
theorem dX1_readVerb_18 : decode cX1_readVerb 18 = .ok (.iload_n 3, 1) := by decide +kernel
theorem dX1_readVerb_19 : decode cX1_readVerb 19 = .ok (.aaload, 1) := by decide +kernel
theorem dX1_readVerb_20 : decode cX1_readVerb 20 = .ok (.getfield 122, 3) := by decide +kernel
theorem dX1_readVerb_23 : decode cX1_readVerb 23 = .ok (.invokevirtual 126, 3) := by decide +kernel
theorem dX1_readVerb_26 : decode cX1_readVerb 26 = .ok (.istore 4, 2) := by decide +kernel
theorem dX1_readVerb_28 : decode cX1_readVerb 28 = .ok (.iload_n 2, 1) := by decide +kernel
theorem dX1_readVerb_29 : decode cX1_readVerb 29 = .ok (.iload 4, 2) := by decide +kernel
theorem dX1_readVerb_31 : decode cX1_readVerb 31 = .ok (.invokestatic 130, 3) := by decide +kernel
theorem dX1_readVerb_34 : decode cX1_readVerb 34 = .ok (.istore_n 2, 1) := by decide +kernel
theorem dX1_readVerb_35 : decode cX1_readVerb 35 = .ok (.iload 4, 2) := by decide +kernel
theorem dX1_readVerb_37 : decode cX1_readVerb 37 = .ok (.getstatic 118, 3) := by decide +kernel
theorem dX1_readVerb_40 : decode cX1_readVerb 40 = .ok (.iload_n 3, 1) := by decide +kernel
theorem dX1_readVerb_41 : decode cX1_readVerb 41 = .ok (.aaload, 1) := by decide +kernel
theorem dX1_readVerb_42 : decode cX1_readVerb 42 = .ok (.getfield 122, 3) := by decide +kernel
theorem dX1_readVerb_45 : decode cX1_readVerb 45 = .ok (.invokevirtual 136, 3) := by decide +kernel
theorem dX1_readVerb_48 : decode cX1_readVerb 48 = .ok (.if_icmp .ne 9, 3) := by decide +kernel
theorem dX1_readVerb_51 : decode cX1_readVerb 51 = .ok (.getstatic 118, 3) := by decide +kernel
theorem dX1_readVerb_54 : decode cX1_readVerb 54 = .ok (.iload_n 3, 1) := by decide +kernel
theorem dX1_readVerb_55 : decode cX1_readVerb 55 = .ok (.aaload, 1) := by decide +kernel
theorem dX1_readVerb_56 : decode cX1_readVerb 56 = .ok (.astore_n 1, 1) := by decide +kernel
theorem dX1_readVerb_57 : decode cX1_readVerb 57 = .ok (.iinc 3 1, 3) := by decide +kernel
theorem dX1_readVerb_60 : decode cX1_readVerb 60 = .ok (.goto (-54), 3) := by decide +kernel
theorem dX1_readVerb_63 : decode cX1_readVerb 63 = .ok (.aload_n 0, 1) := by decide +kernel
theorem dX1_readVerb_64 : decode cX1_readVerb 64 = .ok (.dup, 1) := by decide +kernel
theorem dX1_readVerb_65 : decode cX1_readVerb 65 = .ok (.getfield 19, 3) := by decide +kernel
theorem dX1_readVerb_68 : decode cX1_readVerb 68 = .ok (.iload_n 2, 1) := by decide +kernel
theorem dX1_readVerb_69 : decode cX1_readVerb 69 = .ok (.iadd, 1) := by decide +kernel
theorem dX1_readVerb_70 : decode cX1_readVerb 70 = .ok (.putfield 19, 3) := by decide +kernel
theorem dX1_readVerb_73 : decode cX1_readVerb 73 = .ok (.aload_n 1, 1) := by decide +kernel
theorem dX1_readVerb_74 : decode cX1_readVerb 74 = .ok (.areturn, 1) := by decide +kernel
theorem dX1_readRuleWord_0 : decode cX1_readRuleWord 0 = .ok (.iconst 0, 1) := by decide +kernel
theorem dX1_readRuleWord_1 : decode cX1_readRuleWord 1 = .ok (.istore_n 1, 1) := by decide +kernel
theorem dX1_readRuleWord_2 : decode cX1_readRuleWord 2 = .ok (.iconst 0, 1) := by decide +kernel
theorem dX1_readRuleWord_3 : decode cX1_readRuleWord 3 = .ok (.istore_n 2, 1) := by decide +kernel
theorem dX1_readRuleWord_4 : decode cX1_readRuleWord 4 = .ok (.iconst 0, 1) := by decide +kernel
theorem dX1_readRuleWord_5 : decode cX1_readRuleWord 5 = .ok (.istore_n 3, 1) := by decide +kernel
theorem dX1_readRuleWord_6 : decode cX1_readRuleWord 6 = .ok (.iload_n 3, 1) := by decide +kernel
theorem dX1_readRuleWord_7 : decode cX1_readRuleWord 7 = .ok (.getstatic 141, 3) := by decide +kernel
theorem dX1_readRuleWord_10 : decode cX1_readRuleWord 10 = .ok (.arraylength, 1) := by decide +kernel
theorem dX1_readRuleWord_11 : decode cX1_readRuleWord 11 = .ok (.if_icmp .ge 57, 3) := by decide +kernel
theorem dX1_readRuleWord_14 : decode cX1_readRuleWord 14 = .ok (.aload_n 0, 1) := by decide +kernel
theorem dX1_readRuleWord_15 : decode cX1_readRuleWord 15 = .ok (.getstatic 141, 3) := by decide +kernel
theorem dX1_readRuleWord_18 : decode cX1_readRuleWord 18 = .ok (.iload_n 3, 1) := by decide +kernel
theorem dX1_readRuleWord_19 : decode cX1_readRuleWord 19 = .ok (.aaload, 1) := by decide +kernel
theorem dX1_readRuleWord_20 : decode cX1_readRuleWord 20 = .ok (.getfield 145, 3) := by decide +kernel
theorem dX1_readRuleWord_23 : decode cX1_readRuleWord 23 = .ok (.invokevirtual 126, 3) := by decide +kernel
theorem dX1_readRuleWord_26 : decode cX1_readRuleWord 26 = .ok (.istore 4, 2) := by decide +kernel
theorem dX1_readRuleWord_28 : decode cX1_readRuleWord 28 = .ok (.iload_n 2, 1) := by decide +kernel
theorem dX1_readRuleWord_29 : decode cX1_readRuleWord 29 = .ok (.iload 4, 2) := by decide +kernel
theorem dX1_readRuleWord_31 : decode cX1_readRuleWord 31 = .ok (.invokestatic 130, 3) := by decide +kernel
theorem dX1_readRuleWord_34 : decode cX1_readRuleWord 34 = .ok (.istore_n 2, 1) := by decide +kernel
theorem dX1_readRuleWord_35 : decode cX1_readRuleWord 35 = .ok (.iload 4, 2) := by decide +kernel
theorem dX1_readRuleWord_37 : decode cX1_readRuleWord 37 = .ok (.getstatic 141, 3) := by decide +kernel
theorem dX1_readRuleWord_40 : decode cX1_readRuleWord 40 = .ok (.iload_n 3, 1) := by decide +kernel
theorem dX1_readRuleWord_41 : decode cX1_readRuleWord 41 = .ok (.aaload, 1) := by decide +kernel
theorem dX1_readRuleWord_42 : decode cX1_readRuleWord 42 = .ok (.getfield 145, 3) := by decide +kernel
theorem dX1_readRuleWord_45 : decode cX1_readRuleWord 45 = .ok (.invokevirtual 136, 3) := by decide +kernel
theorem dX1_readRuleWord_48 : decode cX1_readRuleWord 48 = .ok (.if_icmp .ne 14, 3) := by decide +kernel
theorem dX1_readRuleWord_51 : decode cX1_readRuleWord 51 = .ok (.iconst 1, 1) := by decide +kernel
theorem dX1_readRuleWord_52 : decode cX1_readRuleWord 52 = .ok (.istore_n 1, 1) := by decide +kernel
theorem dX1_readRuleWord_53 : decode cX1_readRuleWord 53 = .ok (.aload_n 0, 1) := by decide +kernel
theorem dX1_readRuleWord_54 : decode cX1_readRuleWord 54 = .ok (.getstatic 141, 3) := by decide +kernel
theorem dX1_readRuleWord_57 : decode cX1_readRuleWord 57 = .ok (.iload_n 3, 1) := by decide +kernel
theorem dX1_readRuleWord_58 : decode cX1_readRuleWord 58 = .ok (.aaload, 1) := by decide +kernel
theorem dX1_readRuleWord_59 : decode cX1_readRuleWord 59 = .ok (.putfield 63, 3) := by decide +kernel
theorem dX1_readRuleWord_62 : decode cX1_readRuleWord 62 = .ok (.iinc 3 1, 3) := by decide +kernel
theorem dX1_readRuleWord_65 : decode cX1_readRuleWord 65 = .ok (.goto (-59), 3) := by decide +kernel
theorem dX1_readRuleWord_68 : decode cX1_readRuleWord 68 = .ok (.aload_n 0, 1) := by decide +kernel
theorem dX1_readRuleWord_69 : decode cX1_readRuleWord 69 = .ok (.dup, 1) := by decide +kernel
theorem dX1_readRuleWord_70 : decode cX1_readRuleWord 70 = .ok (.getfield 19, 3) := by decide +kernel
theorem dX1_readRuleWord_73 : decode cX1_readRuleWord 73 = .ok (.iload_n 2, 1) := by decide +kernel
theorem dX1_readRuleWord_74 : decode cX1_readRuleWord 74 = .ok (.iadd, 1) := by decide +kernel
theorem dX1_readRuleWord_75 : decode cX1_readRuleWord 75 = .ok (.putfield 19, 3) := by decide +kernel
theorem dX1_readRuleWord_78 : decode cX1_readRuleWord 78 = .ok (.iload_n 1, 1) := by decide +kernel
theorem dX1_readRuleWord_79 : decode cX1_readRuleWord 79 = .ok (.ireturn, 1) := by decide +kernel
theorem dX1_readCell_0 : decode cX1_readCell 0 = .ok (.aload_n 0, 1) := by decide +kernel
theorem dX1_readCell_1 : decode cX1_readCell 1 = .ok (.invokevirtual 148, 3) := by decide +kernel
theorem dX1_readCell_4 : decode cX1_readCell 4 = .ok (.ifCond .ne 5, 3) := by decide +kernel
theorem dX1_readCell_7 : decode cX1_readCell 7 = .ok (.iconst 0, 1) := by decide +kernel
theorem dX1_readCell_8 : decode cX1_readCell 8 = .ok (.ireturn, 1) := by decide +kernel
theorem dX1_readCell_9 : decode cX1_readCell 9 = .ok (.aload_n 0, 1) := by decide +kernel
theorem dX1_readCell_10 : decode cX1_readCell 10 = .ok (.aload_n 0, 1) := by decide +kernel
theorem dX1_readCell_11 : decode cX1_readCell 11 = .ok (.invokevirtual 151, 3) := by decide +kernel
theorem dX1_readCell_14 : decode cX1_readCell 14 = .ok (.putfield 31, 3) := by decide +kernel
theorem dX1_readCell_17 : decode cX1_readCell 17 = .ok (.aload_n 0, 1) := by decide +kernel
theorem dX1_readCell_18 : decode cX1_readCell 18 = .ok (.invokevirtual 148, 3) := by decide +kernel
theorem dX1_readCell_21 : decode cX1_readCell 21 = .ok (.ifCond .ne 5, 3) := by decide +kernel
theorem dX1_readCell_24 : decode cX1_readCell 24 = .ok (.iconst 0, 1) := by decide +kernel
theorem dX1_readCell_25 : decode cX1_readCell 25 = .ok (.ireturn, 1) := by decide +kernel
theorem dX1_readCell_26 : decode cX1_readCell 26 = .ok (.aload_n 0, 1) := by decide +kernel
theorem dX1_readCell_27 : decode cX1_readCell 27 = .ok (.aload_n 0, 1) := by decide +kernel
theorem dX1_readCell_28 : decode cX1_readCell 28 = .ok (.invokevirtual 151, 3) := by decide +kernel
theorem dX1_readCell_31 : decode cX1_readCell 31 = .ok (.putfield 34, 3) := by decide +kernel
theorem dX1_readCell_34 : decode cX1_readCell 34 = .ok (.iconst 1, 1) := by decide +kernel
theorem dX1_readCell_35 : decode cX1_readCell 35 = .ok (.ireturn, 1) := by decide +kernel
theorem dX1_readNumber_0 : decode cX1_readNumber 0 = .ok (.aload_n 0, 1) := by decide +kernel
theorem dX1_readNumber_1 : decode cX1_readNumber 1 = .ok (.invokevirtual 148, 3) := by decide +kernel
theorem dX1_readNumber_4 : decode cX1_readNumber 4 = .ok (.ifCond .ne 5, 3) := by decide +kernel
theorem dX1_readNumber_7 : decode cX1_readNumber 7 = .ok (.iconst 0, 1) := by decide +kernel
theorem dX1_readNumber_8 : decode cX1_readNumber 8 = .ok (.ireturn, 1) := by decide +kernel
theorem dX1_readNumber_9 : decode cX1_readNumber 9 = .ok (.aload_n 0, 1) := by decide +kernel
theorem dX1_readNumber_10 : decode cX1_readNumber 10 = .ok (.aload_n 0, 1) := by decide +kernel
theorem dX1_readNumber_11 : decode cX1_readNumber 11 = .ok (.invokevirtual 151, 3) := by decide +kernel
theorem dX1_readNumber_14 : decode cX1_readNumber 14 = .ok (.putfield 37, 3) := by decide +kernel
theorem dX1_readNumber_17 : decode cX1_readNumber 17 = .ok (.aload_n 0, 1) := by decide +kernel
theorem dX1_readNumber_18 : decode cX1_readNumber 18 = .ok (.invokevirtual 148, 3) := by decide +kernel
theorem dX1_readNumber_21 : decode cX1_readNumber 21 = .ok (.ifCond .eq 19, 3) := by decide +kernel
theorem dX1_readNumber_24 : decode cX1_readNumber 24 = .ok (.aload_n 0, 1) := by decide +kernel
theorem dX1_readNumber_25 : decode cX1_readNumber 25 = .ok (.bipush 10, 2) := by decide +kernel
theorem dX1_readNumber_27 : decode cX1_readNumber 27 = .ok (.aload_n 0, 1) := by decide +kernel
theorem dX1_readNumber_28 : decode cX1_readNumber 28 = .ok (.getfield 37, 3) := by decide +kernel
theorem dX1_readNumber_31 : decode cX1_readNumber 31 = .ok (.imul, 1) := by decide +kernel
theorem dX1_readNumber_32 : decode cX1_readNumber 32 = .ok (.aload_n 0, 1) := by decide +kernel
theorem dX1_readNumber_33 : decode cX1_readNumber 33 = .ok (.invokevirtual 151, 3) := by decide +kernel
theorem dX1_readNumber_36 : decode cX1_readNumber 36 = .ok (.iadd, 1) := by decide +kernel
theorem dX1_readNumber_37 : decode cX1_readNumber 37 = .ok (.putfield 37, 3) := by decide +kernel
theorem dX1_readNumber_40 : decode cX1_readNumber 40 = .ok (.iconst 1, 1) := by decide +kernel
theorem dX1_readNumber_41 : decode cX1_readNumber 41 = .ok (.ireturn, 1) := by decide +kernel
theorem dX1_readPattern_0 : decode cX1_readPattern 0 = .ok (.aload_n 0, 1) := by decide +kernel
theorem dX1_readPattern_1 : decode cX1_readPattern 1 = .ok (.aload_n 0, 1) := by decide +kernel
theorem dX1_readPattern_2 : decode cX1_readPattern 2 = .ok (.getfield 19, 3) := by decide +kernel
theorem dX1_readPattern_5 : decode cX1_readPattern 5 = .ok (.invokevirtual 154, 3) := by decide +kernel
theorem dX1_readPattern_8 : decode cX1_readPattern 8 = .ok (.invokestatic 158, 3) := by decide +kernel
theorem dX1_readPattern_11 : decode cX1_readPattern 11 = .ok (.astore_n 1, 1) := by decide +kernel
theorem dX1_readPattern_12 : decode cX1_readPattern 12 = .ok (.aload_n 1, 1) := by decide +kernel
theorem dX1_readPattern_13 : decode cX1_readPattern 13 = .ok (.ifnonnull 5, 3) := by decide +kernel
theorem dX1_readPattern_16 : decode cX1_readPattern 16 = .ok (.iconst 0, 1) := by decide +kernel
theorem dX1_readPattern_17 : decode cX1_readPattern 17 = .ok (.ireturn, 1) := by decide +kernel
theorem dX1_readPattern_18 : decode cX1_readPattern 18 = .ok (.aload_n 0, 1) := by decide +kernel
theorem dX1_readPattern_19 : decode cX1_readPattern 19 = .ok (.aload_n 1, 1) := by decide +kernel
theorem dX1_readPattern_20 : decode cX1_readPattern 20 = .ok (.putfield 54, 3) := by decide +kernel
theorem dX1_readPattern_23 : decode cX1_readPattern 23 = .ok (.aload_n 0, 1) := by decide +kernel
theorem dX1_readPattern_24 : decode cX1_readPattern 24 = .ok (.dup, 1) := by decide +kernel
theorem dX1_readPattern_25 : decode cX1_readPattern 25 = .ok (.getfield 19, 3) := by decide +kernel
theorem dX1_readPattern_28 : decode cX1_readPattern 28 = .ok (.iconst 1, 1) := by decide +kernel
theorem dX1_readPattern_29 : decode cX1_readPattern 29 = .ok (.iadd, 1) := by decide +kernel
theorem dX1_readPattern_30 : decode cX1_readPattern 30 = .ok (.putfield 19, 3) := by decide +kernel
theorem dX1_readPattern_33 : decode cX1_readPattern 33 = .ok (.iconst 1, 1) := by decide +kernel
theorem dX1_readPattern_34 : decode cX1_readPattern 34 = .ok (.ireturn, 1) := by decide +kernel
theorem dX1_readColour_0 : decode cX1_readColour 0 = .ok (.aload_n 0, 1) := by decide +kernel
theorem dX1_readColour_1 : decode cX1_readColour 1 = .ok (.aload_n 0, 1) := by decide +kernel
theorem dX1_readColour_2 : decode cX1_readColour 2 = .ok (.getfield 19, 3) := by decide +kernel
theorem dX1_readColour_5 : decode cX1_readColour 5 = .ok (.invokevirtual 154, 3) := by decide +kernel
theorem dX1_readColour_8 : decode cX1_readColour 8 = .ok (.invokestatic 162, 3) := by decide +kernel
theorem dX1_readColour_11 : decode cX1_readColour 11 = .ok (.ifCond .ne 5, 3) := by decide +kernel
theorem dX1_readColour_14 : decode cX1_readColour 14 = .ok (.iconst 0, 1) := by decide +kernel
theorem dX1_readColour_15 : decode cX1_readColour 15 = .ok (.ireturn, 1) := by decide +kernel
theorem dX1_readColour_16 : decode cX1_readColour 16 = .ok (.aload_n 0, 1) := by decide +kernel
theorem dX1_readColour_17 : decode cX1_readColour 17 = .ok (.aload_n 0, 1) := by decide +kernel
theorem dX1_readColour_18 : decode cX1_readColour 18 = .ok (.aload_n 0, 1) := by decide +kernel
theorem dX1_readColour_19 : decode cX1_readColour 19 = .ok (.getfield 19, 3) := by decide +kernel
theorem dX1_readColour_22 : decode cX1_readColour 22 = .ok (.invokevirtual 154, 3) := by decide +kernel
theorem dX1_readColour_25 : decode cX1_readColour 25 = .ok (.putfield 44, 3) := by decide +kernel
theorem dX1_readColour_28 : decode cX1_readColour 28 = .ok (.aload_n 0, 1) := by decide +kernel
theorem dX1_readColour_29 : decode cX1_readColour 29 = .ok (.dup, 1) := by decide +kernel
theorem dX1_readColour_30 : decode cX1_readColour 30 = .ok (.getfield 19, 3) := by decide +kernel
theorem dX1_readColour_33 : decode cX1_readColour 33 = .ok (.iconst 1, 1) := by decide +kernel
theorem dX1_readColour_34 : decode cX1_readColour 34 = .ok (.iadd, 1) := by decide +kernel
theorem dX1_readColour_35 : decode cX1_readColour 35 = .ok (.putfield 19, 3) := by decide +kernel
theorem dX1_readColour_38 : decode cX1_readColour 38 = .ok (.iconst 1, 1) := by decide +kernel
theorem dX1_readColour_39 : decode cX1_readColour 39 = .ok (.ireturn, 1) := by decide +kernel
theorem dX1_readSign_0 : decode cX1_readSign 0 = .ok (.aload_n 0, 1) := by decide +kernel
theorem dX1_readSign_1 : decode cX1_readSign 1 = .ok (.aload_n 0, 1) := by decide +kernel
theorem dX1_readSign_2 : decode cX1_readSign 2 = .ok (.getfield 19, 3) := by decide +kernel
theorem dX1_readSign_5 : decode cX1_readSign 5 = .ok (.invokevirtual 154, 3) := by decide +kernel
theorem dX1_readSign_8 : decode cX1_readSign 8 = .ok (.iload_n 1, 1) := by decide +kernel
theorem dX1_readSign_9 : decode cX1_readSign 9 = .ok (.if_icmp .eq 5, 3) := by decide +kernel
theorem dX1_readSign_12 : decode cX1_readSign 12 = .ok (.iconst 0, 1) := by decide +kernel
theorem dX1_readSign_13 : decode cX1_readSign 13 = .ok (.ireturn, 1) := by decide +kernel
theorem dX1_readSign_14 : decode cX1_readSign 14 = .ok (.aload_n 0, 1) := by decide +kernel
theorem dX1_readSign_15 : decode cX1_readSign 15 = .ok (.dup, 1) := by decide +kernel
theorem dX1_readSign_16 : decode cX1_readSign 16 = .ok (.getfield 19, 3) := by decide +kernel
theorem dX1_readSign_19 : decode cX1_readSign 19 = .ok (.iconst 1, 1) := by decide +kernel
theorem dX1_readSign_20 : decode cX1_readSign 20 = .ok (.iadd, 1) := by decide +kernel
theorem dX1_readSign_21 : decode cX1_readSign 21 = .ok (.putfield 19, 3) := by decide +kernel
theorem dX1_readSign_24 : decode cX1_readSign 24 = .ok (.iconst 1, 1) := by decide +kernel
theorem dX1_readSign_25 : decode cX1_readSign 25 = .ok (.ireturn, 1) := by decide +kernel
theorem dX1_hasDigit_0 : decode cX1_hasDigit 0 = .ok (.aload_n 0, 1) := by decide +kernel
theorem dX1_hasDigit_1 : decode cX1_hasDigit 1 = .ok (.aload_n 0, 1) := by decide +kernel
theorem dX1_hasDigit_2 : decode cX1_hasDigit 2 = .ok (.getfield 19, 3) := by decide +kernel
theorem dX1_hasDigit_5 : decode cX1_hasDigit 5 = .ok (.invokevirtual 154, 3) := by decide +kernel
theorem dX1_hasDigit_8 : decode cX1_hasDigit 8 = .ok (.bipush 48, 2) := by decide +kernel
theorem dX1_hasDigit_10 : decode cX1_hasDigit 10 = .ok (.if_icmp .lt 20, 3) := by decide +kernel
theorem dX1_hasDigit_13 : decode cX1_hasDigit 13 = .ok (.aload_n 0, 1) := by decide +kernel
theorem dX1_hasDigit_14 : decode cX1_hasDigit 14 = .ok (.aload_n 0, 1) := by decide +kernel
theorem dX1_hasDigit_15 : decode cX1_hasDigit 15 = .ok (.getfield 19, 3) := by decide +kernel
theorem dX1_hasDigit_18 : decode cX1_hasDigit 18 = .ok (.invokevirtual 154, 3) := by decide +kernel
theorem dX1_hasDigit_21 : decode cX1_hasDigit 21 = .ok (.bipush 57, 2) := by decide +kernel
theorem dX1_hasDigit_23 : decode cX1_hasDigit 23 = .ok (.if_icmp .gt 7, 3) := by decide +kernel
theorem dX1_hasDigit_26 : decode cX1_hasDigit 26 = .ok (.iconst 1, 1) := by decide +kernel
theorem dX1_hasDigit_27 : decode cX1_hasDigit 27 = .ok (.goto 4, 3) := by decide +kernel
theorem dX1_hasDigit_30 : decode cX1_hasDigit 30 = .ok (.iconst 0, 1) := by decide +kernel
theorem dX1_hasDigit_31 : decode cX1_hasDigit 31 = .ok (.ireturn, 1) := by decide +kernel
theorem dX1_nextDigit_0 : decode cX1_nextDigit 0 = .ok (.aload_n 0, 1) := by decide +kernel
theorem dX1_nextDigit_1 : decode cX1_nextDigit 1 = .ok (.aload_n 0, 1) := by decide +kernel
theorem dX1_nextDigit_2 : decode cX1_nextDigit 2 = .ok (.getfield 19, 3) := by decide +kernel
theorem dX1_nextDigit_5 : decode cX1_nextDigit 5 = .ok (.invokevirtual 154, 3) := by decide +kernel
theorem dX1_nextDigit_8 : decode cX1_nextDigit 8 = .ok (.bipush 48, 2) := by decide +kernel
theorem dX1_nextDigit_10 : decode cX1_nextDigit 10 = .ok (.isub, 1) := by decide +kernel
theorem dX1_nextDigit_11 : decode cX1_nextDigit 11 = .ok (.istore_n 1, 1) := by decide +kernel
theorem dX1_nextDigit_12 : decode cX1_nextDigit 12 = .ok (.aload_n 0, 1) := by decide +kernel
theorem dX1_nextDigit_13 : decode cX1_nextDigit 13 = .ok (.dup, 1) := by decide +kernel
theorem dX1_nextDigit_14 : decode cX1_nextDigit 14 = .ok (.getfield 19, 3) := by decide +kernel
theorem dX1_nextDigit_17 : decode cX1_nextDigit 17 = .ok (.iconst 1, 1) := by decide +kernel
theorem dX1_nextDigit_18 : decode cX1_nextDigit 18 = .ok (.iadd, 1) := by decide +kernel
theorem dX1_nextDigit_19 : decode cX1_nextDigit 19 = .ok (.putfield 19, 3) := by decide +kernel
theorem dX1_nextDigit_22 : decode cX1_nextDigit 22 = .ok (.iload_n 1, 1) := by decide +kernel
theorem dX1_nextDigit_23 : decode cX1_nextDigit 23 = .ok (.ireturn, 1) := by decide +kernel
theorem dX1_countMatching_0 : decode cX1_countMatching 0 = .ok (.iconst 0, 1) := by decide +kernel
theorem dX1_countMatching_1 : decode cX1_countMatching 1 = .ok (.istore_n 2, 1) := by decide +kernel
theorem dX1_countMatching_2 : decode cX1_countMatching 2 = .ok (.iload_n 2, 1) := by decide +kernel
theorem dX1_countMatching_3 : decode cX1_countMatching 3 = .ok (.aload_n 1, 1) := by decide +kernel
theorem dX1_countMatching_4 : decode cX1_countMatching 4 = .ok (.invokevirtual 136, 3) := by decide +kernel
theorem dX1_countMatching_7 : decode cX1_countMatching 7 = .ok (.if_icmp .ge 27, 3) := by decide +kernel
theorem dX1_countMatching_10 : decode cX1_countMatching 10 = .ok (.aload_n 0, 1) := by decide +kernel
theorem dX1_countMatching_11 : decode cX1_countMatching 11 = .ok (.aload_n 0, 1) := by decide +kernel
theorem dX1_countMatching_12 : decode cX1_countMatching 12 = .ok (.getfield 19, 3) := by decide +kernel
theorem dX1_countMatching_15 : decode cX1_countMatching 15 = .ok (.iload_n 2, 1) := by decide +kernel
theorem dX1_countMatching_16 : decode cX1_countMatching 16 = .ok (.iadd, 1) := by decide +kernel
theorem dX1_countMatching_17 : decode cX1_countMatching 17 = .ok (.invokevirtual 154, 3) := by decide +kernel
theorem dX1_countMatching_20 : decode cX1_countMatching 20 = .ok (.aload_n 1, 1) := by decide +kernel
theorem dX1_countMatching_21 : decode cX1_countMatching 21 = .ok (.iload_n 2, 1) := by decide +kernel
theorem dX1_countMatching_22 : decode cX1_countMatching 22 = .ok (.invokevirtual 165, 3) := by decide +kernel
theorem dX1_countMatching_25 : decode cX1_countMatching 25 = .ok (.if_icmp .ne 9, 3) := by decide +kernel
theorem dX1_countMatching_28 : decode cX1_countMatching 28 = .ok (.iinc 2 1, 3) := by decide +kernel
theorem dX1_countMatching_31 : decode cX1_countMatching 31 = .ok (.goto (-29), 3) := by decide +kernel
theorem dX1_countMatching_34 : decode cX1_countMatching 34 = .ok (.iload_n 2, 1) := by decide +kernel
theorem dX1_countMatching_35 : decode cX1_countMatching 35 = .ok (.ireturn, 1) := by decide +kernel
theorem dX1_signAt_0 : decode cX1_signAt 0 = .ok (.iload_n 1, 1) := by decide +kernel
theorem dX1_signAt_1 : decode cX1_signAt 1 = .ok (.ifCond .lt 26, 3) := by decide +kernel
theorem dX1_signAt_4 : decode cX1_signAt 4 = .ok (.iload_n 1, 1) := by decide +kernel
theorem dX1_signAt_5 : decode cX1_signAt 5 = .ok (.aload_n 0, 1) := by decide +kernel
theorem dX1_signAt_6 : decode cX1_signAt 6 = .ok (.getfield 15, 3) := by decide +kernel
theorem dX1_signAt_9 : decode cX1_signAt 9 = .ok (.if_icmp .ge 18, 3) := by decide +kernel
theorem dX1_signAt_12 : decode cX1_signAt 12 = .ok (.iload_n 1, 1) := by decide +kernel
theorem dX1_signAt_13 : decode cX1_signAt 13 = .ok (.bipush 60, 2) := by decide +kernel
theorem dX1_signAt_15 : decode cX1_signAt 15 = .ok (.if_icmp .ge 12, 3) := by decide +kernel
theorem dX1_signAt_18 : decode cX1_signAt 18 = .ok (.aload_n 0, 1) := by decide +kernel
theorem dX1_signAt_19 : decode cX1_signAt 19 = .ok (.getfield 9, 3) := by decide +kernel
theorem dX1_signAt_22 : decode cX1_signAt 22 = .ok (.iload_n 1, 1) := by decide +kernel
theorem dX1_signAt_23 : decode cX1_signAt 23 = .ok (.caload, 1) := by decide +kernel
theorem dX1_signAt_24 : decode cX1_signAt 24 = .ok (.goto 4, 3) := by decide +kernel
theorem dX1_signAt_27 : decode cX1_signAt 27 = .ok (.iconst 0, 1) := by decide +kernel
theorem dX1_signAt_28 : decode cX1_signAt 28 = .ok (.ireturn, 1) := by decide +kernel
theorem dX2_init_0 : decode cX2_init 0 = .ok (.aload_n 0, 1) := by decide +kernel
theorem dX2_init_1 : decode cX2_init 1 = .ok (.invokespecial 3, 3) := by decide +kernel
theorem dX2_init_4 : decode cX2_init 4 = .ok (.aload_n 0, 1) := by decide +kernel
theorem dX2_init_5 : decode cX2_init 5 = .ok (.bipush 8, 2) := by decide +kernel
theorem dX2_init_7 : decode cX2_init 7 = .ok (.anewarray 9, 3) := by decide +kernel
theorem dX2_init_10 : decode cX2_init 10 = .ok (.putfield 11, 3) := by decide +kernel
theorem dX2_init_13 : decode cX2_init 13 = .ok (.aload_n 0, 1) := by decide +kernel
theorem dX2_init_14 : decode cX2_init 14 = .ok (.iconst 0, 1) := by decide +kernel
theorem dX2_init_15 : decode cX2_init 15 = .ok (.putfield 17, 3) := by decide +kernel
theorem dX2_init_18 : decode cX2_init 18 = .ok (.aload_n 0, 1) := by decide +kernel
theorem dX2_init_19 : decode cX2_init 19 = .ok (.iconst 0, 1) := by decide +kernel
theorem dX2_init_20 : decode cX2_init 20 = .ok (.putfield 21, 3) := by decide +kernel
theorem dX2_init_23 : decode cX2_init 23 = .ok (.iconst 0, 1) := by decide +kernel
theorem dX2_init_24 : decode cX2_init 24 = .ok (.istore_n 1, 1) := by decide +kernel
theorem dX2_init_25 : decode cX2_init 25 = .ok (.iload_n 1, 1) := by decide +kernel
theorem dX2_init_26 : decode cX2_init 26 = .ok (.bipush 8, 2) := by decide +kernel
theorem dX2_init_28 : decode cX2_init 28 = .ok (.if_icmp .ge 22, 3) := by decide +kernel
theorem dX2_init_31 : decode cX2_init 31 = .ok (.aload_n 0, 1) := by decide +kernel
theorem dX2_init_32 : decode cX2_init 32 = .ok (.getfield 11, 3) := by decide +kernel
theorem dX2_init_35 : decode cX2_init 35 = .ok (.iload_n 1, 1) := by decide +kernel
theorem dX2_init_36 : decode cX2_init 36 = .ok (.new 9, 3) := by decide +kernel
theorem dX2_init_39 : decode cX2_init 39 = .ok (.dup, 1) := by decide +kernel
theorem dX2_init_40 : decode cX2_init 40 = .ok (.invokespecial 24, 3) := by decide +kernel
theorem dX2_init_43 : decode cX2_init 43 = .ok (.aastore, 1) := by decide +kernel
theorem dX2_init_44 : decode cX2_init 44 = .ok (.iinc 1 1, 3) := by decide +kernel
theorem dX2_init_47 : decode cX2_init 47 = .ok (.goto (-22), 3) := by decide +kernel
theorem dX2_init_50 : decode cX2_init 50 = .ok (.return_, 1) := by decide +kernel
theorem dX2_keep_0 : decode cX2_keep 0 = .ok (.aload_n 0, 1) := by decide +kernel
theorem dX2_keep_1 : decode cX2_keep 1 = .ok (.invokevirtual 25, 3) := by decide +kernel
theorem dX2_keep_4 : decode cX2_keep 4 = .ok (.astore_n 2, 1) := by decide +kernel
theorem dX2_keep_5 : decode cX2_keep 5 = .ok (.aload_n 2, 1) := by decide +kernel
theorem dX2_keep_6 : decode cX2_keep 6 = .ok (.ifnull 8, 3) := by decide +kernel
theorem dX2_keep_9 : decode cX2_keep 9 = .ok (.aload_n 2, 1) := by decide +kernel
theorem dX2_keep_10 : decode cX2_keep 10 = .ok (.aload_n 1, 1) := by decide +kernel
theorem dX2_keep_11 : decode cX2_keep 11 = .ok (.invokevirtual 29, 3) := by decide +kernel
theorem dX2_keep_14 : decode cX2_keep 14 = .ok (.aload_n 0, 1) := by decide +kernel
theorem dX2_keep_15 : decode cX2_keep 15 = .ok (.aload_n 0, 1) := by decide +kernel
theorem dX2_keep_16 : decode cX2_keep 16 = .ok (.getfield 17, 3) := by decide +kernel
theorem dX2_keep_19 : decode cX2_keep 19 = .ok (.bipush 7, 2) := by decide +kernel
theorem dX2_keep_21 : decode cX2_keep 21 = .ok (.if_icmp .ge 12, 3) := by decide +kernel
theorem dX2_keep_24 : decode cX2_keep 24 = .ok (.aload_n 0, 1) := by decide +kernel
theorem dX2_keep_25 : decode cX2_keep 25 = .ok (.getfield 17, 3) := by decide +kernel
theorem dX2_keep_28 : decode cX2_keep 28 = .ok (.iconst 1, 1) := by decide +kernel
theorem dX2_keep_29 : decode cX2_keep 29 = .ok (.iadd, 1) := by decide +kernel
theorem dX2_keep_30 : decode cX2_keep 30 = .ok (.goto 4, 3) := by decide +kernel
theorem dX2_keep_33 : decode cX2_keep 33 = .ok (.iconst 0, 1) := by decide +kernel
theorem dX2_keep_34 : decode cX2_keep 34 = .ok (.putfield 17, 3) := by decide +kernel
theorem dX2_keep_37 : decode cX2_keep 37 = .ok (.aload_n 0, 1) := by decide +kernel
theorem dX2_keep_38 : decode cX2_keep 38 = .ok (.aload_n 0, 1) := by decide +kernel
theorem dX2_keep_39 : decode cX2_keep 39 = .ok (.getfield 21, 3) := by decide +kernel
theorem dX2_keep_42 : decode cX2_keep 42 = .ok (.iconst 1, 1) := by decide +kernel
theorem dX2_keep_43 : decode cX2_keep 43 = .ok (.iadd, 1) := by decide +kernel
theorem dX2_keep_44 : decode cX2_keep 44 = .ok (.bipush 8, 2) := by decide +kernel
theorem dX2_keep_46 : decode cX2_keep 46 = .ok (.invokestatic 33, 3) := by decide +kernel
theorem dX2_keep_49 : decode cX2_keep 49 = .ok (.putfield 21, 3) := by decide +kernel
theorem dX2_keep_52 : decode cX2_keep 52 = .ok (.return_, 1) := by decide +kernel
theorem dX2_takeBack_0 : decode cX2_takeBack 0 = .ok (.aload_n 0, 1) := by decide +kernel
theorem dX2_takeBack_1 : decode cX2_takeBack 1 = .ok (.aload_n 0, 1) := by decide +kernel
theorem dX2_takeBack_2 : decode cX2_takeBack 2 = .ok (.getfield 17, 3) := by decide +kernel
theorem dX2_takeBack_5 : decode cX2_takeBack 5 = .ok (.ifCond .le 12, 3) := by decide +kernel
theorem dX2_takeBack_8 : decode cX2_takeBack 8 = .ok (.aload_n 0, 1) := by decide +kernel
theorem dX2_takeBack_9 : decode cX2_takeBack 9 = .ok (.getfield 17, 3) := by decide +kernel
theorem dX2_takeBack_12 : decode cX2_takeBack 12 = .ok (.iconst 1, 1) := by decide +kernel
theorem dX2_takeBack_13 : decode cX2_takeBack 13 = .ok (.isub, 1) := by decide +kernel
theorem dX2_takeBack_14 : decode cX2_takeBack 14 = .ok (.goto 5, 3) := by decide +kernel
theorem dX2_takeBack_17 : decode cX2_takeBack 17 = .ok (.bipush 7, 2) := by decide +kernel
theorem dX2_takeBack_19 : decode cX2_takeBack 19 = .ok (.putfield 17, 3) := by decide +kernel
theorem dX2_takeBack_22 : decode cX2_takeBack 22 = .ok (.aload_n 0, 1) := by decide +kernel
theorem dX2_takeBack_23 : decode cX2_takeBack 23 = .ok (.aload_n 0, 1) := by decide +kernel
theorem dX2_takeBack_24 : decode cX2_takeBack 24 = .ok (.getfield 21, 3) := by decide +kernel
theorem dX2_takeBack_27 : decode cX2_takeBack 27 = .ok (.iconst 1, 1) := by decide +kernel
theorem dX2_takeBack_28 : decode cX2_takeBack 28 = .ok (.isub, 1) := by decide +kernel
theorem dX2_takeBack_29 : decode cX2_takeBack 29 = .ok (.iconst 0, 1) := by decide +kernel
theorem dX2_takeBack_30 : decode cX2_takeBack 30 = .ok (.invokestatic 39, 3) := by decide +kernel
theorem dX2_takeBack_33 : decode cX2_takeBack 33 = .ok (.putfield 21, 3) := by decide +kernel
theorem dX2_takeBack_36 : decode cX2_takeBack 36 = .ok (.aload_n 0, 1) := by decide +kernel
theorem dX2_takeBack_37 : decode cX2_takeBack 37 = .ok (.invokevirtual 25, 3) := by decide +kernel
theorem dX2_takeBack_40 : decode cX2_takeBack 40 = .ok (.astore_n 2, 1) := by decide +kernel
theorem dX2_takeBack_41 : decode cX2_takeBack 41 = .ok (.aload_n 2, 1) := by decide +kernel
theorem dX2_takeBack_42 : decode cX2_takeBack 42 = .ok (.ifnull 8, 3) := by decide +kernel
theorem dX2_takeBack_45 : decode cX2_takeBack 45 = .ok (.aload_n 1, 1) := by decide +kernel
theorem dX2_takeBack_46 : decode cX2_takeBack 46 = .ok (.aload_n 2, 1) := by decide +kernel
theorem dX2_takeBack_47 : decode cX2_takeBack 47 = .ok (.invokevirtual 29, 3) := by decide +kernel
theorem dX2_takeBack_50 : decode cX2_takeBack 50 = .ok (.return_, 1) := by decide +kernel
theorem dX2_forget_0 : decode cX2_forget 0 = .ok (.aload_n 0, 1) := by decide +kernel
theorem dX2_forget_1 : decode cX2_forget 1 = .ok (.iconst 0, 1) := by decide +kernel
theorem dX2_forget_2 : decode cX2_forget 2 = .ok (.putfield 21, 3) := by decide +kernel
theorem dX2_forget_5 : decode cX2_forget 5 = .ok (.return_, 1) := by decide +kernel
theorem dX2_nextSlot_0 : decode cX2_nextSlot 0 = .ok (.aload_n 0, 1) := by decide +kernel
theorem dX2_nextSlot_1 : decode cX2_nextSlot 1 = .ok (.getfield 17, 3) := by decide +kernel
theorem dX2_nextSlot_4 : decode cX2_nextSlot 4 = .ok (.ifCond .lt 24, 3) := by decide +kernel
theorem dX2_nextSlot_7 : decode cX2_nextSlot 7 = .ok (.aload_n 0, 1) := by decide +kernel
theorem dX2_nextSlot_8 : decode cX2_nextSlot 8 = .ok (.getfield 17, 3) := by decide +kernel
theorem dX2_nextSlot_11 : decode cX2_nextSlot 11 = .ok (.bipush 8, 2) := by decide +kernel
theorem dX2_nextSlot_13 : decode cX2_nextSlot 13 = .ok (.if_icmp .ge 15, 3) := by decide +kernel
theorem dX2_nextSlot_16 : decode cX2_nextSlot 16 = .ok (.aload_n 0, 1) := by decide +kernel
theorem dX2_nextSlot_17 : decode cX2_nextSlot 17 = .ok (.getfield 11, 3) := by decide +kernel
theorem dX2_nextSlot_20 : decode cX2_nextSlot 20 = .ok (.aload_n 0, 1) := by decide +kernel
theorem dX2_nextSlot_21 : decode cX2_nextSlot 21 = .ok (.getfield 17, 3) := by decide +kernel
theorem dX2_nextSlot_24 : decode cX2_nextSlot 24 = .ok (.aaload, 1) := by decide +kernel
theorem dX2_nextSlot_25 : decode cX2_nextSlot 25 = .ok (.goto 4, 3) := by decide +kernel
theorem dX2_nextSlot_28 : decode cX2_nextSlot 28 = .ok (.aconst_null, 1) := by decide +kernel
theorem dX2_nextSlot_29 : decode cX2_nextSlot 29 = .ok (.areturn, 1) := by decide +kernel
theorem dX3_init_0 : decode cX3_init 0 = .ok (.aload_n 0, 1) := by decide +kernel
theorem dX3_init_1 : decode cX3_init 1 = .ok (.invokespecial 3, 3) := by decide +kernel
theorem dX3_init_4 : decode cX3_init 4 = .ok (.aload_n 0, 1) := by decide +kernel
theorem dX3_init_5 : decode cX3_init 5 = .ok (.bipush 64, 2) := by decide +kernel
theorem dX3_init_7 : decode cX3_init 7 = .ok (.newarray .int, 2) := by decide +kernel
theorem dX3_init_9 : decode cX3_init 9 = .ok (.putfield 9, 3) := by decide +kernel
theorem dX3_init_12 : decode cX3_init 12 = .ok (.aload_n 0, 1) := by decide +kernel
theorem dX3_init_13 : decode cX3_init 13 = .ok (.bipush 64, 2) := by decide +kernel
theorem dX3_init_15 : decode cX3_init 15 = .ok (.newarray .int, 2) := by decide +kernel
theorem dX3_init_17 : decode cX3_init 17 = .ok (.putfield 15, 3) := by decide +kernel
theorem dX3_init_20 : decode cX3_init 20 = .ok (.aload_n 0, 1) := by decide +kernel
theorem dX3_init_21 : decode cX3_init 21 = .ok (.iconst 0, 1) := by decide +kernel
theorem dX3_init_22 : decode cX3_init 22 = .ok (.putfield 18, 3) := by decide +kernel
theorem dX3_init_25 : decode cX3_init 25 = .ok (.return_, 1) := by decide +kernel
theorem dX3_markOf_0 : decode cX3_markOf 0 = .ok (.iload_n 1, 1) := by decide +kernel
theorem dX3_markOf_1 : decode cX3_markOf 1 = .ok (.ifCond .lt 18, 3) := by decide +kernel
theorem dX3_markOf_4 : decode cX3_markOf 4 = .ok (.iload_n 1, 1) := by decide +kernel
theorem dX3_markOf_5 : decode cX3_markOf 5 = .ok (.bipush 64, 2) := by decide +kernel
theorem dX3_markOf_7 : decode cX3_markOf 7 = .ok (.if_icmp .ge 12, 3) := by decide +kernel
theorem dX3_markOf_10 : decode cX3_markOf 10 = .ok (.aload_n 0, 1) := by decide +kernel
theorem dX3_markOf_11 : decode cX3_markOf 11 = .ok (.getfield 9, 3) := by decide +kernel
theorem dX3_markOf_14 : decode cX3_markOf 14 = .ok (.iload_n 1, 1) := by decide +kernel
theorem dX3_markOf_15 : decode cX3_markOf 15 = .ok (.iaload, 1) := by decide +kernel
theorem dX3_markOf_16 : decode cX3_markOf 16 = .ok (.goto 4, 3) := by decide +kernel
theorem dX3_markOf_19 : decode cX3_markOf 19 = .ok (.iconst 0, 1) := by decide +kernel
theorem dX3_markOf_20 : decode cX3_markOf 20 = .ok (.ireturn, 1) := by decide +kernel
theorem dX3_sizeOf_0 : decode cX3_sizeOf 0 = .ok (.iconst 0, 1) := by decide +kernel
theorem dX3_sizeOf_1 : decode cX3_sizeOf 1 = .ok (.istore_n 2, 1) := by decide +kernel
theorem dX3_sizeOf_2 : decode cX3_sizeOf 2 = .ok (.iconst 0, 1) := by decide +kernel
theorem dX3_sizeOf_3 : decode cX3_sizeOf 3 = .ok (.istore_n 3, 1) := by decide +kernel
theorem dX3_sizeOf_4 : decode cX3_sizeOf 4 = .ok (.iload_n 3, 1) := by decide +kernel
theorem dX3_sizeOf_5 : decode cX3_sizeOf 5 = .ok (.bipush 64, 2) := by decide +kernel
theorem dX3_sizeOf_7 : decode cX3_sizeOf 7 = .ok (.if_icmp .ge 22, 3) := by decide +kernel
theorem dX3_sizeOf_10 : decode cX3_sizeOf 10 = .ok (.aload_n 0, 1) := by decide +kernel
theorem dX3_sizeOf_11 : decode cX3_sizeOf 11 = .ok (.getfield 9, 3) := by decide +kernel
theorem dX3_sizeOf_14 : decode cX3_sizeOf 14 = .ok (.iload_n 3, 1) := by decide +kernel
theorem dX3_sizeOf_15 : decode cX3_sizeOf 15 = .ok (.iaload, 1) := by decide +kernel
theorem dX3_sizeOf_16 : decode cX3_sizeOf 16 = .ok (.iload_n 1, 1) := by decide +kernel
theorem dX3_sizeOf_17 : decode cX3_sizeOf 17 = .ok (.if_icmp .ne 6, 3) := by decide +kernel
theorem dX3_sizeOf_20 : decode cX3_sizeOf 20 = .ok (.iinc 2 1, 3) := by decide +kernel
theorem dX3_sizeOf_23 : decode cX3_sizeOf 23 = .ok (.iinc 3 1, 3) := by decide +kernel
theorem dX3_sizeOf_26 : decode cX3_sizeOf 26 = .ok (.goto (-22), 3) := by decide +kernel
theorem dX3_sizeOf_29 : decode cX3_sizeOf 29 = .ok (.iload_n 2, 1) := by decide +kernel
theorem dX3_sizeOf_30 : decode cX3_sizeOf 30 = .ok (.ireturn, 1) := by decide +kernel
theorem dX3_search_0 : decode cX3_search 0 = .ok (.iconst 0, 1) := by decide +kernel
theorem dX3_search_1 : decode cX3_search 1 = .ok (.istore_n 3, 1) := by decide +kernel
theorem dX3_search_2 : decode cX3_search 2 = .ok (.iload_n 3, 1) := by decide +kernel
theorem dX3_search_3 : decode cX3_search 3 = .ok (.bipush 64, 2) := by decide +kernel
theorem dX3_search_5 : decode cX3_search 5 = .ok (.if_icmp .ge 16, 3) := by decide +kernel
theorem dX3_search_8 : decode cX3_search 8 = .ok (.aload_n 0, 1) := by decide +kernel
theorem dX3_search_9 : decode cX3_search 9 = .ok (.getfield 9, 3) := by decide +kernel
theorem dX3_search_12 : decode cX3_search 12 = .ok (.iload_n 3, 1) := by decide +kernel
theorem dX3_search_13 : decode cX3_search 13 = .ok (.iconst 0, 1) := by decide +kernel
theorem dX3_search_14 : decode cX3_search 14 = .ok (.iastore, 1) := by decide +kernel
theorem dX3_search_15 : decode cX3_search 15 = .ok (.iinc 3 1, 3) := by decide +kernel
theorem dX3_search_18 : decode cX3_search 18 = .ok (.goto (-16), 3) := by decide +kernel
theorem dX3_search_21 : decode cX3_search 21 = .ok (.iconst 0, 1) := by decide +kernel
theorem dX3_search_22 : decode cX3_search 22 = .ok (.istore_n 3, 1) := by decide +kernel
theorem dX3_search_23 : decode cX3_search 23 = .ok (.iconst 0, 1) := by decide +kernel
theorem dX3_search_24 : decode cX3_search 24 = .ok (.istore 4, 2) := by decide +kernel
theorem dX3_search_26 : decode cX3_search 26 = .ok (.iload 4, 2) := by decide +kernel
theorem dX3_search_28 : decode cX3_search 28 = .ok (.bipush 64, 2) := by decide +kernel
theorem dX3_search_30 : decode cX3_search 30 = .ok (.if_icmp .ge 41, 3) := by decide +kernel
theorem dX3_search_33 : decode cX3_search 33 = .ok (.aload_n 0, 1) := by decide +kernel
theorem dX3_search_34 : decode cX3_search 34 = .ok (.getfield 9, 3) := by decide +kernel
theorem dX3_search_37 : decode cX3_search 37 = .ok (.iload 4, 2) := by decide +kernel
theorem dX3_search_39 : decode cX3_search 39 = .ok (.iaload, 1) := by decide +kernel
theorem dX3_search_40 : decode cX3_search 40 = .ok (.ifCond .ne 25, 3) := by decide +kernel
theorem dX3_search_43 : decode cX3_search 43 = .ok (.aload_n 1, 1) := by decide +kernel
theorem dX3_search_44 : decode cX3_search 44 = .ok (.iload 4, 2) := by decide +kernel
theorem dX3_search_46 : decode cX3_search 46 = .ok (.iload_n 2, 1) := by decide +kernel
theorem dX3_search_47 : decode cX3_search 47 = .ok (.invokevirtual 22, 3) := by decide +kernel
theorem dX3_search_50 : decode cX3_search 50 = .ok (.ifCond .eq 15, 3) := by decide +kernel
theorem dX3_search_53 : decode cX3_search 53 = .ok (.iinc 3 1, 3) := by decide +kernel
theorem dX3_search_56 : decode cX3_search 56 = .ok (.aload_n 0, 1) := by decide +kernel
theorem dX3_search_57 : decode cX3_search 57 = .ok (.aload_n 1, 1) := by decide +kernel
theorem dX3_search_58 : decode cX3_search 58 = .ok (.iload 4, 2) := by decide +kernel
theorem dX3_search_60 : decode cX3_search 60 = .ok (.iload_n 2, 1) := by decide +kernel
theorem dX3_search_61 : decode cX3_search 61 = .ok (.iload_n 3, 1) := by decide +kernel
theorem dX3_search_62 : decode cX3_search 62 = .ok (.invokevirtual 28, 3) := by decide +kernel
theorem dX3_search_65 : decode cX3_search 65 = .ok (.iinc 4 1, 3) := by decide +kernel
theorem dX3_search_68 : decode cX3_search 68 = .ok (.goto (-42), 3) := by decide +kernel
theorem dX3_search_71 : decode cX3_search 71 = .ok (.iload_n 3, 1) := by decide +kernel
theorem dX3_search_72 : decode cX3_search 72 = .ok (.ireturn, 1) := by decide +kernel
theorem dX3_spread_0 : decode cX3_spread 0 = .ok (.aload_n 0, 1) := by decide +kernel
theorem dX3_spread_1 : decode cX3_spread 1 = .ok (.iconst 0, 1) := by decide +kernel
theorem dX3_spread_2 : decode cX3_spread 2 = .ok (.putfield 18, 3) := by decide +kernel
theorem dX3_spread_5 : decode cX3_spread 5 = .ok (.aload_n 0, 1) := by decide +kernel
theorem dX3_spread_6 : decode cX3_spread 6 = .ok (.aload_n 1, 1) := by decide +kernel
theorem dX3_spread_7 : decode cX3_spread 7 = .ok (.iload_n 2, 1) := by decide +kernel
theorem dX3_spread_8 : decode cX3_spread 8 = .ok (.iload_n 3, 1) := by decide +kernel
theorem dX3_spread_9 : decode cX3_spread 9 = .ok (.iload 4, 2) := by decide +kernel
theorem dX3_spread_11 : decode cX3_spread 11 = .ok (.invokevirtual 32, 3) := by decide +kernel
theorem dX3_spread_14 : decode cX3_spread 14 = .ok (.iconst 0, 1) := by decide +kernel
theorem dX3_spread_15 : decode cX3_spread 15 = .ok (.istore 5, 2) := by decide +kernel
theorem dX3_spread_17 : decode cX3_spread 17 = .ok (.iload 5, 2) := by decide +kernel
theorem dX3_spread_19 : decode cX3_spread 19 = .ok (.aload_n 0, 1) := by decide +kernel
theorem dX3_spread_20 : decode cX3_spread 20 = .ok (.getfield 18, 3) := by decide +kernel
theorem dX3_spread_23 : decode cX3_spread 23 = .ok (.if_icmp .ge 93, 3) := by decide +kernel
theorem dX3_spread_26 : decode cX3_spread 26 = .ok (.iload 5, 2) := by decide +kernel
theorem dX3_spread_28 : decode cX3_spread 28 = .ok (.bipush 64, 2) := by decide +kernel
theorem dX3_spread_30 : decode cX3_spread 30 = .ok (.if_icmp .ge 86, 3) := by decide +kernel
theorem dX3_spread_33 : decode cX3_spread 33 = .ok (.aload_n 0, 1) := by decide +kernel
theorem dX3_spread_34 : decode cX3_spread 34 = .ok (.getfield 15, 3) := by decide +kernel
theorem dX3_spread_37 : decode cX3_spread 37 = .ok (.iload 5, 2) := by decide +kernel
theorem dX3_spread_39 : decode cX3_spread 39 = .ok (.iaload, 1) := by decide +kernel
theorem dX3_spread_40 : decode cX3_spread 40 = .ok (.istore 6, 2) := by decide +kernel
theorem dX3_spread_42 : decode cX3_spread 42 = .ok (.iload 6, 2) := by decide +kernel
theorem dX3_spread_44 : decode cX3_spread 44 = .ok (.bipush 8, 2) := by decide +kernel
theorem dX3_spread_46 : decode cX3_spread 46 = .ok (.irem, 1) := by decide +kernel
theorem dX3_spread_47 : decode cX3_spread 47 = .ok (.ifCond .le 15, 3) := by decide +kernel
theorem dX3_spread_50 : decode cX3_spread 50 = .ok (.aload_n 0, 1) := by decide +kernel
theorem dX3_spread_51 : decode cX3_spread 51 = .ok (.aload_n 1, 1) := by decide +kernel
theorem dX3_spread_52 : decode cX3_spread 52 = .ok (.iload 6, 2) := by decide +kernel
theorem dX3_spread_54 : decode cX3_spread 54 = .ok (.iconst 1, 1) := by decide +kernel
theorem dX3_spread_55 : decode cX3_spread 55 = .ok (.isub, 1) := by decide +kernel
theorem dX3_spread_56 : decode cX3_spread 56 = .ok (.iload_n 3, 1) := by decide +kernel
theorem dX3_spread_57 : decode cX3_spread 57 = .ok (.iload 4, 2) := by decide +kernel
theorem dX3_spread_59 : decode cX3_spread 59 = .ok (.invokevirtual 32, 3) := by decide +kernel
theorem dX3_spread_62 : decode cX3_spread 62 = .ok (.iload 6, 2) := by decide +kernel
theorem dX3_spread_64 : decode cX3_spread 64 = .ok (.bipush 8, 2) := by decide +kernel
theorem dX3_spread_66 : decode cX3_spread 66 = .ok (.irem, 1) := by decide +kernel
theorem dX3_spread_67 : decode cX3_spread 67 = .ok (.bipush 7, 2) := by decide +kernel
theorem dX3_spread_69 : decode cX3_spread 69 = .ok (.if_icmp .ge 15, 3) := by decide +kernel
theorem dX3_spread_72 : decode cX3_spread 72 = .ok (.aload_n 0, 1) := by decide +kernel
theorem dX3_spread_73 : decode cX3_spread 73 = .ok (.aload_n 1, 1) := by decide +kernel
theorem dX3_spread_74 : decode cX3_spread 74 = .ok (.iload 6, 2) := by decide +kernel
theorem dX3_spread_76 : decode cX3_spread 76 = .ok (.iconst 1, 1) := by decide +kernel
theorem dX3_spread_77 : decode cX3_spread 77 = .ok (.iadd, 1) := by decide +kernel
theorem dX3_spread_78 : decode cX3_spread 78 = .ok (.iload_n 3, 1) := by decide +kernel
theorem dX3_spread_79 : decode cX3_spread 79 = .ok (.iload 4, 2) := by decide +kernel
theorem dX3_spread_81 : decode cX3_spread 81 = .ok (.invokevirtual 32, 3) := by decide +kernel
theorem dX3_spread_84 : decode cX3_spread 84 = .ok (.aload_n 0, 1) := by decide +kernel
theorem dX3_spread_85 : decode cX3_spread 85 = .ok (.aload_n 1, 1) := by decide +kernel
theorem dX3_spread_86 : decode cX3_spread 86 = .ok (.iload 6, 2) := by decide +kernel
theorem dX3_spread_88 : decode cX3_spread 88 = .ok (.bipush 8, 2) := by decide +kernel
theorem dX3_spread_90 : decode cX3_spread 90 = .ok (.isub, 1) := by decide +kernel
theorem dX3_spread_91 : decode cX3_spread 91 = .ok (.iload_n 3, 1) := by decide +kernel
theorem dX3_spread_92 : decode cX3_spread 92 = .ok (.iload 4, 2) := by decide +kernel
theorem dX3_spread_94 : decode cX3_spread 94 = .ok (.invokevirtual 32, 3) := by decide +kernel
theorem dX3_spread_97 : decode cX3_spread 97 = .ok (.aload_n 0, 1) := by decide +kernel
theorem dX3_spread_98 : decode cX3_spread 98 = .ok (.aload_n 1, 1) := by decide +kernel
theorem dX3_spread_99 : decode cX3_spread 99 = .ok (.iload 6, 2) := by decide +kernel
theorem dX3_spread_101 : decode cX3_spread 101 = .ok (.bipush 8, 2) := by decide +kernel
theorem dX3_spread_103 : decode cX3_spread 103 = .ok (.iadd, 1) := by decide +kernel
theorem dX3_spread_104 : decode cX3_spread 104 = .ok (.iload_n 3, 1) := by decide +kernel
theorem dX3_spread_105 : decode cX3_spread 105 = .ok (.iload 4, 2) := by decide +kernel
theorem dX3_spread_107 : decode cX3_spread 107 = .ok (.invokevirtual 32, 3) := by decide +kernel
theorem dX3_spread_110 : decode cX3_spread 110 = .ok (.iinc 5 1, 3) := by decide +kernel
theorem dX3_spread_113 : decode cX3_spread 113 = .ok (.goto (-96), 3) := by decide +kernel
theorem dX3_spread_116 : decode cX3_spread 116 = .ok (.return_, 1) := by decide +kernel
theorem dX3_reach_0 : decode cX3_reach 0 = .ok (.iload_n 2, 1) := by decide +kernel
theorem dX3_reach_1 : decode cX3_reach 1 = .ok (.ifCond .lt 25, 3) := by decide +kernel
theorem dX3_reach_4 : decode cX3_reach 4 = .ok (.iload_n 2, 1) := by decide +kernel
theorem dX3_reach_5 : decode cX3_reach 5 = .ok (.bipush 64, 2) := by decide +kernel
theorem dX3_reach_7 : decode cX3_reach 7 = .ok (.if_icmp .ge 19, 3) := by decide +kernel
theorem dX3_reach_10 : decode cX3_reach 10 = .ok (.aload_n 0, 1) := by decide +kernel
theorem dX3_reach_11 : decode cX3_reach 11 = .ok (.getfield 18, 3) := by decide +kernel
theorem dX3_reach_14 : decode cX3_reach 14 = .ok (.ifCond .lt 12, 3) := by decide +kernel
theorem dX3_reach_17 : decode cX3_reach 17 = .ok (.aload_n 0, 1) := by decide +kernel
theorem dX3_reach_18 : decode cX3_reach 18 = .ok (.getfield 18, 3) := by decide +kernel
theorem dX3_reach_21 : decode cX3_reach 21 = .ok (.bipush 64, 2) := by decide +kernel
theorem dX3_reach_23 : decode cX3_reach 23 = .ok (.if_icmp .lt 4, 3) := by decide +kernel
theorem dX3_reach_26 : decode cX3_reach 26 = .ok (.return_, 1) := by decide +kernel
theorem dX3_reach_27 : decode cX3_reach 27 = .ok (.aload_n 0, 1) := by decide +kernel
theorem dX3_reach_28 : decode cX3_reach 28 = .ok (.getfield 9, 3) := by decide +kernel
theorem dX3_reach_31 : decode cX3_reach 31 = .ok (.iload_n 2, 1) := by decide +kernel
theorem dX3_reach_32 : decode cX3_reach 32 = .ok (.iaload, 1) := by decide +kernel
theorem dX3_reach_33 : decode cX3_reach 33 = .ok (.ifCond .ne 40, 3) := by decide +kernel
theorem dX3_reach_36 : decode cX3_reach 36 = .ok (.aload_n 1, 1) := by decide +kernel
theorem dX3_reach_37 : decode cX3_reach 37 = .ok (.iload_n 2, 1) := by decide +kernel
theorem dX3_reach_38 : decode cX3_reach 38 = .ok (.iload_n 3, 1) := by decide +kernel
theorem dX3_reach_39 : decode cX3_reach 39 = .ok (.invokevirtual 22, 3) := by decide +kernel
theorem dX3_reach_42 : decode cX3_reach 42 = .ok (.ifCond .eq 31, 3) := by decide +kernel
theorem dX3_reach_45 : decode cX3_reach 45 = .ok (.aload_n 0, 1) := by decide +kernel
theorem dX3_reach_46 : decode cX3_reach 46 = .ok (.getfield 9, 3) := by decide +kernel
theorem dX3_reach_49 : decode cX3_reach 49 = .ok (.iload_n 2, 1) := by decide +kernel
theorem dX3_reach_50 : decode cX3_reach 50 = .ok (.iload 4, 2) := by decide +kernel
theorem dX3_reach_52 : decode cX3_reach 52 = .ok (.iastore, 1) := by decide +kernel
theorem dX3_reach_53 : decode cX3_reach 53 = .ok (.aload_n 0, 1) := by decide +kernel
theorem dX3_reach_54 : decode cX3_reach 54 = .ok (.getfield 15, 3) := by decide +kernel
theorem dX3_reach_57 : decode cX3_reach 57 = .ok (.aload_n 0, 1) := by decide +kernel
theorem dX3_reach_58 : decode cX3_reach 58 = .ok (.getfield 18, 3) := by decide +kernel
theorem dX3_reach_61 : decode cX3_reach 61 = .ok (.iload_n 2, 1) := by decide +kernel
theorem dX3_reach_62 : decode cX3_reach 62 = .ok (.iastore, 1) := by decide +kernel
theorem dX3_reach_63 : decode cX3_reach 63 = .ok (.aload_n 0, 1) := by decide +kernel
theorem dX3_reach_64 : decode cX3_reach 64 = .ok (.dup, 1) := by decide +kernel
theorem dX3_reach_65 : decode cX3_reach 65 = .ok (.getfield 18, 3) := by decide +kernel
theorem dX3_reach_68 : decode cX3_reach 68 = .ok (.iconst 1, 1) := by decide +kernel
theorem dX3_reach_69 : decode cX3_reach 69 = .ok (.iadd, 1) := by decide +kernel
theorem dX3_reach_70 : decode cX3_reach 70 = .ok (.putfield 18, 3) := by decide +kernel
theorem dX3_reach_73 : decode cX3_reach 73 = .ok (.return_, 1) := by decide +kernel
theorem dX3_merge_0 : decode cX3_merge 0 = .ok (.iconst 0, 1) := by decide +kernel
theorem dX3_merge_1 : decode cX3_merge 1 = .ok (.istore_n 2, 1) := by decide +kernel
theorem dX3_merge_2 : decode cX3_merge 2 = .ok (.iconst 0, 1) := by decide +kernel
theorem dX3_merge_3 : decode cX3_merge 3 = .ok (.istore_n 3, 1) := by decide +kernel
theorem dX3_merge_4 : decode cX3_merge 4 = .ok (.iload_n 3, 1) := by decide +kernel
theorem dX3_merge_5 : decode cX3_merge 5 = .ok (.bipush 64, 2) := by decide +kernel
theorem dX3_merge_7 : decode cX3_merge 7 = .ok (.if_icmp .ge 49, 3) := by decide +kernel
theorem dX3_merge_10 : decode cX3_merge 10 = .ok (.aload_n 1, 1) := by decide +kernel
theorem dX3_merge_11 : decode cX3_merge 11 = .ok (.iload_n 3, 1) := by decide +kernel
theorem dX3_merge_12 : decode cX3_merge 12 = .ok (.bipush 42, 2) := by decide +kernel
theorem dX3_merge_14 : decode cX3_merge 14 = .ok (.invokevirtual 22, 3) := by decide +kernel
theorem dX3_merge_17 : decode cX3_merge 17 = .ok (.istore 4, 2) := by decide +kernel
theorem dX3_merge_19 : decode cX3_merge 19 = .ok (.aload_n 0, 1) := by decide +kernel
theorem dX3_merge_20 : decode cX3_merge 20 = .ok (.getfield 9, 3) := by decide +kernel
theorem dX3_merge_23 : decode cX3_merge 23 = .ok (.iload_n 3, 1) := by decide +kernel
theorem dX3_merge_24 : decode cX3_merge 24 = .ok (.iload 4, 2) := by decide +kernel
theorem dX3_merge_26 : decode cX3_merge 26 = .ok (.ifCond .eq 9, 3) := by decide +kernel
theorem dX3_merge_29 : decode cX3_merge 29 = .ok (.iload_n 3, 1) := by decide +kernel
theorem dX3_merge_30 : decode cX3_merge 30 = .ok (.iconst 1, 1) := by decide +kernel
theorem dX3_merge_31 : decode cX3_merge 31 = .ok (.iadd, 1) := by decide +kernel
theorem dX3_merge_32 : decode cX3_merge 32 = .ok (.goto 4, 3) := by decide +kernel
theorem dX3_merge_35 : decode cX3_merge 35 = .ok (.iconst 0, 1) := by decide +kernel
theorem dX3_merge_36 : decode cX3_merge 36 = .ok (.iastore, 1) := by decide +kernel
theorem dX3_merge_37 : decode cX3_merge 37 = .ok (.iload_n 2, 1) := by decide +kernel
theorem dX3_merge_38 : decode cX3_merge 38 = .ok (.iload 4, 2) := by decide +kernel
theorem dX3_merge_40 : decode cX3_merge 40 = .ok (.ifCond .eq 7, 3) := by decide +kernel
theorem dX3_merge_43 : decode cX3_merge 43 = .ok (.iconst 1, 1) := by decide +kernel
theorem dX3_merge_44 : decode cX3_merge 44 = .ok (.goto 4, 3) := by decide +kernel
theorem dX3_merge_47 : decode cX3_merge 47 = .ok (.iconst 0, 1) := by decide +kernel
theorem dX3_merge_48 : decode cX3_merge 48 = .ok (.iadd, 1) := by decide +kernel
theorem dX3_merge_49 : decode cX3_merge 49 = .ok (.istore_n 2, 1) := by decide +kernel
theorem dX3_merge_50 : decode cX3_merge 50 = .ok (.iinc 3 1, 3) := by decide +kernel
theorem dX3_merge_53 : decode cX3_merge 53 = .ok (.goto (-49), 3) := by decide +kernel
theorem dX3_merge_56 : decode cX3_merge 56 = .ok (.iconst 0, 1) := by decide +kernel
theorem dX3_merge_57 : decode cX3_merge 57 = .ok (.istore_n 3, 1) := by decide +kernel
theorem dX3_merge_58 : decode cX3_merge 58 = .ok (.iload_n 3, 1) := by decide +kernel
theorem dX3_merge_59 : decode cX3_merge 59 = .ok (.bipush 64, 2) := by decide +kernel
theorem dX3_merge_61 : decode cX3_merge 61 = .ok (.if_icmp .ge 63, 3) := by decide +kernel
theorem dX3_merge_64 : decode cX3_merge 64 = .ok (.iload_n 3, 1) := by decide +kernel
theorem dX3_merge_65 : decode cX3_merge 65 = .ok (.bipush 8, 2) := by decide +kernel
theorem dX3_merge_67 : decode cX3_merge 67 = .ok (.irem, 1) := by decide +kernel
theorem dX3_merge_68 : decode cX3_merge 68 = .ok (.bipush 7, 2) := by decide +kernel
theorem dX3_merge_70 : decode cX3_merge 70 = .ok (.if_icmp .ge 25, 3) := by decide +kernel
theorem dX3_merge_73 : decode cX3_merge 73 = .ok (.aload_n 0, 1) := by decide +kernel
theorem dX3_merge_74 : decode cX3_merge 74 = .ok (.aload_n 0, 1) := by decide +kernel
theorem dX3_merge_75 : decode cX3_merge 75 = .ok (.iload_n 3, 1) := by decide +kernel
theorem dX3_merge_76 : decode cX3_merge 76 = .ok (.invokevirtual 35, 3) := by decide +kernel
theorem dX3_merge_79 : decode cX3_merge 79 = .ok (.aload_n 0, 1) := by decide +kernel
theorem dX3_merge_80 : decode cX3_merge 80 = .ok (.iload_n 3, 1) := by decide +kernel
theorem dX3_merge_81 : decode cX3_merge 81 = .ok (.iconst 1, 1) := by decide +kernel
theorem dX3_merge_82 : decode cX3_merge 82 = .ok (.iadd, 1) := by decide +kernel
theorem dX3_merge_83 : decode cX3_merge 83 = .ok (.invokevirtual 35, 3) := by decide +kernel
theorem dX3_merge_86 : decode cX3_merge 86 = .ok (.invokevirtual 39, 3) := by decide +kernel
theorem dX3_merge_89 : decode cX3_merge 89 = .ok (.ifCond .eq 6, 3) := by decide +kernel
theorem dX3_merge_92 : decode cX3_merge 92 = .ok (.iinc 2 (-1), 3) := by decide +kernel
theorem dX3_merge_95 : decode cX3_merge 95 = .ok (.aload_n 0, 1) := by decide +kernel
theorem dX3_merge_96 : decode cX3_merge 96 = .ok (.aload_n 0, 1) := by decide +kernel
theorem dX3_merge_97 : decode cX3_merge 97 = .ok (.iload_n 3, 1) := by decide +kernel
theorem dX3_merge_98 : decode cX3_merge 98 = .ok (.invokevirtual 35, 3) := by decide +kernel
theorem dX3_merge_101 : decode cX3_merge 101 = .ok (.aload_n 0, 1) := by decide +kernel
theorem dX3_merge_102 : decode cX3_merge 102 = .ok (.iload_n 3, 1) := by decide +kernel
theorem dX3_merge_103 : decode cX3_merge 103 = .ok (.bipush 8, 2) := by decide +kernel
theorem dX3_merge_105 : decode cX3_merge 105 = .ok (.iadd, 1) := by decide +kernel
theorem dX3_merge_106 : decode cX3_merge 106 = .ok (.invokevirtual 35, 3) := by decide +kernel
theorem dX3_merge_109 : decode cX3_merge 109 = .ok (.invokevirtual 39, 3) := by decide +kernel
theorem dX3_merge_112 : decode cX3_merge 112 = .ok (.ifCond .eq 6, 3) := by decide +kernel
theorem dX3_merge_115 : decode cX3_merge 115 = .ok (.iinc 2 (-1), 3) := by decide +kernel
theorem dX3_merge_118 : decode cX3_merge 118 = .ok (.iinc 3 1, 3) := by decide +kernel
theorem dX3_merge_121 : decode cX3_merge 121 = .ok (.goto (-63), 3) := by decide +kernel
theorem dX3_merge_124 : decode cX3_merge 124 = .ok (.iload_n 2, 1) := by decide +kernel
theorem dX3_merge_125 : decode cX3_merge 125 = .ok (.ireturn, 1) := by decide +kernel
theorem dX3_joinSets_0 : decode cX3_joinSets 0 = .ok (.iload_n 1, 1) := by decide +kernel
theorem dX3_joinSets_1 : decode cX3_joinSets 1 = .ok (.ifCond .eq 12, 3) := by decide +kernel
theorem dX3_joinSets_4 : decode cX3_joinSets 4 = .ok (.iload_n 2, 1) := by decide +kernel
theorem dX3_joinSets_5 : decode cX3_joinSets 5 = .ok (.ifCond .eq 8, 3) := by decide +kernel
theorem dX3_joinSets_8 : decode cX3_joinSets 8 = .ok (.iload_n 1, 1) := by decide +kernel
theorem dX3_joinSets_9 : decode cX3_joinSets 9 = .ok (.iload_n 2, 1) := by decide +kernel
theorem dX3_joinSets_10 : decode cX3_joinSets 10 = .ok (.if_icmp .ne 5, 3) := by decide +kernel
theorem dX3_joinSets_13 : decode cX3_joinSets 13 = .ok (.iconst 0, 1) := by decide +kernel
theorem dX3_joinSets_14 : decode cX3_joinSets 14 = .ok (.ireturn, 1) := by decide +kernel
theorem dX3_joinSets_15 : decode cX3_joinSets 15 = .ok (.iconst 0, 1) := by decide +kernel
theorem dX3_joinSets_16 : decode cX3_joinSets 16 = .ok (.istore_n 3, 1) := by decide +kernel
theorem dX3_joinSets_17 : decode cX3_joinSets 17 = .ok (.iload_n 3, 1) := by decide +kernel
theorem dX3_joinSets_18 : decode cX3_joinSets 18 = .ok (.bipush 64, 2) := by decide +kernel
theorem dX3_joinSets_20 : decode cX3_joinSets 20 = .ok (.if_icmp .ge 26, 3) := by decide +kernel
theorem dX3_joinSets_23 : decode cX3_joinSets 23 = .ok (.aload_n 0, 1) := by decide +kernel
theorem dX3_joinSets_24 : decode cX3_joinSets 24 = .ok (.getfield 9, 3) := by decide +kernel
theorem dX3_joinSets_27 : decode cX3_joinSets 27 = .ok (.iload_n 3, 1) := by decide +kernel
theorem dX3_joinSets_28 : decode cX3_joinSets 28 = .ok (.iaload, 1) := by decide +kernel
theorem dX3_joinSets_29 : decode cX3_joinSets 29 = .ok (.iload_n 2, 1) := by decide +kernel
theorem dX3_joinSets_30 : decode cX3_joinSets 30 = .ok (.if_icmp .ne 10, 3) := by decide +kernel
theorem dX3_joinSets_33 : decode cX3_joinSets 33 = .ok (.aload_n 0, 1) := by decide +kernel
theorem dX3_joinSets_34 : decode cX3_joinSets 34 = .ok (.getfield 9, 3) := by decide +kernel
theorem dX3_joinSets_37 : decode cX3_joinSets 37 = .ok (.iload_n 3, 1) := by decide +kernel
theorem dX3_joinSets_38 : decode cX3_joinSets 38 = .ok (.iload_n 1, 1) := by decide +kernel
theorem dX3_joinSets_39 : decode cX3_joinSets 39 = .ok (.iastore, 1) := by decide +kernel
theorem dX3_joinSets_40 : decode cX3_joinSets 40 = .ok (.iinc 3 1, 3) := by decide +kernel
theorem dX3_joinSets_43 : decode cX3_joinSets 43 = .ok (.goto (-26), 3) := by decide +kernel
theorem dX3_joinSets_46 : decode cX3_joinSets 46 = .ok (.iconst 1, 1) := by decide +kernel
theorem dX3_joinSets_47 : decode cX3_joinSets 47 = .ok (.ireturn, 1) := by decide +kernel
theorem dX4_init_0 : decode cX4_init 0 = .ok (.aload_n 0, 1) := by decide +kernel
theorem dX4_init_1 : decode cX4_init 1 = .ok (.invokespecial 3, 3) := by decide +kernel
theorem dX4_init_4 : decode cX4_init 4 = .ok (.aload_n 0, 1) := by decide +kernel
theorem dX4_init_5 : decode cX4_init 5 = .ok (.bipush 32, 2) := by decide +kernel
theorem dX4_init_7 : decode cX4_init 7 = .ok (.newarray .char, 2) := by decide +kernel
theorem dX4_init_9 : decode cX4_init 9 = .ok (.putfield 9, 3) := by decide +kernel
theorem dX4_init_12 : decode cX4_init 12 = .ok (.aload_n 0, 1) := by decide +kernel
theorem dX4_init_13 : decode cX4_init 13 = .ok (.iconst 0, 1) := by decide +kernel
theorem dX4_init_14 : decode cX4_init 14 = .ok (.putfield 15, 3) := by decide +kernel
theorem dX4_init_17 : decode cX4_init 17 = .ok (.return_, 1) := by decide +kernel
theorem dX4_empty_0 : decode cX4_empty 0 = .ok (.aload_n 0, 1) := by decide +kernel
theorem dX4_empty_1 : decode cX4_empty 1 = .ok (.iconst 0, 1) := by decide +kernel
theorem dX4_empty_2 : decode cX4_empty 2 = .ok (.putfield 15, 3) := by decide +kernel
theorem dX4_empty_5 : decode cX4_empty 5 = .ok (.return_, 1) := by decide +kernel
theorem dX4_add_0 : decode cX4_add 0 = .ok (.aload_n 0, 1) := by decide +kernel
theorem dX4_add_1 : decode cX4_add 1 = .ok (.getfield 15, 3) := by decide +kernel
theorem dX4_add_4 : decode cX4_add 4 = .ok (.ifCond .lt 32, 3) := by decide +kernel
theorem dX4_add_7 : decode cX4_add 7 = .ok (.aload_n 0, 1) := by decide +kernel
theorem dX4_add_8 : decode cX4_add 8 = .ok (.getfield 15, 3) := by decide +kernel
theorem dX4_add_11 : decode cX4_add 11 = .ok (.bipush 32, 2) := by decide +kernel
theorem dX4_add_13 : decode cX4_add 13 = .ok (.if_icmp .ge 23, 3) := by decide +kernel
theorem dX4_add_16 : decode cX4_add 16 = .ok (.aload_n 0, 1) := by decide +kernel
theorem dX4_add_17 : decode cX4_add 17 = .ok (.getfield 9, 3) := by decide +kernel
theorem dX4_add_20 : decode cX4_add 20 = .ok (.aload_n 0, 1) := by decide +kernel
theorem dX4_add_21 : decode cX4_add 21 = .ok (.getfield 15, 3) := by decide +kernel
theorem dX4_add_24 : decode cX4_add 24 = .ok (.iload_n 1, 1) := by decide +kernel
theorem dX4_add_25 : decode cX4_add 25 = .ok (.castore, 1) := by decide +kernel
theorem dX4_add_26 : decode cX4_add 26 = .ok (.aload_n 0, 1) := by decide +kernel
theorem dX4_add_27 : decode cX4_add 27 = .ok (.dup, 1) := by decide +kernel
theorem dX4_add_28 : decode cX4_add 28 = .ok (.getfield 15, 3) := by decide +kernel
theorem dX4_add_31 : decode cX4_add 31 = .ok (.iconst 1, 1) := by decide +kernel
theorem dX4_add_32 : decode cX4_add 32 = .ok (.iadd, 1) := by decide +kernel
theorem dX4_add_33 : decode cX4_add 33 = .ok (.putfield 15, 3) := by decide +kernel
theorem dX4_add_36 : decode cX4_add 36 = .ok (.return_, 1) := by decide +kernel
theorem dX4_addText_0 : decode cX4_addText 0 = .ok (.iconst 0, 1) := by decide +kernel
theorem dX4_addText_1 : decode cX4_addText 1 = .ok (.istore_n 2, 1) := by decide +kernel
theorem dX4_addText_2 : decode cX4_addText 2 = .ok (.iload_n 2, 1) := by decide +kernel
theorem dX4_addText_3 : decode cX4_addText 3 = .ok (.aload_n 1, 1) := by decide +kernel
theorem dX4_addText_4 : decode cX4_addText 4 = .ok (.invokevirtual 19, 3) := by decide +kernel
theorem dX4_addText_7 : decode cX4_addText 7 = .ok (.if_icmp .ge 18, 3) := by decide +kernel
theorem dX4_addText_10 : decode cX4_addText 10 = .ok (.aload_n 0, 1) := by decide +kernel
theorem dX4_addText_11 : decode cX4_addText 11 = .ok (.aload_n 1, 1) := by decide +kernel
theorem dX4_addText_12 : decode cX4_addText 12 = .ok (.iload_n 2, 1) := by decide +kernel
theorem dX4_addText_13 : decode cX4_addText 13 = .ok (.invokevirtual 24, 3) := by decide +kernel
theorem dX4_addText_16 : decode cX4_addText 16 = .ok (.invokevirtual 28, 3) := by decide +kernel
theorem dX4_addText_19 : decode cX4_addText 19 = .ok (.iinc 2 1, 3) := by decide +kernel
theorem dX4_addText_22 : decode cX4_addText 22 = .ok (.goto (-20), 3) := by decide +kernel
theorem dX4_addText_25 : decode cX4_addText 25 = .ok (.return_, 1) := by decide +kernel
theorem dX4_addNumbers_0 : decode cX4_addNumbers 0 = .ok (.iconst 0, 1) := by decide +kernel
theorem dX4_addNumbers_1 : decode cX4_addNumbers 1 = .ok (.istore_n 2, 1) := by decide +kernel
theorem dX4_addNumbers_2 : decode cX4_addNumbers 2 = .ok (.iload_n 2, 1) := by decide +kernel
theorem dX4_addNumbers_3 : decode cX4_addNumbers 3 = .ok (.bipush 8, 2) := by decide +kernel
theorem dX4_addNumbers_5 : decode cX4_addNumbers 5 = .ok (.if_icmp .gt 27, 3) := by decide +kernel
theorem dX4_addNumbers_8 : decode cX4_addNumbers 8 = .ok (.iload_n 1, 1) := by decide +kernel
theorem dX4_addNumbers_9 : decode cX4_addNumbers 9 = .ok (.iload_n 2, 1) := by decide +kernel
theorem dX4_addNumbers_10 : decode cX4_addNumbers 10 = .ok (.ishr, 1) := by decide +kernel
theorem dX4_addNumbers_11 : decode cX4_addNumbers 11 = .ok (.iconst 1, 1) := by decide +kernel
theorem dX4_addNumbers_12 : decode cX4_addNumbers 12 = .ok (.iand, 1) := by decide +kernel
theorem dX4_addNumbers_13 : decode cX4_addNumbers 13 = .ok (.iconst 1, 1) := by decide +kernel
theorem dX4_addNumbers_14 : decode cX4_addNumbers 14 = .ok (.if_icmp .ne 12, 3) := by decide +kernel
theorem dX4_addNumbers_17 : decode cX4_addNumbers 17 = .ok (.aload_n 0, 1) := by decide +kernel
theorem dX4_addNumbers_18 : decode cX4_addNumbers 18 = .ok (.bipush 48, 2) := by decide +kernel
theorem dX4_addNumbers_20 : decode cX4_addNumbers 20 = .ok (.iload_n 2, 1) := by decide +kernel
theorem dX4_addNumbers_21 : decode cX4_addNumbers 21 = .ok (.iadd, 1) := by decide +kernel
theorem dX4_addNumbers_22 : decode cX4_addNumbers 22 = .ok (.i2c, 1) := by decide +kernel
theorem dX4_addNumbers_23 : decode cX4_addNumbers 23 = .ok (.invokevirtual 28, 3) := by decide +kernel
theorem dX4_addNumbers_26 : decode cX4_addNumbers 26 = .ok (.iinc 2 1, 3) := by decide +kernel
theorem dX4_addNumbers_29 : decode cX4_addNumbers 29 = .ok (.goto (-27), 3) := by decide +kernel
theorem dX4_addNumbers_32 : decode cX4_addNumbers 32 = .ok (.return_, 1) := by decide +kernel
theorem dX4_signAt_0 : decode cX4_signAt 0 = .ok (.iload_n 1, 1) := by decide +kernel
theorem dX4_signAt_1 : decode cX4_signAt 1 = .ok (.ifCond .lt 18, 3) := by decide +kernel
theorem dX4_signAt_4 : decode cX4_signAt 4 = .ok (.iload_n 1, 1) := by decide +kernel
theorem dX4_signAt_5 : decode cX4_signAt 5 = .ok (.bipush 32, 2) := by decide +kernel
theorem dX4_signAt_7 : decode cX4_signAt 7 = .ok (.if_icmp .ge 12, 3) := by decide +kernel
theorem dX4_signAt_10 : decode cX4_signAt 10 = .ok (.aload_n 0, 1) := by decide +kernel
theorem dX4_signAt_11 : decode cX4_signAt 11 = .ok (.getfield 9, 3) := by decide +kernel
theorem dX4_signAt_14 : decode cX4_signAt 14 = .ok (.iload_n 1, 1) := by decide +kernel
theorem dX4_signAt_15 : decode cX4_signAt 15 = .ok (.caload, 1) := by decide +kernel
theorem dX4_signAt_16 : decode cX4_signAt 16 = .ok (.goto 4, 3) := by decide +kernel
theorem dX4_signAt_19 : decode cX4_signAt 19 = .ok (.iconst 0, 1) := by decide +kernel
theorem dX4_signAt_20 : decode cX4_signAt 20 = .ok (.ireturn, 1) := by decide +kernel
theorem dX11_init_0 : decode cX11_init 0 = .ok (.aload_n 0, 1) := by decide +kernel
theorem dX11_init_1 : decode cX11_init 1 = .ok (.invokespecial 1, 3) := by decide +kernel
theorem dX11_init_4 : decode cX11_init 4 = .ok (.aload_n 0, 1) := by decide +kernel
theorem dX11_init_5 : decode cX11_init 5 = .ok (.bipush 71, 2) := by decide +kernel
theorem dX11_init_7 : decode cX11_init 7 = .ok (.newarray .int, 2) := by decide +kernel
theorem dX11_init_9 : decode cX11_init 9 = .ok (.putfield 9, 3) := by decide +kernel
theorem dX11_init_12 : decode cX11_init 12 = .ok (.aload_n 0, 1) := by decide +kernel
theorem dX11_init_13 : decode cX11_init 13 = .ok (.bipush 71, 2) := by decide +kernel
theorem dX11_init_15 : decode cX11_init 15 = .ok (.newarray .int, 2) := by decide +kernel
theorem dX11_init_17 : decode cX11_init 17 = .ok (.putfield 13, 3) := by decide +kernel
theorem dX11_init_20 : decode cX11_init 20 = .ok (.aload_n 0, 1) := by decide +kernel
theorem dX11_init_21 : decode cX11_init 21 = .ok (.bipush 71, 2) := by decide +kernel
theorem dX11_init_23 : decode cX11_init 23 = .ok (.newarray .int, 2) := by decide +kernel
theorem dX11_init_25 : decode cX11_init 25 = .ok (.putfield 16, 3) := by decide +kernel
theorem dX11_init_28 : decode cX11_init 28 = .ok (.aload_n 0, 1) := by decide +kernel
theorem dX11_init_29 : decode cX11_init 29 = .ok (.bipush 71, 2) := by decide +kernel
theorem dX11_init_31 : decode cX11_init 31 = .ok (.newarray .int, 2) := by decide +kernel
theorem dX11_init_33 : decode cX11_init 33 = .ok (.putfield 19, 3) := by decide +kernel
theorem dX11_init_36 : decode cX11_init 36 = .ok (.aload_n 0, 1) := by decide +kernel
theorem dX11_init_37 : decode cX11_init 37 = .ok (.bipush 64, 2) := by decide +kernel
theorem dX11_init_39 : decode cX11_init 39 = .ok (.newarray .int, 2) := by decide +kernel
theorem dX11_init_41 : decode cX11_init 41 = .ok (.putfield 22, 3) := by decide +kernel
theorem dX11_init_44 : decode cX11_init 44 = .ok (.aload_n 0, 1) := by decide +kernel
theorem dX11_init_45 : decode cX11_init 45 = .ok (.sipush 568, 3) := by decide +kernel
theorem dX11_init_48 : decode cX11_init 48 = .ok (.newarray .int, 2) := by decide +kernel
theorem dX11_init_50 : decode cX11_init 50 = .ok (.putfield 25, 3) := by decide +kernel
theorem dX11_init_53 : decode cX11_init 53 = .ok (.aload_n 0, 1) := by decide +kernel
theorem dX11_init_54 : decode cX11_init 54 = .ok (.iconst (-1), 1) := by decide +kernel
theorem dX11_init_55 : decode cX11_init 55 = .ok (.putfield 28, 3) := by decide +kernel
theorem dX11_init_58 : decode cX11_init 58 = .ok (.aload_n 0, 1) := by decide +kernel
theorem dX11_init_59 : decode cX11_init 59 = .ok (.bipush 60, 2) := by decide +kernel
theorem dX11_init_61 : decode cX11_init 61 = .ok (.newarray .int, 2) := by decide +kernel
theorem dX11_init_63 : decode cX11_init 63 = .ok (.putfield 32, 3) := by decide +kernel
theorem dX11_init_66 : decode cX11_init 66 = .ok (.aload_n 0, 1) := by decide +kernel
theorem dX11_init_67 : decode cX11_init 67 = .ok (.bipush 17, 2) := by decide +kernel
theorem dX11_init_69 : decode cX11_init 69 = .ok (.newarray .int, 2) := by decide +kernel
theorem dX11_init_71 : decode cX11_init 71 = .ok (.dup, 1) := by decide +kernel
theorem dX11_init_72 : decode cX11_init 72 = .ok (.iconst 0, 1) := by decide +kernel
theorem dX11_init_73 : decode cX11_init 73 = .ok (.iconst 0, 1) := by decide +kernel
theorem dX11_init_74 : decode cX11_init 74 = .ok (.iastore, 1) := by decide +kernel
theorem dX11_init_75 : decode cX11_init 75 = .ok (.dup, 1) := by decide +kernel
theorem dX11_init_76 : decode cX11_init 76 = .ok (.iconst 1, 1) := by decide +kernel
theorem dX11_init_77 : decode cX11_init 77 = .ok (.iconst 1, 1) := by decide +kernel
theorem dX11_init_78 : decode cX11_init 78 = .ok (.iastore, 1) := by decide +kernel
theorem dX11_init_79 : decode cX11_init 79 = .ok (.dup, 1) := by decide +kernel
theorem dX11_init_80 : decode cX11_init 80 = .ok (.iconst 2, 1) := by decide +kernel
theorem dX11_init_81 : decode cX11_init 81 = .ok (.bipush 10, 2) := by decide +kernel
theorem dX11_init_83 : decode cX11_init 83 = .ok (.iastore, 1) := by decide +kernel
theorem dX11_init_84 : decode cX11_init 84 = .ok (.dup, 1) := by decide +kernel
theorem dX11_init_85 : decode cX11_init 85 = .ok (.iconst 3, 1) := by decide +kernel
theorem dX11_init_86 : decode cX11_init 86 = .ok (.bipush 11, 2) := by decide +kernel
theorem dX11_init_88 : decode cX11_init 88 = .ok (.iastore, 1) := by decide +kernel
theorem dX11_init_89 : decode cX11_init 89 = .ok (.dup, 1) := by decide +kernel
theorem dX11_init_90 : decode cX11_init 90 = .ok (.iconst 4, 1) := by decide +kernel
theorem dX11_init_91 : decode cX11_init 91 = .ok (.iconst 0, 1) := by decide +kernel
theorem dX11_init_92 : decode cX11_init 92 = .ok (.iastore, 1) := by decide +kernel
theorem dX11_init_93 : decode cX11_init 93 = .ok (.dup, 1) := by decide +kernel
theorem dX11_init_94 : decode cX11_init 94 = .ok (.iconst 5, 1) := by decide +kernel
theorem dX11_init_95 : decode cX11_init 95 = .ok (.iconst 1, 1) := by decide +kernel
theorem dX11_init_96 : decode cX11_init 96 = .ok (.iastore, 1) := by decide +kernel
theorem dX11_init_97 : decode cX11_init 97 = .ok (.dup, 1) := by decide +kernel
theorem dX11_init_98 : decode cX11_init 98 = .ok (.bipush 6, 2) := by decide +kernel
theorem dX11_init_100 : decode cX11_init 100 = .ok (.iconst 2, 1) := by decide +kernel
theorem dX11_init_101 : decode cX11_init 101 = .ok (.iastore, 1) := by decide +kernel
theorem dX11_init_102 : decode cX11_init 102 = .ok (.dup, 1) := by decide +kernel
theorem dX11_init_103 : decode cX11_init 103 = .ok (.bipush 7, 2) := by decide +kernel
theorem dX11_init_105 : decode cX11_init 105 = .ok (.iconst 1, 1) := by decide +kernel
theorem dX11_init_106 : decode cX11_init 106 = .ok (.iastore, 1) := by decide +kernel
theorem dX11_init_107 : decode cX11_init 107 = .ok (.dup, 1) := by decide +kernel
theorem dX11_init_108 : decode cX11_init 108 = .ok (.bipush 8, 2) := by decide +kernel
theorem dX11_init_110 : decode cX11_init 110 = .ok (.bipush 10, 2) := by decide +kernel
theorem dX11_init_112 : decode cX11_init 112 = .ok (.iastore, 1) := by decide +kernel
theorem dX11_init_113 : decode cX11_init 113 = .ok (.dup, 1) := by decide +kernel
theorem dX11_init_114 : decode cX11_init 114 = .ok (.bipush 9, 2) := by decide +kernel
theorem dX11_init_116 : decode cX11_init 116 = .ok (.bipush 11, 2) := by decide +kernel
theorem dX11_init_118 : decode cX11_init 118 = .ok (.iastore, 1) := by decide +kernel
theorem dX11_init_119 : decode cX11_init 119 = .ok (.dup, 1) := by decide +kernel
theorem dX11_init_120 : decode cX11_init 120 = .ok (.bipush 10, 2) := by decide +kernel
theorem dX11_init_122 : decode cX11_init 122 = .ok (.bipush 12, 2) := by decide +kernel
theorem dX11_init_124 : decode cX11_init 124 = .ok (.iastore, 1) := by decide +kernel
theorem dX11_init_125 : decode cX11_init 125 = .ok (.dup, 1) := by decide +kernel
theorem dX11_init_126 : decode cX11_init 126 = .ok (.bipush 11, 2) := by decide +kernel
theorem dX11_init_128 : decode cX11_init 128 = .ok (.bipush 21, 2) := by decide +kernel
theorem dX11_init_130 : decode cX11_init 130 = .ok (.iastore, 1) := by decide +kernel
theorem dX11_init_131 : decode cX11_init 131 = .ok (.dup, 1) := by decide +kernel
theorem dX11_init_132 : decode cX11_init 132 = .ok (.bipush 12, 2) := by decide +kernel
theorem dX11_init_134 : decode cX11_init 134 = .ok (.iconst 1, 1) := by decide +kernel
theorem dX11_init_135 : decode cX11_init 135 = .ok (.iastore, 1) := by decide +kernel
theorem dX11_init_136 : decode cX11_init 136 = .ok (.dup, 1) := by decide +kernel
theorem dX11_init_137 : decode cX11_init 137 = .ok (.bipush 13, 2) := by decide +kernel
theorem dX11_init_139 : decode cX11_init 139 = .ok (.bipush 12, 2) := by decide +kernel
theorem dX11_init_141 : decode cX11_init 141 = .ok (.iastore, 1) := by decide +kernel
theorem dX11_init_142 : decode cX11_init 142 = .ok (.dup, 1) := by decide +kernel
theorem dX11_init_143 : decode cX11_init 143 = .ok (.bipush 14, 2) := by decide +kernel
theorem dX11_init_145 : decode cX11_init 145 = .ok (.bipush 20, 2) := by decide +kernel
theorem dX11_init_147 : decode cX11_init 147 = .ok (.iastore, 1) := by decide +kernel
theorem dX11_init_148 : decode cX11_init 148 = .ok (.dup, 1) := by decide +kernel
theorem dX11_init_149 : decode cX11_init 149 = .ok (.bipush 15, 2) := by decide +kernel
theorem dX11_init_151 : decode cX11_init 151 = .ok (.bipush 21, 2) := by decide +kernel
theorem dX11_init_153 : decode cX11_init 153 = .ok (.iastore, 1) := by decide +kernel
theorem dX11_init_154 : decode cX11_init 154 = .ok (.dup, 1) := by decide +kernel
theorem dX11_init_155 : decode cX11_init 155 = .ok (.bipush 16, 2) := by decide +kernel
theorem dX11_init_157 : decode cX11_init 157 = .ok (.bipush 22, 2) := by decide +kernel
theorem dX11_init_159 : decode cX11_init 159 = .ok (.iastore, 1) := by decide +kernel
theorem dX11_init_160 : decode cX11_init 160 = .ok (.putfield 35, 3) := by decide +kernel
theorem dX11_init_163 : decode cX11_init 163 = .ok (.aload_n 0, 1) := by decide +kernel
theorem dX11_init_164 : decode cX11_init 164 = .ok (.iconst 5, 1) := by decide +kernel
theorem dX11_init_165 : decode cX11_init 165 = .ok (.newarray .int, 2) := by decide +kernel
theorem dX11_init_167 : decode cX11_init 167 = .ok (.dup, 1) := by decide +kernel
theorem dX11_init_168 : decode cX11_init 168 = .ok (.iconst 0, 1) := by decide +kernel
theorem dX11_init_169 : decode cX11_init 169 = .ok (.iconst 0, 1) := by decide +kernel
theorem dX11_init_170 : decode cX11_init 170 = .ok (.iastore, 1) := by decide +kernel
theorem dX11_init_171 : decode cX11_init 171 = .ok (.dup, 1) := by decide +kernel
theorem dX11_init_172 : decode cX11_init 172 = .ok (.iconst 1, 1) := by decide +kernel
theorem dX11_init_173 : decode cX11_init 173 = .ok (.iconst 4, 1) := by decide +kernel
theorem dX11_init_174 : decode cX11_init 174 = .ok (.iastore, 1) := by decide +kernel
theorem dX11_init_175 : decode cX11_init 175 = .ok (.dup, 1) := by decide +kernel
theorem dX11_init_176 : decode cX11_init 176 = .ok (.iconst 2, 1) := by decide +kernel
theorem dX11_init_177 : decode cX11_init 177 = .ok (.bipush 7, 2) := by decide +kernel
theorem dX11_init_179 : decode cX11_init 179 = .ok (.iastore, 1) := by decide +kernel
theorem dX11_init_180 : decode cX11_init 180 = .ok (.dup, 1) := by decide +kernel
theorem dX11_init_181 : decode cX11_init 181 = .ok (.iconst 3, 1) := by decide +kernel
theorem dX11_init_182 : decode cX11_init 182 = .ok (.bipush 12, 2) := by decide +kernel
theorem dX11_init_184 : decode cX11_init 184 = .ok (.iastore, 1) := by decide +kernel
theorem dX11_init_185 : decode cX11_init 185 = .ok (.dup, 1) := by decide +kernel
theorem dX11_init_186 : decode cX11_init 186 = .ok (.iconst 4, 1) := by decide +kernel
theorem dX11_init_187 : decode cX11_init 187 = .ok (.bipush 17, 2) := by decide +kernel
theorem dX11_init_189 : decode cX11_init 189 = .ok (.iastore, 1) := by decide +kernel
theorem dX11_init_190 : decode cX11_init 190 = .ok (.putfield 38, 3) := by decide +kernel
theorem dX11_init_193 : decode cX11_init 193 = .ok (.aload_n 0, 1) := by decide +kernel
theorem dX11_init_194 : decode cX11_init 194 = .ok (.bipush 64, 2) := by decide +kernel
theorem dX11_init_196 : decode cX11_init 196 = .ok (.newarray .int, 2) := by decide +kernel
theorem dX11_init_198 : decode cX11_init 198 = .ok (.putfield 41, 3) := by decide +kernel
theorem dX11_init_201 : decode cX11_init 201 = .ok (.aload_n 0, 1) := by decide +kernel
theorem dX11_init_202 : decode cX11_init 202 = .ok (.bipush 64, 2) := by decide +kernel
theorem dX11_init_204 : decode cX11_init 204 = .ok (.newarray .int, 2) := by decide +kernel
theorem dX11_init_206 : decode cX11_init 206 = .ok (.putfield 44, 3) := by decide +kernel
theorem dX11_init_209 : decode cX11_init 209 = .ok (.aload_n 0, 1) := by decide +kernel
theorem dX11_init_210 : decode cX11_init 210 = .ok (.bipush 65, 2) := by decide +kernel
theorem dX11_init_212 : decode cX11_init 212 = .ok (.newarray .int, 2) := by decide +kernel
theorem dX11_init_214 : decode cX11_init 214 = .ok (.putfield 47, 3) := by decide +kernel
theorem dX11_init_217 : decode cX11_init 217 = .ok (.aload_n 0, 1) := by decide +kernel
theorem dX11_init_218 : decode cX11_init 218 = .ok (.bipush 32, 2) := by decide +kernel
theorem dX11_init_220 : decode cX11_init 220 = .ok (.newarray .int, 2) := by decide +kernel
theorem dX11_init_222 : decode cX11_init 222 = .ok (.putfield 50, 3) := by decide +kernel
theorem dX11_init_225 : decode cX11_init 225 = .ok (.aload_n 0, 1) := by decide +kernel
theorem dX11_init_226 : decode cX11_init 226 = .ok (.bipush 12, 2) := by decide +kernel
theorem dX11_init_228 : decode cX11_init 228 = .ok (.newarray .char, 2) := by decide +kernel
theorem dX11_init_230 : decode cX11_init 230 = .ok (.dup, 1) := by decide +kernel
theorem dX11_init_231 : decode cX11_init 231 = .ok (.iconst 0, 1) := by decide +kernel
theorem dX11_init_232 : decode cX11_init 232 = .ok (.bipush 99, 2) := by decide +kernel
theorem dX11_init_234 : decode cX11_init 234 = .ok (.castore, 1) := by decide +kernel
theorem dX11_init_235 : decode cX11_init 235 = .ok (.dup, 1) := by decide +kernel
theorem dX11_init_236 : decode cX11_init 236 = .ok (.iconst 1, 1) := by decide +kernel
theorem dX11_init_237 : decode cX11_init 237 = .ok (.bipush 97, 2) := by decide +kernel
theorem dX11_init_239 : decode cX11_init 239 = .ok (.castore, 1) := by decide +kernel
theorem dX11_init_240 : decode cX11_init 240 = .ok (.dup, 1) := by decide +kernel
theorem dX11_init_241 : decode cX11_init 241 = .ok (.iconst 2, 1) := by decide +kernel
theorem dX11_init_242 : decode cX11_init 242 = .ok (.bipush 108, 2) := by decide +kernel
theorem dX11_init_244 : decode cX11_init 244 = .ok (.castore, 1) := by decide +kernel
theorem dX11_init_245 : decode cX11_init 245 = .ok (.dup, 1) := by decide +kernel
theorem dX11_init_246 : decode cX11_init 246 = .ok (.iconst 3, 1) := by decide +kernel
theorem dX11_init_247 : decode cX11_init 247 = .ok (.bipush 109, 2) := by decide +kernel
theorem dX11_init_249 : decode cX11_init 249 = .ok (.castore, 1) := by decide +kernel
theorem dX11_init_250 : decode cX11_init 250 = .ok (.dup, 1) := by decide +kernel
theorem dX11_init_251 : decode cX11_init 251 = .ok (.iconst 4, 1) := by decide +kernel
theorem dX11_init_252 : decode cX11_init 252 = .ok (.bipush 98, 2) := by decide +kernel
theorem dX11_init_254 : decode cX11_init 254 = .ok (.castore, 1) := by decide +kernel
theorem dX11_init_255 : decode cX11_init 255 = .ok (.dup, 1) := by decide +kernel
theorem dX11_init_256 : decode cX11_init 256 = .ok (.iconst 5, 1) := by decide +kernel
theorem dX11_init_257 : decode cX11_init 257 = .ok (.bipush 117, 2) := by decide +kernel
theorem dX11_init_259 : decode cX11_init 259 = .ok (.castore, 1) := by decide +kernel
theorem dX11_init_260 : decode cX11_init 260 = .ok (.dup, 1) := by decide +kernel
theorem dX11_init_261 : decode cX11_init 261 = .ok (.bipush 6, 2) := by decide +kernel
theorem dX11_init_263 : decode cX11_init 263 = .ok (.bipush 115, 2) := by decide +kernel
theorem dX11_init_265 : decode cX11_init 265 = .ok (.castore, 1) := by decide +kernel
theorem dX11_init_266 : decode cX11_init 266 = .ok (.dup, 1) := by decide +kernel
theorem dX11_init_267 : decode cX11_init 267 = .ok (.bipush 7, 2) := by decide +kernel
theorem dX11_init_269 : decode cX11_init 269 = .ok (.bipush 121, 2) := by decide +kernel
theorem dX11_init_271 : decode cX11_init 271 = .ok (.castore, 1) := by decide +kernel
theorem dX11_init_272 : decode cX11_init 272 = .ok (.dup, 1) := by decide +kernel
theorem dX11_init_273 : decode cX11_init 273 = .ok (.bipush 8, 2) := by decide +kernel
theorem dX11_init_275 : decode cX11_init 275 = .ok (.bipush 115, 2) := by decide +kernel
theorem dX11_init_277 : decode cX11_init 277 = .ok (.castore, 1) := by decide +kernel
theorem dX11_init_278 : decode cX11_init 278 = .ok (.dup, 1) := by decide +kernel
theorem dX11_init_279 : decode cX11_init 279 = .ok (.bipush 9, 2) := by decide +kernel
theorem dX11_init_281 : decode cX11_init 281 = .ok (.bipush 108, 2) := by decide +kernel
theorem dX11_init_283 : decode cX11_init 283 = .ok (.castore, 1) := by decide +kernel
theorem dX11_init_284 : decode cX11_init 284 = .ok (.dup, 1) := by decide +kernel
theorem dX11_init_285 : decode cX11_init 285 = .ok (.bipush 10, 2) := by decide +kernel
theorem dX11_init_287 : decode cX11_init 287 = .ok (.bipush 111, 2) := by decide +kernel
theorem dX11_init_289 : decode cX11_init 289 = .ok (.castore, 1) := by decide +kernel
theorem dX11_init_290 : decode cX11_init 290 = .ok (.dup, 1) := by decide +kernel
theorem dX11_init_291 : decode cX11_init 291 = .ok (.bipush 11, 2) := by decide +kernel
theorem dX11_init_293 : decode cX11_init 293 = .ok (.bipush 119, 2) := by decide +kernel
theorem dX11_init_295 : decode cX11_init 295 = .ok (.castore, 1) := by decide +kernel
theorem dX11_init_296 : decode cX11_init 296 = .ok (.putfield 53, 3) := by decide +kernel
theorem dX11_init_299 : decode cX11_init 299 = .ok (.aload_n 0, 1) := by decide +kernel
theorem dX11_init_300 : decode cX11_init 300 = .ok (.bipush 43, 2) := by decide +kernel
theorem dX11_init_302 : decode cX11_init 302 = .ok (.newarray .char, 2) := by decide +kernel
theorem dX11_init_304 : decode cX11_init 304 = .ok (.dup, 1) := by decide +kernel
theorem dX11_init_305 : decode cX11_init 305 = .ok (.iconst 0, 1) := by decide +kernel
theorem dX11_init_306 : decode cX11_init 306 = .ok (.bipush 112, 2) := by decide +kernel
theorem dX11_init_308 : decode cX11_init 308 = .ok (.castore, 1) := by decide +kernel
theorem dX11_init_309 : decode cX11_init 309 = .ok (.dup, 1) := by decide +kernel
theorem dX11_init_310 : decode cX11_init 310 = .ok (.iconst 1, 1) := by decide +kernel
theorem dX11_init_311 : decode cX11_init 311 = .ok (.bipush 108, 2) := by decide +kernel
theorem dX11_init_313 : decode cX11_init 313 = .ok (.castore, 1) := by decide +kernel
theorem dX11_init_314 : decode cX11_init 314 = .ok (.dup, 1) := by decide +kernel
theorem dX11_init_315 : decode cX11_init 315 = .ok (.iconst 2, 1) := by decide +kernel
theorem dX11_init_316 : decode cX11_init 316 = .ok (.bipush 97, 2) := by decide +kernel
theorem dX11_init_318 : decode cX11_init 318 = .ok (.castore, 1) := by decide +kernel
theorem dX11_init_319 : decode cX11_init 319 = .ok (.dup, 1) := by decide +kernel
theorem dX11_init_320 : decode cX11_init 320 = .ok (.iconst 3, 1) := by decide +kernel
theorem dX11_init_321 : decode cX11_init 321 = .ok (.bipush 99, 2) := by decide +kernel
theorem dX11_init_323 : decode cX11_init 323 = .ok (.castore, 1) := by decide +kernel
theorem dX11_init_324 : decode cX11_init 324 = .ok (.dup, 1) := by decide +kernel
theorem dX11_init_325 : decode cX11_init 325 = .ok (.iconst 4, 1) := by decide +kernel
theorem dX11_init_326 : decode cX11_init 326 = .ok (.bipush 101, 2) := by decide +kernel
theorem dX11_init_328 : decode cX11_init 328 = .ok (.castore, 1) := by decide +kernel
theorem dX11_init_329 : decode cX11_init 329 = .ok (.dup, 1) := by decide +kernel
theorem dX11_init_330 : decode cX11_init 330 = .ok (.iconst 5, 1) := by decide +kernel
theorem dX11_init_331 : decode cX11_init 331 = .ok (.bipush 32, 2) := by decide +kernel
theorem dX11_init_333 : decode cX11_init 333 = .ok (.castore, 1) := by decide +kernel
theorem dX11_init_334 : decode cX11_init 334 = .ok (.dup, 1) := by decide +kernel
theorem dX11_init_335 : decode cX11_init 335 = .ok (.bipush 6, 2) := by decide +kernel
theorem dX11_init_337 : decode cX11_init 337 = .ok (.bipush 114, 2) := by decide +kernel
theorem dX11_init_339 : decode cX11_init 339 = .ok (.castore, 1) := by decide +kernel
theorem dX11_init_340 : decode cX11_init 340 = .ok (.dup, 1) := by decide +kernel
theorem dX11_init_341 : decode cX11_init 341 = .ok (.bipush 7, 2) := by decide +kernel
theorem dX11_init_343 : decode cX11_init 343 = .ok (.bipush 101, 2) := by decide +kernel
theorem dX11_init_345 : decode cX11_init 345 = .ok (.castore, 1) := by decide +kernel
theorem dX11_init_346 : decode cX11_init 346 = .ok (.dup, 1) := by decide +kernel
theorem dX11_init_347 : decode cX11_init 347 = .ok (.bipush 8, 2) := by decide +kernel
theorem dX11_init_349 : decode cX11_init 349 = .ok (.bipush 109, 2) := by decide +kernel
theorem dX11_init_351 : decode cX11_init 351 = .ok (.castore, 1) := by decide +kernel
theorem dX11_init_352 : decode cX11_init 352 = .ok (.dup, 1) := by decide +kernel
theorem dX11_init_353 : decode cX11_init 353 = .ok (.bipush 9, 2) := by decide +kernel
theorem dX11_init_355 : decode cX11_init 355 = .ok (.bipush 111, 2) := by decide +kernel
theorem dX11_init_357 : decode cX11_init 357 = .ok (.castore, 1) := by decide +kernel
theorem dX11_init_358 : decode cX11_init 358 = .ok (.dup, 1) := by decide +kernel
theorem dX11_init_359 : decode cX11_init 359 = .ok (.bipush 10, 2) := by decide +kernel
theorem dX11_init_361 : decode cX11_init 361 = .ok (.bipush 118, 2) := by decide +kernel
theorem dX11_init_363 : decode cX11_init 363 = .ok (.castore, 1) := by decide +kernel
theorem dX11_init_364 : decode cX11_init 364 = .ok (.dup, 1) := by decide +kernel
theorem dX11_init_365 : decode cX11_init 365 = .ok (.bipush 11, 2) := by decide +kernel
theorem dX11_init_367 : decode cX11_init 367 = .ok (.bipush 101, 2) := by decide +kernel
theorem dX11_init_369 : decode cX11_init 369 = .ok (.castore, 1) := by decide +kernel
theorem dX11_init_370 : decode cX11_init 370 = .ok (.dup, 1) := by decide +kernel
theorem dX11_init_371 : decode cX11_init 371 = .ok (.bipush 12, 2) := by decide +kernel
theorem dX11_init_373 : decode cX11_init 373 = .ok (.bipush 32, 2) := by decide +kernel
theorem dX11_init_375 : decode cX11_init 375 = .ok (.castore, 1) := by decide +kernel
theorem dX11_init_376 : decode cX11_init 376 = .ok (.dup, 1) := by decide +kernel
theorem dX11_init_377 : decode cX11_init 377 = .ok (.bipush 13, 2) := by decide +kernel
theorem dX11_init_379 : decode cX11_init 379 = .ok (.bipush 98, 2) := by decide +kernel
theorem dX11_init_381 : decode cX11_init 381 = .ok (.castore, 1) := by decide +kernel
theorem dX11_init_382 : decode cX11_init 382 = .ok (.dup, 1) := by decide +kernel
theorem dX11_init_383 : decode cX11_init 383 = .ok (.bipush 14, 2) := by decide +kernel
theorem dX11_init_385 : decode cX11_init 385 = .ok (.bipush 108, 2) := by decide +kernel
theorem dX11_init_387 : decode cX11_init 387 = .ok (.castore, 1) := by decide +kernel
theorem dX11_init_388 : decode cX11_init 388 = .ok (.dup, 1) := by decide +kernel
theorem dX11_init_389 : decode cX11_init 389 = .ok (.bipush 15, 2) := by decide +kernel
theorem dX11_init_391 : decode cX11_init 391 = .ok (.bipush 101, 2) := by decide +kernel
theorem dX11_init_393 : decode cX11_init 393 = .ok (.castore, 1) := by decide +kernel
theorem dX11_init_394 : decode cX11_init 394 = .ok (.dup, 1) := by decide +kernel
theorem dX11_init_395 : decode cX11_init 395 = .ok (.bipush 16, 2) := by decide +kernel
theorem dX11_init_397 : decode cX11_init 397 = .ok (.bipush 97, 2) := by decide +kernel
theorem dX11_init_399 : decode cX11_init 399 = .ok (.castore, 1) := by decide +kernel
theorem dX11_init_400 : decode cX11_init 400 = .ok (.dup, 1) := by decide +kernel
theorem dX11_init_401 : decode cX11_init 401 = .ok (.bipush 17, 2) := by decide +kernel
theorem dX11_init_403 : decode cX11_init 403 = .ok (.bipush 99, 2) := by decide +kernel
theorem dX11_init_405 : decode cX11_init 405 = .ok (.castore, 1) := by decide +kernel
theorem dX11_init_406 : decode cX11_init 406 = .ok (.dup, 1) := by decide +kernel
theorem dX11_init_407 : decode cX11_init 407 = .ok (.bipush 18, 2) := by decide +kernel
theorem dX11_init_409 : decode cX11_init 409 = .ok (.bipush 104, 2) := by decide +kernel
theorem dX11_init_411 : decode cX11_init 411 = .ok (.castore, 1) := by decide +kernel
theorem dX11_init_412 : decode cX11_init 412 = .ok (.dup, 1) := by decide +kernel
theorem dX11_init_413 : decode cX11_init 413 = .ok (.bipush 19, 2) := by decide +kernel
theorem dX11_init_415 : decode cX11_init 415 = .ok (.bipush 32, 2) := by decide +kernel
theorem dX11_init_417 : decode cX11_init 417 = .ok (.castore, 1) := by decide +kernel
theorem dX11_init_418 : decode cX11_init 418 = .ok (.dup, 1) := by decide +kernel
theorem dX11_init_419 : decode cX11_init 419 = .ok (.bipush 20, 2) := by decide +kernel
theorem dX11_init_421 : decode cX11_init 421 = .ok (.bipush 99, 2) := by decide +kernel
theorem dX11_init_423 : decode cX11_init 423 = .ok (.castore, 1) := by decide +kernel
theorem dX11_init_424 : decode cX11_init 424 = .ok (.dup, 1) := by decide +kernel
theorem dX11_init_425 : decode cX11_init 425 = .ok (.bipush 21, 2) := by decide +kernel
theorem dX11_init_427 : decode cX11_init 427 = .ok (.bipush 111, 2) := by decide +kernel
theorem dX11_init_429 : decode cX11_init 429 = .ok (.castore, 1) := by decide +kernel
theorem dX11_init_430 : decode cX11_init 430 = .ok (.dup, 1) := by decide +kernel
theorem dX11_init_431 : decode cX11_init 431 = .ok (.bipush 22, 2) := by decide +kernel
theorem dX11_init_433 : decode cX11_init 433 = .ok (.bipush 108, 2) := by decide +kernel
theorem dX11_init_435 : decode cX11_init 435 = .ok (.castore, 1) := by decide +kernel
theorem dX11_init_436 : decode cX11_init 436 = .ok (.dup, 1) := by decide +kernel
theorem dX11_init_437 : decode cX11_init 437 = .ok (.bipush 23, 2) := by decide +kernel
theorem dX11_init_439 : decode cX11_init 439 = .ok (.bipush 111, 2) := by decide +kernel
theorem dX11_init_441 : decode cX11_init 441 = .ok (.castore, 1) := by decide +kernel
theorem dX11_init_442 : decode cX11_init 442 = .ok (.dup, 1) := by decide +kernel
theorem dX11_init_443 : decode cX11_init 443 = .ok (.bipush 24, 2) := by decide +kernel
theorem dX11_init_445 : decode cX11_init 445 = .ok (.bipush 117, 2) := by decide +kernel
theorem dX11_init_447 : decode cX11_init 447 = .ok (.castore, 1) := by decide +kernel
theorem dX11_init_448 : decode cX11_init 448 = .ok (.dup, 1) := by decide +kernel
theorem dX11_init_449 : decode cX11_init 449 = .ok (.bipush 25, 2) := by decide +kernel
theorem dX11_init_451 : decode cX11_init 451 = .ok (.bipush 114, 2) := by decide +kernel
theorem dX11_init_453 : decode cX11_init 453 = .ok (.castore, 1) := by decide +kernel
theorem dX11_init_454 : decode cX11_init 454 = .ok (.dup, 1) := by decide +kernel
theorem dX11_init_455 : decode cX11_init 455 = .ok (.bipush 26, 2) := by decide +kernel
theorem dX11_init_457 : decode cX11_init 457 = .ok (.bipush 32, 2) := by decide +kernel
theorem dX11_init_459 : decode cX11_init 459 = .ok (.castore, 1) := by decide +kernel
theorem dX11_init_460 : decode cX11_init 460 = .ok (.dup, 1) := by decide +kernel
theorem dX11_init_461 : decode cX11_init 461 = .ok (.bipush 27, 2) := by decide +kernel
theorem dX11_init_463 : decode cX11_init 463 = .ok (.bipush 112, 2) := by decide +kernel
theorem dX11_init_465 : decode cX11_init 465 = .ok (.castore, 1) := by decide +kernel
theorem dX11_init_466 : decode cX11_init 466 = .ok (.dup, 1) := by decide +kernel
theorem dX11_init_467 : decode cX11_init 467 = .ok (.bipush 28, 2) := by decide +kernel
theorem dX11_init_469 : decode cX11_init 469 = .ok (.bipush 108, 2) := by decide +kernel
theorem dX11_init_471 : decode cX11_init 471 = .ok (.castore, 1) := by decide +kernel
theorem dX11_init_472 : decode cX11_init 472 = .ok (.dup, 1) := by decide +kernel
theorem dX11_init_473 : decode cX11_init 473 = .ok (.bipush 29, 2) := by decide +kernel
theorem dX11_init_475 : decode cX11_init 475 = .ok (.bipush 97, 2) := by decide +kernel
theorem dX11_init_477 : decode cX11_init 477 = .ok (.castore, 1) := by decide +kernel
theorem dX11_init_478 : decode cX11_init 478 = .ok (.dup, 1) := by decide +kernel
theorem dX11_init_479 : decode cX11_init 479 = .ok (.bipush 30, 2) := by decide +kernel
theorem dX11_init_481 : decode cX11_init 481 = .ok (.bipush 110, 2) := by decide +kernel
theorem dX11_init_483 : decode cX11_init 483 = .ok (.castore, 1) := by decide +kernel
theorem dX11_init_484 : decode cX11_init 484 = .ok (.dup, 1) := by decide +kernel
theorem dX11_init_485 : decode cX11_init 485 = .ok (.bipush 31, 2) := by decide +kernel
theorem dX11_init_487 : decode cX11_init 487 = .ok (.bipush 116, 2) := by decide +kernel
theorem dX11_init_489 : decode cX11_init 489 = .ok (.castore, 1) := by decide +kernel
theorem dX11_init_490 : decode cX11_init 490 = .ok (.dup, 1) := by decide +kernel
theorem dX11_init_491 : decode cX11_init 491 = .ok (.bipush 32, 2) := by decide +kernel
theorem dX11_init_493 : decode cX11_init 493 = .ok (.bipush 32, 2) := by decide +kernel
theorem dX11_init_495 : decode cX11_init 495 = .ok (.castore, 1) := by decide +kernel
theorem dX11_init_496 : decode cX11_init 496 = .ok (.dup, 1) := by decide +kernel
theorem dX11_init_497 : decode cX11_init 497 = .ok (.bipush 33, 2) := by decide +kernel
theorem dX11_init_499 : decode cX11_init 499 = .ok (.bipush 114, 2) := by decide +kernel
theorem dX11_init_501 : decode cX11_init 501 = .ok (.castore, 1) := by decide +kernel
theorem dX11_init_502 : decode cX11_init 502 = .ok (.dup, 1) := by decide +kernel
theorem dX11_init_503 : decode cX11_init 503 = .ok (.bipush 34, 2) := by decide +kernel
theorem dX11_init_505 : decode cX11_init 505 = .ok (.bipush 117, 2) := by decide +kernel
theorem dX11_init_507 : decode cX11_init 507 = .ok (.castore, 1) := by decide +kernel
theorem dX11_init_508 : decode cX11_init 508 = .ok (.dup, 1) := by decide +kernel
theorem dX11_init_509 : decode cX11_init 509 = .ok (.bipush 35, 2) := by decide +kernel
theorem dX11_init_511 : decode cX11_init 511 = .ok (.bipush 108, 2) := by decide +kernel
theorem dX11_init_513 : decode cX11_init 513 = .ok (.castore, 1) := by decide +kernel
theorem dX11_init_514 : decode cX11_init 514 = .ok (.dup, 1) := by decide +kernel
theorem dX11_init_515 : decode cX11_init 515 = .ok (.bipush 36, 2) := by decide +kernel
theorem dX11_init_517 : decode cX11_init 517 = .ok (.bipush 101, 2) := by decide +kernel
theorem dX11_init_519 : decode cX11_init 519 = .ok (.castore, 1) := by decide +kernel
theorem dX11_init_520 : decode cX11_init 520 = .ok (.dup, 1) := by decide +kernel
theorem dX11_init_521 : decode cX11_init 521 = .ok (.bipush 37, 2) := by decide +kernel
theorem dX11_init_523 : decode cX11_init 523 = .ok (.bipush 32, 2) := by decide +kernel
theorem dX11_init_525 : decode cX11_init 525 = .ok (.castore, 1) := by decide +kernel
theorem dX11_init_526 : decode cX11_init 526 = .ok (.dup, 1) := by decide +kernel
theorem dX11_init_527 : decode cX11_init 527 = .ok (.bipush 38, 2) := by decide +kernel
theorem dX11_init_529 : decode cX11_init 529 = .ok (.bipush 116, 2) := by decide +kernel
theorem dX11_init_531 : decode cX11_init 531 = .ok (.castore, 1) := by decide +kernel
theorem dX11_init_532 : decode cX11_init 532 = .ok (.dup, 1) := by decide +kernel
theorem dX11_init_533 : decode cX11_init 533 = .ok (.bipush 39, 2) := by decide +kernel
theorem dX11_init_535 : decode cX11_init 535 = .ok (.bipush 105, 2) := by decide +kernel
theorem dX11_init_537 : decode cX11_init 537 = .ok (.castore, 1) := by decide +kernel
theorem dX11_init_538 : decode cX11_init 538 = .ok (.dup, 1) := by decide +kernel
theorem dX11_init_539 : decode cX11_init 539 = .ok (.bipush 40, 2) := by decide +kernel
theorem dX11_init_541 : decode cX11_init 541 = .ok (.bipush 100, 2) := by decide +kernel
theorem dX11_init_543 : decode cX11_init 543 = .ok (.castore, 1) := by decide +kernel
theorem dX11_init_544 : decode cX11_init 544 = .ok (.dup, 1) := by decide +kernel
theorem dX11_init_545 : decode cX11_init 545 = .ok (.bipush 41, 2) := by decide +kernel
theorem dX11_init_547 : decode cX11_init 547 = .ok (.bipush 101, 2) := by decide +kernel
theorem dX11_init_549 : decode cX11_init 549 = .ok (.castore, 1) := by decide +kernel
theorem dX11_init_550 : decode cX11_init 550 = .ok (.dup, 1) := by decide +kernel
theorem dX11_init_551 : decode cX11_init 551 = .ok (.bipush 42, 2) := by decide +kernel
theorem dX11_init_553 : decode cX11_init 553 = .ok (.bipush 32, 2) := by decide +kernel
theorem dX11_init_555 : decode cX11_init 555 = .ok (.castore, 1) := by decide +kernel
theorem dX11_init_556 : decode cX11_init 556 = .ok (.putfield 57, 3) := by decide +kernel
theorem dX11_init_559 : decode cX11_init 559 = .ok (.aload_n 0, 1) := by decide +kernel
theorem dX11_init_560 : decode cX11_init 560 = .ok (.bipush 8, 2) := by decide +kernel
theorem dX11_init_562 : decode cX11_init 562 = .ok (.newarray .int, 2) := by decide +kernel
theorem dX11_init_564 : decode cX11_init 564 = .ok (.dup, 1) := by decide +kernel
theorem dX11_init_565 : decode cX11_init 565 = .ok (.iconst 0, 1) := by decide +kernel
theorem dX11_init_566 : decode cX11_init 566 = .ok (.iconst 0, 1) := by decide +kernel
theorem dX11_init_567 : decode cX11_init 567 = .ok (.iastore, 1) := by decide +kernel
theorem dX11_init_568 : decode cX11_init 568 = .ok (.dup, 1) := by decide +kernel
theorem dX11_init_569 : decode cX11_init 569 = .ok (.iconst 1, 1) := by decide +kernel
theorem dX11_init_570 : decode cX11_init 570 = .ok (.bipush 6, 2) := by decide +kernel
theorem dX11_init_572 : decode cX11_init 572 = .ok (.iastore, 1) := by decide +kernel
theorem dX11_init_573 : decode cX11_init 573 = .ok (.dup, 1) := by decide +kernel
theorem dX11_init_574 : decode cX11_init 574 = .ok (.iconst 2, 1) := by decide +kernel
theorem dX11_init_575 : decode cX11_init 575 = .ok (.bipush 13, 2) := by decide +kernel
theorem dX11_init_577 : decode cX11_init 577 = .ok (.iastore, 1) := by decide +kernel
theorem dX11_init_578 : decode cX11_init 578 = .ok (.dup, 1) := by decide +kernel
theorem dX11_init_579 : decode cX11_init 579 = .ok (.iconst 3, 1) := by decide +kernel
theorem dX11_init_580 : decode cX11_init 580 = .ok (.bipush 20, 2) := by decide +kernel
theorem dX11_init_582 : decode cX11_init 582 = .ok (.iastore, 1) := by decide +kernel
theorem dX11_init_583 : decode cX11_init 583 = .ok (.dup, 1) := by decide +kernel
theorem dX11_init_584 : decode cX11_init 584 = .ok (.iconst 4, 1) := by decide +kernel
theorem dX11_init_585 : decode cX11_init 585 = .ok (.bipush 27, 2) := by decide +kernel
theorem dX11_init_587 : decode cX11_init 587 = .ok (.iastore, 1) := by decide +kernel
theorem dX11_init_588 : decode cX11_init 588 = .ok (.dup, 1) := by decide +kernel
theorem dX11_init_589 : decode cX11_init 589 = .ok (.iconst 5, 1) := by decide +kernel
theorem dX11_init_590 : decode cX11_init 590 = .ok (.bipush 33, 2) := by decide +kernel
theorem dX11_init_592 : decode cX11_init 592 = .ok (.iastore, 1) := by decide +kernel
theorem dX11_init_593 : decode cX11_init 593 = .ok (.dup, 1) := by decide +kernel
theorem dX11_init_594 : decode cX11_init 594 = .ok (.bipush 6, 2) := by decide +kernel
theorem dX11_init_596 : decode cX11_init 596 = .ok (.bipush 38, 2) := by decide +kernel
theorem dX11_init_598 : decode cX11_init 598 = .ok (.iastore, 1) := by decide +kernel
theorem dX11_init_599 : decode cX11_init 599 = .ok (.dup, 1) := by decide +kernel
theorem dX11_init_600 : decode cX11_init 600 = .ok (.bipush 7, 2) := by decide +kernel
theorem dX11_init_602 : decode cX11_init 602 = .ok (.bipush 43, 2) := by decide +kernel
theorem dX11_init_604 : decode cX11_init 604 = .ok (.iastore, 1) := by decide +kernel
theorem dX11_init_605 : decode cX11_init 605 = .ok (.putfield 60, 3) := by decide +kernel
theorem dX11_init_608 : decode cX11_init 608 = .ok (.aload_n 0, 1) := by decide +kernel
theorem dX11_init_609 : decode cX11_init 609 = .ok (.sipush 305, 3) := by decide +kernel
theorem dX11_init_612 : decode cX11_init 612 = .ok (.newarray .int, 2) := by decide +kernel
theorem dX11_init_614 : decode cX11_init 614 = .ok (.putfield 63, 3) := by decide +kernel
theorem dX11_init_617 : decode cX11_init 617 = .ok (.return_, 1) := by decide +kernel
theorem dX11_thrown_0 : decode cX11_thrown 0 = .ok (.aload_n 0, 1) := by decide +kernel
theorem dX11_thrown_1 : decode cX11_thrown 1 = .ok (.getfield 66, 3) := by decide +kernel
theorem dX11_thrown_4 : decode cX11_thrown 4 = .ok (.ireturn, 1) := by decide +kernel
theorem dX11_throwing_0 : decode cX11_throwing 0 = .ok (.aload_n 0, 1) := by decide +kernel
theorem dX11_throwing_1 : decode cX11_throwing 1 = .ok (.iload_n 1, 1) := by decide +kernel
theorem dX11_throwing_2 : decode cX11_throwing 2 = .ok (.putfield 66, 3) := by decide +kernel
theorem dX11_throwing_5 : decode cX11_throwing 5 = .ok (.iconst (-1), 1) := by decide +kernel
theorem dX11_throwing_6 : decode cX11_throwing 6 = .ok (.ireturn, 1) := by decide +kernel
theorem dX11_rejecting_0 : decode cX11_rejecting 0 = .ok (.aload_n 0, 1) := by decide +kernel
theorem dX11_rejecting_1 : decode cX11_rejecting 1 = .ok (.iload_n 2, 1) := by decide +kernel
theorem dX11_rejecting_2 : decode cX11_rejecting 2 = .ok (.putfield 69, 3) := by decide +kernel
theorem dX11_rejecting_5 : decode cX11_rejecting 5 = .ok (.aload_n 0, 1) := by decide +kernel
theorem dX11_rejecting_6 : decode cX11_rejecting 6 = .ok (.iload_n 3, 1) := by decide +kernel
theorem dX11_rejecting_7 : decode cX11_rejecting 7 = .ok (.putfield 72, 3) := by decide +kernel
theorem dX11_rejecting_10 : decode cX11_rejecting 10 = .ok (.aload_n 0, 1) := by decide +kernel
theorem dX11_rejecting_11 : decode cX11_rejecting 11 = .ok (.iload_n 1, 1) := by decide +kernel
theorem dX11_rejecting_12 : decode cX11_rejecting 12 = .ok (.invokevirtual 75, 3) := by decide +kernel
theorem dX11_rejecting_15 : decode cX11_rejecting 15 = .ok (.ireturn, 1) := by decide +kernel
theorem dX11_in_0 : decode cX11_in 0 = .ok (.lload_n 0, 1) := by decide +kernel
theorem dX11_in_1 : decode cX11_in 1 = .ok (.lload_n 2, 1) := by decide +kernel
theorem dX11_in_2 : decode cX11_in 2 = .ok (.lcmp, 1) := by decide +kernel
theorem dX11_in_3 : decode cX11_in 3 = .ok (.ifCond .lt 14, 3) := by decide +kernel
theorem dX11_in_6 : decode cX11_in 6 = .ok (.lload_n 0, 1) := by decide +kernel
theorem dX11_in_7 : decode cX11_in 7 = .ok (.lload 4, 2) := by decide +kernel
theorem dX11_in_9 : decode cX11_in 9 = .ok (.lcmp, 1) := by decide +kernel
theorem dX11_in_10 : decode cX11_in 10 = .ok (.ifCond .gt 7, 3) := by decide +kernel
theorem dX11_in_13 : decode cX11_in 13 = .ok (.iconst 1, 1) := by decide +kernel
theorem dX11_in_14 : decode cX11_in 14 = .ok (.goto 4, 3) := by decide +kernel
theorem dX11_in_17 : decode cX11_in 17 = .ok (.iconst 0, 1) := by decide +kernel
theorem dX11_in_18 : decode cX11_in 18 = .ok (.ireturn, 1) := by decide +kernel
theorem dX11_starts_0 : decode cX11_starts 0 = .ok (.aload_n 0, 1) := by decide +kernel
theorem dX11_starts_1 : decode cX11_starts 1 = .ok (.iconst 0, 1) := by decide +kernel
theorem dX11_starts_2 : decode cX11_starts 2 = .ok (.putfield 66, 3) := by decide +kernel
theorem dX11_starts_5 : decode cX11_starts 5 = .ok (.aload_n 0, 1) := by decide +kernel
theorem dX11_starts_6 : decode cX11_starts 6 = .ok (.iconst 0, 1) := by decide +kernel
theorem dX11_starts_7 : decode cX11_starts 7 = .ok (.putfield 69, 3) := by decide +kernel
theorem dX11_starts_10 : decode cX11_starts 10 = .ok (.iconst 0, 1) := by decide +kernel
theorem dX11_starts_11 : decode cX11_starts 11 = .ok (.istore_n 1, 1) := by decide +kernel
theorem dX11_starts_12 : decode cX11_starts 12 = .ok (.iload_n 1, 1) := by decide +kernel
theorem dX11_starts_13 : decode cX11_starts 13 = .ok (.bipush 71, 2) := by decide +kernel
theorem dX11_starts_15 : decode cX11_starts 15 = .ok (.if_icmp .ge 21, 3) := by decide +kernel
theorem dX11_starts_18 : decode cX11_starts 18 = .ok (.aload_n 0, 1) := by decide +kernel
theorem dX11_starts_19 : decode cX11_starts 19 = .ok (.getfield 13, 3) := by decide +kernel
theorem dX11_starts_22 : decode cX11_starts 22 = .ok (.iload_n 1, 1) := by decide +kernel
theorem dX11_starts_23 : decode cX11_starts 23 = .ok (.aload_n 0, 1) := by decide +kernel
theorem dX11_starts_24 : decode cX11_starts 24 = .ok (.getfield 9, 3) := by decide +kernel
theorem dX11_starts_27 : decode cX11_starts 27 = .ok (.iload_n 1, 1) := by decide +kernel
theorem dX11_starts_28 : decode cX11_starts 28 = .ok (.iaload, 1) := by decide +kernel
theorem dX11_starts_29 : decode cX11_starts 29 = .ok (.iastore, 1) := by decide +kernel
theorem dX11_starts_30 : decode cX11_starts 30 = .ok (.iinc 1 1, 3) := by decide +kernel
theorem dX11_starts_33 : decode cX11_starts 33 = .ok (.goto (-21), 3) := by decide +kernel
theorem dX11_starts_36 : decode cX11_starts 36 = .ok (.return_, 1) := by decide +kernel
theorem dX11_changed_0 : decode cX11_changed 0 = .ok (.aload_n 0, 1) := by decide +kernel
theorem dX11_changed_1 : decode cX11_changed 1 = .ok (.getfield 66, 3) := by decide +kernel
theorem dX11_changed_4 : decode cX11_changed 4 = .ok (.ifCond .le 33, 3) := by decide +kernel
theorem dX11_changed_7 : decode cX11_changed 7 = .ok (.aload_n 0, 1) := by decide +kernel
theorem dX11_changed_8 : decode cX11_changed 8 = .ok (.getfield 69, 3) := by decide +kernel
theorem dX11_changed_11 : decode cX11_changed 11 = .ok (.ifCond .le 24, 3) := by decide +kernel
theorem dX11_changed_14 : decode cX11_changed 14 = .ok (.aload_n 0, 1) := by decide +kernel
theorem dX11_changed_15 : decode cX11_changed 15 = .ok (.aload_n 0, 1) := by decide +kernel
theorem dX11_changed_16 : decode cX11_changed 16 = .ok (.getfield 69, 3) := by decide +kernel
theorem dX11_changed_19 : decode cX11_changed 19 = .ok (.putfield 79, 3) := by decide +kernel
theorem dX11_changed_22 : decode cX11_changed 22 = .ok (.aload_n 0, 1) := by decide +kernel
theorem dX11_changed_23 : decode cX11_changed 23 = .ok (.aload_n 0, 1) := by decide +kernel
theorem dX11_changed_24 : decode cX11_changed 24 = .ok (.getfield 72, 3) := by decide +kernel
theorem dX11_changed_27 : decode cX11_changed 27 = .ok (.putfield 82, 3) := by decide +kernel
theorem dX11_changed_30 : decode cX11_changed 30 = .ok (.aload_n 0, 1) := by decide +kernel
theorem dX11_changed_31 : decode cX11_changed 31 = .ok (.iconst 0, 1) := by decide +kernel
theorem dX11_changed_32 : decode cX11_changed 32 = .ok (.putfield 85, 3) := by decide +kernel
theorem dX11_changed_35 : decode cX11_changed 35 = .ok (.iload_n 1, 1) := by decide +kernel
theorem dX11_changed_36 : decode cX11_changed 36 = .ok (.ireturn, 1) := by decide +kernel
theorem dX11_changed_37 : decode cX11_changed 37 = .ok (.aload_n 0, 1) := by decide +kernel
theorem dX11_changed_38 : decode cX11_changed 38 = .ok (.getfield 88, 3) := by decide +kernel
theorem dX11_changed_41 : decode cX11_changed 41 = .ok (.bipush 8, 2) := by decide +kernel
theorem dX11_changed_43 : decode cX11_changed 43 = .ok (.if_icmp .ne 43, 3) := by decide +kernel
theorem dX11_changed_46 : decode cX11_changed 46 = .ok (.iconst 0, 1) := by decide +kernel
theorem dX11_changed_47 : decode cX11_changed 47 = .ok (.istore_n 2, 1) := by decide +kernel
theorem dX11_changed_48 : decode cX11_changed 48 = .ok (.iload_n 2, 1) := by decide +kernel
theorem dX11_changed_49 : decode cX11_changed 49 = .ok (.sipush 497, 3) := by decide +kernel
theorem dX11_changed_52 : decode cX11_changed 52 = .ok (.if_icmp .ge 24, 3) := by decide +kernel
theorem dX11_changed_55 : decode cX11_changed 55 = .ok (.aload_n 0, 1) := by decide +kernel
theorem dX11_changed_56 : decode cX11_changed 56 = .ok (.getfield 25, 3) := by decide +kernel
theorem dX11_changed_59 : decode cX11_changed 59 = .ok (.iload_n 2, 1) := by decide +kernel
theorem dX11_changed_60 : decode cX11_changed 60 = .ok (.aload_n 0, 1) := by decide +kernel
theorem dX11_changed_61 : decode cX11_changed 61 = .ok (.getfield 25, 3) := by decide +kernel
theorem dX11_changed_64 : decode cX11_changed 64 = .ok (.iload_n 2, 1) := by decide +kernel
theorem dX11_changed_65 : decode cX11_changed 65 = .ok (.bipush 71, 2) := by decide +kernel
theorem dX11_changed_67 : decode cX11_changed 67 = .ok (.iadd, 1) := by decide +kernel
theorem dX11_changed_68 : decode cX11_changed 68 = .ok (.iaload, 1) := by decide +kernel
theorem dX11_changed_69 : decode cX11_changed 69 = .ok (.iastore, 1) := by decide +kernel
theorem dX11_changed_70 : decode cX11_changed 70 = .ok (.iinc 2 1, 3) := by decide +kernel
theorem dX11_changed_73 : decode cX11_changed 73 = .ok (.goto (-25), 3) := by decide +kernel
theorem dX11_changed_76 : decode cX11_changed 76 = .ok (.aload_n 0, 1) := by decide +kernel
theorem dX11_changed_77 : decode cX11_changed 77 = .ok (.dup, 1) := by decide +kernel
theorem dX11_changed_78 : decode cX11_changed 78 = .ok (.getfield 88, 3) := by decide +kernel
theorem dX11_changed_81 : decode cX11_changed 81 = .ok (.iconst 1, 1) := by decide +kernel
theorem dX11_changed_82 : decode cX11_changed 82 = .ok (.isub, 1) := by decide +kernel
theorem dX11_changed_83 : decode cX11_changed 83 = .ok (.putfield 88, 3) := by decide +kernel
theorem dX11_changed_86 : decode cX11_changed 86 = .ok (.iconst 0, 1) := by decide +kernel
theorem dX11_changed_87 : decode cX11_changed 87 = .ok (.istore_n 2, 1) := by decide +kernel
theorem dX11_changed_88 : decode cX11_changed 88 = .ok (.iload_n 2, 1) := by decide +kernel
theorem dX11_changed_89 : decode cX11_changed 89 = .ok (.bipush 71, 2) := by decide +kernel
theorem dX11_changed_91 : decode cX11_changed 91 = .ok (.if_icmp .ge 29, 3) := by decide +kernel
theorem dX11_changed_94 : decode cX11_changed 94 = .ok (.aload_n 0, 1) := by decide +kernel
theorem dX11_changed_95 : decode cX11_changed 95 = .ok (.getfield 25, 3) := by decide +kernel
theorem dX11_changed_98 : decode cX11_changed 98 = .ok (.bipush 71, 2) := by decide +kernel
theorem dX11_changed_100 : decode cX11_changed 100 = .ok (.aload_n 0, 1) := by decide +kernel
theorem dX11_changed_101 : decode cX11_changed 101 = .ok (.getfield 88, 3) := by decide +kernel
theorem dX11_changed_104 : decode cX11_changed 104 = .ok (.imul, 1) := by decide +kernel
theorem dX11_changed_105 : decode cX11_changed 105 = .ok (.iload_n 2, 1) := by decide +kernel
theorem dX11_changed_106 : decode cX11_changed 106 = .ok (.iadd, 1) := by decide +kernel
theorem dX11_changed_107 : decode cX11_changed 107 = .ok (.aload_n 0, 1) := by decide +kernel
theorem dX11_changed_108 : decode cX11_changed 108 = .ok (.getfield 13, 3) := by decide +kernel
theorem dX11_changed_111 : decode cX11_changed 111 = .ok (.iload_n 2, 1) := by decide +kernel
theorem dX11_changed_112 : decode cX11_changed 112 = .ok (.iaload, 1) := by decide +kernel
theorem dX11_changed_113 : decode cX11_changed 113 = .ok (.iastore, 1) := by decide +kernel
theorem dX11_changed_114 : decode cX11_changed 114 = .ok (.iinc 2 1, 3) := by decide +kernel
theorem dX11_changed_117 : decode cX11_changed 117 = .ok (.goto (-29), 3) := by decide +kernel
theorem dX11_changed_120 : decode cX11_changed 120 = .ok (.aload_n 0, 1) := by decide +kernel
theorem dX11_changed_121 : decode cX11_changed 121 = .ok (.dup, 1) := by decide +kernel
theorem dX11_changed_122 : decode cX11_changed 122 = .ok (.getfield 88, 3) := by decide +kernel
theorem dX11_changed_125 : decode cX11_changed 125 = .ok (.iconst 1, 1) := by decide +kernel
theorem dX11_changed_126 : decode cX11_changed 126 = .ok (.iadd, 1) := by decide +kernel
theorem dX11_changed_127 : decode cX11_changed 127 = .ok (.putfield 88, 3) := by decide +kernel
theorem dX11_changed_130 : decode cX11_changed 130 = .ok (.iload_n 1, 1) := by decide +kernel
theorem dX11_changed_131 : decode cX11_changed 131 = .ok (.ireturn, 1) := by decide +kernel
theorem dX11_isCell_0 : decode cX11_isCell 0 = .ok (.iload_n 0, 1) := by decide +kernel
theorem dX11_isCell_1 : decode cX11_isCell 1 = .ok (.i2l, 1) := by decide +kernel
theorem dX11_isCell_2 : decode cX11_isCell 2 = .ok (.lconst 0, 1) := by decide +kernel
theorem dX11_isCell_3 : decode cX11_isCell 3 = .ok (.ldc2_w 91, 3) := by decide +kernel
theorem dX11_isCell_6 : decode cX11_isCell 6 = .ok (.invokestatic 93, 3) := by decide +kernel
theorem dX11_isCell_9 : decode cX11_isCell 9 = .ok (.ifCond .eq 19, 3) := by decide +kernel
theorem dX11_isCell_12 : decode cX11_isCell 12 = .ok (.iload_n 1, 1) := by decide +kernel
theorem dX11_isCell_13 : decode cX11_isCell 13 = .ok (.i2l, 1) := by decide +kernel
theorem dX11_isCell_14 : decode cX11_isCell 14 = .ok (.lconst 0, 1) := by decide +kernel
theorem dX11_isCell_15 : decode cX11_isCell 15 = .ok (.ldc2_w 91, 3) := by decide +kernel
theorem dX11_isCell_18 : decode cX11_isCell 18 = .ok (.invokestatic 93, 3) := by decide +kernel
theorem dX11_isCell_21 : decode cX11_isCell 21 = .ok (.ifCond .eq 7, 3) := by decide +kernel
theorem dX11_isCell_24 : decode cX11_isCell 24 = .ok (.iconst 1, 1) := by decide +kernel
theorem dX11_isCell_25 : decode cX11_isCell 25 = .ok (.goto 4, 3) := by decide +kernel
theorem dX11_isCell_28 : decode cX11_isCell 28 = .ok (.iconst 0, 1) := by decide +kernel
theorem dX11_isCell_29 : decode cX11_isCell 29 = .ok (.ireturn, 1) := by decide +kernel
theorem dX11_isColour_0 : decode cX11_isColour 0 = .ok (.iload_n 0, 1) := by decide +kernel
theorem dX11_isColour_1 : decode cX11_isColour 1 = .ok (.i2l, 1) := by decide +kernel
theorem dX11_isColour_2 : decode cX11_isColour 2 = .ok (.ldc2_w 97, 3) := by decide +kernel
theorem dX11_isColour_5 : decode cX11_isColour 5 = .ok (.ldc2_w 99, 3) := by decide +kernel
theorem dX11_isColour_8 : decode cX11_isColour 8 = .ok (.invokestatic 93, 3) := by decide +kernel
theorem dX11_isColour_11 : decode cX11_isColour 11 = .ok (.ireturn, 1) := by decide +kernel
theorem dX11_cellOf_0 : decode cX11_cellOf 0 = .ok (.bipush 8, 2) := by decide +kernel
theorem dX11_cellOf_2 : decode cX11_cellOf 2 = .ok (.iload_n 0, 1) := by decide +kernel
theorem dX11_cellOf_3 : decode cX11_cellOf 3 = .ok (.imul, 1) := by decide +kernel
theorem dX11_cellOf_4 : decode cX11_cellOf 4 = .ok (.iload_n 1, 1) := by decide +kernel
theorem dX11_cellOf_5 : decode cX11_cellOf 5 = .ok (.iadd, 1) := by decide +kernel
theorem dX11_cellOf_6 : decode cX11_cellOf 6 = .ok (.ireturn, 1) := by decide +kernel
theorem dX11_at_0 : decode cX11_at 0 = .ok (.aload_n 0, 1) := by decide +kernel
theorem dX11_at_1 : decode cX11_at 1 = .ok (.getfield 9, 3) := by decide +kernel
theorem dX11_at_4 : decode cX11_at 4 = .ok (.bipush 7, 2) := by decide +kernel
theorem dX11_at_6 : decode cX11_at 6 = .ok (.iload_n 1, 1) := by decide +kernel
theorem dX11_at_7 : decode cX11_at 7 = .ok (.iadd, 1) := by decide +kernel
theorem dX11_at_8 : decode cX11_at 8 = .ok (.iaload, 1) := by decide +kernel
theorem dX11_at_9 : decode cX11_at 9 = .ok (.ireturn, 1) := by decide +kernel
theorem dX11_colourOf_0 : decode cX11_colourOf 0 = .ok (.bipush 97, 2) := by decide +kernel
theorem dX11_colourOf_2 : decode cX11_colourOf 2 = .ok (.iload_n 0, 1) := by decide +kernel
theorem dX11_colourOf_3 : decode cX11_colourOf 3 = .ok (.bipush 10, 2) := by decide +kernel
theorem dX11_colourOf_5 : decode cX11_colourOf 5 = .ok (.isub, 1) := by decide +kernel
theorem dX11_colourOf_6 : decode cX11_colourOf 6 = .ok (.bipush 10, 2) := by decide +kernel
theorem dX11_colourOf_8 : decode cX11_colourOf 8 = .ok (.idiv, 1) := by decide +kernel
theorem dX11_colourOf_9 : decode cX11_colourOf 9 = .ok (.iadd, 1) := by decide +kernel
theorem dX11_colourOf_10 : decode cX11_colourOf 10 = .ok (.ireturn, 1) := by decide +kernel
theorem dX11_living_0 : decode cX11_living 0 = .ok (.bipush 10, 2) := by decide +kernel
theorem dX11_living_2 : decode cX11_living 2 = .ok (.bipush 10, 2) := by decide +kernel
theorem dX11_living_4 : decode cX11_living 4 = .ok (.iload_n 0, 1) := by decide +kernel
theorem dX11_living_5 : decode cX11_living 5 = .ok (.bipush 97, 2) := by decide +kernel
theorem dX11_living_7 : decode cX11_living 7 = .ok (.isub, 1) := by decide +kernel
theorem dX11_living_8 : decode cX11_living 8 = .ok (.imul, 1) := by decide +kernel
theorem dX11_living_9 : decode cX11_living 9 = .ok (.iadd, 1) := by decide +kernel
theorem dX11_living_10 : decode cX11_living 10 = .ok (.iload_n 1, 1) := by decide +kernel
theorem dX11_living_11 : decode cX11_living 11 = .ok (.iadd, 1) := by decide +kernel
theorem dX11_living_12 : decode cX11_living 12 = .ok (.ireturn, 1) := by decide +kernel
theorem dX11_isLivingAt_0 : decode cX11_isLivingAt 0 = .ok (.aload_n 0, 1) := by decide +kernel
theorem dX11_isLivingAt_1 : decode cX11_isLivingAt 1 = .ok (.iload_n 1, 1) := by decide +kernel
theorem dX11_isLivingAt_2 : decode cX11_isLivingAt 2 = .ok (.invokevirtual 101, 3) := by decide +kernel
theorem dX11_isLivingAt_5 : decode cX11_isLivingAt 5 = .ok (.bipush 10, 2) := by decide +kernel
theorem dX11_isLivingAt_7 : decode cX11_isLivingAt 7 = .ok (.if_icmp .lt 7, 3) := by decide +kernel
theorem dX11_isLivingAt_10 : decode cX11_isLivingAt 10 = .ok (.iconst 1, 1) := by decide +kernel
theorem dX11_isLivingAt_11 : decode cX11_isLivingAt 11 = .ok (.goto 4, 3) := by decide +kernel
theorem dX11_isLivingAt_14 : decode cX11_isLivingAt 14 = .ok (.iconst 0, 1) := by decide +kernel
theorem dX11_isLivingAt_15 : decode cX11_isLivingAt 15 = .ok (.ireturn, 1) := by decide +kernel
theorem dX11_near_0 : decode cX11_near 0 = .ok (.iconst 0, 1) := by decide +kernel
theorem dX11_near_1 : decode cX11_near 1 = .ok (.istore_n 3, 1) := by decide +kernel
theorem dX11_near_2 : decode cX11_near 2 = .ok (.iload_n 1, 1) := by decide +kernel
theorem dX11_near_3 : decode cX11_near 3 = .ok (.bipush 8, 2) := by decide +kernel
theorem dX11_near_5 : decode cX11_near 5 = .ok (.idiv, 1) := by decide +kernel
theorem dX11_near_6 : decode cX11_near 6 = .ok (.iconst 1, 1) := by decide +kernel
theorem dX11_near_7 : decode cX11_near 7 = .ok (.isub, 1) := by decide +kernel
theorem dX11_near_8 : decode cX11_near 8 = .ok (.istore 4, 2) := by decide +kernel
theorem dX11_near_10 : decode cX11_near 10 = .ok (.iload 4, 2) := by decide +kernel
theorem dX11_near_12 : decode cX11_near 12 = .ok (.iload_n 1, 1) := by decide +kernel
theorem dX11_near_13 : decode cX11_near 13 = .ok (.bipush 8, 2) := by decide +kernel
theorem dX11_near_15 : decode cX11_near 15 = .ok (.idiv, 1) := by decide +kernel
theorem dX11_near_16 : decode cX11_near 16 = .ok (.iconst 1, 1) := by decide +kernel
theorem dX11_near_17 : decode cX11_near 17 = .ok (.iadd, 1) := by decide +kernel
theorem dX11_near_18 : decode cX11_near 18 = .ok (.if_icmp .gt 96, 3) := by decide +kernel
theorem dX11_near_21 : decode cX11_near 21 = .ok (.iload_n 1, 1) := by decide +kernel
theorem dX11_near_22 : decode cX11_near 22 = .ok (.bipush 8, 2) := by decide +kernel
theorem dX11_near_24 : decode cX11_near 24 = .ok (.irem, 1) := by decide +kernel
theorem dX11_near_25 : decode cX11_near 25 = .ok (.iconst 1, 1) := by decide +kernel
theorem dX11_near_26 : decode cX11_near 26 = .ok (.isub, 1) := by decide +kernel
theorem dX11_near_27 : decode cX11_near 27 = .ok (.istore 5, 2) := by decide +kernel
theorem dX11_near_29 : decode cX11_near 29 = .ok (.iload 5, 2) := by decide +kernel
theorem dX11_near_31 : decode cX11_near 31 = .ok (.iload_n 1, 1) := by decide +kernel
theorem dX11_near_32 : decode cX11_near 32 = .ok (.bipush 8, 2) := by decide +kernel
theorem dX11_near_34 : decode cX11_near 34 = .ok (.irem, 1) := by decide +kernel
theorem dX11_near_35 : decode cX11_near 35 = .ok (.iconst 1, 1) := by decide +kernel
theorem dX11_near_36 : decode cX11_near 36 = .ok (.iadd, 1) := by decide +kernel
theorem dX11_near_37 : decode cX11_near 37 = .ok (.if_icmp .gt 71, 3) := by decide +kernel
theorem dX11_near_40 : decode cX11_near 40 = .ok (.iload 4, 2) := by decide +kernel
theorem dX11_near_42 : decode cX11_near 42 = .ok (.iload 5, 2) := by decide +kernel
theorem dX11_near_44 : decode cX11_near 44 = .ok (.invokestatic 104, 3) := by decide +kernel
theorem dX11_near_47 : decode cX11_near 47 = .ok (.ifCond .eq 55, 3) := by decide +kernel
theorem dX11_near_50 : decode cX11_near 50 = .ok (.iload 4, 2) := by decide +kernel
theorem dX11_near_52 : decode cX11_near 52 = .ok (.iload 5, 2) := by decide +kernel
theorem dX11_near_54 : decode cX11_near 54 = .ok (.invokestatic 108, 3) := by decide +kernel
theorem dX11_near_57 : decode cX11_near 57 = .ok (.iload_n 1, 1) := by decide +kernel
theorem dX11_near_58 : decode cX11_near 58 = .ok (.if_icmp .eq 44, 3) := by decide +kernel
theorem dX11_near_61 : decode cX11_near 61 = .ok (.aload_n 0, 1) := by decide +kernel
theorem dX11_near_62 : decode cX11_near 62 = .ok (.iload 4, 2) := by decide +kernel
theorem dX11_near_64 : decode cX11_near 64 = .ok (.iload 5, 2) := by decide +kernel
theorem dX11_near_66 : decode cX11_near 66 = .ok (.invokestatic 108, 3) := by decide +kernel
theorem dX11_near_69 : decode cX11_near 69 = .ok (.invokevirtual 101, 3) := by decide +kernel
theorem dX11_near_72 : decode cX11_near 72 = .ok (.istore 6, 2) := by decide +kernel
theorem dX11_near_74 : decode cX11_near 74 = .ok (.iload_n 3, 1) := by decide +kernel
theorem dX11_near_75 : decode cX11_near 75 = .ok (.iload 6, 2) := by decide +kernel
theorem dX11_near_77 : decode cX11_near 77 = .ok (.bipush 10, 2) := by decide +kernel
theorem dX11_near_79 : decode cX11_near 79 = .ok (.if_icmp .lt 20, 3) := by decide +kernel
theorem dX11_near_82 : decode cX11_near 82 = .ok (.iload_n 2, 1) := by decide +kernel
theorem dX11_near_83 : decode cX11_near 83 = .ok (.ifCond .eq 12, 3) := by decide +kernel
theorem dX11_near_86 : decode cX11_near 86 = .ok (.iload 6, 2) := by decide +kernel
theorem dX11_near_88 : decode cX11_near 88 = .ok (.invokestatic 112, 3) := by decide +kernel
theorem dX11_near_91 : decode cX11_near 91 = .ok (.iload_n 2, 1) := by decide +kernel
theorem dX11_near_92 : decode cX11_near 92 = .ok (.if_icmp .ne 7, 3) := by decide +kernel
theorem dX11_near_95 : decode cX11_near 95 = .ok (.iconst 1, 1) := by decide +kernel
theorem dX11_near_96 : decode cX11_near 96 = .ok (.goto 4, 3) := by decide +kernel
theorem dX11_near_99 : decode cX11_near 99 = .ok (.iconst 0, 1) := by decide +kernel
theorem dX11_near_100 : decode cX11_near 100 = .ok (.iadd, 1) := by decide +kernel
theorem dX11_near_101 : decode cX11_near 101 = .ok (.istore_n 3, 1) := by decide +kernel
theorem dX11_near_102 : decode cX11_near 102 = .ok (.iinc 5 1, 3) := by decide +kernel
theorem dX11_near_105 : decode cX11_near 105 = .ok (.goto (-76), 3) := by decide +kernel
theorem dX11_near_108 : decode cX11_near 108 = .ok (.iinc 4 1, 3) := by decide +kernel
theorem dX11_near_111 : decode cX11_near 111 = .ok (.goto (-101), 3) := by decide +kernel
theorem dX11_near_114 : decode cX11_near 114 = .ok (.iload_n 3, 1) := by decide +kernel
theorem dX11_near_115 : decode cX11_near 115 = .ok (.ireturn, 1) := by decide +kernel
theorem dX11_mostNear_0 : decode cX11_mostNear 0 = .ok (.bipush 97, 2) := by decide +kernel
theorem dX11_mostNear_2 : decode cX11_mostNear 2 = .ok (.istore_n 2, 1) := by decide +kernel
theorem dX11_mostNear_3 : decode cX11_mostNear 3 = .ok (.bipush 98, 2) := by decide +kernel
theorem dX11_mostNear_5 : decode cX11_mostNear 5 = .ok (.istore_n 3, 1) := by decide +kernel
theorem dX11_mostNear_6 : decode cX11_mostNear 6 = .ok (.iload_n 3, 1) := by decide +kernel
theorem dX11_mostNear_7 : decode cX11_mostNear 7 = .ok (.bipush 100, 2) := by decide +kernel
theorem dX11_mostNear_9 : decode cX11_mostNear 9 = .ok (.if_icmp .gt 30, 3) := by decide +kernel
theorem dX11_mostNear_12 : decode cX11_mostNear 12 = .ok (.aload_n 0, 1) := by decide +kernel
theorem dX11_mostNear_13 : decode cX11_mostNear 13 = .ok (.iload_n 1, 1) := by decide +kernel
theorem dX11_mostNear_14 : decode cX11_mostNear 14 = .ok (.iload_n 3, 1) := by decide +kernel
theorem dX11_mostNear_15 : decode cX11_mostNear 15 = .ok (.invokevirtual 115, 3) := by decide +kernel
theorem dX11_mostNear_18 : decode cX11_mostNear 18 = .ok (.aload_n 0, 1) := by decide +kernel
theorem dX11_mostNear_19 : decode cX11_mostNear 19 = .ok (.iload_n 1, 1) := by decide +kernel
theorem dX11_mostNear_20 : decode cX11_mostNear 20 = .ok (.iload_n 2, 1) := by decide +kernel
theorem dX11_mostNear_21 : decode cX11_mostNear 21 = .ok (.invokevirtual 115, 3) := by decide +kernel
theorem dX11_mostNear_24 : decode cX11_mostNear 24 = .ok (.if_icmp .le 7, 3) := by decide +kernel
theorem dX11_mostNear_27 : decode cX11_mostNear 27 = .ok (.iload_n 3, 1) := by decide +kernel
theorem dX11_mostNear_28 : decode cX11_mostNear 28 = .ok (.goto 4, 3) := by decide +kernel
theorem dX11_mostNear_31 : decode cX11_mostNear 31 = .ok (.iload_n 2, 1) := by decide +kernel
theorem dX11_mostNear_32 : decode cX11_mostNear 32 = .ok (.istore_n 2, 1) := by decide +kernel
theorem dX11_mostNear_33 : decode cX11_mostNear 33 = .ok (.iinc 3 1, 3) := by decide +kernel
theorem dX11_mostNear_36 : decode cX11_mostNear 36 = .ok (.goto (-30), 3) := by decide +kernel
theorem dX11_mostNear_39 : decode cX11_mostNear 39 = .ok (.iload_n 2, 1) := by decide +kernel
theorem dX11_mostNear_40 : decode cX11_mostNear 40 = .ok (.ireturn, 1) := by decide +kernel
theorem dX11_manyOf_0 : decode cX11_manyOf 0 = .ok (.iconst 0, 1) := by decide +kernel
theorem dX11_manyOf_1 : decode cX11_manyOf 1 = .ok (.istore_n 3, 1) := by decide +kernel
theorem dX11_manyOf_2 : decode cX11_manyOf 2 = .ok (.iconst 0, 1) := by decide +kernel
theorem dX11_manyOf_3 : decode cX11_manyOf 3 = .ok (.istore 4, 2) := by decide +kernel
theorem dX11_manyOf_5 : decode cX11_manyOf 5 = .ok (.iload 4, 2) := by decide +kernel
theorem dX11_manyOf_7 : decode cX11_manyOf 7 = .ok (.bipush 64, 2) := by decide +kernel
theorem dX11_manyOf_9 : decode cX11_manyOf 9 = .ok (.if_icmp .ge 34, 3) := by decide +kernel
theorem dX11_manyOf_12 : decode cX11_manyOf 12 = .ok (.iload_n 3, 1) := by decide +kernel
theorem dX11_manyOf_13 : decode cX11_manyOf 13 = .ok (.aload_n 0, 1) := by decide +kernel
theorem dX11_manyOf_14 : decode cX11_manyOf 14 = .ok (.iload 4, 2) := by decide +kernel
theorem dX11_manyOf_16 : decode cX11_manyOf 16 = .ok (.invokevirtual 101, 3) := by decide +kernel
theorem dX11_manyOf_19 : decode cX11_manyOf 19 = .ok (.i2l, 1) := by decide +kernel
theorem dX11_manyOf_20 : decode cX11_manyOf 20 = .ok (.iload_n 1, 1) := by decide +kernel
theorem dX11_manyOf_21 : decode cX11_manyOf 21 = .ok (.i2l, 1) := by decide +kernel
theorem dX11_manyOf_22 : decode cX11_manyOf 22 = .ok (.iload_n 2, 1) := by decide +kernel
theorem dX11_manyOf_23 : decode cX11_manyOf 23 = .ok (.i2l, 1) := by decide +kernel
theorem dX11_manyOf_24 : decode cX11_manyOf 24 = .ok (.invokestatic 93, 3) := by decide +kernel
theorem dX11_manyOf_27 : decode cX11_manyOf 27 = .ok (.ifCond .eq 7, 3) := by decide +kernel
theorem dX11_manyOf_30 : decode cX11_manyOf 30 = .ok (.iconst 1, 1) := by decide +kernel
theorem dX11_manyOf_31 : decode cX11_manyOf 31 = .ok (.goto 4, 3) := by decide +kernel
theorem dX11_manyOf_34 : decode cX11_manyOf 34 = .ok (.iconst 0, 1) := by decide +kernel
theorem dX11_manyOf_35 : decode cX11_manyOf 35 = .ok (.iadd, 1) := by decide +kernel
theorem dX11_manyOf_36 : decode cX11_manyOf 36 = .ok (.istore_n 3, 1) := by decide +kernel
theorem dX11_manyOf_37 : decode cX11_manyOf 37 = .ok (.iinc 4 1, 3) := by decide +kernel
theorem dX11_manyOf_40 : decode cX11_manyOf 40 = .ok (.goto (-35), 3) := by decide +kernel
theorem dX11_manyOf_43 : decode cX11_manyOf 43 = .ok (.iload_n 3, 1) := by decide +kernel
theorem dX11_manyOf_44 : decode cX11_manyOf 44 = .ok (.ireturn, 1) := by decide +kernel
theorem dX11_livings_0 : decode cX11_livings 0 = .ok (.aload_n 0, 1) := by decide +kernel
theorem dX11_livings_1 : decode cX11_livings 1 = .ok (.bipush 10, 2) := by decide +kernel
theorem dX11_livings_3 : decode cX11_livings 3 = .ok (.bipush 49, 2) := by decide +kernel
theorem dX11_livings_5 : decode cX11_livings 5 = .ok (.invokevirtual 118, 3) := by decide +kernel
theorem dX11_livings_8 : decode cX11_livings 8 = .ok (.ireturn, 1) := by decide +kernel
theorem dX11_bleacheds_0 : decode cX11_bleacheds 0 = .ok (.aload_n 0, 1) := by decide +kernel
theorem dX11_bleacheds_1 : decode cX11_bleacheds 1 = .ok (.iconst 1, 1) := by decide +kernel
theorem dX11_bleacheds_2 : decode cX11_bleacheds 2 = .ok (.iconst 1, 1) := by decide +kernel
theorem dX11_bleacheds_3 : decode cX11_bleacheds 3 = .ok (.invokevirtual 118, 3) := by decide +kernel
theorem dX11_bleacheds_6 : decode cX11_bleacheds 6 = .ok (.ireturn, 1) := by decide +kernel
theorem dX11_bears_0 : decode cX11_bears 0 = .ok (.iload_n 1, 1) := by decide +kernel
theorem dX11_bears_1 : decode cX11_bears 1 = .ok (.iconst 3, 1) := by decide +kernel
theorem dX11_bears_2 : decode cX11_bears 2 = .ok (.if_icmp .eq 19, 3) := by decide +kernel
theorem dX11_bears_5 : decode cX11_bears 5 = .ok (.aload_n 0, 1) := by decide +kernel
theorem dX11_bears_6 : decode cX11_bears 6 = .ok (.getfield 9, 3) := by decide +kernel
theorem dX11_bears_9 : decode cX11_bears 9 = .ok (.iconst 0, 1) := by decide +kernel
theorem dX11_bears_10 : decode cX11_bears 10 = .ok (.iaload, 1) := by decide +kernel
theorem dX11_bears_11 : decode cX11_bears 11 = .ok (.iconst 1, 1) := by decide +kernel
theorem dX11_bears_12 : decode cX11_bears 12 = .ok (.if_icmp .ne 13, 3) := by decide +kernel
theorem dX11_bears_15 : decode cX11_bears 15 = .ok (.iload_n 1, 1) := by decide +kernel
theorem dX11_bears_16 : decode cX11_bears 16 = .ok (.bipush 6, 2) := by decide +kernel
theorem dX11_bears_18 : decode cX11_bears 18 = .ok (.if_icmp .ne 7, 3) := by decide +kernel
theorem dX11_bears_21 : decode cX11_bears 21 = .ok (.iconst 1, 1) := by decide +kernel
theorem dX11_bears_22 : decode cX11_bears 22 = .ok (.goto 4, 3) := by decide +kernel
theorem dX11_bears_25 : decode cX11_bears 25 = .ok (.iconst 0, 1) := by decide +kernel
theorem dX11_bears_26 : decode cX11_bears 26 = .ok (.ireturn, 1) := by decide +kernel
theorem dX11_keeps_0 : decode cX11_keeps 0 = .ok (.aload_n 0, 1) := by decide +kernel
theorem dX11_keeps_1 : decode cX11_keeps 1 = .ok (.getfield 9, 3) := by decide +kernel
theorem dX11_keeps_4 : decode cX11_keeps 4 = .ok (.iconst 0, 1) := by decide +kernel
theorem dX11_keeps_5 : decode cX11_keeps 5 = .ok (.iaload, 1) := by decide +kernel
theorem dX11_keeps_6 : decode cX11_keeps 6 = .ok (.iconst 2, 1) := by decide +kernel
theorem dX11_keeps_7 : decode cX11_keeps 7 = .ok (.if_icmp .ne 15, 3) := by decide +kernel
theorem dX11_keeps_10 : decode cX11_keeps 10 = .ok (.iload_n 1, 1) := by decide +kernel
theorem dX11_keeps_11 : decode cX11_keeps 11 = .ok (.i2l, 1) := by decide +kernel
theorem dX11_keeps_12 : decode cX11_keeps 12 = .ok (.lconst 1, 1) := by decide +kernel
theorem dX11_keeps_13 : decode cX11_keeps 13 = .ok (.ldc2_w 121, 3) := by decide +kernel
theorem dX11_keeps_16 : decode cX11_keeps 16 = .ok (.invokestatic 93, 3) := by decide +kernel
theorem dX11_keeps_19 : decode cX11_keeps 19 = .ok (.goto 14, 3) := by decide +kernel
theorem dX11_keeps_22 : decode cX11_keeps 22 = .ok (.iload_n 1, 1) := by decide +kernel
theorem dX11_keeps_23 : decode cX11_keeps 23 = .ok (.i2l, 1) := by decide +kernel
theorem dX11_keeps_24 : decode cX11_keeps 24 = .ok (.ldc2_w 123, 3) := by decide +kernel
theorem dX11_keeps_27 : decode cX11_keeps 27 = .ok (.ldc2_w 125, 3) := by decide +kernel
theorem dX11_keeps_30 : decode cX11_keeps 30 = .ok (.invokestatic 93, 3) := by decide +kernel
theorem dX11_keeps_33 : decode cX11_keeps 33 = .ok (.ireturn, 1) := by decide +kernel
theorem dX11_placeIt_0 : decode cX11_placeIt 0 = .ok (.iload_n 1, 1) := by decide +kernel
theorem dX11_placeIt_1 : decode cX11_placeIt 1 = .ok (.iload_n 2, 1) := by decide +kernel
theorem dX11_placeIt_2 : decode cX11_placeIt 2 = .ok (.invokestatic 104, 3) := by decide +kernel
theorem dX11_placeIt_5 : decode cX11_placeIt 5 = .ok (.ifCond .ne 9, 3) := by decide +kernel
theorem dX11_placeIt_8 : decode cX11_placeIt 8 = .ok (.aload_n 0, 1) := by decide +kernel
theorem dX11_placeIt_9 : decode cX11_placeIt 9 = .ok (.iconst 1, 1) := by decide +kernel
theorem dX11_placeIt_10 : decode cX11_placeIt 10 = .ok (.invokevirtual 75, 3) := by decide +kernel
theorem dX11_placeIt_13 : decode cX11_placeIt 13 = .ok (.ireturn, 1) := by decide +kernel
theorem dX11_placeIt_14 : decode cX11_placeIt 14 = .ok (.iload_n 3, 1) := by decide +kernel
theorem dX11_placeIt_15 : decode cX11_placeIt 15 = .ok (.invokestatic 127, 3) := by decide +kernel
theorem dX11_placeIt_18 : decode cX11_placeIt 18 = .ok (.ifCond .ne 9, 3) := by decide +kernel
theorem dX11_placeIt_21 : decode cX11_placeIt 21 = .ok (.aload_n 0, 1) := by decide +kernel
theorem dX11_placeIt_22 : decode cX11_placeIt 22 = .ok (.iconst 2, 1) := by decide +kernel
theorem dX11_placeIt_23 : decode cX11_placeIt 23 = .ok (.invokevirtual 75, 3) := by decide +kernel
theorem dX11_placeIt_26 : decode cX11_placeIt 26 = .ok (.ireturn, 1) := by decide +kernel
theorem dX11_placeIt_27 : decode cX11_placeIt 27 = .ok (.iload_n 1, 1) := by decide +kernel
theorem dX11_placeIt_28 : decode cX11_placeIt 28 = .ok (.iload_n 2, 1) := by decide +kernel
theorem dX11_placeIt_29 : decode cX11_placeIt 29 = .ok (.invokestatic 108, 3) := by decide +kernel
theorem dX11_placeIt_32 : decode cX11_placeIt 32 = .ok (.istore 4, 2) := by decide +kernel
theorem dX11_placeIt_34 : decode cX11_placeIt 34 = .ok (.aload_n 0, 1) := by decide +kernel
theorem dX11_placeIt_35 : decode cX11_placeIt 35 = .ok (.iload 4, 2) := by decide +kernel
theorem dX11_placeIt_37 : decode cX11_placeIt 37 = .ok (.invokevirtual 101, 3) := by decide +kernel
theorem dX11_placeIt_40 : decode cX11_placeIt 40 = .ok (.ifCond .eq 12, 3) := by decide +kernel
theorem dX11_placeIt_43 : decode cX11_placeIt 43 = .ok (.aload_n 0, 1) := by decide +kernel
theorem dX11_placeIt_44 : decode cX11_placeIt 44 = .ok (.iconst 3, 1) := by decide +kernel
theorem dX11_placeIt_45 : decode cX11_placeIt 45 = .ok (.iconst 1, 1) := by decide +kernel
theorem dX11_placeIt_46 : decode cX11_placeIt 46 = .ok (.iload 4, 2) := by decide +kernel
theorem dX11_placeIt_48 : decode cX11_placeIt 48 = .ok (.invokevirtual 131, 3) := by decide +kernel
theorem dX11_placeIt_51 : decode cX11_placeIt 51 = .ok (.ireturn, 1) := by decide +kernel
theorem dX11_placeIt_52 : decode cX11_placeIt 52 = .ok (.aload_n 0, 1) := by decide +kernel
theorem dX11_placeIt_53 : decode cX11_placeIt 53 = .ok (.getfield 9, 3) := by decide +kernel
theorem dX11_placeIt_56 : decode cX11_placeIt 56 = .ok (.bipush 7, 2) := by decide +kernel
theorem dX11_placeIt_58 : decode cX11_placeIt 58 = .ok (.iload 4, 2) := by decide +kernel
theorem dX11_placeIt_60 : decode cX11_placeIt 60 = .ok (.iadd, 1) := by decide +kernel
theorem dX11_placeIt_61 : decode cX11_placeIt 61 = .ok (.iload_n 3, 1) := by decide +kernel
theorem dX11_placeIt_62 : decode cX11_placeIt 62 = .ok (.iconst 0, 1) := by decide +kernel
theorem dX11_placeIt_63 : decode cX11_placeIt 63 = .ok (.invokestatic 135, 3) := by decide +kernel
theorem dX11_placeIt_66 : decode cX11_placeIt 66 = .ok (.iastore, 1) := by decide +kernel
theorem dX11_placeIt_67 : decode cX11_placeIt 67 = .ok (.aload_n 0, 1) := by decide +kernel
theorem dX11_placeIt_68 : decode cX11_placeIt 68 = .ok (.getfield 9, 3) := by decide +kernel
theorem dX11_placeIt_71 : decode cX11_placeIt 71 = .ok (.iconst 2, 1) := by decide +kernel
theorem dX11_placeIt_72 : decode cX11_placeIt 72 = .ok (.dup2, 1) := by decide +kernel
theorem dX11_placeIt_73 : decode cX11_placeIt 73 = .ok (.iaload, 1) := by decide +kernel
theorem dX11_placeIt_74 : decode cX11_placeIt 74 = .ok (.iconst 1, 1) := by decide +kernel
theorem dX11_placeIt_75 : decode cX11_placeIt 75 = .ok (.iadd, 1) := by decide +kernel
theorem dX11_placeIt_76 : decode cX11_placeIt 76 = .ok (.iastore, 1) := by decide +kernel
theorem dX11_placeIt_77 : decode cX11_placeIt 77 = .ok (.aload_n 0, 1) := by decide +kernel
theorem dX11_placeIt_78 : decode cX11_placeIt 78 = .ok (.invokevirtual 138, 3) := by decide +kernel
theorem dX11_placeIt_81 : decode cX11_placeIt 81 = .ok (.ireturn, 1) := by decide +kernel
theorem dX11_place_0 : decode cX11_place 0 = .ok (.aload_n 0, 1) := by decide +kernel
theorem dX11_place_1 : decode cX11_place 1 = .ok (.invokevirtual 142, 3) := by decide +kernel
theorem dX11_place_4 : decode cX11_place 4 = .ok (.aload_n 0, 1) := by decide +kernel
theorem dX11_place_5 : decode cX11_place 5 = .ok (.aload_n 0, 1) := by decide +kernel
theorem dX11_place_6 : decode cX11_place 6 = .ok (.iload_n 1, 1) := by decide +kernel
theorem dX11_place_7 : decode cX11_place 7 = .ok (.iload_n 2, 1) := by decide +kernel
theorem dX11_place_8 : decode cX11_place 8 = .ok (.iload_n 3, 1) := by decide +kernel
theorem dX11_place_9 : decode cX11_place 9 = .ok (.invokevirtual 145, 3) := by decide +kernel
theorem dX11_place_12 : decode cX11_place 12 = .ok (.invokevirtual 148, 3) := by decide +kernel
theorem dX11_place_15 : decode cX11_place 15 = .ok (.ireturn, 1) := by decide +kernel
theorem dX11_removeIt_0 : decode cX11_removeIt 0 = .ok (.iload_n 1, 1) := by decide +kernel
theorem dX11_removeIt_1 : decode cX11_removeIt 1 = .ok (.iload_n 2, 1) := by decide +kernel
theorem dX11_removeIt_2 : decode cX11_removeIt 2 = .ok (.invokestatic 104, 3) := by decide +kernel
theorem dX11_removeIt_5 : decode cX11_removeIt 5 = .ok (.ifCond .ne 9, 3) := by decide +kernel
theorem dX11_removeIt_8 : decode cX11_removeIt 8 = .ok (.aload_n 0, 1) := by decide +kernel
theorem dX11_removeIt_9 : decode cX11_removeIt 9 = .ok (.iconst 1, 1) := by decide +kernel
theorem dX11_removeIt_10 : decode cX11_removeIt 10 = .ok (.invokevirtual 75, 3) := by decide +kernel
theorem dX11_removeIt_13 : decode cX11_removeIt 13 = .ok (.ireturn, 1) := by decide +kernel
theorem dX11_removeIt_14 : decode cX11_removeIt 14 = .ok (.iload_n 1, 1) := by decide +kernel
theorem dX11_removeIt_15 : decode cX11_removeIt 15 = .ok (.iload_n 2, 1) := by decide +kernel
theorem dX11_removeIt_16 : decode cX11_removeIt 16 = .ok (.invokestatic 108, 3) := by decide +kernel
theorem dX11_removeIt_19 : decode cX11_removeIt 19 = .ok (.istore_n 3, 1) := by decide +kernel
theorem dX11_removeIt_20 : decode cX11_removeIt 20 = .ok (.aload_n 0, 1) := by decide +kernel
theorem dX11_removeIt_21 : decode cX11_removeIt 21 = .ok (.iload_n 3, 1) := by decide +kernel
theorem dX11_removeIt_22 : decode cX11_removeIt 22 = .ok (.invokevirtual 101, 3) := by decide +kernel
theorem dX11_removeIt_25 : decode cX11_removeIt 25 = .ok (.ifCond .ne 11, 3) := by decide +kernel
theorem dX11_removeIt_28 : decode cX11_removeIt 28 = .ok (.aload_n 0, 1) := by decide +kernel
theorem dX11_removeIt_29 : decode cX11_removeIt 29 = .ok (.iconst 2, 1) := by decide +kernel
theorem dX11_removeIt_30 : decode cX11_removeIt 30 = .ok (.iconst 2, 1) := by decide +kernel
theorem dX11_removeIt_31 : decode cX11_removeIt 31 = .ok (.iload_n 3, 1) := by decide +kernel
theorem dX11_removeIt_32 : decode cX11_removeIt 32 = .ok (.invokevirtual 131, 3) := by decide +kernel
theorem dX11_removeIt_35 : decode cX11_removeIt 35 = .ok (.ireturn, 1) := by decide +kernel
theorem dX11_removeIt_36 : decode cX11_removeIt 36 = .ok (.aload_n 0, 1) := by decide +kernel
theorem dX11_removeIt_37 : decode cX11_removeIt 37 = .ok (.getfield 9, 3) := by decide +kernel
theorem dX11_removeIt_40 : decode cX11_removeIt 40 = .ok (.bipush 7, 2) := by decide +kernel
theorem dX11_removeIt_42 : decode cX11_removeIt 42 = .ok (.iload_n 3, 1) := by decide +kernel
theorem dX11_removeIt_43 : decode cX11_removeIt 43 = .ok (.iadd, 1) := by decide +kernel
theorem dX11_removeIt_44 : decode cX11_removeIt 44 = .ok (.iconst 0, 1) := by decide +kernel
theorem dX11_removeIt_45 : decode cX11_removeIt 45 = .ok (.iastore, 1) := by decide +kernel
theorem dX11_removeIt_46 : decode cX11_removeIt 46 = .ok (.aload_n 0, 1) := by decide +kernel
theorem dX11_removeIt_47 : decode cX11_removeIt 47 = .ok (.getfield 9, 3) := by decide +kernel
theorem dX11_removeIt_50 : decode cX11_removeIt 50 = .ok (.iconst 3, 1) := by decide +kernel
theorem dX11_removeIt_51 : decode cX11_removeIt 51 = .ok (.dup2, 1) := by decide +kernel
theorem dX11_removeIt_52 : decode cX11_removeIt 52 = .ok (.iaload, 1) := by decide +kernel
theorem dX11_removeIt_53 : decode cX11_removeIt 53 = .ok (.iconst 1, 1) := by decide +kernel
theorem dX11_removeIt_54 : decode cX11_removeIt 54 = .ok (.iadd, 1) := by decide +kernel
theorem dX11_removeIt_55 : decode cX11_removeIt 55 = .ok (.iastore, 1) := by decide +kernel
theorem dX11_removeIt_56 : decode cX11_removeIt 56 = .ok (.aload_n 0, 1) := by decide +kernel
theorem dX11_removeIt_57 : decode cX11_removeIt 57 = .ok (.invokevirtual 138, 3) := by decide +kernel
theorem dX11_removeIt_60 : decode cX11_removeIt 60 = .ok (.ireturn, 1) := by decide +kernel
theorem dX11_remove_0 : decode cX11_remove 0 = .ok (.aload_n 0, 1) := by decide +kernel
theorem dX11_remove_1 : decode cX11_remove 1 = .ok (.invokevirtual 142, 3) := by decide +kernel
theorem dX11_remove_4 : decode cX11_remove 4 = .ok (.aload_n 0, 1) := by decide +kernel
theorem dX11_remove_5 : decode cX11_remove 5 = .ok (.aload_n 0, 1) := by decide +kernel
theorem dX11_remove_6 : decode cX11_remove 6 = .ok (.iload_n 1, 1) := by decide +kernel
theorem dX11_remove_7 : decode cX11_remove 7 = .ok (.iload_n 2, 1) := by decide +kernel
theorem dX11_remove_8 : decode cX11_remove 8 = .ok (.invokevirtual 151, 3) := by decide +kernel
theorem dX11_remove_11 : decode cX11_remove 11 = .ok (.invokevirtual 148, 3) := by decide +kernel
theorem dX11_remove_14 : decode cX11_remove 14 = .ok (.ireturn, 1) := by decide +kernel
theorem dX11_bleachIt_0 : decode cX11_bleachIt 0 = .ok (.iload_n 1, 1) := by decide +kernel
theorem dX11_bleachIt_1 : decode cX11_bleachIt 1 = .ok (.iload_n 2, 1) := by decide +kernel
theorem dX11_bleachIt_2 : decode cX11_bleachIt 2 = .ok (.invokestatic 104, 3) := by decide +kernel
theorem dX11_bleachIt_5 : decode cX11_bleachIt 5 = .ok (.ifCond .ne 9, 3) := by decide +kernel
theorem dX11_bleachIt_8 : decode cX11_bleachIt 8 = .ok (.aload_n 0, 1) := by decide +kernel
theorem dX11_bleachIt_9 : decode cX11_bleachIt 9 = .ok (.iconst 1, 1) := by decide +kernel
theorem dX11_bleachIt_10 : decode cX11_bleachIt 10 = .ok (.invokevirtual 75, 3) := by decide +kernel
theorem dX11_bleachIt_13 : decode cX11_bleachIt 13 = .ok (.ireturn, 1) := by decide +kernel
theorem dX11_bleachIt_14 : decode cX11_bleachIt 14 = .ok (.iload_n 1, 1) := by decide +kernel
theorem dX11_bleachIt_15 : decode cX11_bleachIt 15 = .ok (.iload_n 2, 1) := by decide +kernel
theorem dX11_bleachIt_16 : decode cX11_bleachIt 16 = .ok (.invokestatic 108, 3) := by decide +kernel
theorem dX11_bleachIt_19 : decode cX11_bleachIt 19 = .ok (.istore_n 3, 1) := by decide +kernel
theorem dX11_bleachIt_20 : decode cX11_bleachIt 20 = .ok (.aload_n 0, 1) := by decide +kernel
theorem dX11_bleachIt_21 : decode cX11_bleachIt 21 = .ok (.iload_n 3, 1) := by decide +kernel
theorem dX11_bleachIt_22 : decode cX11_bleachIt 22 = .ok (.invokevirtual 101, 3) := by decide +kernel
theorem dX11_bleachIt_25 : decode cX11_bleachIt 25 = .ok (.ifCond .ne 11, 3) := by decide +kernel
theorem dX11_bleachIt_28 : decode cX11_bleachIt 28 = .ok (.aload_n 0, 1) := by decide +kernel
theorem dX11_bleachIt_29 : decode cX11_bleachIt 29 = .ok (.iconst 2, 1) := by decide +kernel
theorem dX11_bleachIt_30 : decode cX11_bleachIt 30 = .ok (.iconst 2, 1) := by decide +kernel
theorem dX11_bleachIt_31 : decode cX11_bleachIt 31 = .ok (.iload_n 3, 1) := by decide +kernel
theorem dX11_bleachIt_32 : decode cX11_bleachIt 32 = .ok (.invokevirtual 131, 3) := by decide +kernel
theorem dX11_bleachIt_35 : decode cX11_bleachIt 35 = .ok (.ireturn, 1) := by decide +kernel
theorem dX11_bleachIt_36 : decode cX11_bleachIt 36 = .ok (.aload_n 0, 1) := by decide +kernel
theorem dX11_bleachIt_37 : decode cX11_bleachIt 37 = .ok (.iload_n 3, 1) := by decide +kernel
theorem dX11_bleachIt_38 : decode cX11_bleachIt 38 = .ok (.invokevirtual 101, 3) := by decide +kernel
theorem dX11_bleachIt_41 : decode cX11_bleachIt 41 = .ok (.iconst 1, 1) := by decide +kernel
theorem dX11_bleachIt_42 : decode cX11_bleachIt 42 = .ok (.if_icmp .ne 14, 3) := by decide +kernel
theorem dX11_bleachIt_45 : decode cX11_bleachIt 45 = .ok (.aload_n 0, 1) := by decide +kernel
theorem dX11_bleachIt_46 : decode cX11_bleachIt 46 = .ok (.iconst 2, 1) := by decide +kernel
theorem dX11_bleachIt_47 : decode cX11_bleachIt 47 = .ok (.iconst 3, 1) := by decide +kernel
theorem dX11_bleachIt_48 : decode cX11_bleachIt 48 = .ok (.aload_n 0, 1) := by decide +kernel
theorem dX11_bleachIt_49 : decode cX11_bleachIt 49 = .ok (.invokevirtual 154, 3) := by decide +kernel
theorem dX11_bleachIt_52 : decode cX11_bleachIt 52 = .ok (.invokevirtual 131, 3) := by decide +kernel
theorem dX11_bleachIt_55 : decode cX11_bleachIt 55 = .ok (.ireturn, 1) := by decide +kernel
theorem dX11_bleachIt_56 : decode cX11_bleachIt 56 = .ok (.aload_n 0, 1) := by decide +kernel
theorem dX11_bleachIt_57 : decode cX11_bleachIt 57 = .ok (.iload_n 3, 1) := by decide +kernel
theorem dX11_bleachIt_58 : decode cX11_bleachIt 58 = .ok (.invokevirtual 101, 3) := by decide +kernel
theorem dX11_bleachIt_61 : decode cX11_bleachIt 61 = .ok (.bipush 10, 2) := by decide +kernel
theorem dX11_bleachIt_63 : decode cX11_bleachIt 63 = .ok (.isub, 1) := by decide +kernel
theorem dX11_bleachIt_64 : decode cX11_bleachIt 64 = .ok (.bipush 10, 2) := by decide +kernel
theorem dX11_bleachIt_66 : decode cX11_bleachIt 66 = .ok (.irem, 1) := by decide +kernel
theorem dX11_bleachIt_67 : decode cX11_bleachIt 67 = .ok (.istore 4, 2) := by decide +kernel
theorem dX11_bleachIt_69 : decode cX11_bleachIt 69 = .ok (.aload_n 0, 1) := by decide +kernel
theorem dX11_bleachIt_70 : decode cX11_bleachIt 70 = .ok (.getfield 9, 3) := by decide +kernel
theorem dX11_bleachIt_73 : decode cX11_bleachIt 73 = .ok (.bipush 7, 2) := by decide +kernel
theorem dX11_bleachIt_75 : decode cX11_bleachIt 75 = .ok (.iload_n 3, 1) := by decide +kernel
theorem dX11_bleachIt_76 : decode cX11_bleachIt 76 = .ok (.iadd, 1) := by decide +kernel
theorem dX11_bleachIt_77 : decode cX11_bleachIt 77 = .ok (.iconst 1, 1) := by decide +kernel
theorem dX11_bleachIt_78 : decode cX11_bleachIt 78 = .ok (.iastore, 1) := by decide +kernel
theorem dX11_bleachIt_79 : decode cX11_bleachIt 79 = .ok (.aload_n 0, 1) := by decide +kernel
theorem dX11_bleachIt_80 : decode cX11_bleachIt 80 = .ok (.getfield 9, 3) := by decide +kernel
theorem dX11_bleachIt_83 : decode cX11_bleachIt 83 = .ok (.iconst 5, 1) := by decide +kernel
theorem dX11_bleachIt_84 : decode cX11_bleachIt 84 = .ok (.dup2, 1) := by decide +kernel
theorem dX11_bleachIt_85 : decode cX11_bleachIt 85 = .ok (.iaload, 1) := by decide +kernel
theorem dX11_bleachIt_86 : decode cX11_bleachIt 86 = .ok (.iconst 1, 1) := by decide +kernel
theorem dX11_bleachIt_87 : decode cX11_bleachIt 87 = .ok (.iadd, 1) := by decide +kernel
theorem dX11_bleachIt_88 : decode cX11_bleachIt 88 = .ok (.iastore, 1) := by decide +kernel
theorem dX11_bleachIt_89 : decode cX11_bleachIt 89 = .ok (.iload 4, 2) := by decide +kernel
theorem dX11_bleachIt_91 : decode cX11_bleachIt 91 = .ok (.ireturn, 1) := by decide +kernel
theorem dX11_bleach_0 : decode cX11_bleach 0 = .ok (.aload_n 0, 1) := by decide +kernel
theorem dX11_bleach_1 : decode cX11_bleach 1 = .ok (.invokevirtual 142, 3) := by decide +kernel
theorem dX11_bleach_4 : decode cX11_bleach 4 = .ok (.aload_n 0, 1) := by decide +kernel
theorem dX11_bleach_5 : decode cX11_bleach 5 = .ok (.aload_n 0, 1) := by decide +kernel
theorem dX11_bleach_6 : decode cX11_bleach 6 = .ok (.iload_n 1, 1) := by decide +kernel
theorem dX11_bleach_7 : decode cX11_bleach 7 = .ok (.iload_n 2, 1) := by decide +kernel
theorem dX11_bleach_8 : decode cX11_bleach 8 = .ok (.invokevirtual 157, 3) := by decide +kernel
theorem dX11_bleach_11 : decode cX11_bleach 11 = .ok (.invokevirtual 148, 3) := by decide +kernel
theorem dX11_bleach_14 : decode cX11_bleach 14 = .ok (.ireturn, 1) := by decide +kernel
theorem dX11_recolourIt_0 : decode cX11_recolourIt 0 = .ok (.iload_n 1, 1) := by decide +kernel
theorem dX11_recolourIt_1 : decode cX11_recolourIt 1 = .ok (.iload_n 2, 1) := by decide +kernel
theorem dX11_recolourIt_2 : decode cX11_recolourIt 2 = .ok (.invokestatic 104, 3) := by decide +kernel
theorem dX11_recolourIt_5 : decode cX11_recolourIt 5 = .ok (.ifCond .ne 9, 3) := by decide +kernel
theorem dX11_recolourIt_8 : decode cX11_recolourIt 8 = .ok (.aload_n 0, 1) := by decide +kernel
theorem dX11_recolourIt_9 : decode cX11_recolourIt 9 = .ok (.iconst 1, 1) := by decide +kernel
theorem dX11_recolourIt_10 : decode cX11_recolourIt 10 = .ok (.invokevirtual 75, 3) := by decide +kernel
theorem dX11_recolourIt_13 : decode cX11_recolourIt 13 = .ok (.ireturn, 1) := by decide +kernel
theorem dX11_recolourIt_14 : decode cX11_recolourIt 14 = .ok (.iload_n 3, 1) := by decide +kernel
theorem dX11_recolourIt_15 : decode cX11_recolourIt 15 = .ok (.invokestatic 127, 3) := by decide +kernel
theorem dX11_recolourIt_18 : decode cX11_recolourIt 18 = .ok (.ifCond .ne 9, 3) := by decide +kernel
theorem dX11_recolourIt_21 : decode cX11_recolourIt 21 = .ok (.aload_n 0, 1) := by decide +kernel
theorem dX11_recolourIt_22 : decode cX11_recolourIt 22 = .ok (.iconst 2, 1) := by decide +kernel
theorem dX11_recolourIt_23 : decode cX11_recolourIt 23 = .ok (.invokevirtual 75, 3) := by decide +kernel
theorem dX11_recolourIt_26 : decode cX11_recolourIt 26 = .ok (.ireturn, 1) := by decide +kernel
theorem dX11_recolourIt_27 : decode cX11_recolourIt 27 = .ok (.iload_n 1, 1) := by decide +kernel
theorem dX11_recolourIt_28 : decode cX11_recolourIt 28 = .ok (.iload_n 2, 1) := by decide +kernel
theorem dX11_recolourIt_29 : decode cX11_recolourIt 29 = .ok (.invokestatic 108, 3) := by decide +kernel
theorem dX11_recolourIt_32 : decode cX11_recolourIt 32 = .ok (.istore 4, 2) := by decide +kernel
theorem dX11_recolourIt_34 : decode cX11_recolourIt 34 = .ok (.aload_n 0, 1) := by decide +kernel
theorem dX11_recolourIt_35 : decode cX11_recolourIt 35 = .ok (.iload 4, 2) := by decide +kernel
theorem dX11_recolourIt_37 : decode cX11_recolourIt 37 = .ok (.invokevirtual 101, 3) := by decide +kernel
theorem dX11_recolourIt_40 : decode cX11_recolourIt 40 = .ok (.ifCond .ne 12, 3) := by decide +kernel
theorem dX11_recolourIt_43 : decode cX11_recolourIt 43 = .ok (.aload_n 0, 1) := by decide +kernel
theorem dX11_recolourIt_44 : decode cX11_recolourIt 44 = .ok (.iconst 3, 1) := by decide +kernel
theorem dX11_recolourIt_45 : decode cX11_recolourIt 45 = .ok (.iconst 2, 1) := by decide +kernel
theorem dX11_recolourIt_46 : decode cX11_recolourIt 46 = .ok (.iload 4, 2) := by decide +kernel
theorem dX11_recolourIt_48 : decode cX11_recolourIt 48 = .ok (.invokevirtual 131, 3) := by decide +kernel
theorem dX11_recolourIt_51 : decode cX11_recolourIt 51 = .ok (.ireturn, 1) := by decide +kernel
theorem dX11_recolourIt_52 : decode cX11_recolourIt 52 = .ok (.aload_n 0, 1) := by decide +kernel
theorem dX11_recolourIt_53 : decode cX11_recolourIt 53 = .ok (.iload 4, 2) := by decide +kernel
theorem dX11_recolourIt_55 : decode cX11_recolourIt 55 = .ok (.invokevirtual 101, 3) := by decide +kernel
theorem dX11_recolourIt_58 : decode cX11_recolourIt 58 = .ok (.iconst 1, 1) := by decide +kernel
theorem dX11_recolourIt_59 : decode cX11_recolourIt 59 = .ok (.if_icmp .ne 14, 3) := by decide +kernel
theorem dX11_recolourIt_62 : decode cX11_recolourIt 62 = .ok (.aload_n 0, 1) := by decide +kernel
theorem dX11_recolourIt_63 : decode cX11_recolourIt 63 = .ok (.iconst 3, 1) := by decide +kernel
theorem dX11_recolourIt_64 : decode cX11_recolourIt 64 = .ok (.iconst 3, 1) := by decide +kernel
theorem dX11_recolourIt_65 : decode cX11_recolourIt 65 = .ok (.aload_n 0, 1) := by decide +kernel
theorem dX11_recolourIt_66 : decode cX11_recolourIt 66 = .ok (.invokevirtual 154, 3) := by decide +kernel
theorem dX11_recolourIt_69 : decode cX11_recolourIt 69 = .ok (.invokevirtual 131, 3) := by decide +kernel
theorem dX11_recolourIt_72 : decode cX11_recolourIt 72 = .ok (.ireturn, 1) := by decide +kernel
theorem dX11_recolourIt_73 : decode cX11_recolourIt 73 = .ok (.aload_n 0, 1) := by decide +kernel
theorem dX11_recolourIt_74 : decode cX11_recolourIt 74 = .ok (.iload 4, 2) := by decide +kernel
theorem dX11_recolourIt_76 : decode cX11_recolourIt 76 = .ok (.invokevirtual 101, 3) := by decide +kernel
theorem dX11_recolourIt_79 : decode cX11_recolourIt 79 = .ok (.invokestatic 112, 3) := by decide +kernel
theorem dX11_recolourIt_82 : decode cX11_recolourIt 82 = .ok (.istore 5, 2) := by decide +kernel
theorem dX11_recolourIt_84 : decode cX11_recolourIt 84 = .ok (.aload_n 0, 1) := by decide +kernel
theorem dX11_recolourIt_85 : decode cX11_recolourIt 85 = .ok (.getfield 9, 3) := by decide +kernel
theorem dX11_recolourIt_88 : decode cX11_recolourIt 88 = .ok (.bipush 7, 2) := by decide +kernel
theorem dX11_recolourIt_90 : decode cX11_recolourIt 90 = .ok (.iload 4, 2) := by decide +kernel
theorem dX11_recolourIt_92 : decode cX11_recolourIt 92 = .ok (.iadd, 1) := by decide +kernel
theorem dX11_recolourIt_93 : decode cX11_recolourIt 93 = .ok (.iload_n 3, 1) := by decide +kernel
theorem dX11_recolourIt_94 : decode cX11_recolourIt 94 = .ok (.aload_n 0, 1) := by decide +kernel
theorem dX11_recolourIt_95 : decode cX11_recolourIt 95 = .ok (.iload 4, 2) := by decide +kernel
theorem dX11_recolourIt_97 : decode cX11_recolourIt 97 = .ok (.invokevirtual 101, 3) := by decide +kernel
theorem dX11_recolourIt_100 : decode cX11_recolourIt 100 = .ok (.bipush 10, 2) := by decide +kernel
theorem dX11_recolourIt_102 : decode cX11_recolourIt 102 = .ok (.isub, 1) := by decide +kernel
theorem dX11_recolourIt_103 : decode cX11_recolourIt 103 = .ok (.bipush 10, 2) := by decide +kernel
theorem dX11_recolourIt_105 : decode cX11_recolourIt 105 = .ok (.irem, 1) := by decide +kernel
theorem dX11_recolourIt_106 : decode cX11_recolourIt 106 = .ok (.invokestatic 135, 3) := by decide +kernel
theorem dX11_recolourIt_109 : decode cX11_recolourIt 109 = .ok (.iastore, 1) := by decide +kernel
theorem dX11_recolourIt_110 : decode cX11_recolourIt 110 = .ok (.iload 5, 2) := by decide +kernel
theorem dX11_recolourIt_112 : decode cX11_recolourIt 112 = .ok (.ireturn, 1) := by decide +kernel
theorem dX11_recolour_0 : decode cX11_recolour 0 = .ok (.aload_n 0, 1) := by decide +kernel
theorem dX11_recolour_1 : decode cX11_recolour 1 = .ok (.invokevirtual 142, 3) := by decide +kernel
theorem dX11_recolour_4 : decode cX11_recolour 4 = .ok (.aload_n 0, 1) := by decide +kernel
theorem dX11_recolour_5 : decode cX11_recolour 5 = .ok (.aload_n 0, 1) := by decide +kernel
theorem dX11_recolour_6 : decode cX11_recolour 6 = .ok (.iload_n 1, 1) := by decide +kernel
theorem dX11_recolour_7 : decode cX11_recolour 7 = .ok (.iload_n 2, 1) := by decide +kernel
theorem dX11_recolour_8 : decode cX11_recolour 8 = .ok (.iload_n 3, 1) := by decide +kernel
theorem dX11_recolour_9 : decode cX11_recolour 9 = .ok (.invokevirtual 160, 3) := by decide +kernel
theorem dX11_recolour_12 : decode cX11_recolour 12 = .ok (.invokevirtual 148, 3) := by decide +kernel
theorem dX11_recolour_15 : decode cX11_recolour 15 = .ok (.i2c, 1) := by decide +kernel
theorem dX11_recolour_16 : decode cX11_recolour 16 = .ok (.ireturn, 1) := by decide +kernel
theorem dX11_patternOf_0 : decode cX11_patternOf 0 = .ok (.iload_n 0, 1) := by decide +kernel
theorem dX11_patternOf_1 : decode cX11_patternOf 1 = .ok (.bipush 113, 2) := by decide +kernel
theorem dX11_patternOf_3 : decode cX11_patternOf 3 = .ok (.if_icmp .ne 7, 3) := by decide +kernel
theorem dX11_patternOf_6 : decode cX11_patternOf 6 = .ok (.iconst 0, 1) := by decide +kernel
theorem dX11_patternOf_7 : decode cX11_patternOf 7 = .ok (.goto 34, 3) := by decide +kernel
theorem dX11_patternOf_10 : decode cX11_patternOf 10 = .ok (.iload_n 0, 1) := by decide +kernel
theorem dX11_patternOf_11 : decode cX11_patternOf 11 = .ok (.bipush 108, 2) := by decide +kernel
theorem dX11_patternOf_13 : decode cX11_patternOf 13 = .ok (.if_icmp .ne 7, 3) := by decide +kernel
theorem dX11_patternOf_16 : decode cX11_patternOf 16 = .ok (.iconst 1, 1) := by decide +kernel
theorem dX11_patternOf_17 : decode cX11_patternOf 17 = .ok (.goto 24, 3) := by decide +kernel
theorem dX11_patternOf_20 : decode cX11_patternOf 20 = .ok (.iload_n 0, 1) := by decide +kernel
theorem dX11_patternOf_21 : decode cX11_patternOf 21 = .ok (.bipush 120, 2) := by decide +kernel
theorem dX11_patternOf_23 : decode cX11_patternOf 23 = .ok (.if_icmp .ne 7, 3) := by decide +kernel
theorem dX11_patternOf_26 : decode cX11_patternOf 26 = .ok (.iconst 2, 1) := by decide +kernel
theorem dX11_patternOf_27 : decode cX11_patternOf 27 = .ok (.goto 14, 3) := by decide +kernel
theorem dX11_patternOf_30 : decode cX11_patternOf 30 = .ok (.iload_n 0, 1) := by decide +kernel
theorem dX11_patternOf_31 : decode cX11_patternOf 31 = .ok (.bipush 103, 2) := by decide +kernel
theorem dX11_patternOf_33 : decode cX11_patternOf 33 = .ok (.if_icmp .ne 7, 3) := by decide +kernel
theorem dX11_patternOf_36 : decode cX11_patternOf 36 = .ok (.iconst 3, 1) := by decide +kernel
theorem dX11_patternOf_37 : decode cX11_patternOf 37 = .ok (.goto 4, 3) := by decide +kernel
theorem dX11_patternOf_40 : decode cX11_patternOf 40 = .ok (.iconst (-1), 1) := by decide +kernel
theorem dX11_patternOf_41 : decode cX11_patternOf 41 = .ok (.ireturn, 1) := by decide +kernel
theorem dX11_plantIt_0 : decode cX11_plantIt 0 = .ok (.iload_n 1, 1) := by decide +kernel
theorem dX11_plantIt_1 : decode cX11_plantIt 1 = .ok (.iload_n 2, 1) := by decide +kernel
theorem dX11_plantIt_2 : decode cX11_plantIt 2 = .ok (.invokestatic 104, 3) := by decide +kernel
theorem dX11_plantIt_5 : decode cX11_plantIt 5 = .ok (.ifCond .ne 9, 3) := by decide +kernel
theorem dX11_plantIt_8 : decode cX11_plantIt 8 = .ok (.aload_n 0, 1) := by decide +kernel
theorem dX11_plantIt_9 : decode cX11_plantIt 9 = .ok (.iconst 1, 1) := by decide +kernel
theorem dX11_plantIt_10 : decode cX11_plantIt 10 = .ok (.invokevirtual 75, 3) := by decide +kernel
theorem dX11_plantIt_13 : decode cX11_plantIt 13 = .ok (.ireturn, 1) := by decide +kernel
theorem dX11_plantIt_14 : decode cX11_plantIt 14 = .ok (.iload_n 3, 1) := by decide +kernel
theorem dX11_plantIt_15 : decode cX11_plantIt 15 = .ok (.invokestatic 163, 3) := by decide +kernel
theorem dX11_plantIt_18 : decode cX11_plantIt 18 = .ok (.istore 5, 2) := by decide +kernel
theorem dX11_plantIt_20 : decode cX11_plantIt 20 = .ok (.iload 5, 2) := by decide +kernel
theorem dX11_plantIt_22 : decode cX11_plantIt 22 = .ok (.iconst (-1), 1) := by decide +kernel
theorem dX11_plantIt_23 : decode cX11_plantIt 23 = .ok (.if_icmp .eq 11, 3) := by decide +kernel
theorem dX11_plantIt_26 : decode cX11_plantIt 26 = .ok (.iload 4, 2) := by decide +kernel
theorem dX11_plantIt_28 : decode cX11_plantIt 28 = .ok (.invokestatic 127, 3) := by decide +kernel
theorem dX11_plantIt_31 : decode cX11_plantIt 31 = .ok (.ifCond .ne 9, 3) := by decide +kernel
theorem dX11_plantIt_34 : decode cX11_plantIt 34 = .ok (.aload_n 0, 1) := by decide +kernel
theorem dX11_plantIt_35 : decode cX11_plantIt 35 = .ok (.iconst 2, 1) := by decide +kernel
theorem dX11_plantIt_36 : decode cX11_plantIt 36 = .ok (.invokevirtual 75, 3) := by decide +kernel
theorem dX11_plantIt_39 : decode cX11_plantIt 39 = .ok (.ireturn, 1) := by decide +kernel
theorem dX11_plantIt_40 : decode cX11_plantIt 40 = .ok (.aload_n 0, 1) := by decide +kernel
theorem dX11_plantIt_41 : decode cX11_plantIt 41 = .ok (.getfield 38, 3) := by decide +kernel
theorem dX11_plantIt_44 : decode cX11_plantIt 44 = .ok (.iload 5, 2) := by decide +kernel
theorem dX11_plantIt_46 : decode cX11_plantIt 46 = .ok (.iconst 1, 1) := by decide +kernel
theorem dX11_plantIt_47 : decode cX11_plantIt 47 = .ok (.iadd, 1) := by decide +kernel
theorem dX11_plantIt_48 : decode cX11_plantIt 48 = .ok (.iaload, 1) := by decide +kernel
theorem dX11_plantIt_49 : decode cX11_plantIt 49 = .ok (.aload_n 0, 1) := by decide +kernel
theorem dX11_plantIt_50 : decode cX11_plantIt 50 = .ok (.getfield 38, 3) := by decide +kernel
theorem dX11_plantIt_53 : decode cX11_plantIt 53 = .ok (.iload 5, 2) := by decide +kernel
theorem dX11_plantIt_55 : decode cX11_plantIt 55 = .ok (.iaload, 1) := by decide +kernel
theorem dX11_plantIt_56 : decode cX11_plantIt 56 = .ok (.isub, 1) := by decide +kernel
theorem dX11_plantIt_57 : decode cX11_plantIt 57 = .ok (.istore 6, 2) := by decide +kernel
theorem dX11_plantIt_59 : decode cX11_plantIt 59 = .ok (.iconst (-1), 1) := by decide +kernel
theorem dX11_plantIt_60 : decode cX11_plantIt 60 = .ok (.istore 7, 2) := by decide +kernel
theorem dX11_plantIt_62 : decode cX11_plantIt 62 = .ok (.iconst 0, 1) := by decide +kernel
theorem dX11_plantIt_63 : decode cX11_plantIt 63 = .ok (.istore 8, 2) := by decide +kernel
theorem dX11_plantIt_65 : decode cX11_plantIt 65 = .ok (.iconst 0, 1) := by decide +kernel
theorem dX11_plantIt_66 : decode cX11_plantIt 66 = .ok (.istore 9, 2) := by decide +kernel
theorem dX11_plantIt_68 : decode cX11_plantIt 68 = .ok (.iload 9, 2) := by decide +kernel
theorem dX11_plantIt_70 : decode cX11_plantIt 70 = .ok (.iload 6, 2) := by decide +kernel
theorem dX11_plantIt_72 : decode cX11_plantIt 72 = .ok (.if_icmp .ge 126, 3) := by decide +kernel
theorem dX11_plantIt_75 : decode cX11_plantIt 75 = .ok (.aload_n 0, 1) := by decide +kernel
theorem dX11_plantIt_76 : decode cX11_plantIt 76 = .ok (.getfield 35, 3) := by decide +kernel
theorem dX11_plantIt_79 : decode cX11_plantIt 79 = .ok (.aload_n 0, 1) := by decide +kernel
theorem dX11_plantIt_80 : decode cX11_plantIt 80 = .ok (.getfield 38, 3) := by decide +kernel
theorem dX11_plantIt_83 : decode cX11_plantIt 83 = .ok (.iload 5, 2) := by decide +kernel
theorem dX11_plantIt_85 : decode cX11_plantIt 85 = .ok (.iaload, 1) := by decide +kernel
theorem dX11_plantIt_86 : decode cX11_plantIt 86 = .ok (.iload 9, 2) := by decide +kernel
theorem dX11_plantIt_88 : decode cX11_plantIt 88 = .ok (.iadd, 1) := by decide +kernel
theorem dX11_plantIt_89 : decode cX11_plantIt 89 = .ok (.iaload, 1) := by decide +kernel
theorem dX11_plantIt_90 : decode cX11_plantIt 90 = .ok (.istore 10, 2) := by decide +kernel
theorem dX11_plantIt_92 : decode cX11_plantIt 92 = .ok (.iload_n 1, 1) := by decide +kernel
theorem dX11_plantIt_93 : decode cX11_plantIt 93 = .ok (.iload 10, 2) := by decide +kernel
theorem dX11_plantIt_95 : decode cX11_plantIt 95 = .ok (.bipush 10, 2) := by decide +kernel
theorem dX11_plantIt_97 : decode cX11_plantIt 97 = .ok (.idiv, 1) := by decide +kernel
theorem dX11_plantIt_98 : decode cX11_plantIt 98 = .ok (.iadd, 1) := by decide +kernel
theorem dX11_plantIt_99 : decode cX11_plantIt 99 = .ok (.iload_n 2, 1) := by decide +kernel
theorem dX11_plantIt_100 : decode cX11_plantIt 100 = .ok (.iload 10, 2) := by decide +kernel
theorem dX11_plantIt_102 : decode cX11_plantIt 102 = .ok (.bipush 10, 2) := by decide +kernel
theorem dX11_plantIt_104 : decode cX11_plantIt 104 = .ok (.irem, 1) := by decide +kernel
theorem dX11_plantIt_105 : decode cX11_plantIt 105 = .ok (.iadd, 1) := by decide +kernel
theorem dX11_plantIt_106 : decode cX11_plantIt 106 = .ok (.invokestatic 104, 3) := by decide +kernel
theorem dX11_plantIt_109 : decode cX11_plantIt 109 = .ok (.istore 11, 2) := by decide +kernel
theorem dX11_plantIt_111 : decode cX11_plantIt 111 = .ok (.iload 8, 2) := by decide +kernel
theorem dX11_plantIt_113 : decode cX11_plantIt 113 = .ok (.ifCond .ne 8, 3) := by decide +kernel
theorem dX11_plantIt_116 : decode cX11_plantIt 116 = .ok (.iload 11, 2) := by decide +kernel
theorem dX11_plantIt_118 : decode cX11_plantIt 118 = .ok (.ifCond .ne 7, 3) := by decide +kernel
theorem dX11_plantIt_121 : decode cX11_plantIt 121 = .ok (.iconst 1, 1) := by decide +kernel
theorem dX11_plantIt_122 : decode cX11_plantIt 122 = .ok (.goto 4, 3) := by decide +kernel
theorem dX11_plantIt_125 : decode cX11_plantIt 125 = .ok (.iconst 0, 1) := by decide +kernel
theorem dX11_plantIt_126 : decode cX11_plantIt 126 = .ok (.istore 8, 2) := by decide +kernel
theorem dX11_plantIt_128 : decode cX11_plantIt 128 = .ok (.iload 11, 2) := by decide +kernel
theorem dX11_plantIt_130 : decode cX11_plantIt 130 = .ok (.ifCond .eq 23, 3) := by decide +kernel
theorem dX11_plantIt_133 : decode cX11_plantIt 133 = .ok (.iload_n 1, 1) := by decide +kernel
theorem dX11_plantIt_134 : decode cX11_plantIt 134 = .ok (.iload 10, 2) := by decide +kernel
theorem dX11_plantIt_136 : decode cX11_plantIt 136 = .ok (.bipush 10, 2) := by decide +kernel
theorem dX11_plantIt_138 : decode cX11_plantIt 138 = .ok (.idiv, 1) := by decide +kernel
theorem dX11_plantIt_139 : decode cX11_plantIt 139 = .ok (.iadd, 1) := by decide +kernel
theorem dX11_plantIt_140 : decode cX11_plantIt 140 = .ok (.iload_n 2, 1) := by decide +kernel
theorem dX11_plantIt_141 : decode cX11_plantIt 141 = .ok (.iload 10, 2) := by decide +kernel
theorem dX11_plantIt_143 : decode cX11_plantIt 143 = .ok (.bipush 10, 2) := by decide +kernel
theorem dX11_plantIt_145 : decode cX11_plantIt 145 = .ok (.irem, 1) := by decide +kernel
theorem dX11_plantIt_146 : decode cX11_plantIt 146 = .ok (.iadd, 1) := by decide +kernel
theorem dX11_plantIt_147 : decode cX11_plantIt 147 = .ok (.invokestatic 108, 3) := by decide +kernel
theorem dX11_plantIt_150 : decode cX11_plantIt 150 = .ok (.goto 4, 3) := by decide +kernel
theorem dX11_plantIt_153 : decode cX11_plantIt 153 = .ok (.iconst 0, 1) := by decide +kernel
theorem dX11_plantIt_154 : decode cX11_plantIt 154 = .ok (.istore 12, 2) := by decide +kernel
theorem dX11_plantIt_156 : decode cX11_plantIt 156 = .ok (.iload 11, 2) := by decide +kernel
theorem dX11_plantIt_158 : decode cX11_plantIt 158 = .ok (.ifCond .eq 30, 3) := by decide +kernel
theorem dX11_plantIt_161 : decode cX11_plantIt 161 = .ok (.aload_n 0, 1) := by decide +kernel
theorem dX11_plantIt_162 : decode cX11_plantIt 162 = .ok (.iload 12, 2) := by decide +kernel
theorem dX11_plantIt_164 : decode cX11_plantIt 164 = .ok (.invokevirtual 101, 3) := by decide +kernel
theorem dX11_plantIt_167 : decode cX11_plantIt 167 = .ok (.ifCond .eq 21, 3) := by decide +kernel
theorem dX11_plantIt_170 : decode cX11_plantIt 170 = .ok (.iload 7, 2) := by decide +kernel
theorem dX11_plantIt_172 : decode cX11_plantIt 172 = .ok (.iconst (-1), 1) := by decide +kernel
theorem dX11_plantIt_173 : decode cX11_plantIt 173 = .ok (.if_icmp .eq 10, 3) := by decide +kernel
theorem dX11_plantIt_176 : decode cX11_plantIt 176 = .ok (.iload 12, 2) := by decide +kernel
theorem dX11_plantIt_178 : decode cX11_plantIt 178 = .ok (.iload 7, 2) := by decide +kernel
theorem dX11_plantIt_180 : decode cX11_plantIt 180 = .ok (.if_icmp .ge 8, 3) := by decide +kernel
theorem dX11_plantIt_183 : decode cX11_plantIt 183 = .ok (.iload 12, 2) := by decide +kernel
theorem dX11_plantIt_185 : decode cX11_plantIt 185 = .ok (.goto 5, 3) := by decide +kernel
theorem dX11_plantIt_188 : decode cX11_plantIt 188 = .ok (.iload 7, 2) := by decide +kernel
theorem dX11_plantIt_190 : decode cX11_plantIt 190 = .ok (.istore 7, 2) := by decide +kernel
theorem dX11_plantIt_192 : decode cX11_plantIt 192 = .ok (.iinc 9 1, 3) := by decide +kernel
theorem dX11_plantIt_195 : decode cX11_plantIt 195 = .ok (.goto (-127), 3) := by decide +kernel
theorem dX11_plantIt_198 : decode cX11_plantIt 198 = .ok (.iload 8, 2) := by decide +kernel
theorem dX11_plantIt_200 : decode cX11_plantIt 200 = .ok (.ifCond .eq 12, 3) := by decide +kernel
theorem dX11_plantIt_203 : decode cX11_plantIt 203 = .ok (.aload_n 0, 1) := by decide +kernel
theorem dX11_plantIt_204 : decode cX11_plantIt 204 = .ok (.iconst 3, 1) := by decide +kernel
theorem dX11_plantIt_205 : decode cX11_plantIt 205 = .ok (.iconst 4, 1) := by decide +kernel
theorem dX11_plantIt_206 : decode cX11_plantIt 206 = .ok (.iload 6, 2) := by decide +kernel
theorem dX11_plantIt_208 : decode cX11_plantIt 208 = .ok (.invokevirtual 131, 3) := by decide +kernel
theorem dX11_plantIt_211 : decode cX11_plantIt 211 = .ok (.ireturn, 1) := by decide +kernel
theorem dX11_plantIt_212 : decode cX11_plantIt 212 = .ok (.iload 7, 2) := by decide +kernel
theorem dX11_plantIt_214 : decode cX11_plantIt 214 = .ok (.iconst (-1), 1) := by decide +kernel
theorem dX11_plantIt_215 : decode cX11_plantIt 215 = .ok (.if_icmp .eq 12, 3) := by decide +kernel
theorem dX11_plantIt_218 : decode cX11_plantIt 218 = .ok (.aload_n 0, 1) := by decide +kernel
theorem dX11_plantIt_219 : decode cX11_plantIt 219 = .ok (.iconst 3, 1) := by decide +kernel
theorem dX11_plantIt_220 : decode cX11_plantIt 220 = .ok (.iconst 1, 1) := by decide +kernel
theorem dX11_plantIt_221 : decode cX11_plantIt 221 = .ok (.iload 7, 2) := by decide +kernel
theorem dX11_plantIt_223 : decode cX11_plantIt 223 = .ok (.invokevirtual 131, 3) := by decide +kernel
theorem dX11_plantIt_226 : decode cX11_plantIt 226 = .ok (.ireturn, 1) := by decide +kernel
theorem dX11_plantIt_227 : decode cX11_plantIt 227 = .ok (.iconst 0, 1) := by decide +kernel
theorem dX11_plantIt_228 : decode cX11_plantIt 228 = .ok (.istore 9, 2) := by decide +kernel
theorem dX11_plantIt_230 : decode cX11_plantIt 230 = .ok (.iload 9, 2) := by decide +kernel
theorem dX11_plantIt_232 : decode cX11_plantIt 232 = .ok (.iload 6, 2) := by decide +kernel
theorem dX11_plantIt_234 : decode cX11_plantIt 234 = .ok (.if_icmp .ge 57, 3) := by decide +kernel
theorem dX11_plantIt_237 : decode cX11_plantIt 237 = .ok (.aload_n 0, 1) := by decide +kernel
theorem dX11_plantIt_238 : decode cX11_plantIt 238 = .ok (.getfield 35, 3) := by decide +kernel
theorem dX11_plantIt_241 : decode cX11_plantIt 241 = .ok (.aload_n 0, 1) := by decide +kernel
theorem dX11_plantIt_242 : decode cX11_plantIt 242 = .ok (.getfield 38, 3) := by decide +kernel
theorem dX11_plantIt_245 : decode cX11_plantIt 245 = .ok (.iload 5, 2) := by decide +kernel
theorem dX11_plantIt_247 : decode cX11_plantIt 247 = .ok (.iaload, 1) := by decide +kernel
theorem dX11_plantIt_248 : decode cX11_plantIt 248 = .ok (.iload 9, 2) := by decide +kernel
theorem dX11_plantIt_250 : decode cX11_plantIt 250 = .ok (.iadd, 1) := by decide +kernel
theorem dX11_plantIt_251 : decode cX11_plantIt 251 = .ok (.iaload, 1) := by decide +kernel
theorem dX11_plantIt_252 : decode cX11_plantIt 252 = .ok (.istore 10, 2) := by decide +kernel
theorem dX11_plantIt_254 : decode cX11_plantIt 254 = .ok (.aload_n 0, 1) := by decide +kernel
theorem dX11_plantIt_255 : decode cX11_plantIt 255 = .ok (.getfield 9, 3) := by decide +kernel
theorem dX11_plantIt_258 : decode cX11_plantIt 258 = .ok (.bipush 7, 2) := by decide +kernel
theorem dX11_plantIt_260 : decode cX11_plantIt 260 = .ok (.iload_n 1, 1) := by decide +kernel
theorem dX11_plantIt_261 : decode cX11_plantIt 261 = .ok (.iload 10, 2) := by decide +kernel
theorem dX11_plantIt_263 : decode cX11_plantIt 263 = .ok (.bipush 10, 2) := by decide +kernel
theorem dX11_plantIt_265 : decode cX11_plantIt 265 = .ok (.idiv, 1) := by decide +kernel
theorem dX11_plantIt_266 : decode cX11_plantIt 266 = .ok (.iadd, 1) := by decide +kernel
theorem dX11_plantIt_267 : decode cX11_plantIt 267 = .ok (.iload_n 2, 1) := by decide +kernel
theorem dX11_plantIt_268 : decode cX11_plantIt 268 = .ok (.iload 10, 2) := by decide +kernel
theorem dX11_plantIt_270 : decode cX11_plantIt 270 = .ok (.bipush 10, 2) := by decide +kernel
theorem dX11_plantIt_272 : decode cX11_plantIt 272 = .ok (.irem, 1) := by decide +kernel
theorem dX11_plantIt_273 : decode cX11_plantIt 273 = .ok (.iadd, 1) := by decide +kernel
theorem dX11_plantIt_274 : decode cX11_plantIt 274 = .ok (.invokestatic 108, 3) := by decide +kernel
theorem dX11_plantIt_277 : decode cX11_plantIt 277 = .ok (.iadd, 1) := by decide +kernel
theorem dX11_plantIt_278 : decode cX11_plantIt 278 = .ok (.iload 4, 2) := by decide +kernel
theorem dX11_plantIt_280 : decode cX11_plantIt 280 = .ok (.iconst 0, 1) := by decide +kernel
theorem dX11_plantIt_281 : decode cX11_plantIt 281 = .ok (.invokestatic 135, 3) := by decide +kernel
theorem dX11_plantIt_284 : decode cX11_plantIt 284 = .ok (.iastore, 1) := by decide +kernel
theorem dX11_plantIt_285 : decode cX11_plantIt 285 = .ok (.iinc 9 1, 3) := by decide +kernel
theorem dX11_plantIt_288 : decode cX11_plantIt 288 = .ok (.goto (-58), 3) := by decide +kernel
theorem dX11_plantIt_291 : decode cX11_plantIt 291 = .ok (.aload_n 0, 1) := by decide +kernel
theorem dX11_plantIt_292 : decode cX11_plantIt 292 = .ok (.getfield 9, 3) := by decide +kernel
theorem dX11_plantIt_295 : decode cX11_plantIt 295 = .ok (.iconst 2, 1) := by decide +kernel
theorem dX11_plantIt_296 : decode cX11_plantIt 296 = .ok (.dup2, 1) := by decide +kernel
theorem dX11_plantIt_297 : decode cX11_plantIt 297 = .ok (.iaload, 1) := by decide +kernel
theorem dX11_plantIt_298 : decode cX11_plantIt 298 = .ok (.iload 6, 2) := by decide +kernel
theorem dX11_plantIt_300 : decode cX11_plantIt 300 = .ok (.iadd, 1) := by decide +kernel
theorem dX11_plantIt_301 : decode cX11_plantIt 301 = .ok (.iastore, 1) := by decide +kernel
theorem dX11_plantIt_302 : decode cX11_plantIt 302 = .ok (.iload 6, 2) := by decide +kernel
theorem dX11_plantIt_304 : decode cX11_plantIt 304 = .ok (.ireturn, 1) := by decide +kernel
theorem dX11_plant_0 : decode cX11_plant 0 = .ok (.aload_n 0, 1) := by decide +kernel
theorem dX11_plant_1 : decode cX11_plant 1 = .ok (.invokevirtual 142, 3) := by decide +kernel
theorem dX11_plant_4 : decode cX11_plant 4 = .ok (.aload_n 0, 1) := by decide +kernel
theorem dX11_plant_5 : decode cX11_plant 5 = .ok (.aload_n 0, 1) := by decide +kernel
theorem dX11_plant_6 : decode cX11_plant 6 = .ok (.iload_n 1, 1) := by decide +kernel
theorem dX11_plant_7 : decode cX11_plant 7 = .ok (.iload_n 2, 1) := by decide +kernel
theorem dX11_plant_8 : decode cX11_plant 8 = .ok (.iload_n 3, 1) := by decide +kernel
theorem dX11_plant_9 : decode cX11_plant 9 = .ok (.iload 4, 2) := by decide +kernel
theorem dX11_plant_11 : decode cX11_plant 11 = .ok (.invokevirtual 166, 3) := by decide +kernel
theorem dX11_plant_14 : decode cX11_plant 14 = .ok (.invokevirtual 148, 3) := by decide +kernel
theorem dX11_plant_17 : decode cX11_plant 17 = .ok (.ireturn, 1) := by decide +kernel
theorem dX11_ruleOf_0 : decode cX11_ruleOf 0 = .ok (.iload_n 0, 1) := by decide +kernel
theorem dX11_ruleOf_1 : decode cX11_ruleOf 1 = .ok (.bipush 99, 2) := by decide +kernel
theorem dX11_ruleOf_3 : decode cX11_ruleOf 3 = .ok (.if_icmp .ne 7, 3) := by decide +kernel
theorem dX11_ruleOf_6 : decode cX11_ruleOf 6 = .ok (.iconst 0, 1) := by decide +kernel
theorem dX11_ruleOf_7 : decode cX11_ruleOf 7 = .ok (.goto 24, 3) := by decide +kernel
theorem dX11_ruleOf_10 : decode cX11_ruleOf 10 = .ok (.iload_n 0, 1) := by decide +kernel
theorem dX11_ruleOf_11 : decode cX11_ruleOf 11 = .ok (.bipush 98, 2) := by decide +kernel
theorem dX11_ruleOf_13 : decode cX11_ruleOf 13 = .ok (.if_icmp .ne 7, 3) := by decide +kernel
theorem dX11_ruleOf_16 : decode cX11_ruleOf 16 = .ok (.iconst 1, 1) := by decide +kernel
theorem dX11_ruleOf_17 : decode cX11_ruleOf 17 = .ok (.goto 14, 3) := by decide +kernel
theorem dX11_ruleOf_20 : decode cX11_ruleOf 20 = .ok (.iload_n 0, 1) := by decide +kernel
theorem dX11_ruleOf_21 : decode cX11_ruleOf 21 = .ok (.bipush 115, 2) := by decide +kernel
theorem dX11_ruleOf_23 : decode cX11_ruleOf 23 = .ok (.if_icmp .ne 7, 3) := by decide +kernel
theorem dX11_ruleOf_26 : decode cX11_ruleOf 26 = .ok (.iconst 2, 1) := by decide +kernel
theorem dX11_ruleOf_27 : decode cX11_ruleOf 27 = .ok (.goto 4, 3) := by decide +kernel
theorem dX11_ruleOf_30 : decode cX11_ruleOf 30 = .ok (.iconst (-1), 1) := by decide +kernel
theorem dX11_ruleOf_31 : decode cX11_ruleOf 31 = .ok (.ireturn, 1) := by decide +kernel
theorem dX11_letterOf_0 : decode cX11_letterOf 0 = .ok (.iload_n 0, 1) := by decide +kernel
theorem dX11_letterOf_1 : decode cX11_letterOf 1 = .ok (.ifCond .ne 8, 3) := by decide +kernel
theorem dX11_letterOf_4 : decode cX11_letterOf 4 = .ok (.bipush 99, 2) := by decide +kernel
theorem dX11_letterOf_6 : decode cX11_letterOf 6 = .ok (.goto 15, 3) := by decide +kernel
theorem dX11_letterOf_9 : decode cX11_letterOf 9 = .ok (.iload_n 0, 1) := by decide +kernel
theorem dX11_letterOf_10 : decode cX11_letterOf 10 = .ok (.iconst 1, 1) := by decide +kernel
theorem dX11_letterOf_11 : decode cX11_letterOf 11 = .ok (.if_icmp .ne 8, 3) := by decide +kernel
theorem dX11_letterOf_14 : decode cX11_letterOf 14 = .ok (.bipush 98, 2) := by decide +kernel
theorem dX11_letterOf_16 : decode cX11_letterOf 16 = .ok (.goto 5, 3) := by decide +kernel
theorem dX11_letterOf_19 : decode cX11_letterOf 19 = .ok (.bipush 115, 2) := by decide +kernel
theorem dX11_letterOf_21 : decode cX11_letterOf 21 = .ok (.ireturn, 1) := by decide +kernel
theorem dX11_ruleIt_0 : decode cX11_ruleIt 0 = .ok (.iload_n 1, 1) := by decide +kernel
theorem dX11_ruleIt_1 : decode cX11_ruleIt 1 = .ok (.invokestatic 170, 3) := by decide +kernel
theorem dX11_ruleIt_4 : decode cX11_ruleIt 4 = .ok (.iconst (-1), 1) := by decide +kernel
theorem dX11_ruleIt_5 : decode cX11_ruleIt 5 = .ok (.if_icmp .ne 9, 3) := by decide +kernel
theorem dX11_ruleIt_8 : decode cX11_ruleIt 8 = .ok (.aload_n 0, 1) := by decide +kernel
theorem dX11_ruleIt_9 : decode cX11_ruleIt 9 = .ok (.iconst 1, 1) := by decide +kernel
theorem dX11_ruleIt_10 : decode cX11_ruleIt 10 = .ok (.invokevirtual 75, 3) := by decide +kernel
theorem dX11_ruleIt_13 : decode cX11_ruleIt 13 = .ok (.ireturn, 1) := by decide +kernel
theorem dX11_ruleIt_14 : decode cX11_ruleIt 14 = .ok (.iload_n 1, 1) := by decide +kernel
theorem dX11_ruleIt_15 : decode cX11_ruleIt 15 = .ok (.invokestatic 170, 3) := by decide +kernel
theorem dX11_ruleIt_18 : decode cX11_ruleIt 18 = .ok (.aload_n 0, 1) := by decide +kernel
theorem dX11_ruleIt_19 : decode cX11_ruleIt 19 = .ok (.getfield 9, 3) := by decide +kernel
theorem dX11_ruleIt_22 : decode cX11_ruleIt 22 = .ok (.iconst 0, 1) := by decide +kernel
theorem dX11_ruleIt_23 : decode cX11_ruleIt 23 = .ok (.iaload, 1) := by decide +kernel
theorem dX11_ruleIt_24 : decode cX11_ruleIt 24 = .ok (.if_icmp .ne 16, 3) := by decide +kernel
theorem dX11_ruleIt_27 : decode cX11_ruleIt 27 = .ok (.aload_n 0, 1) := by decide +kernel
theorem dX11_ruleIt_28 : decode cX11_ruleIt 28 = .ok (.iconst 2, 1) := by decide +kernel
theorem dX11_ruleIt_29 : decode cX11_ruleIt 29 = .ok (.iconst 5, 1) := by decide +kernel
theorem dX11_ruleIt_30 : decode cX11_ruleIt 30 = .ok (.aload_n 0, 1) := by decide +kernel
theorem dX11_ruleIt_31 : decode cX11_ruleIt 31 = .ok (.getfield 9, 3) := by decide +kernel
theorem dX11_ruleIt_34 : decode cX11_ruleIt 34 = .ok (.iconst 1, 1) := by decide +kernel
theorem dX11_ruleIt_35 : decode cX11_ruleIt 35 = .ok (.iaload, 1) := by decide +kernel
theorem dX11_ruleIt_36 : decode cX11_ruleIt 36 = .ok (.invokevirtual 131, 3) := by decide +kernel
theorem dX11_ruleIt_39 : decode cX11_ruleIt 39 = .ok (.ireturn, 1) := by decide +kernel
theorem dX11_ruleIt_40 : decode cX11_ruleIt 40 = .ok (.aload_n 0, 1) := by decide +kernel
theorem dX11_ruleIt_41 : decode cX11_ruleIt 41 = .ok (.getfield 9, 3) := by decide +kernel
theorem dX11_ruleIt_44 : decode cX11_ruleIt 44 = .ok (.iconst 0, 1) := by decide +kernel
theorem dX11_ruleIt_45 : decode cX11_ruleIt 45 = .ok (.iaload, 1) := by decide +kernel
theorem dX11_ruleIt_46 : decode cX11_ruleIt 46 = .ok (.invokestatic 173, 3) := by decide +kernel
theorem dX11_ruleIt_49 : decode cX11_ruleIt 49 = .ok (.istore_n 2, 1) := by decide +kernel
theorem dX11_ruleIt_50 : decode cX11_ruleIt 50 = .ok (.aload_n 0, 1) := by decide +kernel
theorem dX11_ruleIt_51 : decode cX11_ruleIt 51 = .ok (.getfield 9, 3) := by decide +kernel
theorem dX11_ruleIt_54 : decode cX11_ruleIt 54 = .ok (.iconst 0, 1) := by decide +kernel
theorem dX11_ruleIt_55 : decode cX11_ruleIt 55 = .ok (.iload_n 1, 1) := by decide +kernel
theorem dX11_ruleIt_56 : decode cX11_ruleIt 56 = .ok (.invokestatic 170, 3) := by decide +kernel
theorem dX11_ruleIt_59 : decode cX11_ruleIt 59 = .ok (.iastore, 1) := by decide +kernel
theorem dX11_ruleIt_60 : decode cX11_ruleIt 60 = .ok (.iload_n 2, 1) := by decide +kernel
theorem dX11_ruleIt_61 : decode cX11_ruleIt 61 = .ok (.ireturn, 1) := by decide +kernel
theorem dX11_setRule_0 : decode cX11_setRule 0 = .ok (.aload_n 0, 1) := by decide +kernel
theorem dX11_setRule_1 : decode cX11_setRule 1 = .ok (.invokevirtual 142, 3) := by decide +kernel
theorem dX11_setRule_4 : decode cX11_setRule 4 = .ok (.aload_n 0, 1) := by decide +kernel
theorem dX11_setRule_5 : decode cX11_setRule 5 = .ok (.aload_n 0, 1) := by decide +kernel
theorem dX11_setRule_6 : decode cX11_setRule 6 = .ok (.iload_n 1, 1) := by decide +kernel
theorem dX11_setRule_7 : decode cX11_setRule 7 = .ok (.invokevirtual 176, 3) := by decide +kernel
theorem dX11_setRule_10 : decode cX11_setRule 10 = .ok (.invokevirtual 148, 3) := by decide +kernel
theorem dX11_setRule_13 : decode cX11_setRule 13 = .ok (.i2c, 1) := by decide +kernel
theorem dX11_setRule_14 : decode cX11_setRule 14 = .ok (.ireturn, 1) := by decide +kernel
theorem dX11_next_0 : decode cX11_next 0 = .ok (.aload_n 0, 1) := by decide +kernel
theorem dX11_next_1 : decode cX11_next 1 = .ok (.iload_n 1, 1) := by decide +kernel
theorem dX11_next_2 : decode cX11_next 2 = .ok (.invokevirtual 101, 3) := by decide +kernel
theorem dX11_next_5 : decode cX11_next 5 = .ok (.istore_n 2, 1) := by decide +kernel
theorem dX11_next_6 : decode cX11_next 6 = .ok (.aload_n 0, 1) := by decide +kernel
theorem dX11_next_7 : decode cX11_next 7 = .ok (.iload_n 1, 1) := by decide +kernel
theorem dX11_next_8 : decode cX11_next 8 = .ok (.iconst 0, 1) := by decide +kernel
theorem dX11_next_9 : decode cX11_next 9 = .ok (.invokevirtual 115, 3) := by decide +kernel
theorem dX11_next_12 : decode cX11_next 12 = .ok (.istore_n 3, 1) := by decide +kernel
theorem dX11_next_13 : decode cX11_next 13 = .ok (.iload_n 2, 1) := by decide +kernel
theorem dX11_next_14 : decode cX11_next 14 = .ok (.ifCond .ne 25, 3) := by decide +kernel
theorem dX11_next_17 : decode cX11_next 17 = .ok (.aload_n 0, 1) := by decide +kernel
theorem dX11_next_18 : decode cX11_next 18 = .ok (.iload_n 3, 1) := by decide +kernel
theorem dX11_next_19 : decode cX11_next 19 = .ok (.invokevirtual 179, 3) := by decide +kernel
theorem dX11_next_22 : decode cX11_next 22 = .ok (.ifCond .eq 15, 3) := by decide +kernel
theorem dX11_next_25 : decode cX11_next 25 = .ok (.aload_n 0, 1) := by decide +kernel
theorem dX11_next_26 : decode cX11_next 26 = .ok (.iload_n 1, 1) := by decide +kernel
theorem dX11_next_27 : decode cX11_next 27 = .ok (.invokevirtual 182, 3) := by decide +kernel
theorem dX11_next_30 : decode cX11_next 30 = .ok (.iconst 0, 1) := by decide +kernel
theorem dX11_next_31 : decode cX11_next 31 = .ok (.invokestatic 135, 3) := by decide +kernel
theorem dX11_next_34 : decode cX11_next 34 = .ok (.goto 4, 3) := by decide +kernel
theorem dX11_next_37 : decode cX11_next 37 = .ok (.iconst 0, 1) := by decide +kernel
theorem dX11_next_38 : decode cX11_next 38 = .ok (.ireturn, 1) := by decide +kernel
theorem dX11_next_39 : decode cX11_next 39 = .ok (.iload_n 2, 1) := by decide +kernel
theorem dX11_next_40 : decode cX11_next 40 = .ok (.iconst 1, 1) := by decide +kernel
theorem dX11_next_41 : decode cX11_next 41 = .ok (.if_icmp .ne 13, 3) := by decide +kernel
theorem dX11_next_44 : decode cX11_next 44 = .ok (.iload_n 3, 1) := by decide +kernel
theorem dX11_next_45 : decode cX11_next 45 = .ok (.ifCond .ne 7, 3) := by decide +kernel
theorem dX11_next_48 : decode cX11_next 48 = .ok (.iconst 0, 1) := by decide +kernel
theorem dX11_next_49 : decode cX11_next 49 = .ok (.goto 4, 3) := by decide +kernel
theorem dX11_next_52 : decode cX11_next 52 = .ok (.iconst 1, 1) := by decide +kernel
theorem dX11_next_53 : decode cX11_next 53 = .ok (.ireturn, 1) := by decide +kernel
theorem dX11_next_54 : decode cX11_next 54 = .ok (.aload_n 0, 1) := by decide +kernel
theorem dX11_next_55 : decode cX11_next 55 = .ok (.iload_n 3, 1) := by decide +kernel
theorem dX11_next_56 : decode cX11_next 56 = .ok (.invokevirtual 185, 3) := by decide +kernel
theorem dX11_next_59 : decode cX11_next 59 = .ok (.ifCond .ne 7, 3) := by decide +kernel
theorem dX11_next_62 : decode cX11_next 62 = .ok (.iconst 1, 1) := by decide +kernel
theorem dX11_next_63 : decode cX11_next 63 = .ok (.goto 22, 3) := by decide +kernel
theorem dX11_next_66 : decode cX11_next 66 = .ok (.iload_n 2, 1) := by decide +kernel
theorem dX11_next_67 : decode cX11_next 67 = .ok (.bipush 10, 2) := by decide +kernel
theorem dX11_next_69 : decode cX11_next 69 = .ok (.isub, 1) := by decide +kernel
theorem dX11_next_70 : decode cX11_next 70 = .ok (.bipush 10, 2) := by decide +kernel
theorem dX11_next_72 : decode cX11_next 72 = .ok (.irem, 1) := by decide +kernel
theorem dX11_next_73 : decode cX11_next 73 = .ok (.bipush 9, 2) := by decide +kernel
theorem dX11_next_75 : decode cX11_next 75 = .ok (.if_icmp .ge 9, 3) := by decide +kernel
theorem dX11_next_78 : decode cX11_next 78 = .ok (.iload_n 2, 1) := by decide +kernel
theorem dX11_next_79 : decode cX11_next 79 = .ok (.iconst 1, 1) := by decide +kernel
theorem dX11_next_80 : decode cX11_next 80 = .ok (.iadd, 1) := by decide +kernel
theorem dX11_next_81 : decode cX11_next 81 = .ok (.goto 4, 3) := by decide +kernel
theorem dX11_next_84 : decode cX11_next 84 = .ok (.iload_n 2, 1) := by decide +kernel
theorem dX11_next_85 : decode cX11_next 85 = .ok (.ireturn, 1) := by decide +kernel
theorem dX11_passes_0 : decode cX11_passes 0 = .ok (.iconst 0, 1) := by decide +kernel
theorem dX11_passes_1 : decode cX11_passes 1 = .ok (.istore_n 1, 1) := by decide +kernel
theorem dX11_passes_2 : decode cX11_passes 2 = .ok (.iload_n 1, 1) := by decide +kernel
theorem dX11_passes_3 : decode cX11_passes 3 = .ok (.bipush 64, 2) := by decide +kernel
theorem dX11_passes_5 : decode cX11_passes 5 = .ok (.if_icmp .ge 20, 3) := by decide +kernel
theorem dX11_passes_8 : decode cX11_passes 8 = .ok (.aload_n 0, 1) := by decide +kernel
theorem dX11_passes_9 : decode cX11_passes 9 = .ok (.getfield 22, 3) := by decide +kernel
theorem dX11_passes_12 : decode cX11_passes 12 = .ok (.iload_n 1, 1) := by decide +kernel
theorem dX11_passes_13 : decode cX11_passes 13 = .ok (.aload_n 0, 1) := by decide +kernel
theorem dX11_passes_14 : decode cX11_passes 14 = .ok (.iload_n 1, 1) := by decide +kernel
theorem dX11_passes_15 : decode cX11_passes 15 = .ok (.invokevirtual 188, 3) := by decide +kernel
theorem dX11_passes_18 : decode cX11_passes 18 = .ok (.iastore, 1) := by decide +kernel
theorem dX11_passes_19 : decode cX11_passes 19 = .ok (.iinc 1 1, 3) := by decide +kernel
theorem dX11_passes_22 : decode cX11_passes 22 = .ok (.goto (-20), 3) := by decide +kernel
theorem dX11_passes_25 : decode cX11_passes 25 = .ok (.iconst 0, 1) := by decide +kernel
theorem dX11_passes_26 : decode cX11_passes 26 = .ok (.istore_n 1, 1) := by decide +kernel
theorem dX11_passes_27 : decode cX11_passes 27 = .ok (.iload_n 1, 1) := by decide +kernel
theorem dX11_passes_28 : decode cX11_passes 28 = .ok (.bipush 64, 2) := by decide +kernel
theorem dX11_passes_30 : decode cX11_passes 30 = .ok (.if_icmp .ge 103, 3) := by decide +kernel
theorem dX11_passes_33 : decode cX11_passes 33 = .ok (.aload_n 0, 1) := by decide +kernel
theorem dX11_passes_34 : decode cX11_passes 34 = .ok (.iload_n 1, 1) := by decide +kernel
theorem dX11_passes_35 : decode cX11_passes 35 = .ok (.invokevirtual 101, 3) := by decide +kernel
theorem dX11_passes_38 : decode cX11_passes 38 = .ok (.istore_n 2, 1) := by decide +kernel
theorem dX11_passes_39 : decode cX11_passes 39 = .ok (.aload_n 0, 1) := by decide +kernel
theorem dX11_passes_40 : decode cX11_passes 40 = .ok (.getfield 22, 3) := by decide +kernel
theorem dX11_passes_43 : decode cX11_passes 43 = .ok (.iload_n 1, 1) := by decide +kernel
theorem dX11_passes_44 : decode cX11_passes 44 = .ok (.iaload, 1) := by decide +kernel
theorem dX11_passes_45 : decode cX11_passes 45 = .ok (.istore_n 3, 1) := by decide +kernel
theorem dX11_passes_46 : decode cX11_passes 46 = .ok (.aload_n 0, 1) := by decide +kernel
theorem dX11_passes_47 : decode cX11_passes 47 = .ok (.getfield 9, 3) := by decide +kernel
theorem dX11_passes_50 : decode cX11_passes 50 = .ok (.iconst 4, 1) := by decide +kernel
theorem dX11_passes_51 : decode cX11_passes 51 = .ok (.dup2, 1) := by decide +kernel
theorem dX11_passes_52 : decode cX11_passes 52 = .ok (.iaload, 1) := by decide +kernel
theorem dX11_passes_53 : decode cX11_passes 53 = .ok (.iload_n 2, 1) := by decide +kernel
theorem dX11_passes_54 : decode cX11_passes 54 = .ok (.ifCond .ne 11, 3) := by decide +kernel
theorem dX11_passes_57 : decode cX11_passes 57 = .ok (.iload_n 3, 1) := by decide +kernel
theorem dX11_passes_58 : decode cX11_passes 58 = .ok (.ifCond .eq 7, 3) := by decide +kernel
theorem dX11_passes_61 : decode cX11_passes 61 = .ok (.iconst 1, 1) := by decide +kernel
theorem dX11_passes_62 : decode cX11_passes 62 = .ok (.goto 4, 3) := by decide +kernel
theorem dX11_passes_65 : decode cX11_passes 65 = .ok (.iconst 0, 1) := by decide +kernel
theorem dX11_passes_66 : decode cX11_passes 66 = .ok (.iadd, 1) := by decide +kernel
theorem dX11_passes_67 : decode cX11_passes 67 = .ok (.iastore, 1) := by decide +kernel
theorem dX11_passes_68 : decode cX11_passes 68 = .ok (.aload_n 0, 1) := by decide +kernel
theorem dX11_passes_69 : decode cX11_passes 69 = .ok (.getfield 9, 3) := by decide +kernel
theorem dX11_passes_72 : decode cX11_passes 72 = .ok (.iconst 5, 1) := by decide +kernel
theorem dX11_passes_73 : decode cX11_passes 73 = .ok (.dup2, 1) := by decide +kernel
theorem dX11_passes_74 : decode cX11_passes 74 = .ok (.iaload, 1) := by decide +kernel
theorem dX11_passes_75 : decode cX11_passes 75 = .ok (.iload_n 2, 1) := by decide +kernel
theorem dX11_passes_76 : decode cX11_passes 76 = .ok (.bipush 10, 2) := by decide +kernel
theorem dX11_passes_78 : decode cX11_passes 78 = .ok (.if_icmp .lt 12, 3) := by decide +kernel
theorem dX11_passes_81 : decode cX11_passes 81 = .ok (.iload_n 3, 1) := by decide +kernel
theorem dX11_passes_82 : decode cX11_passes 82 = .ok (.iconst 1, 1) := by decide +kernel
theorem dX11_passes_83 : decode cX11_passes 83 = .ok (.if_icmp .ne 7, 3) := by decide +kernel
theorem dX11_passes_86 : decode cX11_passes 86 = .ok (.iconst 1, 1) := by decide +kernel
theorem dX11_passes_87 : decode cX11_passes 87 = .ok (.goto 4, 3) := by decide +kernel
theorem dX11_passes_90 : decode cX11_passes 90 = .ok (.iconst 0, 1) := by decide +kernel
theorem dX11_passes_91 : decode cX11_passes 91 = .ok (.iadd, 1) := by decide +kernel
theorem dX11_passes_92 : decode cX11_passes 92 = .ok (.iastore, 1) := by decide +kernel
theorem dX11_passes_93 : decode cX11_passes 93 = .ok (.aload_n 0, 1) := by decide +kernel
theorem dX11_passes_94 : decode cX11_passes 94 = .ok (.getfield 9, 3) := by decide +kernel
theorem dX11_passes_97 : decode cX11_passes 97 = .ok (.bipush 6, 2) := by decide +kernel
theorem dX11_passes_99 : decode cX11_passes 99 = .ok (.dup2, 1) := by decide +kernel
theorem dX11_passes_100 : decode cX11_passes 100 = .ok (.iaload, 1) := by decide +kernel
theorem dX11_passes_101 : decode cX11_passes 101 = .ok (.iload_n 2, 1) := by decide +kernel
theorem dX11_passes_102 : decode cX11_passes 102 = .ok (.iconst 1, 1) := by decide +kernel
theorem dX11_passes_103 : decode cX11_passes 103 = .ok (.if_icmp .ne 11, 3) := by decide +kernel
theorem dX11_passes_106 : decode cX11_passes 106 = .ok (.iload_n 3, 1) := by decide +kernel
theorem dX11_passes_107 : decode cX11_passes 107 = .ok (.ifCond .ne 7, 3) := by decide +kernel
theorem dX11_passes_110 : decode cX11_passes 110 = .ok (.iconst 1, 1) := by decide +kernel
theorem dX11_passes_111 : decode cX11_passes 111 = .ok (.goto 4, 3) := by decide +kernel
theorem dX11_passes_114 : decode cX11_passes 114 = .ok (.iconst 0, 1) := by decide +kernel
theorem dX11_passes_115 : decode cX11_passes 115 = .ok (.iadd, 1) := by decide +kernel
theorem dX11_passes_116 : decode cX11_passes 116 = .ok (.iastore, 1) := by decide +kernel
theorem dX11_passes_117 : decode cX11_passes 117 = .ok (.aload_n 0, 1) := by decide +kernel
theorem dX11_passes_118 : decode cX11_passes 118 = .ok (.getfield 9, 3) := by decide +kernel
theorem dX11_passes_121 : decode cX11_passes 121 = .ok (.bipush 7, 2) := by decide +kernel
theorem dX11_passes_123 : decode cX11_passes 123 = .ok (.iload_n 1, 1) := by decide +kernel
theorem dX11_passes_124 : decode cX11_passes 124 = .ok (.iadd, 1) := by decide +kernel
theorem dX11_passes_125 : decode cX11_passes 125 = .ok (.iload_n 3, 1) := by decide +kernel
theorem dX11_passes_126 : decode cX11_passes 126 = .ok (.iastore, 1) := by decide +kernel
theorem dX11_passes_127 : decode cX11_passes 127 = .ok (.iinc 1 1, 3) := by decide +kernel
theorem dX11_passes_130 : decode cX11_passes 130 = .ok (.goto (-103), 3) := by decide +kernel
theorem dX11_passes_133 : decode cX11_passes 133 = .ok (.aload_n 0, 1) := by decide +kernel
theorem dX11_passes_134 : decode cX11_passes 134 = .ok (.getfield 9, 3) := by decide +kernel
theorem dX11_passes_137 : decode cX11_passes 137 = .ok (.iconst 1, 1) := by decide +kernel
theorem dX11_passes_138 : decode cX11_passes 138 = .ok (.dup2, 1) := by decide +kernel
theorem dX11_passes_139 : decode cX11_passes 139 = .ok (.iaload, 1) := by decide +kernel
theorem dX11_passes_140 : decode cX11_passes 140 = .ok (.iconst 1, 1) := by decide +kernel
theorem dX11_passes_141 : decode cX11_passes 141 = .ok (.iadd, 1) := by decide +kernel
theorem dX11_passes_142 : decode cX11_passes 142 = .ok (.iastore, 1) := by decide +kernel
theorem dX11_passes_143 : decode cX11_passes 143 = .ok (.return_, 1) := by decide +kernel
theorem dX11_tidesIt_0 : decode cX11_tidesIt 0 = .ok (.iload_n 1, 1) := by decide +kernel
theorem dX11_tidesIt_1 : decode cX11_tidesIt 1 = .ok (.i2l, 1) := by decide +kernel
theorem dX11_tidesIt_2 : decode cX11_tidesIt 2 = .ok (.lconst 1, 1) := by decide +kernel
theorem dX11_tidesIt_3 : decode cX11_tidesIt 3 = .ok (.ldc2_w 191, 3) := by decide +kernel
theorem dX11_tidesIt_6 : decode cX11_tidesIt 6 = .ok (.invokestatic 93, 3) := by decide +kernel
theorem dX11_tidesIt_9 : decode cX11_tidesIt 9 = .ok (.ifCond .ne 9, 3) := by decide +kernel
theorem dX11_tidesIt_12 : decode cX11_tidesIt 12 = .ok (.aload_n 0, 1) := by decide +kernel
theorem dX11_tidesIt_13 : decode cX11_tidesIt 13 = .ok (.iconst 1, 1) := by decide +kernel
theorem dX11_tidesIt_14 : decode cX11_tidesIt 14 = .ok (.invokevirtual 75, 3) := by decide +kernel
theorem dX11_tidesIt_17 : decode cX11_tidesIt 17 = .ok (.ireturn, 1) := by decide +kernel
theorem dX11_tidesIt_18 : decode cX11_tidesIt 18 = .ok (.aload_n 0, 1) := by decide +kernel
theorem dX11_tidesIt_19 : decode cX11_tidesIt 19 = .ok (.getfield 9, 3) := by decide +kernel
theorem dX11_tidesIt_22 : decode cX11_tidesIt 22 = .ok (.iconst 4, 1) := by decide +kernel
theorem dX11_tidesIt_23 : decode cX11_tidesIt 23 = .ok (.iaload, 1) := by decide +kernel
theorem dX11_tidesIt_24 : decode cX11_tidesIt 24 = .ok (.istore_n 2, 1) := by decide +kernel
theorem dX11_tidesIt_25 : decode cX11_tidesIt 25 = .ok (.iconst 0, 1) := by decide +kernel
theorem dX11_tidesIt_26 : decode cX11_tidesIt 26 = .ok (.istore_n 3, 1) := by decide +kernel
theorem dX11_tidesIt_27 : decode cX11_tidesIt 27 = .ok (.iload_n 3, 1) := by decide +kernel
theorem dX11_tidesIt_28 : decode cX11_tidesIt 28 = .ok (.iload_n 1, 1) := by decide +kernel
theorem dX11_tidesIt_29 : decode cX11_tidesIt 29 = .ok (.if_icmp .ge 13, 3) := by decide +kernel
theorem dX11_tidesIt_32 : decode cX11_tidesIt 32 = .ok (.aload_n 0, 1) := by decide +kernel
theorem dX11_tidesIt_33 : decode cX11_tidesIt 33 = .ok (.invokevirtual 193, 3) := by decide +kernel
theorem dX11_tidesIt_36 : decode cX11_tidesIt 36 = .ok (.iinc 3 1, 3) := by decide +kernel
theorem dX11_tidesIt_39 : decode cX11_tidesIt 39 = .ok (.goto (-12), 3) := by decide +kernel
theorem dX11_tidesIt_42 : decode cX11_tidesIt 42 = .ok (.aload_n 0, 1) := by decide +kernel
theorem dX11_tidesIt_43 : decode cX11_tidesIt 43 = .ok (.getfield 9, 3) := by decide +kernel
theorem dX11_tidesIt_46 : decode cX11_tidesIt 46 = .ok (.iconst 4, 1) := by decide +kernel
theorem dX11_tidesIt_47 : decode cX11_tidesIt 47 = .ok (.iaload, 1) := by decide +kernel
theorem dX11_tidesIt_48 : decode cX11_tidesIt 48 = .ok (.iload_n 2, 1) := by decide +kernel
theorem dX11_tidesIt_49 : decode cX11_tidesIt 49 = .ok (.isub, 1) := by decide +kernel
theorem dX11_tidesIt_50 : decode cX11_tidesIt 50 = .ok (.ireturn, 1) := by decide +kernel
theorem dX11_passTides_0 : decode cX11_passTides 0 = .ok (.aload_n 0, 1) := by decide +kernel
theorem dX11_passTides_1 : decode cX11_passTides 1 = .ok (.invokevirtual 142, 3) := by decide +kernel
theorem dX11_passTides_4 : decode cX11_passTides 4 = .ok (.aload_n 0, 1) := by decide +kernel
theorem dX11_passTides_5 : decode cX11_passTides 5 = .ok (.aload_n 0, 1) := by decide +kernel
theorem dX11_passTides_6 : decode cX11_passTides 6 = .ok (.iload_n 1, 1) := by decide +kernel
theorem dX11_passTides_7 : decode cX11_passTides 7 = .ok (.invokevirtual 196, 3) := by decide +kernel
theorem dX11_passTides_10 : decode cX11_passTides 10 = .ok (.invokevirtual 148, 3) := by decide +kernel
theorem dX11_passTides_13 : decode cX11_passTides 13 = .ok (.ireturn, 1) := by decide +kernel
theorem dX11_thinks_0 : decode cX11_thinks 0 = .ok (.iconst 0, 1) := by decide +kernel
theorem dX11_thinks_1 : decode cX11_thinks 1 = .ok (.istore_n 1, 1) := by decide +kernel
theorem dX11_thinks_2 : decode cX11_thinks 2 = .ok (.iload_n 1, 1) := by decide +kernel
theorem dX11_thinks_3 : decode cX11_thinks 3 = .ok (.bipush 71, 2) := by decide +kernel
theorem dX11_thinks_5 : decode cX11_thinks 5 = .ok (.if_icmp .ge 21, 3) := by decide +kernel
theorem dX11_thinks_8 : decode cX11_thinks 8 = .ok (.aload_n 0, 1) := by decide +kernel
theorem dX11_thinks_9 : decode cX11_thinks 9 = .ok (.getfield 16, 3) := by decide +kernel
theorem dX11_thinks_12 : decode cX11_thinks 12 = .ok (.iload_n 1, 1) := by decide +kernel
theorem dX11_thinks_13 : decode cX11_thinks 13 = .ok (.aload_n 0, 1) := by decide +kernel
theorem dX11_thinks_14 : decode cX11_thinks 14 = .ok (.getfield 9, 3) := by decide +kernel
theorem dX11_thinks_17 : decode cX11_thinks 17 = .ok (.iload_n 1, 1) := by decide +kernel
theorem dX11_thinks_18 : decode cX11_thinks 18 = .ok (.iaload, 1) := by decide +kernel
theorem dX11_thinks_19 : decode cX11_thinks 19 = .ok (.iastore, 1) := by decide +kernel
theorem dX11_thinks_20 : decode cX11_thinks 20 = .ok (.iinc 1 1, 3) := by decide +kernel
theorem dX11_thinks_23 : decode cX11_thinks 23 = .ok (.goto (-21), 3) := by decide +kernel
theorem dX11_thinks_26 : decode cX11_thinks 26 = .ok (.return_, 1) := by decide +kernel
theorem dX11_comesBack_0 : decode cX11_comesBack 0 = .ok (.iconst 0, 1) := by decide +kernel
theorem dX11_comesBack_1 : decode cX11_comesBack 1 = .ok (.istore_n 1, 1) := by decide +kernel
theorem dX11_comesBack_2 : decode cX11_comesBack 2 = .ok (.iload_n 1, 1) := by decide +kernel
theorem dX11_comesBack_3 : decode cX11_comesBack 3 = .ok (.bipush 71, 2) := by decide +kernel
theorem dX11_comesBack_5 : decode cX11_comesBack 5 = .ok (.if_icmp .ge 21, 3) := by decide +kernel
theorem dX11_comesBack_8 : decode cX11_comesBack 8 = .ok (.aload_n 0, 1) := by decide +kernel
theorem dX11_comesBack_9 : decode cX11_comesBack 9 = .ok (.getfield 9, 3) := by decide +kernel
theorem dX11_comesBack_12 : decode cX11_comesBack 12 = .ok (.iload_n 1, 1) := by decide +kernel
theorem dX11_comesBack_13 : decode cX11_comesBack 13 = .ok (.aload_n 0, 1) := by decide +kernel
theorem dX11_comesBack_14 : decode cX11_comesBack 14 = .ok (.getfield 16, 3) := by decide +kernel
theorem dX11_comesBack_17 : decode cX11_comesBack 17 = .ok (.iload_n 1, 1) := by decide +kernel
theorem dX11_comesBack_18 : decode cX11_comesBack 18 = .ok (.iaload, 1) := by decide +kernel
theorem dX11_comesBack_19 : decode cX11_comesBack 19 = .ok (.iastore, 1) := by decide +kernel
theorem dX11_comesBack_20 : decode cX11_comesBack 20 = .ok (.iinc 1 1, 3) := by decide +kernel
theorem dX11_comesBack_23 : decode cX11_comesBack 23 = .ok (.goto (-21), 3) := by decide +kernel
theorem dX11_comesBack_26 : decode cX11_comesBack 26 = .ok (.return_, 1) := by decide +kernel
theorem dX11_isStillNow_0 : decode cX11_isStillNow 0 = .ok (.iconst 1, 1) := by decide +kernel
theorem dX11_isStillNow_1 : decode cX11_isStillNow 1 = .ok (.istore_n 1, 1) := by decide +kernel
theorem dX11_isStillNow_2 : decode cX11_isStillNow 2 = .ok (.iconst 0, 1) := by decide +kernel
theorem dX11_isStillNow_3 : decode cX11_isStillNow 3 = .ok (.istore_n 2, 1) := by decide +kernel
theorem dX11_isStillNow_4 : decode cX11_isStillNow 4 = .ok (.iload_n 2, 1) := by decide +kernel
theorem dX11_isStillNow_5 : decode cX11_isStillNow 5 = .ok (.bipush 64, 2) := by decide +kernel
theorem dX11_isStillNow_7 : decode cX11_isStillNow 7 = .ok (.if_icmp .ge 79, 3) := by decide +kernel
theorem dX11_isStillNow_10 : decode cX11_isStillNow 10 = .ok (.aload_n 0, 1) := by decide +kernel
theorem dX11_isStillNow_11 : decode cX11_isStillNow 11 = .ok (.iload_n 2, 1) := by decide +kernel
theorem dX11_isStillNow_12 : decode cX11_isStillNow 12 = .ok (.invokevirtual 188, 3) := by decide +kernel
theorem dX11_isStillNow_15 : decode cX11_isStillNow 15 = .ok (.istore_n 3, 1) := by decide +kernel
theorem dX11_isStillNow_16 : decode cX11_isStillNow 16 = .ok (.iload_n 1, 1) := by decide +kernel
theorem dX11_isStillNow_17 : decode cX11_isStillNow 17 = .ok (.ifCond .eq 61, 3) := by decide +kernel
theorem dX11_isStillNow_20 : decode cX11_isStillNow 20 = .ok (.iload_n 3, 1) := by decide +kernel
theorem dX11_isStillNow_21 : decode cX11_isStillNow 21 = .ok (.bipush 10, 2) := by decide +kernel
theorem dX11_isStillNow_23 : decode cX11_isStillNow 23 = .ok (.if_icmp .lt 7, 3) := by decide +kernel
theorem dX11_isStillNow_26 : decode cX11_isStillNow 26 = .ok (.iconst 1, 1) := by decide +kernel
theorem dX11_isStillNow_27 : decode cX11_isStillNow 27 = .ok (.goto 4, 3) := by decide +kernel
theorem dX11_isStillNow_30 : decode cX11_isStillNow 30 = .ok (.iconst 0, 1) := by decide +kernel
theorem dX11_isStillNow_31 : decode cX11_isStillNow 31 = .ok (.aload_n 0, 1) := by decide +kernel
theorem dX11_isStillNow_32 : decode cX11_isStillNow 32 = .ok (.iload_n 2, 1) := by decide +kernel
theorem dX11_isStillNow_33 : decode cX11_isStillNow 33 = .ok (.invokevirtual 101, 3) := by decide +kernel
theorem dX11_isStillNow_36 : decode cX11_isStillNow 36 = .ok (.bipush 10, 2) := by decide +kernel
theorem dX11_isStillNow_38 : decode cX11_isStillNow 38 = .ok (.if_icmp .lt 7, 3) := by decide +kernel
theorem dX11_isStillNow_41 : decode cX11_isStillNow 41 = .ok (.iconst 1, 1) := by decide +kernel
theorem dX11_isStillNow_42 : decode cX11_isStillNow 42 = .ok (.goto 4, 3) := by decide +kernel
theorem dX11_isStillNow_45 : decode cX11_isStillNow 45 = .ok (.iconst 0, 1) := by decide +kernel
theorem dX11_isStillNow_46 : decode cX11_isStillNow 46 = .ok (.if_icmp .ne 32, 3) := by decide +kernel
theorem dX11_isStillNow_49 : decode cX11_isStillNow 49 = .ok (.iload_n 3, 1) := by decide +kernel
theorem dX11_isStillNow_50 : decode cX11_isStillNow 50 = .ok (.ifCond .ne 7, 3) := by decide +kernel
theorem dX11_isStillNow_53 : decode cX11_isStillNow 53 = .ok (.iconst 1, 1) := by decide +kernel
theorem dX11_isStillNow_54 : decode cX11_isStillNow 54 = .ok (.goto 4, 3) := by decide +kernel
theorem dX11_isStillNow_57 : decode cX11_isStillNow 57 = .ok (.iconst 0, 1) := by decide +kernel
theorem dX11_isStillNow_58 : decode cX11_isStillNow 58 = .ok (.aload_n 0, 1) := by decide +kernel
theorem dX11_isStillNow_59 : decode cX11_isStillNow 59 = .ok (.iload_n 2, 1) := by decide +kernel
theorem dX11_isStillNow_60 : decode cX11_isStillNow 60 = .ok (.invokevirtual 101, 3) := by decide +kernel
theorem dX11_isStillNow_63 : decode cX11_isStillNow 63 = .ok (.ifCond .ne 7, 3) := by decide +kernel
theorem dX11_isStillNow_66 : decode cX11_isStillNow 66 = .ok (.iconst 1, 1) := by decide +kernel
theorem dX11_isStillNow_67 : decode cX11_isStillNow 67 = .ok (.goto 4, 3) := by decide +kernel
theorem dX11_isStillNow_70 : decode cX11_isStillNow 70 = .ok (.iconst 0, 1) := by decide +kernel
theorem dX11_isStillNow_71 : decode cX11_isStillNow 71 = .ok (.if_icmp .ne 7, 3) := by decide +kernel
theorem dX11_isStillNow_74 : decode cX11_isStillNow 74 = .ok (.iconst 1, 1) := by decide +kernel
theorem dX11_isStillNow_75 : decode cX11_isStillNow 75 = .ok (.goto 4, 3) := by decide +kernel
theorem dX11_isStillNow_78 : decode cX11_isStillNow 78 = .ok (.iconst 0, 1) := by decide +kernel
theorem dX11_isStillNow_79 : decode cX11_isStillNow 79 = .ok (.istore_n 1, 1) := by decide +kernel
theorem dX11_isStillNow_80 : decode cX11_isStillNow 80 = .ok (.iinc 2 1, 3) := by decide +kernel
theorem dX11_isStillNow_83 : decode cX11_isStillNow 83 = .ok (.goto (-79), 3) := by decide +kernel
theorem dX11_isStillNow_86 : decode cX11_isStillNow 86 = .ok (.iload_n 1, 1) := by decide +kernel
theorem dX11_isStillNow_87 : decode cX11_isStillNow 87 = .ok (.ireturn, 1) := by decide +kernel
theorem dX11_wouldLive_0 : decode cX11_wouldLive 0 = .ok (.aload_n 0, 1) := by decide +kernel
theorem dX11_wouldLive_1 : decode cX11_wouldLive 1 = .ok (.iconst 0, 1) := by decide +kernel
theorem dX11_wouldLive_2 : decode cX11_wouldLive 2 = .ok (.putfield 66, 3) := by decide +kernel
theorem dX11_wouldLive_5 : decode cX11_wouldLive 5 = .ok (.iload_n 1, 1) := by decide +kernel
theorem dX11_wouldLive_6 : decode cX11_wouldLive 6 = .ok (.iload_n 2, 1) := by decide +kernel
theorem dX11_wouldLive_7 : decode cX11_wouldLive 7 = .ok (.invokestatic 104, 3) := by decide +kernel
theorem dX11_wouldLive_10 : decode cX11_wouldLive 10 = .ok (.ifCond .ne 11, 3) := by decide +kernel
theorem dX11_wouldLive_13 : decode cX11_wouldLive 13 = .ok (.aload_n 0, 1) := by decide +kernel
theorem dX11_wouldLive_14 : decode cX11_wouldLive 14 = .ok (.iconst 1, 1) := by decide +kernel
theorem dX11_wouldLive_15 : decode cX11_wouldLive 15 = .ok (.invokevirtual 75, 3) := by decide +kernel
theorem dX11_wouldLive_18 : decode cX11_wouldLive 18 = .ok (.pop, 1) := by decide +kernel
theorem dX11_wouldLive_19 : decode cX11_wouldLive 19 = .ok (.iconst 0, 1) := by decide +kernel
theorem dX11_wouldLive_20 : decode cX11_wouldLive 20 = .ok (.ireturn, 1) := by decide +kernel
theorem dX11_wouldLive_21 : decode cX11_wouldLive 21 = .ok (.aload_n 0, 1) := by decide +kernel
theorem dX11_wouldLive_22 : decode cX11_wouldLive 22 = .ok (.iload_n 1, 1) := by decide +kernel
theorem dX11_wouldLive_23 : decode cX11_wouldLive 23 = .ok (.iload_n 2, 1) := by decide +kernel
theorem dX11_wouldLive_24 : decode cX11_wouldLive 24 = .ok (.invokestatic 108, 3) := by decide +kernel
theorem dX11_wouldLive_27 : decode cX11_wouldLive 27 = .ok (.invokevirtual 188, 3) := by decide +kernel
theorem dX11_wouldLive_30 : decode cX11_wouldLive 30 = .ok (.bipush 10, 2) := by decide +kernel
theorem dX11_wouldLive_32 : decode cX11_wouldLive 32 = .ok (.if_icmp .lt 7, 3) := by decide +kernel
theorem dX11_wouldLive_35 : decode cX11_wouldLive 35 = .ok (.iconst 1, 1) := by decide +kernel
theorem dX11_wouldLive_36 : decode cX11_wouldLive 36 = .ok (.goto 4, 3) := by decide +kernel
theorem dX11_wouldLive_39 : decode cX11_wouldLive 39 = .ok (.iconst 0, 1) := by decide +kernel
theorem dX11_wouldLive_40 : decode cX11_wouldLive 40 = .ok (.ireturn, 1) := by decide +kernel
theorem dX11_livingAfter_0 : decode cX11_livingAfter 0 = .ok (.aload_n 0, 1) := by decide +kernel
theorem dX11_livingAfter_1 : decode cX11_livingAfter 1 = .ok (.iconst 0, 1) := by decide +kernel
theorem dX11_livingAfter_2 : decode cX11_livingAfter 2 = .ok (.putfield 66, 3) := by decide +kernel
theorem dX11_livingAfter_5 : decode cX11_livingAfter 5 = .ok (.iload_n 1, 1) := by decide +kernel
theorem dX11_livingAfter_6 : decode cX11_livingAfter 6 = .ok (.i2l, 1) := by decide +kernel
theorem dX11_livingAfter_7 : decode cX11_livingAfter 7 = .ok (.lconst 0, 1) := by decide +kernel
theorem dX11_livingAfter_8 : decode cX11_livingAfter 8 = .ok (.ldc2_w 191, 3) := by decide +kernel
theorem dX11_livingAfter_11 : decode cX11_livingAfter 11 = .ok (.invokestatic 93, 3) := by decide +kernel
theorem dX11_livingAfter_14 : decode cX11_livingAfter 14 = .ok (.ifCond .ne 9, 3) := by decide +kernel
theorem dX11_livingAfter_17 : decode cX11_livingAfter 17 = .ok (.aload_n 0, 1) := by decide +kernel
theorem dX11_livingAfter_18 : decode cX11_livingAfter 18 = .ok (.iconst 1, 1) := by decide +kernel
theorem dX11_livingAfter_19 : decode cX11_livingAfter 19 = .ok (.invokevirtual 75, 3) := by decide +kernel
theorem dX11_livingAfter_22 : decode cX11_livingAfter 22 = .ok (.ireturn, 1) := by decide +kernel
theorem dX11_livingAfter_23 : decode cX11_livingAfter 23 = .ok (.aload_n 0, 1) := by decide +kernel
theorem dX11_livingAfter_24 : decode cX11_livingAfter 24 = .ok (.invokevirtual 199, 3) := by decide +kernel
theorem dX11_livingAfter_27 : decode cX11_livingAfter 27 = .ok (.iconst 0, 1) := by decide +kernel
theorem dX11_livingAfter_28 : decode cX11_livingAfter 28 = .ok (.istore_n 2, 1) := by decide +kernel
theorem dX11_livingAfter_29 : decode cX11_livingAfter 29 = .ok (.iload_n 2, 1) := by decide +kernel
theorem dX11_livingAfter_30 : decode cX11_livingAfter 30 = .ok (.iload_n 1, 1) := by decide +kernel
theorem dX11_livingAfter_31 : decode cX11_livingAfter 31 = .ok (.if_icmp .ge 13, 3) := by decide +kernel
theorem dX11_livingAfter_34 : decode cX11_livingAfter 34 = .ok (.aload_n 0, 1) := by decide +kernel
theorem dX11_livingAfter_35 : decode cX11_livingAfter 35 = .ok (.invokevirtual 193, 3) := by decide +kernel
theorem dX11_livingAfter_38 : decode cX11_livingAfter 38 = .ok (.iinc 2 1, 3) := by decide +kernel
theorem dX11_livingAfter_41 : decode cX11_livingAfter 41 = .ok (.goto (-12), 3) := by decide +kernel
theorem dX11_livingAfter_44 : decode cX11_livingAfter 44 = .ok (.aload_n 0, 1) := by decide +kernel
theorem dX11_livingAfter_45 : decode cX11_livingAfter 45 = .ok (.invokevirtual 138, 3) := by decide +kernel
theorem dX11_livingAfter_48 : decode cX11_livingAfter 48 = .ok (.istore_n 2, 1) := by decide +kernel
theorem dX11_livingAfter_49 : decode cX11_livingAfter 49 = .ok (.aload_n 0, 1) := by decide +kernel
theorem dX11_livingAfter_50 : decode cX11_livingAfter 50 = .ok (.invokevirtual 202, 3) := by decide +kernel
theorem dX11_livingAfter_53 : decode cX11_livingAfter 53 = .ok (.iload_n 2, 1) := by decide +kernel
theorem dX11_livingAfter_54 : decode cX11_livingAfter 54 = .ok (.ireturn, 1) := by decide +kernel
theorem dX11_isStill_0 : decode cX11_isStill 0 = .ok (.aload_n 0, 1) := by decide +kernel
theorem dX11_isStill_1 : decode cX11_isStill 1 = .ok (.iconst 0, 1) := by decide +kernel
theorem dX11_isStill_2 : decode cX11_isStill 2 = .ok (.putfield 66, 3) := by decide +kernel
theorem dX11_isStill_5 : decode cX11_isStill 5 = .ok (.aload_n 0, 1) := by decide +kernel
theorem dX11_isStill_6 : decode cX11_isStill 6 = .ok (.invokevirtual 205, 3) := by decide +kernel
theorem dX11_isStill_9 : decode cX11_isStill 9 = .ok (.ireturn, 1) := by decide +kernel
theorem dX11_tidesUntilStill_0 : decode cX11_tidesUntilStill 0 = .ok (.aload_n 0, 1) := by decide +kernel
theorem dX11_tidesUntilStill_1 : decode cX11_tidesUntilStill 1 = .ok (.iconst 0, 1) := by decide +kernel
theorem dX11_tidesUntilStill_2 : decode cX11_tidesUntilStill 2 = .ok (.putfield 66, 3) := by decide +kernel
theorem dX11_tidesUntilStill_5 : decode cX11_tidesUntilStill 5 = .ok (.aload_n 0, 1) := by decide +kernel
theorem dX11_tidesUntilStill_6 : decode cX11_tidesUntilStill 6 = .ok (.invokevirtual 199, 3) := by decide +kernel
theorem dX11_tidesUntilStill_9 : decode cX11_tidesUntilStill 9 = .ok (.iconst 0, 1) := by decide +kernel
theorem dX11_tidesUntilStill_10 : decode cX11_tidesUntilStill 10 = .ok (.istore_n 1, 1) := by decide +kernel
theorem dX11_tidesUntilStill_11 : decode cX11_tidesUntilStill 11 = .ok (.iload_n 1, 1) := by decide +kernel
theorem dX11_tidesUntilStill_12 : decode cX11_tidesUntilStill 12 = .ok (.bipush 40, 2) := by decide +kernel
theorem dX11_tidesUntilStill_14 : decode cX11_tidesUntilStill 14 = .ok (.if_icmp .gt 20, 3) := by decide +kernel
theorem dX11_tidesUntilStill_17 : decode cX11_tidesUntilStill 17 = .ok (.aload_n 0, 1) := by decide +kernel
theorem dX11_tidesUntilStill_18 : decode cX11_tidesUntilStill 18 = .ok (.invokevirtual 205, 3) := by decide +kernel
theorem dX11_tidesUntilStill_21 : decode cX11_tidesUntilStill 21 = .ok (.ifCond .ne 13, 3) := by decide +kernel
theorem dX11_tidesUntilStill_24 : decode cX11_tidesUntilStill 24 = .ok (.aload_n 0, 1) := by decide +kernel
theorem dX11_tidesUntilStill_25 : decode cX11_tidesUntilStill 25 = .ok (.invokevirtual 193, 3) := by decide +kernel
theorem dX11_tidesUntilStill_28 : decode cX11_tidesUntilStill 28 = .ok (.iinc 1 1, 3) := by decide +kernel
theorem dX11_tidesUntilStill_31 : decode cX11_tidesUntilStill 31 = .ok (.goto (-20), 3) := by decide +kernel
theorem dX11_tidesUntilStill_34 : decode cX11_tidesUntilStill 34 = .ok (.aload_n 0, 1) := by decide +kernel
theorem dX11_tidesUntilStill_35 : decode cX11_tidesUntilStill 35 = .ok (.invokevirtual 202, 3) := by decide +kernel
theorem dX11_tidesUntilStill_38 : decode cX11_tidesUntilStill 38 = .ok (.iload_n 1, 1) := by decide +kernel
theorem dX11_tidesUntilStill_39 : decode cX11_tidesUntilStill 39 = .ok (.bipush 40, 2) := by decide +kernel
theorem dX11_tidesUntilStill_41 : decode cX11_tidesUntilStill 41 = .ok (.if_icmp .le 11, 3) := by decide +kernel
theorem dX11_tidesUntilStill_44 : decode cX11_tidesUntilStill 44 = .ok (.aload_n 0, 1) := by decide +kernel
theorem dX11_tidesUntilStill_45 : decode cX11_tidesUntilStill 45 = .ok (.iconst 1, 1) := by decide +kernel
theorem dX11_tidesUntilStill_46 : decode cX11_tidesUntilStill 46 = .ok (.invokevirtual 75, 3) := by decide +kernel
theorem dX11_tidesUntilStill_49 : decode cX11_tidesUntilStill 49 = .ok (.goto 4, 3) := by decide +kernel
theorem dX11_tidesUntilStill_52 : decode cX11_tidesUntilStill 52 = .ok (.iload_n 1, 1) := by decide +kernel
theorem dX11_tidesUntilStill_53 : decode cX11_tidesUntilStill 53 = .ok (.ireturn, 1) := by decide +kernel
theorem dX11_rule_0 : decode cX11_rule 0 = .ok (.aload_n 0, 1) := by decide +kernel
theorem dX11_rule_1 : decode cX11_rule 1 = .ok (.iconst 0, 1) := by decide +kernel
theorem dX11_rule_2 : decode cX11_rule 2 = .ok (.putfield 66, 3) := by decide +kernel
theorem dX11_rule_5 : decode cX11_rule 5 = .ok (.aload_n 0, 1) := by decide +kernel
theorem dX11_rule_6 : decode cX11_rule 6 = .ok (.getfield 9, 3) := by decide +kernel
theorem dX11_rule_9 : decode cX11_rule 9 = .ok (.iconst 0, 1) := by decide +kernel
theorem dX11_rule_10 : decode cX11_rule 10 = .ok (.iaload, 1) := by decide +kernel
theorem dX11_rule_11 : decode cX11_rule 11 = .ok (.invokestatic 173, 3) := by decide +kernel
theorem dX11_rule_14 : decode cX11_rule 14 = .ok (.i2c, 1) := by decide +kernel
theorem dX11_rule_15 : decode cX11_rule 15 = .ok (.ireturn, 1) := by decide +kernel
theorem dX11_isBirth_0 : decode cX11_isBirth 0 = .ok (.aload_n 0, 1) := by decide +kernel
theorem dX11_isBirth_1 : decode cX11_isBirth 1 = .ok (.iconst 0, 1) := by decide +kernel
theorem dX11_isBirth_2 : decode cX11_isBirth 2 = .ok (.putfield 66, 3) := by decide +kernel
theorem dX11_isBirth_5 : decode cX11_isBirth 5 = .ok (.iload_n 1, 1) := by decide +kernel
theorem dX11_isBirth_6 : decode cX11_isBirth 6 = .ok (.i2l, 1) := by decide +kernel
theorem dX11_isBirth_7 : decode cX11_isBirth 7 = .ok (.lconst 0, 1) := by decide +kernel
theorem dX11_isBirth_8 : decode cX11_isBirth 8 = .ok (.ldc2_w 209, 3) := by decide +kernel
theorem dX11_isBirth_11 : decode cX11_isBirth 11 = .ok (.invokestatic 93, 3) := by decide +kernel
theorem dX11_isBirth_14 : decode cX11_isBirth 14 = .ok (.ifCond .ne 11, 3) := by decide +kernel
theorem dX11_isBirth_17 : decode cX11_isBirth 17 = .ok (.aload_n 0, 1) := by decide +kernel
theorem dX11_isBirth_18 : decode cX11_isBirth 18 = .ok (.iconst 1, 1) := by decide +kernel
theorem dX11_isBirth_19 : decode cX11_isBirth 19 = .ok (.invokevirtual 75, 3) := by decide +kernel
theorem dX11_isBirth_22 : decode cX11_isBirth 22 = .ok (.pop, 1) := by decide +kernel
theorem dX11_isBirth_23 : decode cX11_isBirth 23 = .ok (.iconst 0, 1) := by decide +kernel
theorem dX11_isBirth_24 : decode cX11_isBirth 24 = .ok (.ireturn, 1) := by decide +kernel
theorem dX11_isBirth_25 : decode cX11_isBirth 25 = .ok (.aload_n 0, 1) := by decide +kernel
theorem dX11_isBirth_26 : decode cX11_isBirth 26 = .ok (.iload_n 1, 1) := by decide +kernel
theorem dX11_isBirth_27 : decode cX11_isBirth 27 = .ok (.invokevirtual 179, 3) := by decide +kernel
theorem dX11_isBirth_30 : decode cX11_isBirth 30 = .ok (.ireturn, 1) := by decide +kernel
theorem dX11_isSurvival_0 : decode cX11_isSurvival 0 = .ok (.aload_n 0, 1) := by decide +kernel
theorem dX11_isSurvival_1 : decode cX11_isSurvival 1 = .ok (.iconst 0, 1) := by decide +kernel
theorem dX11_isSurvival_2 : decode cX11_isSurvival 2 = .ok (.putfield 66, 3) := by decide +kernel
theorem dX11_isSurvival_5 : decode cX11_isSurvival 5 = .ok (.iload_n 1, 1) := by decide +kernel
theorem dX11_isSurvival_6 : decode cX11_isSurvival 6 = .ok (.i2l, 1) := by decide +kernel
theorem dX11_isSurvival_7 : decode cX11_isSurvival 7 = .ok (.lconst 0, 1) := by decide +kernel
theorem dX11_isSurvival_8 : decode cX11_isSurvival 8 = .ok (.ldc2_w 209, 3) := by decide +kernel
theorem dX11_isSurvival_11 : decode cX11_isSurvival 11 = .ok (.invokestatic 93, 3) := by decide +kernel
theorem dX11_isSurvival_14 : decode cX11_isSurvival 14 = .ok (.ifCond .ne 11, 3) := by decide +kernel
theorem dX11_isSurvival_17 : decode cX11_isSurvival 17 = .ok (.aload_n 0, 1) := by decide +kernel
theorem dX11_isSurvival_18 : decode cX11_isSurvival 18 = .ok (.iconst 1, 1) := by decide +kernel
theorem dX11_isSurvival_19 : decode cX11_isSurvival 19 = .ok (.invokevirtual 75, 3) := by decide +kernel
theorem dX11_isSurvival_22 : decode cX11_isSurvival 22 = .ok (.pop, 1) := by decide +kernel
theorem dX11_isSurvival_23 : decode cX11_isSurvival 23 = .ok (.iconst 0, 1) := by decide +kernel
theorem dX11_isSurvival_24 : decode cX11_isSurvival 24 = .ok (.ireturn, 1) := by decide +kernel
theorem dX11_isSurvival_25 : decode cX11_isSurvival 25 = .ok (.aload_n 0, 1) := by decide +kernel
theorem dX11_isSurvival_26 : decode cX11_isSurvival 26 = .ok (.iload_n 1, 1) := by decide +kernel
theorem dX11_isSurvival_27 : decode cX11_isSurvival 27 = .ok (.invokevirtual 185, 3) := by decide +kernel
theorem dX11_isSurvival_30 : decode cX11_isSurvival 30 = .ok (.ireturn, 1) := by decide +kernel
theorem dX11_asks_0 : decode cX11_asks 0 = .ok (.aload_n 0, 1) := by decide +kernel
theorem dX11_asks_1 : decode cX11_asks 1 = .ok (.iconst 0, 1) := by decide +kernel
theorem dX11_asks_2 : decode cX11_asks 2 = .ok (.putfield 66, 3) := by decide +kernel
theorem dX11_asks_5 : decode cX11_asks 5 = .ok (.iload_n 1, 1) := by decide +kernel
theorem dX11_asks_6 : decode cX11_asks 6 = .ok (.iload_n 2, 1) := by decide +kernel
theorem dX11_asks_7 : decode cX11_asks 7 = .ok (.invokestatic 104, 3) := by decide +kernel
theorem dX11_asks_10 : decode cX11_asks 10 = .ok (.ifCond .ne 9, 3) := by decide +kernel
theorem dX11_asks_13 : decode cX11_asks 13 = .ok (.aload_n 0, 1) := by decide +kernel
theorem dX11_asks_14 : decode cX11_asks 14 = .ok (.iconst 1, 1) := by decide +kernel
theorem dX11_asks_15 : decode cX11_asks 15 = .ok (.invokevirtual 75, 3) := by decide +kernel
theorem dX11_asks_18 : decode cX11_asks 18 = .ok (.pop, 1) := by decide +kernel
theorem dX11_asks_19 : decode cX11_asks 19 = .ok (.aload_n 0, 1) := by decide +kernel
theorem dX11_asks_20 : decode cX11_asks 20 = .ok (.getfield 66, 3) := by decide +kernel
theorem dX11_asks_23 : decode cX11_asks 23 = .ok (.ifCond .ne 7, 3) := by decide +kernel
theorem dX11_asks_26 : decode cX11_asks 26 = .ok (.iconst 1, 1) := by decide +kernel
theorem dX11_asks_27 : decode cX11_asks 27 = .ok (.goto 4, 3) := by decide +kernel
theorem dX11_asks_30 : decode cX11_asks 30 = .ok (.iconst 0, 1) := by decide +kernel
theorem dX11_asks_31 : decode cX11_asks 31 = .ok (.ireturn, 1) := by decide +kernel
theorem dX11_isEmpty_0 : decode cX11_isEmpty 0 = .ok (.aload_n 0, 1) := by decide +kernel
theorem dX11_isEmpty_1 : decode cX11_isEmpty 1 = .ok (.iload_n 1, 1) := by decide +kernel
theorem dX11_isEmpty_2 : decode cX11_isEmpty 2 = .ok (.iload_n 2, 1) := by decide +kernel
theorem dX11_isEmpty_3 : decode cX11_isEmpty 3 = .ok (.invokevirtual 211, 3) := by decide +kernel
theorem dX11_isEmpty_6 : decode cX11_isEmpty 6 = .ok (.ifCond .eq 19, 3) := by decide +kernel
theorem dX11_isEmpty_9 : decode cX11_isEmpty 9 = .ok (.aload_n 0, 1) := by decide +kernel
theorem dX11_isEmpty_10 : decode cX11_isEmpty 10 = .ok (.iload_n 1, 1) := by decide +kernel
theorem dX11_isEmpty_11 : decode cX11_isEmpty 11 = .ok (.iload_n 2, 1) := by decide +kernel
theorem dX11_isEmpty_12 : decode cX11_isEmpty 12 = .ok (.invokestatic 108, 3) := by decide +kernel
theorem dX11_isEmpty_15 : decode cX11_isEmpty 15 = .ok (.invokevirtual 101, 3) := by decide +kernel
theorem dX11_isEmpty_18 : decode cX11_isEmpty 18 = .ok (.ifCond .ne 7, 3) := by decide +kernel
theorem dX11_isEmpty_21 : decode cX11_isEmpty 21 = .ok (.iconst 1, 1) := by decide +kernel
theorem dX11_isEmpty_22 : decode cX11_isEmpty 22 = .ok (.goto 4, 3) := by decide +kernel
theorem dX11_isEmpty_25 : decode cX11_isEmpty 25 = .ok (.iconst 0, 1) := by decide +kernel
theorem dX11_isEmpty_26 : decode cX11_isEmpty 26 = .ok (.ireturn, 1) := by decide +kernel
theorem dX11_isLiving_0 : decode cX11_isLiving 0 = .ok (.aload_n 0, 1) := by decide +kernel
theorem dX11_isLiving_1 : decode cX11_isLiving 1 = .ok (.iload_n 1, 1) := by decide +kernel
theorem dX11_isLiving_2 : decode cX11_isLiving 2 = .ok (.iload_n 2, 1) := by decide +kernel
theorem dX11_isLiving_3 : decode cX11_isLiving 3 = .ok (.invokevirtual 211, 3) := by decide +kernel
theorem dX11_isLiving_6 : decode cX11_isLiving 6 = .ok (.ifCond .eq 19, 3) := by decide +kernel
theorem dX11_isLiving_9 : decode cX11_isLiving 9 = .ok (.aload_n 0, 1) := by decide +kernel
theorem dX11_isLiving_10 : decode cX11_isLiving 10 = .ok (.iload_n 1, 1) := by decide +kernel
theorem dX11_isLiving_11 : decode cX11_isLiving 11 = .ok (.iload_n 2, 1) := by decide +kernel
theorem dX11_isLiving_12 : decode cX11_isLiving 12 = .ok (.invokestatic 108, 3) := by decide +kernel
theorem dX11_isLiving_15 : decode cX11_isLiving 15 = .ok (.invokevirtual 214, 3) := by decide +kernel
theorem dX11_isLiving_18 : decode cX11_isLiving 18 = .ok (.ifCond .eq 7, 3) := by decide +kernel
theorem dX11_isLiving_21 : decode cX11_isLiving 21 = .ok (.iconst 1, 1) := by decide +kernel
theorem dX11_isLiving_22 : decode cX11_isLiving 22 = .ok (.goto 4, 3) := by decide +kernel
theorem dX11_isLiving_25 : decode cX11_isLiving 25 = .ok (.iconst 0, 1) := by decide +kernel
theorem dX11_isLiving_26 : decode cX11_isLiving 26 = .ok (.ireturn, 1) := by decide +kernel
theorem dX11_isBleached_0 : decode cX11_isBleached 0 = .ok (.aload_n 0, 1) := by decide +kernel
theorem dX11_isBleached_1 : decode cX11_isBleached 1 = .ok (.iload_n 1, 1) := by decide +kernel
theorem dX11_isBleached_2 : decode cX11_isBleached 2 = .ok (.iload_n 2, 1) := by decide +kernel
theorem dX11_isBleached_3 : decode cX11_isBleached 3 = .ok (.invokevirtual 211, 3) := by decide +kernel
theorem dX11_isBleached_6 : decode cX11_isBleached 6 = .ok (.ifCond .eq 20, 3) := by decide +kernel
theorem dX11_isBleached_9 : decode cX11_isBleached 9 = .ok (.aload_n 0, 1) := by decide +kernel
theorem dX11_isBleached_10 : decode cX11_isBleached 10 = .ok (.iload_n 1, 1) := by decide +kernel
theorem dX11_isBleached_11 : decode cX11_isBleached 11 = .ok (.iload_n 2, 1) := by decide +kernel
theorem dX11_isBleached_12 : decode cX11_isBleached 12 = .ok (.invokestatic 108, 3) := by decide +kernel
theorem dX11_isBleached_15 : decode cX11_isBleached 15 = .ok (.invokevirtual 101, 3) := by decide +kernel
theorem dX11_isBleached_18 : decode cX11_isBleached 18 = .ok (.iconst 1, 1) := by decide +kernel
theorem dX11_isBleached_19 : decode cX11_isBleached 19 = .ok (.if_icmp .ne 7, 3) := by decide +kernel
theorem dX11_isBleached_22 : decode cX11_isBleached 22 = .ok (.iconst 1, 1) := by decide +kernel
theorem dX11_isBleached_23 : decode cX11_isBleached 23 = .ok (.goto 4, 3) := by decide +kernel
theorem dX11_isBleached_26 : decode cX11_isBleached 26 = .ok (.iconst 0, 1) := by decide +kernel
theorem dX11_isBleached_27 : decode cX11_isBleached 27 = .ok (.ireturn, 1) := by decide +kernel
theorem dX11_asksLiving_0 : decode cX11_asksLiving 0 = .ok (.aload_n 0, 1) := by decide +kernel
theorem dX11_asksLiving_1 : decode cX11_asksLiving 1 = .ok (.iload_n 1, 1) := by decide +kernel
theorem dX11_asksLiving_2 : decode cX11_asksLiving 2 = .ok (.iload_n 2, 1) := by decide +kernel
theorem dX11_asksLiving_3 : decode cX11_asksLiving 3 = .ok (.invokevirtual 211, 3) := by decide +kernel
theorem dX11_asksLiving_6 : decode cX11_asksLiving 6 = .ok (.ifCond .eq 21, 3) := by decide +kernel
theorem dX11_asksLiving_9 : decode cX11_asksLiving 9 = .ok (.aload_n 0, 1) := by decide +kernel
theorem dX11_asksLiving_10 : decode cX11_asksLiving 10 = .ok (.iload_n 1, 1) := by decide +kernel
theorem dX11_asksLiving_11 : decode cX11_asksLiving 11 = .ok (.iload_n 2, 1) := by decide +kernel
theorem dX11_asksLiving_12 : decode cX11_asksLiving 12 = .ok (.invokestatic 108, 3) := by decide +kernel
theorem dX11_asksLiving_15 : decode cX11_asksLiving 15 = .ok (.invokevirtual 214, 3) := by decide +kernel
theorem dX11_asksLiving_18 : decode cX11_asksLiving 18 = .ok (.ifCond .ne 9, 3) := by decide +kernel
theorem dX11_asksLiving_21 : decode cX11_asksLiving 21 = .ok (.aload_n 0, 1) := by decide +kernel
theorem dX11_asksLiving_22 : decode cX11_asksLiving 22 = .ok (.iconst 2, 1) := by decide +kernel
theorem dX11_asksLiving_23 : decode cX11_asksLiving 23 = .ok (.invokevirtual 75, 3) := by decide +kernel
theorem dX11_asksLiving_26 : decode cX11_asksLiving 26 = .ok (.pop, 1) := by decide +kernel
theorem dX11_asksLiving_27 : decode cX11_asksLiving 27 = .ok (.aload_n 0, 1) := by decide +kernel
theorem dX11_asksLiving_28 : decode cX11_asksLiving 28 = .ok (.getfield 66, 3) := by decide +kernel
theorem dX11_asksLiving_31 : decode cX11_asksLiving 31 = .ok (.ifCond .ne 7, 3) := by decide +kernel
theorem dX11_asksLiving_34 : decode cX11_asksLiving 34 = .ok (.iconst 1, 1) := by decide +kernel
theorem dX11_asksLiving_35 : decode cX11_asksLiving 35 = .ok (.goto 4, 3) := by decide +kernel
theorem dX11_asksLiving_38 : decode cX11_asksLiving 38 = .ok (.iconst 0, 1) := by decide +kernel
theorem dX11_asksLiving_39 : decode cX11_asksLiving 39 = .ok (.ireturn, 1) := by decide +kernel
theorem dX11_colourAt_0 : decode cX11_colourAt 0 = .ok (.aload_n 0, 1) := by decide +kernel
theorem dX11_colourAt_1 : decode cX11_colourAt 1 = .ok (.iload_n 1, 1) := by decide +kernel
theorem dX11_colourAt_2 : decode cX11_colourAt 2 = .ok (.iload_n 2, 1) := by decide +kernel
theorem dX11_colourAt_3 : decode cX11_colourAt 3 = .ok (.invokevirtual 217, 3) := by decide +kernel
theorem dX11_colourAt_6 : decode cX11_colourAt 6 = .ok (.ifCond .eq 19, 3) := by decide +kernel
theorem dX11_colourAt_9 : decode cX11_colourAt 9 = .ok (.aload_n 0, 1) := by decide +kernel
theorem dX11_colourAt_10 : decode cX11_colourAt 10 = .ok (.iload_n 1, 1) := by decide +kernel
theorem dX11_colourAt_11 : decode cX11_colourAt 11 = .ok (.iload_n 2, 1) := by decide +kernel
theorem dX11_colourAt_12 : decode cX11_colourAt 12 = .ok (.invokestatic 108, 3) := by decide +kernel
theorem dX11_colourAt_15 : decode cX11_colourAt 15 = .ok (.invokevirtual 101, 3) := by decide +kernel
theorem dX11_colourAt_18 : decode cX11_colourAt 18 = .ok (.invokestatic 112, 3) := by decide +kernel
theorem dX11_colourAt_21 : decode cX11_colourAt 21 = .ok (.i2c, 1) := by decide +kernel
theorem dX11_colourAt_22 : decode cX11_colourAt 22 = .ok (.goto 5, 3) := by decide +kernel
theorem dX11_colourAt_25 : decode cX11_colourAt 25 = .ok (.ldc 220, 2) := by decide +kernel
theorem dX11_colourAt_27 : decode cX11_colourAt 27 = .ok (.ireturn, 1) := by decide +kernel
theorem dX11_ageAt_0 : decode cX11_ageAt 0 = .ok (.aload_n 0, 1) := by decide +kernel
theorem dX11_ageAt_1 : decode cX11_ageAt 1 = .ok (.iload_n 1, 1) := by decide +kernel
theorem dX11_ageAt_2 : decode cX11_ageAt 2 = .ok (.iload_n 2, 1) := by decide +kernel
theorem dX11_ageAt_3 : decode cX11_ageAt 3 = .ok (.invokevirtual 217, 3) := by decide +kernel
theorem dX11_ageAt_6 : decode cX11_ageAt 6 = .ok (.ifCond .eq 21, 3) := by decide +kernel
theorem dX11_ageAt_9 : decode cX11_ageAt 9 = .ok (.aload_n 0, 1) := by decide +kernel
theorem dX11_ageAt_10 : decode cX11_ageAt 10 = .ok (.iload_n 1, 1) := by decide +kernel
theorem dX11_ageAt_11 : decode cX11_ageAt 11 = .ok (.iload_n 2, 1) := by decide +kernel
theorem dX11_ageAt_12 : decode cX11_ageAt 12 = .ok (.invokestatic 108, 3) := by decide +kernel
theorem dX11_ageAt_15 : decode cX11_ageAt 15 = .ok (.invokevirtual 101, 3) := by decide +kernel
theorem dX11_ageAt_18 : decode cX11_ageAt 18 = .ok (.bipush 10, 2) := by decide +kernel
theorem dX11_ageAt_20 : decode cX11_ageAt 20 = .ok (.isub, 1) := by decide +kernel
theorem dX11_ageAt_21 : decode cX11_ageAt 21 = .ok (.bipush 10, 2) := by decide +kernel
theorem dX11_ageAt_23 : decode cX11_ageAt 23 = .ok (.irem, 1) := by decide +kernel
theorem dX11_ageAt_24 : decode cX11_ageAt 24 = .ok (.goto 4, 3) := by decide +kernel
theorem dX11_ageAt_27 : decode cX11_ageAt 27 = .ok (.iconst (-1), 1) := by decide +kernel
theorem dX11_ageAt_28 : decode cX11_ageAt 28 = .ok (.ireturn, 1) := by decide +kernel
theorem dX11_neighbours_0 : decode cX11_neighbours 0 = .ok (.aload_n 0, 1) := by decide +kernel
theorem dX11_neighbours_1 : decode cX11_neighbours 1 = .ok (.iload_n 1, 1) := by decide +kernel
theorem dX11_neighbours_2 : decode cX11_neighbours 2 = .ok (.iload_n 2, 1) := by decide +kernel
theorem dX11_neighbours_3 : decode cX11_neighbours 3 = .ok (.invokevirtual 211, 3) := by decide +kernel
theorem dX11_neighbours_6 : decode cX11_neighbours 6 = .ok (.ifCond .eq 16, 3) := by decide +kernel
theorem dX11_neighbours_9 : decode cX11_neighbours 9 = .ok (.aload_n 0, 1) := by decide +kernel
theorem dX11_neighbours_10 : decode cX11_neighbours 10 = .ok (.iload_n 1, 1) := by decide +kernel
theorem dX11_neighbours_11 : decode cX11_neighbours 11 = .ok (.iload_n 2, 1) := by decide +kernel
theorem dX11_neighbours_12 : decode cX11_neighbours 12 = .ok (.invokestatic 108, 3) := by decide +kernel
theorem dX11_neighbours_15 : decode cX11_neighbours 15 = .ok (.iconst 0, 1) := by decide +kernel
theorem dX11_neighbours_16 : decode cX11_neighbours 16 = .ok (.invokevirtual 115, 3) := by decide +kernel
theorem dX11_neighbours_19 : decode cX11_neighbours 19 = .ok (.goto 4, 3) := by decide +kernel
theorem dX11_neighbours_22 : decode cX11_neighbours 22 = .ok (.iconst (-1), 1) := by decide +kernel
theorem dX11_neighbours_23 : decode cX11_neighbours 23 = .ok (.ireturn, 1) := by decide +kernel
theorem dX11_neighboursOf_0 : decode cX11_neighboursOf 0 = .ok (.aload_n 0, 1) := by decide +kernel
theorem dX11_neighboursOf_1 : decode cX11_neighboursOf 1 = .ok (.iload_n 1, 1) := by decide +kernel
theorem dX11_neighboursOf_2 : decode cX11_neighboursOf 2 = .ok (.iload_n 2, 1) := by decide +kernel
theorem dX11_neighboursOf_3 : decode cX11_neighboursOf 3 = .ok (.invokevirtual 211, 3) := by decide +kernel
theorem dX11_neighboursOf_6 : decode cX11_neighboursOf 6 = .ok (.ifCond .ne 5, 3) := by decide +kernel
theorem dX11_neighboursOf_9 : decode cX11_neighboursOf 9 = .ok (.iconst (-1), 1) := by decide +kernel
theorem dX11_neighboursOf_10 : decode cX11_neighboursOf 10 = .ok (.ireturn, 1) := by decide +kernel
theorem dX11_neighboursOf_11 : decode cX11_neighboursOf 11 = .ok (.iload_n 3, 1) := by decide +kernel
theorem dX11_neighboursOf_12 : decode cX11_neighboursOf 12 = .ok (.invokestatic 127, 3) := by decide +kernel
theorem dX11_neighboursOf_15 : decode cX11_neighboursOf 15 = .ok (.ifCond .eq 16, 3) := by decide +kernel
theorem dX11_neighboursOf_18 : decode cX11_neighboursOf 18 = .ok (.aload_n 0, 1) := by decide +kernel
theorem dX11_neighboursOf_19 : decode cX11_neighboursOf 19 = .ok (.iload_n 1, 1) := by decide +kernel
theorem dX11_neighboursOf_20 : decode cX11_neighboursOf 20 = .ok (.iload_n 2, 1) := by decide +kernel
theorem dX11_neighboursOf_21 : decode cX11_neighboursOf 21 = .ok (.invokestatic 108, 3) := by decide +kernel
theorem dX11_neighboursOf_24 : decode cX11_neighboursOf 24 = .ok (.iload_n 3, 1) := by decide +kernel
theorem dX11_neighboursOf_25 : decode cX11_neighboursOf 25 = .ok (.invokevirtual 115, 3) := by decide +kernel
theorem dX11_neighboursOf_28 : decode cX11_neighboursOf 28 = .ok (.goto 8, 3) := by decide +kernel
theorem dX11_neighboursOf_31 : decode cX11_neighboursOf 31 = .ok (.aload_n 0, 1) := by decide +kernel
theorem dX11_neighboursOf_32 : decode cX11_neighboursOf 32 = .ok (.iconst 2, 1) := by decide +kernel
theorem dX11_neighboursOf_33 : decode cX11_neighboursOf 33 = .ok (.invokevirtual 75, 3) := by decide +kernel
theorem dX11_neighboursOf_36 : decode cX11_neighboursOf 36 = .ok (.ireturn, 1) := by decide +kernel
theorem dX11_birthColour_0 : decode cX11_birthColour 0 = .ok (.aload_n 0, 1) := by decide +kernel
theorem dX11_birthColour_1 : decode cX11_birthColour 1 = .ok (.iload_n 1, 1) := by decide +kernel
theorem dX11_birthColour_2 : decode cX11_birthColour 2 = .ok (.iload_n 2, 1) := by decide +kernel
theorem dX11_birthColour_3 : decode cX11_birthColour 3 = .ok (.invokevirtual 211, 3) := by decide +kernel
theorem dX11_birthColour_6 : decode cX11_birthColour 6 = .ok (.ifCond .ne 6, 3) := by decide +kernel
theorem dX11_birthColour_9 : decode cX11_birthColour 9 = .ok (.ldc 220, 2) := by decide +kernel
theorem dX11_birthColour_11 : decode cX11_birthColour 11 = .ok (.ireturn, 1) := by decide +kernel
theorem dX11_birthColour_12 : decode cX11_birthColour 12 = .ok (.iload_n 1, 1) := by decide +kernel
theorem dX11_birthColour_13 : decode cX11_birthColour 13 = .ok (.iload_n 2, 1) := by decide +kernel
theorem dX11_birthColour_14 : decode cX11_birthColour 14 = .ok (.invokestatic 108, 3) := by decide +kernel
theorem dX11_birthColour_17 : decode cX11_birthColour 17 = .ok (.istore_n 3, 1) := by decide +kernel
theorem dX11_birthColour_18 : decode cX11_birthColour 18 = .ok (.aload_n 0, 1) := by decide +kernel
theorem dX11_birthColour_19 : decode cX11_birthColour 19 = .ok (.iload_n 3, 1) := by decide +kernel
theorem dX11_birthColour_20 : decode cX11_birthColour 20 = .ok (.iconst 0, 1) := by decide +kernel
theorem dX11_birthColour_21 : decode cX11_birthColour 21 = .ok (.invokevirtual 115, 3) := by decide +kernel
theorem dX11_birthColour_24 : decode cX11_birthColour 24 = .ok (.ifCond .ne 12, 3) := by decide +kernel
theorem dX11_birthColour_27 : decode cX11_birthColour 27 = .ok (.aload_n 0, 1) := by decide +kernel
theorem dX11_birthColour_28 : decode cX11_birthColour 28 = .ok (.iconst 2, 1) := by decide +kernel
theorem dX11_birthColour_29 : decode cX11_birthColour 29 = .ok (.invokevirtual 75, 3) := by decide +kernel
theorem dX11_birthColour_32 : decode cX11_birthColour 32 = .ok (.i2c, 1) := by decide +kernel
theorem dX11_birthColour_33 : decode cX11_birthColour 33 = .ok (.goto 9, 3) := by decide +kernel
theorem dX11_birthColour_36 : decode cX11_birthColour 36 = .ok (.aload_n 0, 1) := by decide +kernel
theorem dX11_birthColour_37 : decode cX11_birthColour 37 = .ok (.iload_n 3, 1) := by decide +kernel
theorem dX11_birthColour_38 : decode cX11_birthColour 38 = .ok (.invokevirtual 182, 3) := by decide +kernel
theorem dX11_birthColour_41 : decode cX11_birthColour 41 = .ok (.i2c, 1) := by decide +kernel
theorem dX11_birthColour_42 : decode cX11_birthColour 42 = .ok (.ireturn, 1) := by decide +kernel
theorem dX11_livingCount_0 : decode cX11_livingCount 0 = .ok (.aload_n 0, 1) := by decide +kernel
theorem dX11_livingCount_1 : decode cX11_livingCount 1 = .ok (.iconst 0, 1) := by decide +kernel
theorem dX11_livingCount_2 : decode cX11_livingCount 2 = .ok (.putfield 66, 3) := by decide +kernel
theorem dX11_livingCount_5 : decode cX11_livingCount 5 = .ok (.aload_n 0, 1) := by decide +kernel
theorem dX11_livingCount_6 : decode cX11_livingCount 6 = .ok (.invokevirtual 138, 3) := by decide +kernel
theorem dX11_livingCount_9 : decode cX11_livingCount 9 = .ok (.ireturn, 1) := by decide +kernel
theorem dX11_bleachedCount_0 : decode cX11_bleachedCount 0 = .ok (.aload_n 0, 1) := by decide +kernel
theorem dX11_bleachedCount_1 : decode cX11_bleachedCount 1 = .ok (.iconst 0, 1) := by decide +kernel
theorem dX11_bleachedCount_2 : decode cX11_bleachedCount 2 = .ok (.putfield 66, 3) := by decide +kernel
theorem dX11_bleachedCount_5 : decode cX11_bleachedCount 5 = .ok (.aload_n 0, 1) := by decide +kernel
theorem dX11_bleachedCount_6 : decode cX11_bleachedCount 6 = .ok (.invokevirtual 154, 3) := by decide +kernel
theorem dX11_bleachedCount_9 : decode cX11_bleachedCount 9 = .ok (.ireturn, 1) := by decide +kernel
theorem dX11_countOf_0 : decode cX11_countOf 0 = .ok (.aload_n 0, 1) := by decide +kernel
theorem dX11_countOf_1 : decode cX11_countOf 1 = .ok (.iconst 0, 1) := by decide +kernel
theorem dX11_countOf_2 : decode cX11_countOf 2 = .ok (.putfield 66, 3) := by decide +kernel
theorem dX11_countOf_5 : decode cX11_countOf 5 = .ok (.iload_n 1, 1) := by decide +kernel
theorem dX11_countOf_6 : decode cX11_countOf 6 = .ok (.invokestatic 127, 3) := by decide +kernel
theorem dX11_countOf_9 : decode cX11_countOf 9 = .ok (.ifCond .eq 21, 3) := by decide +kernel
theorem dX11_countOf_12 : decode cX11_countOf 12 = .ok (.aload_n 0, 1) := by decide +kernel
theorem dX11_countOf_13 : decode cX11_countOf 13 = .ok (.iload_n 1, 1) := by decide +kernel
theorem dX11_countOf_14 : decode cX11_countOf 14 = .ok (.iconst 0, 1) := by decide +kernel
theorem dX11_countOf_15 : decode cX11_countOf 15 = .ok (.invokestatic 135, 3) := by decide +kernel
theorem dX11_countOf_18 : decode cX11_countOf 18 = .ok (.iload_n 1, 1) := by decide +kernel
theorem dX11_countOf_19 : decode cX11_countOf 19 = .ok (.bipush 9, 2) := by decide +kernel
theorem dX11_countOf_21 : decode cX11_countOf 21 = .ok (.invokestatic 135, 3) := by decide +kernel
theorem dX11_countOf_24 : decode cX11_countOf 24 = .ok (.invokevirtual 118, 3) := by decide +kernel
theorem dX11_countOf_27 : decode cX11_countOf 27 = .ok (.goto 8, 3) := by decide +kernel
theorem dX11_countOf_30 : decode cX11_countOf 30 = .ok (.aload_n 0, 1) := by decide +kernel
theorem dX11_countOf_31 : decode cX11_countOf 31 = .ok (.iconst 1, 1) := by decide +kernel
theorem dX11_countOf_32 : decode cX11_countOf 32 = .ok (.invokevirtual 75, 3) := by decide +kernel
theorem dX11_countOf_35 : decode cX11_countOf 35 = .ok (.ireturn, 1) := by decide +kernel
theorem dX11_counts_0 : decode cX11_counts 0 = .ok (.iload_n 1, 1) := by decide +kernel
theorem dX11_counts_1 : decode cX11_counts 1 = .ok (.iload_n 2, 1) := by decide +kernel
theorem dX11_counts_2 : decode cX11_counts 2 = .ok (.invokestatic 104, 3) := by decide +kernel
theorem dX11_counts_5 : decode cX11_counts 5 = .ok (.ifCond .eq 39, 3) := by decide +kernel
theorem dX11_counts_8 : decode cX11_counts 8 = .ok (.aload_n 0, 1) := by decide +kernel
theorem dX11_counts_9 : decode cX11_counts 9 = .ok (.iload_n 1, 1) := by decide +kernel
theorem dX11_counts_10 : decode cX11_counts 10 = .ok (.iload_n 2, 1) := by decide +kernel
theorem dX11_counts_11 : decode cX11_counts 11 = .ok (.invokestatic 108, 3) := by decide +kernel
theorem dX11_counts_14 : decode cX11_counts 14 = .ok (.invokevirtual 214, 3) := by decide +kernel
theorem dX11_counts_17 : decode cX11_counts 17 = .ok (.ifCond .eq 27, 3) := by decide +kernel
theorem dX11_counts_20 : decode cX11_counts 20 = .ok (.iload_n 3, 1) := by decide +kernel
theorem dX11_counts_21 : decode cX11_counts 21 = .ok (.ifCond .eq 19, 3) := by decide +kernel
theorem dX11_counts_24 : decode cX11_counts 24 = .ok (.aload_n 0, 1) := by decide +kernel
theorem dX11_counts_25 : decode cX11_counts 25 = .ok (.iload_n 1, 1) := by decide +kernel
theorem dX11_counts_26 : decode cX11_counts 26 = .ok (.iload_n 2, 1) := by decide +kernel
theorem dX11_counts_27 : decode cX11_counts 27 = .ok (.invokestatic 108, 3) := by decide +kernel
theorem dX11_counts_30 : decode cX11_counts 30 = .ok (.invokevirtual 101, 3) := by decide +kernel
theorem dX11_counts_33 : decode cX11_counts 33 = .ok (.invokestatic 112, 3) := by decide +kernel
theorem dX11_counts_36 : decode cX11_counts 36 = .ok (.iload_n 3, 1) := by decide +kernel
theorem dX11_counts_37 : decode cX11_counts 37 = .ok (.if_icmp .ne 7, 3) := by decide +kernel
theorem dX11_counts_40 : decode cX11_counts 40 = .ok (.iconst 1, 1) := by decide +kernel
theorem dX11_counts_41 : decode cX11_counts 41 = .ok (.goto 4, 3) := by decide +kernel
theorem dX11_counts_44 : decode cX11_counts 44 = .ok (.iconst 0, 1) := by decide +kernel
theorem dX11_counts_45 : decode cX11_counts 45 = .ok (.ireturn, 1) := by decide +kernel
theorem dX11_finds_0 : decode cX11_finds 0 = .ok (.iconst 0, 1) := by decide +kernel
theorem dX11_finds_1 : decode cX11_finds 1 = .ok (.istore_n 2, 1) := by decide +kernel
theorem dX11_finds_2 : decode cX11_finds 2 = .ok (.iload_n 2, 1) := by decide +kernel
theorem dX11_finds_3 : decode cX11_finds 3 = .ok (.bipush 64, 2) := by decide +kernel
theorem dX11_finds_5 : decode cX11_finds 5 = .ok (.if_icmp .ge 16, 3) := by decide +kernel
theorem dX11_finds_8 : decode cX11_finds 8 = .ok (.aload_n 0, 1) := by decide +kernel
theorem dX11_finds_9 : decode cX11_finds 9 = .ok (.getfield 41, 3) := by decide +kernel
theorem dX11_finds_12 : decode cX11_finds 12 = .ok (.iload_n 2, 1) := by decide +kernel
theorem dX11_finds_13 : decode cX11_finds 13 = .ok (.iconst 0, 1) := by decide +kernel
theorem dX11_finds_14 : decode cX11_finds 14 = .ok (.iastore, 1) := by decide +kernel
theorem dX11_finds_15 : decode cX11_finds 15 = .ok (.iinc 2 1, 3) := by decide +kernel
theorem dX11_finds_18 : decode cX11_finds 18 = .ok (.goto (-16), 3) := by decide +kernel
theorem dX11_finds_21 : decode cX11_finds 21 = .ok (.iconst 0, 1) := by decide +kernel
theorem dX11_finds_22 : decode cX11_finds 22 = .ok (.istore_n 2, 1) := by decide +kernel
theorem dX11_finds_23 : decode cX11_finds 23 = .ok (.iconst 0, 1) := by decide +kernel
theorem dX11_finds_24 : decode cX11_finds 24 = .ok (.istore_n 3, 1) := by decide +kernel
theorem dX11_finds_25 : decode cX11_finds 25 = .ok (.iload_n 3, 1) := by decide +kernel
theorem dX11_finds_26 : decode cX11_finds 26 = .ok (.bipush 64, 2) := by decide +kernel
theorem dX11_finds_28 : decode cX11_finds 28 = .ok (.if_icmp .ge 50, 3) := by decide +kernel
theorem dX11_finds_31 : decode cX11_finds 31 = .ok (.aload_n 0, 1) := by decide +kernel
theorem dX11_finds_32 : decode cX11_finds 32 = .ok (.getfield 41, 3) := by decide +kernel
theorem dX11_finds_35 : decode cX11_finds 35 = .ok (.iload_n 3, 1) := by decide +kernel
theorem dX11_finds_36 : decode cX11_finds 36 = .ok (.iaload, 1) := by decide +kernel
theorem dX11_finds_37 : decode cX11_finds 37 = .ok (.ifCond .ne 35, 3) := by decide +kernel
theorem dX11_finds_40 : decode cX11_finds 40 = .ok (.aload_n 0, 1) := by decide +kernel
theorem dX11_finds_41 : decode cX11_finds 41 = .ok (.iload_n 3, 1) := by decide +kernel
theorem dX11_finds_42 : decode cX11_finds 42 = .ok (.bipush 8, 2) := by decide +kernel
theorem dX11_finds_44 : decode cX11_finds 44 = .ok (.idiv, 1) := by decide +kernel
theorem dX11_finds_45 : decode cX11_finds 45 = .ok (.iload_n 3, 1) := by decide +kernel
theorem dX11_finds_46 : decode cX11_finds 46 = .ok (.bipush 8, 2) := by decide +kernel
theorem dX11_finds_48 : decode cX11_finds 48 = .ok (.irem, 1) := by decide +kernel
theorem dX11_finds_49 : decode cX11_finds 49 = .ok (.iload_n 1, 1) := by decide +kernel
theorem dX11_finds_50 : decode cX11_finds 50 = .ok (.invokevirtual 221, 3) := by decide +kernel
theorem dX11_finds_53 : decode cX11_finds 53 = .ok (.ifCond .eq 19, 3) := by decide +kernel
theorem dX11_finds_56 : decode cX11_finds 56 = .ok (.iinc 2 1, 3) := by decide +kernel
theorem dX11_finds_59 : decode cX11_finds 59 = .ok (.aload_n 0, 1) := by decide +kernel
theorem dX11_finds_60 : decode cX11_finds 60 = .ok (.getfield 47, 3) := by decide +kernel
theorem dX11_finds_63 : decode cX11_finds 63 = .ok (.iload_n 2, 1) := by decide +kernel
theorem dX11_finds_64 : decode cX11_finds 64 = .ok (.aload_n 0, 1) := by decide +kernel
theorem dX11_finds_65 : decode cX11_finds 65 = .ok (.iload_n 3, 1) := by decide +kernel
theorem dX11_finds_66 : decode cX11_finds 66 = .ok (.iload_n 2, 1) := by decide +kernel
theorem dX11_finds_67 : decode cX11_finds 67 = .ok (.iload_n 1, 1) := by decide +kernel
theorem dX11_finds_68 : decode cX11_finds 68 = .ok (.invokevirtual 225, 3) := by decide +kernel
theorem dX11_finds_71 : decode cX11_finds 71 = .ok (.iastore, 1) := by decide +kernel
theorem dX11_finds_72 : decode cX11_finds 72 = .ok (.iinc 3 1, 3) := by decide +kernel
theorem dX11_finds_75 : decode cX11_finds 75 = .ok (.goto (-50), 3) := by decide +kernel
theorem dX11_finds_78 : decode cX11_finds 78 = .ok (.iload_n 2, 1) := by decide +kernel
theorem dX11_finds_79 : decode cX11_finds 79 = .ok (.ireturn, 1) := by decide +kernel
theorem dX11_spreads_0 : decode cX11_spreads 0 = .ok (.iconst 0, 1) := by decide +kernel
theorem dX11_spreads_1 : decode cX11_spreads 1 = .ok (.istore 4, 2) := by decide +kernel
theorem dX11_spreads_3 : decode cX11_spreads 3 = .ok (.iconst 1, 1) := by decide +kernel
theorem dX11_spreads_4 : decode cX11_spreads 4 = .ok (.istore 5, 2) := by decide +kernel
theorem dX11_spreads_6 : decode cX11_spreads 6 = .ok (.aload_n 0, 1) := by decide +kernel
theorem dX11_spreads_7 : decode cX11_spreads 7 = .ok (.getfield 44, 3) := by decide +kernel
theorem dX11_spreads_10 : decode cX11_spreads 10 = .ok (.iconst 0, 1) := by decide +kernel
theorem dX11_spreads_11 : decode cX11_spreads 11 = .ok (.iload_n 1, 1) := by decide +kernel
theorem dX11_spreads_12 : decode cX11_spreads 12 = .ok (.iastore, 1) := by decide +kernel
theorem dX11_spreads_13 : decode cX11_spreads 13 = .ok (.aload_n 0, 1) := by decide +kernel
theorem dX11_spreads_14 : decode cX11_spreads 14 = .ok (.getfield 41, 3) := by decide +kernel
theorem dX11_spreads_17 : decode cX11_spreads 17 = .ok (.iload_n 1, 1) := by decide +kernel
theorem dX11_spreads_18 : decode cX11_spreads 18 = .ok (.iload_n 2, 1) := by decide +kernel
theorem dX11_spreads_19 : decode cX11_spreads 19 = .ok (.iastore, 1) := by decide +kernel
theorem dX11_spreads_20 : decode cX11_spreads 20 = .ok (.iload 4, 2) := by decide +kernel
theorem dX11_spreads_22 : decode cX11_spreads 22 = .ok (.iload 5, 2) := by decide +kernel
theorem dX11_spreads_24 : decode cX11_spreads 24 = .ok (.if_icmp .ge 156, 3) := by decide +kernel
theorem dX11_spreads_27 : decode cX11_spreads 27 = .ok (.aload_n 0, 1) := by decide +kernel
theorem dX11_spreads_28 : decode cX11_spreads 28 = .ok (.getfield 44, 3) := by decide +kernel
theorem dX11_spreads_31 : decode cX11_spreads 31 = .ok (.iload 4, 2) := by decide +kernel
theorem dX11_spreads_33 : decode cX11_spreads 33 = .ok (.iaload, 1) := by decide +kernel
theorem dX11_spreads_34 : decode cX11_spreads 34 = .ok (.bipush 8, 2) := by decide +kernel
theorem dX11_spreads_36 : decode cX11_spreads 36 = .ok (.idiv, 1) := by decide +kernel
theorem dX11_spreads_37 : decode cX11_spreads 37 = .ok (.istore 6, 2) := by decide +kernel
theorem dX11_spreads_39 : decode cX11_spreads 39 = .ok (.aload_n 0, 1) := by decide +kernel
theorem dX11_spreads_40 : decode cX11_spreads 40 = .ok (.getfield 44, 3) := by decide +kernel
theorem dX11_spreads_43 : decode cX11_spreads 43 = .ok (.iload 4, 2) := by decide +kernel
theorem dX11_spreads_45 : decode cX11_spreads 45 = .ok (.iaload, 1) := by decide +kernel
theorem dX11_spreads_46 : decode cX11_spreads 46 = .ok (.bipush 8, 2) := by decide +kernel
theorem dX11_spreads_48 : decode cX11_spreads 48 = .ok (.irem, 1) := by decide +kernel
theorem dX11_spreads_49 : decode cX11_spreads 49 = .ok (.istore 7, 2) := by decide +kernel
theorem dX11_spreads_51 : decode cX11_spreads 51 = .ok (.iinc 4 1, 3) := by decide +kernel
theorem dX11_spreads_54 : decode cX11_spreads 54 = .ok (.iconst 0, 1) := by decide +kernel
theorem dX11_spreads_55 : decode cX11_spreads 55 = .ok (.istore 8, 2) := by decide +kernel
theorem dX11_spreads_57 : decode cX11_spreads 57 = .ok (.iload 8, 2) := by decide +kernel
theorem dX11_spreads_59 : decode cX11_spreads 59 = .ok (.iconst 4, 1) := by decide +kernel
theorem dX11_spreads_60 : decode cX11_spreads 60 = .ok (.if_icmp .ge 117, 3) := by decide +kernel
theorem dX11_spreads_63 : decode cX11_spreads 63 = .ok (.iload 6, 2) := by decide +kernel
theorem dX11_spreads_65 : decode cX11_spreads 65 = .ok (.iload 8, 2) := by decide +kernel
theorem dX11_spreads_67 : decode cX11_spreads 67 = .ok (.ifCond .ne 7, 3) := by decide +kernel
theorem dX11_spreads_70 : decode cX11_spreads 70 = .ok (.iconst (-1), 1) := by decide +kernel
theorem dX11_spreads_71 : decode cX11_spreads 71 = .ok (.goto 14, 3) := by decide +kernel
theorem dX11_spreads_74 : decode cX11_spreads 74 = .ok (.iload 8, 2) := by decide +kernel
theorem dX11_spreads_76 : decode cX11_spreads 76 = .ok (.iconst 1, 1) := by decide +kernel
theorem dX11_spreads_77 : decode cX11_spreads 77 = .ok (.if_icmp .ne 7, 3) := by decide +kernel
theorem dX11_spreads_80 : decode cX11_spreads 80 = .ok (.iconst 1, 1) := by decide +kernel
theorem dX11_spreads_81 : decode cX11_spreads 81 = .ok (.goto 4, 3) := by decide +kernel
theorem dX11_spreads_84 : decode cX11_spreads 84 = .ok (.iconst 0, 1) := by decide +kernel
theorem dX11_spreads_85 : decode cX11_spreads 85 = .ok (.iadd, 1) := by decide +kernel
theorem dX11_spreads_86 : decode cX11_spreads 86 = .ok (.istore 9, 2) := by decide +kernel
theorem dX11_spreads_88 : decode cX11_spreads 88 = .ok (.iload 7, 2) := by decide +kernel
theorem dX11_spreads_90 : decode cX11_spreads 90 = .ok (.iload 8, 2) := by decide +kernel
theorem dX11_spreads_92 : decode cX11_spreads 92 = .ok (.iconst 2, 1) := by decide +kernel
theorem dX11_spreads_93 : decode cX11_spreads 93 = .ok (.if_icmp .ne 7, 3) := by decide +kernel
theorem dX11_spreads_96 : decode cX11_spreads 96 = .ok (.iconst (-1), 1) := by decide +kernel
theorem dX11_spreads_97 : decode cX11_spreads 97 = .ok (.goto 14, 3) := by decide +kernel
theorem dX11_spreads_100 : decode cX11_spreads 100 = .ok (.iload 8, 2) := by decide +kernel
theorem dX11_spreads_102 : decode cX11_spreads 102 = .ok (.iconst 3, 1) := by decide +kernel
theorem dX11_spreads_103 : decode cX11_spreads 103 = .ok (.if_icmp .ne 7, 3) := by decide +kernel
theorem dX11_spreads_106 : decode cX11_spreads 106 = .ok (.iconst 1, 1) := by decide +kernel
theorem dX11_spreads_107 : decode cX11_spreads 107 = .ok (.goto 4, 3) := by decide +kernel
theorem dX11_spreads_110 : decode cX11_spreads 110 = .ok (.iconst 0, 1) := by decide +kernel
theorem dX11_spreads_111 : decode cX11_spreads 111 = .ok (.iadd, 1) := by decide +kernel
theorem dX11_spreads_112 : decode cX11_spreads 112 = .ok (.istore 10, 2) := by decide +kernel
theorem dX11_spreads_114 : decode cX11_spreads 114 = .ok (.aload_n 0, 1) := by decide +kernel
theorem dX11_spreads_115 : decode cX11_spreads 115 = .ok (.iload 9, 2) := by decide +kernel
theorem dX11_spreads_117 : decode cX11_spreads 117 = .ok (.iload 10, 2) := by decide +kernel
theorem dX11_spreads_119 : decode cX11_spreads 119 = .ok (.iload_n 3, 1) := by decide +kernel
theorem dX11_spreads_120 : decode cX11_spreads 120 = .ok (.invokevirtual 221, 3) := by decide +kernel
theorem dX11_spreads_123 : decode cX11_spreads 123 = .ok (.ifCond .eq 48, 3) := by decide +kernel
theorem dX11_spreads_126 : decode cX11_spreads 126 = .ok (.aload_n 0, 1) := by decide +kernel
theorem dX11_spreads_127 : decode cX11_spreads 127 = .ok (.getfield 41, 3) := by decide +kernel
theorem dX11_spreads_130 : decode cX11_spreads 130 = .ok (.iload 9, 2) := by decide +kernel
theorem dX11_spreads_132 : decode cX11_spreads 132 = .ok (.iload 10, 2) := by decide +kernel
theorem dX11_spreads_134 : decode cX11_spreads 134 = .ok (.invokestatic 108, 3) := by decide +kernel
theorem dX11_spreads_137 : decode cX11_spreads 137 = .ok (.iaload, 1) := by decide +kernel
theorem dX11_spreads_138 : decode cX11_spreads 138 = .ok (.ifCond .ne 33, 3) := by decide +kernel
theorem dX11_spreads_141 : decode cX11_spreads 141 = .ok (.aload_n 0, 1) := by decide +kernel
theorem dX11_spreads_142 : decode cX11_spreads 142 = .ok (.getfield 41, 3) := by decide +kernel
theorem dX11_spreads_145 : decode cX11_spreads 145 = .ok (.iload 9, 2) := by decide +kernel
theorem dX11_spreads_147 : decode cX11_spreads 147 = .ok (.iload 10, 2) := by decide +kernel
theorem dX11_spreads_149 : decode cX11_spreads 149 = .ok (.invokestatic 108, 3) := by decide +kernel
theorem dX11_spreads_152 : decode cX11_spreads 152 = .ok (.iload_n 2, 1) := by decide +kernel
theorem dX11_spreads_153 : decode cX11_spreads 153 = .ok (.iastore, 1) := by decide +kernel
theorem dX11_spreads_154 : decode cX11_spreads 154 = .ok (.aload_n 0, 1) := by decide +kernel
theorem dX11_spreads_155 : decode cX11_spreads 155 = .ok (.getfield 44, 3) := by decide +kernel
theorem dX11_spreads_158 : decode cX11_spreads 158 = .ok (.iload 5, 2) := by decide +kernel
theorem dX11_spreads_160 : decode cX11_spreads 160 = .ok (.iload 9, 2) := by decide +kernel
theorem dX11_spreads_162 : decode cX11_spreads 162 = .ok (.iload 10, 2) := by decide +kernel
theorem dX11_spreads_164 : decode cX11_spreads 164 = .ok (.invokestatic 108, 3) := by decide +kernel
theorem dX11_spreads_167 : decode cX11_spreads 167 = .ok (.iastore, 1) := by decide +kernel
theorem dX11_spreads_168 : decode cX11_spreads 168 = .ok (.iinc 5 1, 3) := by decide +kernel
theorem dX11_spreads_171 : decode cX11_spreads 171 = .ok (.iinc 8 1, 3) := by decide +kernel
theorem dX11_spreads_174 : decode cX11_spreads 174 = .ok (.goto (-117), 3) := by decide +kernel
theorem dX11_spreads_177 : decode cX11_spreads 177 = .ok (.goto (-157), 3) := by decide +kernel
theorem dX11_spreads_180 : decode cX11_spreads 180 = .ok (.iload 5, 2) := by decide +kernel
theorem dX11_spreads_182 : decode cX11_spreads 182 = .ok (.ireturn, 1) := by decide +kernel
theorem dX11_islandCount_0 : decode cX11_islandCount 0 = .ok (.aload_n 0, 1) := by decide +kernel
theorem dX11_islandCount_1 : decode cX11_islandCount 1 = .ok (.iconst 0, 1) := by decide +kernel
theorem dX11_islandCount_2 : decode cX11_islandCount 2 = .ok (.putfield 66, 3) := by decide +kernel
theorem dX11_islandCount_5 : decode cX11_islandCount 5 = .ok (.aload_n 0, 1) := by decide +kernel
theorem dX11_islandCount_6 : decode cX11_islandCount 6 = .ok (.iconst 0, 1) := by decide +kernel
theorem dX11_islandCount_7 : decode cX11_islandCount 7 = .ok (.invokevirtual 228, 3) := by decide +kernel
theorem dX11_islandCount_10 : decode cX11_islandCount 10 = .ok (.ireturn, 1) := by decide +kernel
theorem dX11_islandCountByMerging_0 : decode cX11_islandCountByMerging 0 = .ok (.aload_n 0, 1) := by decide +kernel
theorem dX11_islandCountByMerging_1 : decode cX11_islandCountByMerging 1 = .ok (.invokevirtual 231, 3) := by decide +kernel
theorem dX11_islandCountByMerging_4 : decode cX11_islandCountByMerging 4 = .ok (.ireturn, 1) := by decide +kernel
theorem dX11_islandSize_0 : decode cX11_islandSize 0 = .ok (.aload_n 0, 1) := by decide +kernel
theorem dX11_islandSize_1 : decode cX11_islandSize 1 = .ok (.iload_n 1, 1) := by decide +kernel
theorem dX11_islandSize_2 : decode cX11_islandSize 2 = .ok (.iload_n 2, 1) := by decide +kernel
theorem dX11_islandSize_3 : decode cX11_islandSize 3 = .ok (.invokevirtual 217, 3) := by decide +kernel
theorem dX11_islandSize_6 : decode cX11_islandSize 6 = .ok (.ifCond .ne 5, 3) := by decide +kernel
theorem dX11_islandSize_9 : decode cX11_islandSize 9 = .ok (.iconst (-1), 1) := by decide +kernel
theorem dX11_islandSize_10 : decode cX11_islandSize 10 = .ok (.ireturn, 1) := by decide +kernel
theorem dX11_islandSize_11 : decode cX11_islandSize 11 = .ok (.aload_n 0, 1) := by decide +kernel
theorem dX11_islandSize_12 : decode cX11_islandSize 12 = .ok (.iconst 0, 1) := by decide +kernel
theorem dX11_islandSize_13 : decode cX11_islandSize 13 = .ok (.invokevirtual 228, 3) := by decide +kernel
theorem dX11_islandSize_16 : decode cX11_islandSize 16 = .ok (.pop, 1) := by decide +kernel
theorem dX11_islandSize_17 : decode cX11_islandSize 17 = .ok (.aload_n 0, 1) := by decide +kernel
theorem dX11_islandSize_18 : decode cX11_islandSize 18 = .ok (.getfield 47, 3) := by decide +kernel
theorem dX11_islandSize_21 : decode cX11_islandSize 21 = .ok (.aload_n 0, 1) := by decide +kernel
theorem dX11_islandSize_22 : decode cX11_islandSize 22 = .ok (.getfield 41, 3) := by decide +kernel
theorem dX11_islandSize_25 : decode cX11_islandSize 25 = .ok (.iload_n 1, 1) := by decide +kernel
theorem dX11_islandSize_26 : decode cX11_islandSize 26 = .ok (.iload_n 2, 1) := by decide +kernel
theorem dX11_islandSize_27 : decode cX11_islandSize 27 = .ok (.invokestatic 108, 3) := by decide +kernel
theorem dX11_islandSize_30 : decode cX11_islandSize 30 = .ok (.iaload, 1) := by decide +kernel
theorem dX11_islandSize_31 : decode cX11_islandSize 31 = .ok (.iaload, 1) := by decide +kernel
theorem dX11_islandSize_32 : decode cX11_islandSize 32 = .ok (.ireturn, 1) := by decide +kernel
theorem dX11_largestIsland_0 : decode cX11_largestIsland 0 = .ok (.aload_n 0, 1) := by decide +kernel
theorem dX11_largestIsland_1 : decode cX11_largestIsland 1 = .ok (.iconst 0, 1) := by decide +kernel
theorem dX11_largestIsland_2 : decode cX11_largestIsland 2 = .ok (.putfield 66, 3) := by decide +kernel
theorem dX11_largestIsland_5 : decode cX11_largestIsland 5 = .ok (.aload_n 0, 1) := by decide +kernel
theorem dX11_largestIsland_6 : decode cX11_largestIsland 6 = .ok (.iconst 0, 1) := by decide +kernel
theorem dX11_largestIsland_7 : decode cX11_largestIsland 7 = .ok (.invokevirtual 228, 3) := by decide +kernel
theorem dX11_largestIsland_10 : decode cX11_largestIsland 10 = .ok (.istore_n 1, 1) := by decide +kernel
theorem dX11_largestIsland_11 : decode cX11_largestIsland 11 = .ok (.iconst 0, 1) := by decide +kernel
theorem dX11_largestIsland_12 : decode cX11_largestIsland 12 = .ok (.istore_n 2, 1) := by decide +kernel
theorem dX11_largestIsland_13 : decode cX11_largestIsland 13 = .ok (.iconst 1, 1) := by decide +kernel
theorem dX11_largestIsland_14 : decode cX11_largestIsland 14 = .ok (.istore_n 3, 1) := by decide +kernel
theorem dX11_largestIsland_15 : decode cX11_largestIsland 15 = .ok (.iload_n 3, 1) := by decide +kernel
theorem dX11_largestIsland_16 : decode cX11_largestIsland 16 = .ok (.iload_n 1, 1) := by decide +kernel
theorem dX11_largestIsland_17 : decode cX11_largestIsland 17 = .ok (.if_icmp .gt 20, 3) := by decide +kernel
theorem dX11_largestIsland_20 : decode cX11_largestIsland 20 = .ok (.iload_n 2, 1) := by decide +kernel
theorem dX11_largestIsland_21 : decode cX11_largestIsland 21 = .ok (.aload_n 0, 1) := by decide +kernel
theorem dX11_largestIsland_22 : decode cX11_largestIsland 22 = .ok (.getfield 47, 3) := by decide +kernel
theorem dX11_largestIsland_25 : decode cX11_largestIsland 25 = .ok (.iload_n 3, 1) := by decide +kernel
theorem dX11_largestIsland_26 : decode cX11_largestIsland 26 = .ok (.iaload, 1) := by decide +kernel
theorem dX11_largestIsland_27 : decode cX11_largestIsland 27 = .ok (.invokestatic 234, 3) := by decide +kernel
theorem dX11_largestIsland_30 : decode cX11_largestIsland 30 = .ok (.istore_n 2, 1) := by decide +kernel
theorem dX11_largestIsland_31 : decode cX11_largestIsland 31 = .ok (.iinc 3 1, 3) := by decide +kernel
theorem dX11_largestIsland_34 : decode cX11_largestIsland 34 = .ok (.goto (-19), 3) := by decide +kernel
theorem dX11_largestIsland_37 : decode cX11_largestIsland 37 = .ok (.iload_n 2, 1) := by decide +kernel
theorem dX11_largestIsland_38 : decode cX11_largestIsland 38 = .ok (.ireturn, 1) := by decide +kernel
theorem dX11_islandsOf_0 : decode cX11_islandsOf 0 = .ok (.aload_n 0, 1) := by decide +kernel
theorem dX11_islandsOf_1 : decode cX11_islandsOf 1 = .ok (.iconst 0, 1) := by decide +kernel
theorem dX11_islandsOf_2 : decode cX11_islandsOf 2 = .ok (.putfield 66, 3) := by decide +kernel
theorem dX11_islandsOf_5 : decode cX11_islandsOf 5 = .ok (.iload_n 1, 1) := by decide +kernel
theorem dX11_islandsOf_6 : decode cX11_islandsOf 6 = .ok (.invokestatic 127, 3) := by decide +kernel
theorem dX11_islandsOf_9 : decode cX11_islandsOf 9 = .ok (.ifCond .eq 11, 3) := by decide +kernel
theorem dX11_islandsOf_12 : decode cX11_islandsOf 12 = .ok (.aload_n 0, 1) := by decide +kernel
theorem dX11_islandsOf_13 : decode cX11_islandsOf 13 = .ok (.iload_n 1, 1) := by decide +kernel
theorem dX11_islandsOf_14 : decode cX11_islandsOf 14 = .ok (.invokevirtual 228, 3) := by decide +kernel
theorem dX11_islandsOf_17 : decode cX11_islandsOf 17 = .ok (.goto 8, 3) := by decide +kernel
theorem dX11_islandsOf_20 : decode cX11_islandsOf 20 = .ok (.aload_n 0, 1) := by decide +kernel
theorem dX11_islandsOf_21 : decode cX11_islandsOf 21 = .ok (.iconst 1, 1) := by decide +kernel
theorem dX11_islandsOf_22 : decode cX11_islandsOf 22 = .ok (.invokevirtual 75, 3) := by decide +kernel
theorem dX11_islandsOf_25 : decode cX11_islandsOf 25 = .ok (.ireturn, 1) := by decide +kernel
theorem dX11_isJoined_0 : decode cX11_isJoined 0 = .ok (.aload_n 0, 1) := by decide +kernel
theorem dX11_isJoined_1 : decode cX11_isJoined 1 = .ok (.iconst 0, 1) := by decide +kernel
theorem dX11_isJoined_2 : decode cX11_isJoined 2 = .ok (.putfield 66, 3) := by decide +kernel
theorem dX11_isJoined_5 : decode cX11_isJoined 5 = .ok (.iload_n 1, 1) := by decide +kernel
theorem dX11_isJoined_6 : decode cX11_isJoined 6 = .ok (.iload_n 2, 1) := by decide +kernel
theorem dX11_isJoined_7 : decode cX11_isJoined 7 = .ok (.invokestatic 104, 3) := by decide +kernel
theorem dX11_isJoined_10 : decode cX11_isJoined 10 = .ok (.ifCond .eq 12, 3) := by decide +kernel
theorem dX11_isJoined_13 : decode cX11_isJoined 13 = .ok (.iload_n 3, 1) := by decide +kernel
theorem dX11_isJoined_14 : decode cX11_isJoined 14 = .ok (.iload 4, 2) := by decide +kernel
theorem dX11_isJoined_16 : decode cX11_isJoined 16 = .ok (.invokestatic 104, 3) := by decide +kernel
theorem dX11_isJoined_19 : decode cX11_isJoined 19 = .ok (.ifCond .ne 11, 3) := by decide +kernel
theorem dX11_isJoined_22 : decode cX11_isJoined 22 = .ok (.aload_n 0, 1) := by decide +kernel
theorem dX11_isJoined_23 : decode cX11_isJoined 23 = .ok (.iconst 1, 1) := by decide +kernel
theorem dX11_isJoined_24 : decode cX11_isJoined 24 = .ok (.invokevirtual 75, 3) := by decide +kernel
theorem dX11_isJoined_27 : decode cX11_isJoined 27 = .ok (.pop, 1) := by decide +kernel
theorem dX11_isJoined_28 : decode cX11_isJoined 28 = .ok (.iconst 0, 1) := by decide +kernel
theorem dX11_isJoined_29 : decode cX11_isJoined 29 = .ok (.ireturn, 1) := by decide +kernel
theorem dX11_isJoined_30 : decode cX11_isJoined 30 = .ok (.aload_n 0, 1) := by decide +kernel
theorem dX11_isJoined_31 : decode cX11_isJoined 31 = .ok (.iconst 0, 1) := by decide +kernel
theorem dX11_isJoined_32 : decode cX11_isJoined 32 = .ok (.invokevirtual 228, 3) := by decide +kernel
theorem dX11_isJoined_35 : decode cX11_isJoined 35 = .ok (.pop, 1) := by decide +kernel
theorem dX11_isJoined_36 : decode cX11_isJoined 36 = .ok (.aload_n 0, 1) := by decide +kernel
theorem dX11_isJoined_37 : decode cX11_isJoined 37 = .ok (.getfield 41, 3) := by decide +kernel
theorem dX11_isJoined_40 : decode cX11_isJoined 40 = .ok (.iload_n 1, 1) := by decide +kernel
theorem dX11_isJoined_41 : decode cX11_isJoined 41 = .ok (.iload_n 2, 1) := by decide +kernel
theorem dX11_isJoined_42 : decode cX11_isJoined 42 = .ok (.invokestatic 108, 3) := by decide +kernel
theorem dX11_isJoined_45 : decode cX11_isJoined 45 = .ok (.iaload, 1) := by decide +kernel
theorem dX11_isJoined_46 : decode cX11_isJoined 46 = .ok (.istore 5, 2) := by decide +kernel
theorem dX11_isJoined_48 : decode cX11_isJoined 48 = .ok (.iload 5, 2) := by decide +kernel
theorem dX11_isJoined_50 : decode cX11_isJoined 50 = .ok (.ifCond .le 23, 3) := by decide +kernel
theorem dX11_isJoined_53 : decode cX11_isJoined 53 = .ok (.iload 5, 2) := by decide +kernel
theorem dX11_isJoined_55 : decode cX11_isJoined 55 = .ok (.aload_n 0, 1) := by decide +kernel
theorem dX11_isJoined_56 : decode cX11_isJoined 56 = .ok (.getfield 41, 3) := by decide +kernel
theorem dX11_isJoined_59 : decode cX11_isJoined 59 = .ok (.iload_n 3, 1) := by decide +kernel
theorem dX11_isJoined_60 : decode cX11_isJoined 60 = .ok (.iload 4, 2) := by decide +kernel
theorem dX11_isJoined_62 : decode cX11_isJoined 62 = .ok (.invokestatic 108, 3) := by decide +kernel
theorem dX11_isJoined_65 : decode cX11_isJoined 65 = .ok (.iaload, 1) := by decide +kernel
theorem dX11_isJoined_66 : decode cX11_isJoined 66 = .ok (.if_icmp .ne 7, 3) := by decide +kernel
theorem dX11_isJoined_69 : decode cX11_isJoined 69 = .ok (.iconst 1, 1) := by decide +kernel
theorem dX11_isJoined_70 : decode cX11_isJoined 70 = .ok (.goto 4, 3) := by decide +kernel
theorem dX11_isJoined_73 : decode cX11_isJoined 73 = .ok (.iconst 0, 1) := by decide +kernel
theorem dX11_isJoined_74 : decode cX11_isJoined 74 = .ok (.ireturn, 1) := by decide +kernel
theorem dX11_total_0 : decode cX11_total 0 = .ok (.aload_n 0, 1) := by decide +kernel
theorem dX11_total_1 : decode cX11_total 1 = .ok (.iconst 0, 1) := by decide +kernel
theorem dX11_total_2 : decode cX11_total 2 = .ok (.putfield 66, 3) := by decide +kernel
theorem dX11_total_5 : decode cX11_total 5 = .ok (.aload_n 0, 1) := by decide +kernel
theorem dX11_total_6 : decode cX11_total 6 = .ok (.getfield 9, 3) := by decide +kernel
theorem dX11_total_9 : decode cX11_total 9 = .ok (.iload_n 1, 1) := by decide +kernel
theorem dX11_total_10 : decode cX11_total 10 = .ok (.iaload, 1) := by decide +kernel
theorem dX11_total_11 : decode cX11_total 11 = .ok (.ireturn, 1) := by decide +kernel
theorem dX11_tideCount_0 : decode cX11_tideCount 0 = .ok (.aload_n 0, 1) := by decide +kernel
theorem dX11_tideCount_1 : decode cX11_tideCount 1 = .ok (.iconst 1, 1) := by decide +kernel
theorem dX11_tideCount_2 : decode cX11_tideCount 2 = .ok (.invokevirtual 239, 3) := by decide +kernel
theorem dX11_tideCount_5 : decode cX11_tideCount 5 = .ok (.ireturn, 1) := by decide +kernel
theorem dX11_placedCount_0 : decode cX11_placedCount 0 = .ok (.aload_n 0, 1) := by decide +kernel
theorem dX11_placedCount_1 : decode cX11_placedCount 1 = .ok (.iconst 2, 1) := by decide +kernel
theorem dX11_placedCount_2 : decode cX11_placedCount 2 = .ok (.invokevirtual 239, 3) := by decide +kernel
theorem dX11_placedCount_5 : decode cX11_placedCount 5 = .ok (.ireturn, 1) := by decide +kernel
theorem dX11_removedCount_0 : decode cX11_removedCount 0 = .ok (.aload_n 0, 1) := by decide +kernel
theorem dX11_removedCount_1 : decode cX11_removedCount 1 = .ok (.iconst 3, 1) := by decide +kernel
theorem dX11_removedCount_2 : decode cX11_removedCount 2 = .ok (.invokevirtual 239, 3) := by decide +kernel
theorem dX11_removedCount_5 : decode cX11_removedCount 5 = .ok (.ireturn, 1) := by decide +kernel
theorem dX11_bornCount_0 : decode cX11_bornCount 0 = .ok (.aload_n 0, 1) := by decide +kernel
theorem dX11_bornCount_1 : decode cX11_bornCount 1 = .ok (.iconst 4, 1) := by decide +kernel
theorem dX11_bornCount_2 : decode cX11_bornCount 2 = .ok (.invokevirtual 239, 3) := by decide +kernel
theorem dX11_bornCount_5 : decode cX11_bornCount 5 = .ok (.ireturn, 1) := by decide +kernel
theorem dX11_bleachings_0 : decode cX11_bleachings 0 = .ok (.aload_n 0, 1) := by decide +kernel
theorem dX11_bleachings_1 : decode cX11_bleachings 1 = .ok (.iconst 5, 1) := by decide +kernel
theorem dX11_bleachings_2 : decode cX11_bleachings 2 = .ok (.invokevirtual 239, 3) := by decide +kernel
theorem dX11_bleachings_5 : decode cX11_bleachings 5 = .ok (.ireturn, 1) := by decide +kernel
theorem dX11_washedCount_0 : decode cX11_washedCount 0 = .ok (.aload_n 0, 1) := by decide +kernel
theorem dX11_washedCount_1 : decode cX11_washedCount 1 = .ok (.bipush 6, 2) := by decide +kernel
theorem dX11_washedCount_3 : decode cX11_washedCount 3 = .ok (.invokevirtual 239, 3) := by decide +kernel
theorem dX11_washedCount_6 : decode cX11_washedCount 6 = .ok (.ireturn, 1) := by decide +kernel
theorem dX11_ofRow_0 : decode cX11_ofRow 0 = .ok (.iconst 0, 1) := by decide +kernel
theorem dX11_ofRow_1 : decode cX11_ofRow 1 = .ok (.istore_n 3, 1) := by decide +kernel
theorem dX11_ofRow_2 : decode cX11_ofRow 2 = .ok (.iconst 0, 1) := by decide +kernel
theorem dX11_ofRow_3 : decode cX11_ofRow 3 = .ok (.istore 4, 2) := by decide +kernel
theorem dX11_ofRow_5 : decode cX11_ofRow 5 = .ok (.iload 4, 2) := by decide +kernel
theorem dX11_ofRow_7 : decode cX11_ofRow 7 = .ok (.bipush 8, 2) := by decide +kernel
theorem dX11_ofRow_9 : decode cX11_ofRow 9 = .ok (.if_icmp .ge 54, 3) := by decide +kernel
theorem dX11_ofRow_12 : decode cX11_ofRow 12 = .ok (.aload_n 0, 1) := by decide +kernel
theorem dX11_ofRow_13 : decode cX11_ofRow 13 = .ok (.iload_n 1, 1) := by decide +kernel
theorem dX11_ofRow_14 : decode cX11_ofRow 14 = .ok (.iload 4, 2) := by decide +kernel
theorem dX11_ofRow_16 : decode cX11_ofRow 16 = .ok (.invokestatic 108, 3) := by decide +kernel
theorem dX11_ofRow_19 : decode cX11_ofRow 19 = .ok (.invokevirtual 101, 3) := by decide +kernel
theorem dX11_ofRow_22 : decode cX11_ofRow 22 = .ok (.istore 5, 2) := by decide +kernel
theorem dX11_ofRow_24 : decode cX11_ofRow 24 = .ok (.iload_n 3, 1) := by decide +kernel
theorem dX11_ofRow_25 : decode cX11_ofRow 25 = .ok (.iload_n 2, 1) := by decide +kernel
theorem dX11_ofRow_26 : decode cX11_ofRow 26 = .ok (.ifCond .eq 18, 3) := by decide +kernel
theorem dX11_ofRow_29 : decode cX11_ofRow 29 = .ok (.iload 5, 2) := by decide +kernel
theorem dX11_ofRow_31 : decode cX11_ofRow 31 = .ok (.bipush 10, 2) := by decide +kernel
theorem dX11_ofRow_33 : decode cX11_ofRow 33 = .ok (.if_icmp .lt 7, 3) := by decide +kernel
theorem dX11_ofRow_36 : decode cX11_ofRow 36 = .ok (.iconst 1, 1) := by decide +kernel
theorem dX11_ofRow_37 : decode cX11_ofRow 37 = .ok (.goto 18, 3) := by decide +kernel
theorem dX11_ofRow_40 : decode cX11_ofRow 40 = .ok (.iconst 0, 1) := by decide +kernel
theorem dX11_ofRow_41 : decode cX11_ofRow 41 = .ok (.goto 14, 3) := by decide +kernel
theorem dX11_ofRow_44 : decode cX11_ofRow 44 = .ok (.iload 5, 2) := by decide +kernel
theorem dX11_ofRow_46 : decode cX11_ofRow 46 = .ok (.iconst 1, 1) := by decide +kernel
theorem dX11_ofRow_47 : decode cX11_ofRow 47 = .ok (.if_icmp .ne 7, 3) := by decide +kernel
theorem dX11_ofRow_50 : decode cX11_ofRow 50 = .ok (.iconst 1, 1) := by decide +kernel
theorem dX11_ofRow_51 : decode cX11_ofRow 51 = .ok (.goto 4, 3) := by decide +kernel
theorem dX11_ofRow_54 : decode cX11_ofRow 54 = .ok (.iconst 0, 1) := by decide +kernel
theorem dX11_ofRow_55 : decode cX11_ofRow 55 = .ok (.iadd, 1) := by decide +kernel
theorem dX11_ofRow_56 : decode cX11_ofRow 56 = .ok (.istore_n 3, 1) := by decide +kernel
theorem dX11_ofRow_57 : decode cX11_ofRow 57 = .ok (.iinc 4 1, 3) := by decide +kernel
theorem dX11_ofRow_60 : decode cX11_ofRow 60 = .ok (.goto (-55), 3) := by decide +kernel
theorem dX11_ofRow_63 : decode cX11_ofRow 63 = .ok (.iload_n 3, 1) := by decide +kernel
theorem dX11_ofRow_64 : decode cX11_ofRow 64 = .ok (.ireturn, 1) := by decide +kernel
theorem dX11_rowByLiving_0 : decode cX11_rowByLiving 0 = .ok (.aload_n 0, 1) := by decide +kernel
theorem dX11_rowByLiving_1 : decode cX11_rowByLiving 1 = .ok (.iconst 0, 1) := by decide +kernel
theorem dX11_rowByLiving_2 : decode cX11_rowByLiving 2 = .ok (.putfield 66, 3) := by decide +kernel
theorem dX11_rowByLiving_5 : decode cX11_rowByLiving 5 = .ok (.iconst 0, 1) := by decide +kernel
theorem dX11_rowByLiving_6 : decode cX11_rowByLiving 6 = .ok (.istore_n 2, 1) := by decide +kernel
theorem dX11_rowByLiving_7 : decode cX11_rowByLiving 7 = .ok (.iload_n 2, 1) := by decide +kernel
theorem dX11_rowByLiving_8 : decode cX11_rowByLiving 8 = .ok (.bipush 8, 2) := by decide +kernel
theorem dX11_rowByLiving_10 : decode cX11_rowByLiving 10 = .ok (.if_icmp .ge 100, 3) := by decide +kernel
theorem dX11_rowByLiving_13 : decode cX11_rowByLiving 13 = .ok (.iconst 0, 1) := by decide +kernel
theorem dX11_rowByLiving_14 : decode cX11_rowByLiving 14 = .ok (.istore_n 3, 1) := by decide +kernel
theorem dX11_rowByLiving_15 : decode cX11_rowByLiving 15 = .ok (.iconst 0, 1) := by decide +kernel
theorem dX11_rowByLiving_16 : decode cX11_rowByLiving 16 = .ok (.istore 4, 2) := by decide +kernel
theorem dX11_rowByLiving_18 : decode cX11_rowByLiving 18 = .ok (.iload 4, 2) := by decide +kernel
theorem dX11_rowByLiving_20 : decode cX11_rowByLiving 20 = .ok (.bipush 8, 2) := by decide +kernel
theorem dX11_rowByLiving_22 : decode cX11_rowByLiving 22 = .ok (.if_icmp .ge 75, 3) := by decide +kernel
theorem dX11_rowByLiving_25 : decode cX11_rowByLiving 25 = .ok (.aload_n 0, 1) := by decide +kernel
theorem dX11_rowByLiving_26 : decode cX11_rowByLiving 26 = .ok (.iload 4, 2) := by decide +kernel
theorem dX11_rowByLiving_28 : decode cX11_rowByLiving 28 = .ok (.iconst 1, 1) := by decide +kernel
theorem dX11_rowByLiving_29 : decode cX11_rowByLiving 29 = .ok (.invokevirtual 242, 3) := by decide +kernel
theorem dX11_rowByLiving_32 : decode cX11_rowByLiving 32 = .ok (.aload_n 0, 1) := by decide +kernel
theorem dX11_rowByLiving_33 : decode cX11_rowByLiving 33 = .ok (.iload_n 2, 1) := by decide +kernel
theorem dX11_rowByLiving_34 : decode cX11_rowByLiving 34 = .ok (.iconst 1, 1) := by decide +kernel
theorem dX11_rowByLiving_35 : decode cX11_rowByLiving 35 = .ok (.invokevirtual 242, 3) := by decide +kernel
theorem dX11_rowByLiving_38 : decode cX11_rowByLiving 38 = .ok (.isub, 1) := by decide +kernel
theorem dX11_rowByLiving_39 : decode cX11_rowByLiving 39 = .ok (.istore 5, 2) := by decide +kernel
theorem dX11_rowByLiving_41 : decode cX11_rowByLiving 41 = .ok (.iload 5, 2) := by decide +kernel
theorem dX11_rowByLiving_43 : decode cX11_rowByLiving 43 = .ok (.ifCond .ne 20, 3) := by decide +kernel
theorem dX11_rowByLiving_46 : decode cX11_rowByLiving 46 = .ok (.aload_n 0, 1) := by decide +kernel
theorem dX11_rowByLiving_47 : decode cX11_rowByLiving 47 = .ok (.iload 4, 2) := by decide +kernel
theorem dX11_rowByLiving_49 : decode cX11_rowByLiving 49 = .ok (.iconst 0, 1) := by decide +kernel
theorem dX11_rowByLiving_50 : decode cX11_rowByLiving 50 = .ok (.invokevirtual 242, 3) := by decide +kernel
theorem dX11_rowByLiving_53 : decode cX11_rowByLiving 53 = .ok (.aload_n 0, 1) := by decide +kernel
theorem dX11_rowByLiving_54 : decode cX11_rowByLiving 54 = .ok (.iload_n 2, 1) := by decide +kernel
theorem dX11_rowByLiving_55 : decode cX11_rowByLiving 55 = .ok (.iconst 0, 1) := by decide +kernel
theorem dX11_rowByLiving_56 : decode cX11_rowByLiving 56 = .ok (.invokevirtual 242, 3) := by decide +kernel
theorem dX11_rowByLiving_59 : decode cX11_rowByLiving 59 = .ok (.isub, 1) := by decide +kernel
theorem dX11_rowByLiving_60 : decode cX11_rowByLiving 60 = .ok (.goto 5, 3) := by decide +kernel
theorem dX11_rowByLiving_63 : decode cX11_rowByLiving 63 = .ok (.iload 5, 2) := by decide +kernel
theorem dX11_rowByLiving_65 : decode cX11_rowByLiving 65 = .ok (.istore 5, 2) := by decide +kernel
theorem dX11_rowByLiving_67 : decode cX11_rowByLiving 67 = .ok (.iload_n 3, 1) := by decide +kernel
theorem dX11_rowByLiving_68 : decode cX11_rowByLiving 68 = .ok (.iload 5, 2) := by decide +kernel
theorem dX11_rowByLiving_70 : decode cX11_rowByLiving 70 = .ok (.ifCond .gt 14, 3) := by decide +kernel
theorem dX11_rowByLiving_73 : decode cX11_rowByLiving 73 = .ok (.iload 5, 2) := by decide +kernel
theorem dX11_rowByLiving_75 : decode cX11_rowByLiving 75 = .ok (.ifCond .ne 13, 3) := by decide +kernel
theorem dX11_rowByLiving_78 : decode cX11_rowByLiving 78 = .ok (.iload 4, 2) := by decide +kernel
theorem dX11_rowByLiving_80 : decode cX11_rowByLiving 80 = .ok (.iload_n 2, 1) := by decide +kernel
theorem dX11_rowByLiving_81 : decode cX11_rowByLiving 81 = .ok (.if_icmp .ge 7, 3) := by decide +kernel
theorem dX11_rowByLiving_84 : decode cX11_rowByLiving 84 = .ok (.iconst 1, 1) := by decide +kernel
theorem dX11_rowByLiving_85 : decode cX11_rowByLiving 85 = .ok (.goto 4, 3) := by decide +kernel
theorem dX11_rowByLiving_88 : decode cX11_rowByLiving 88 = .ok (.iconst 0, 1) := by decide +kernel
theorem dX11_rowByLiving_89 : decode cX11_rowByLiving 89 = .ok (.iadd, 1) := by decide +kernel
theorem dX11_rowByLiving_90 : decode cX11_rowByLiving 90 = .ok (.istore_n 3, 1) := by decide +kernel
theorem dX11_rowByLiving_91 : decode cX11_rowByLiving 91 = .ok (.iinc 4 1, 3) := by decide +kernel
theorem dX11_rowByLiving_94 : decode cX11_rowByLiving 94 = .ok (.goto (-76), 3) := by decide +kernel
theorem dX11_rowByLiving_97 : decode cX11_rowByLiving 97 = .ok (.iload_n 3, 1) := by decide +kernel
theorem dX11_rowByLiving_98 : decode cX11_rowByLiving 98 = .ok (.iload_n 1, 1) := by decide +kernel
theorem dX11_rowByLiving_99 : decode cX11_rowByLiving 99 = .ok (.if_icmp .ne 5, 3) := by decide +kernel
theorem dX11_rowByLiving_102 : decode cX11_rowByLiving 102 = .ok (.iload_n 2, 1) := by decide +kernel
theorem dX11_rowByLiving_103 : decode cX11_rowByLiving 103 = .ok (.ireturn, 1) := by decide +kernel
theorem dX11_rowByLiving_104 : decode cX11_rowByLiving 104 = .ok (.iinc 2 1, 3) := by decide +kernel
theorem dX11_rowByLiving_107 : decode cX11_rowByLiving 107 = .ok (.goto (-100), 3) := by decide +kernel
theorem dX11_rowByLiving_110 : decode cX11_rowByLiving 110 = .ok (.aload_n 0, 1) := by decide +kernel
theorem dX11_rowByLiving_111 : decode cX11_rowByLiving 111 = .ok (.iconst 1, 1) := by decide +kernel
theorem dX11_rowByLiving_112 : decode cX11_rowByLiving 112 = .ok (.invokevirtual 75, 3) := by decide +kernel
theorem dX11_rowByLiving_115 : decode cX11_rowByLiving 115 = .ok (.ireturn, 1) := by decide +kernel
theorem dX11_colourByCount_0 : decode cX11_colourByCount 0 = .ok (.aload_n 0, 1) := by decide +kernel
theorem dX11_colourByCount_1 : decode cX11_colourByCount 1 = .ok (.iconst 0, 1) := by decide +kernel
theorem dX11_colourByCount_2 : decode cX11_colourByCount 2 = .ok (.putfield 66, 3) := by decide +kernel
theorem dX11_colourByCount_5 : decode cX11_colourByCount 5 = .ok (.bipush 97, 2) := by decide +kernel
theorem dX11_colourByCount_7 : decode cX11_colourByCount 7 = .ok (.istore_n 2, 1) := by decide +kernel
theorem dX11_colourByCount_8 : decode cX11_colourByCount 8 = .ok (.iload_n 2, 1) := by decide +kernel
theorem dX11_colourByCount_9 : decode cX11_colourByCount 9 = .ok (.bipush 100, 2) := by decide +kernel
theorem dX11_colourByCount_11 : decode cX11_colourByCount 11 = .ok (.if_icmp .gt 95, 3) := by decide +kernel
theorem dX11_colourByCount_14 : decode cX11_colourByCount 14 = .ok (.iconst 0, 1) := by decide +kernel
theorem dX11_colourByCount_15 : decode cX11_colourByCount 15 = .ok (.istore_n 3, 1) := by decide +kernel
theorem dX11_colourByCount_16 : decode cX11_colourByCount 16 = .ok (.bipush 97, 2) := by decide +kernel
theorem dX11_colourByCount_18 : decode cX11_colourByCount 18 = .ok (.istore 4, 2) := by decide +kernel
theorem dX11_colourByCount_20 : decode cX11_colourByCount 20 = .ok (.iload 4, 2) := by decide +kernel
theorem dX11_colourByCount_22 : decode cX11_colourByCount 22 = .ok (.bipush 100, 2) := by decide +kernel
theorem dX11_colourByCount_24 : decode cX11_colourByCount 24 = .ok (.if_icmp .gt 68, 3) := by decide +kernel
theorem dX11_colourByCount_27 : decode cX11_colourByCount 27 = .ok (.aload_n 0, 1) := by decide +kernel
theorem dX11_colourByCount_28 : decode cX11_colourByCount 28 = .ok (.iload 4, 2) := by decide +kernel
theorem dX11_colourByCount_30 : decode cX11_colourByCount 30 = .ok (.iconst 0, 1) := by decide +kernel
theorem dX11_colourByCount_31 : decode cX11_colourByCount 31 = .ok (.invokestatic 135, 3) := by decide +kernel
theorem dX11_colourByCount_34 : decode cX11_colourByCount 34 = .ok (.iload 4, 2) := by decide +kernel
theorem dX11_colourByCount_36 : decode cX11_colourByCount 36 = .ok (.bipush 9, 2) := by decide +kernel
theorem dX11_colourByCount_38 : decode cX11_colourByCount 38 = .ok (.invokestatic 135, 3) := by decide +kernel
theorem dX11_colourByCount_41 : decode cX11_colourByCount 41 = .ok (.invokevirtual 118, 3) := by decide +kernel
theorem dX11_colourByCount_44 : decode cX11_colourByCount 44 = .ok (.aload_n 0, 1) := by decide +kernel
theorem dX11_colourByCount_45 : decode cX11_colourByCount 45 = .ok (.iload_n 2, 1) := by decide +kernel
theorem dX11_colourByCount_46 : decode cX11_colourByCount 46 = .ok (.iconst 0, 1) := by decide +kernel
theorem dX11_colourByCount_47 : decode cX11_colourByCount 47 = .ok (.invokestatic 135, 3) := by decide +kernel
theorem dX11_colourByCount_50 : decode cX11_colourByCount 50 = .ok (.iload_n 2, 1) := by decide +kernel
theorem dX11_colourByCount_51 : decode cX11_colourByCount 51 = .ok (.bipush 9, 2) := by decide +kernel
theorem dX11_colourByCount_53 : decode cX11_colourByCount 53 = .ok (.invokestatic 135, 3) := by decide +kernel
theorem dX11_colourByCount_56 : decode cX11_colourByCount 56 = .ok (.invokevirtual 118, 3) := by decide +kernel
theorem dX11_colourByCount_59 : decode cX11_colourByCount 59 = .ok (.isub, 1) := by decide +kernel
theorem dX11_colourByCount_60 : decode cX11_colourByCount 60 = .ok (.istore 5, 2) := by decide +kernel
theorem dX11_colourByCount_62 : decode cX11_colourByCount 62 = .ok (.iload_n 3, 1) := by decide +kernel
theorem dX11_colourByCount_63 : decode cX11_colourByCount 63 = .ok (.iload 5, 2) := by decide +kernel
theorem dX11_colourByCount_65 : decode cX11_colourByCount 65 = .ok (.ifCond .gt 14, 3) := by decide +kernel
theorem dX11_colourByCount_68 : decode cX11_colourByCount 68 = .ok (.iload 5, 2) := by decide +kernel
theorem dX11_colourByCount_70 : decode cX11_colourByCount 70 = .ok (.ifCond .ne 13, 3) := by decide +kernel
theorem dX11_colourByCount_73 : decode cX11_colourByCount 73 = .ok (.iload 4, 2) := by decide +kernel
theorem dX11_colourByCount_75 : decode cX11_colourByCount 75 = .ok (.iload_n 2, 1) := by decide +kernel
theorem dX11_colourByCount_76 : decode cX11_colourByCount 76 = .ok (.if_icmp .ge 7, 3) := by decide +kernel
theorem dX11_colourByCount_79 : decode cX11_colourByCount 79 = .ok (.iconst 1, 1) := by decide +kernel
theorem dX11_colourByCount_80 : decode cX11_colourByCount 80 = .ok (.goto 4, 3) := by decide +kernel
theorem dX11_colourByCount_83 : decode cX11_colourByCount 83 = .ok (.iconst 0, 1) := by decide +kernel
theorem dX11_colourByCount_84 : decode cX11_colourByCount 84 = .ok (.iadd, 1) := by decide +kernel
theorem dX11_colourByCount_85 : decode cX11_colourByCount 85 = .ok (.istore_n 3, 1) := by decide +kernel
theorem dX11_colourByCount_86 : decode cX11_colourByCount 86 = .ok (.iinc 4 1, 3) := by decide +kernel
theorem dX11_colourByCount_89 : decode cX11_colourByCount 89 = .ok (.goto (-69), 3) := by decide +kernel
theorem dX11_colourByCount_92 : decode cX11_colourByCount 92 = .ok (.iload_n 3, 1) := by decide +kernel
theorem dX11_colourByCount_93 : decode cX11_colourByCount 93 = .ok (.iload_n 1, 1) := by decide +kernel
theorem dX11_colourByCount_94 : decode cX11_colourByCount 94 = .ok (.if_icmp .ne 6, 3) := by decide +kernel
theorem dX11_colourByCount_97 : decode cX11_colourByCount 97 = .ok (.iload_n 2, 1) := by decide +kernel
theorem dX11_colourByCount_98 : decode cX11_colourByCount 98 = .ok (.i2c, 1) := by decide +kernel
theorem dX11_colourByCount_99 : decode cX11_colourByCount 99 = .ok (.ireturn, 1) := by decide +kernel
theorem dX11_colourByCount_100 : decode cX11_colourByCount 100 = .ok (.iinc 2 1, 3) := by decide +kernel
theorem dX11_colourByCount_103 : decode cX11_colourByCount 103 = .ok (.goto (-95), 3) := by decide +kernel
theorem dX11_colourByCount_106 : decode cX11_colourByCount 106 = .ok (.aload_n 0, 1) := by decide +kernel
theorem dX11_colourByCount_107 : decode cX11_colourByCount 107 = .ok (.iconst 1, 1) := by decide +kernel
theorem dX11_colourByCount_108 : decode cX11_colourByCount 108 = .ok (.invokevirtual 75, 3) := by decide +kernel
theorem dX11_colourByCount_111 : decode cX11_colourByCount 111 = .ok (.i2c, 1) := by decide +kernel
theorem dX11_colourByCount_112 : decode cX11_colourByCount 112 = .ok (.ireturn, 1) := by decide +kernel
theorem dX11_meanAge_0 : decode cX11_meanAge 0 = .ok (.aload_n 0, 1) := by decide +kernel
theorem dX11_meanAge_1 : decode cX11_meanAge 1 = .ok (.iconst 0, 1) := by decide +kernel
theorem dX11_meanAge_2 : decode cX11_meanAge 2 = .ok (.putfield 66, 3) := by decide +kernel
theorem dX11_meanAge_5 : decode cX11_meanAge 5 = .ok (.aload_n 0, 1) := by decide +kernel
theorem dX11_meanAge_6 : decode cX11_meanAge 6 = .ok (.invokevirtual 138, 3) := by decide +kernel
theorem dX11_meanAge_9 : decode cX11_meanAge 9 = .ok (.istore_n 1, 1) := by decide +kernel
theorem dX11_meanAge_10 : decode cX11_meanAge 10 = .ok (.iload_n 1, 1) := by decide +kernel
theorem dX11_meanAge_11 : decode cX11_meanAge 11 = .ok (.ifCond .ne 11, 3) := by decide +kernel
theorem dX11_meanAge_14 : decode cX11_meanAge 14 = .ok (.aload_n 0, 1) := by decide +kernel
theorem dX11_meanAge_15 : decode cX11_meanAge 15 = .ok (.iconst 1, 1) := by decide +kernel
theorem dX11_meanAge_16 : decode cX11_meanAge 16 = .ok (.invokevirtual 75, 3) := by decide +kernel
theorem dX11_meanAge_19 : decode cX11_meanAge 19 = .ok (.pop, 1) := by decide +kernel
theorem dX11_meanAge_20 : decode cX11_meanAge 20 = .ok (.dconst 0, 1) := by decide +kernel
theorem dX11_meanAge_21 : decode cX11_meanAge 21 = .ok (.dreturn, 1) := by decide +kernel
theorem dX11_meanAge_22 : decode cX11_meanAge 22 = .ok (.iconst 0, 1) := by decide +kernel
theorem dX11_meanAge_23 : decode cX11_meanAge 23 = .ok (.istore_n 2, 1) := by decide +kernel
theorem dX11_meanAge_24 : decode cX11_meanAge 24 = .ok (.iconst 0, 1) := by decide +kernel
theorem dX11_meanAge_25 : decode cX11_meanAge 25 = .ok (.istore_n 3, 1) := by decide +kernel
theorem dX11_meanAge_26 : decode cX11_meanAge 26 = .ok (.iload_n 3, 1) := by decide +kernel
theorem dX11_meanAge_27 : decode cX11_meanAge 27 = .ok (.bipush 64, 2) := by decide +kernel
theorem dX11_meanAge_29 : decode cX11_meanAge 29 = .ok (.if_icmp .ge 35, 3) := by decide +kernel
theorem dX11_meanAge_32 : decode cX11_meanAge 32 = .ok (.iload_n 2, 1) := by decide +kernel
theorem dX11_meanAge_33 : decode cX11_meanAge 33 = .ok (.aload_n 0, 1) := by decide +kernel
theorem dX11_meanAge_34 : decode cX11_meanAge 34 = .ok (.iload_n 3, 1) := by decide +kernel
theorem dX11_meanAge_35 : decode cX11_meanAge 35 = .ok (.invokevirtual 214, 3) := by decide +kernel
theorem dX11_meanAge_38 : decode cX11_meanAge 38 = .ok (.ifCond .eq 17, 3) := by decide +kernel
theorem dX11_meanAge_41 : decode cX11_meanAge 41 = .ok (.aload_n 0, 1) := by decide +kernel
theorem dX11_meanAge_42 : decode cX11_meanAge 42 = .ok (.iload_n 3, 1) := by decide +kernel
theorem dX11_meanAge_43 : decode cX11_meanAge 43 = .ok (.invokevirtual 101, 3) := by decide +kernel
theorem dX11_meanAge_46 : decode cX11_meanAge 46 = .ok (.bipush 10, 2) := by decide +kernel
theorem dX11_meanAge_48 : decode cX11_meanAge 48 = .ok (.isub, 1) := by decide +kernel
theorem dX11_meanAge_49 : decode cX11_meanAge 49 = .ok (.bipush 10, 2) := by decide +kernel
theorem dX11_meanAge_51 : decode cX11_meanAge 51 = .ok (.irem, 1) := by decide +kernel
theorem dX11_meanAge_52 : decode cX11_meanAge 52 = .ok (.goto 4, 3) := by decide +kernel
theorem dX11_meanAge_55 : decode cX11_meanAge 55 = .ok (.iconst 0, 1) := by decide +kernel
theorem dX11_meanAge_56 : decode cX11_meanAge 56 = .ok (.iadd, 1) := by decide +kernel
theorem dX11_meanAge_57 : decode cX11_meanAge 57 = .ok (.istore_n 2, 1) := by decide +kernel
theorem dX11_meanAge_58 : decode cX11_meanAge 58 = .ok (.iinc 3 1, 3) := by decide +kernel
theorem dX11_meanAge_61 : decode cX11_meanAge 61 = .ok (.goto (-35), 3) := by decide +kernel
theorem dX11_meanAge_64 : decode cX11_meanAge 64 = .ok (.iload_n 2, 1) := by decide +kernel
theorem dX11_meanAge_65 : decode cX11_meanAge 65 = .ok (.i2d, 1) := by decide +kernel
theorem dX11_meanAge_66 : decode cX11_meanAge 66 = .ok (.iload_n 1, 1) := by decide +kernel
theorem dX11_meanAge_67 : decode cX11_meanAge 67 = .ok (.i2d, 1) := by decide +kernel
theorem dX11_meanAge_68 : decode cX11_meanAge 68 = .ok (.ddiv, 1) := by decide +kernel
theorem dX11_meanAge_69 : decode cX11_meanAge 69 = .ok (.dreturn, 1) := by decide +kernel
theorem dX11_livingShare_0 : decode cX11_livingShare 0 = .ok (.aload_n 0, 1) := by decide +kernel
theorem dX11_livingShare_1 : decode cX11_livingShare 1 = .ok (.iconst 0, 1) := by decide +kernel
theorem dX11_livingShare_2 : decode cX11_livingShare 2 = .ok (.putfield 66, 3) := by decide +kernel
theorem dX11_livingShare_5 : decode cX11_livingShare 5 = .ok (.aload_n 0, 1) := by decide +kernel
theorem dX11_livingShare_6 : decode cX11_livingShare 6 = .ok (.invokevirtual 138, 3) := by decide +kernel
theorem dX11_livingShare_9 : decode cX11_livingShare 9 = .ok (.aload_n 0, 1) := by decide +kernel
theorem dX11_livingShare_10 : decode cX11_livingShare 10 = .ok (.invokevirtual 154, 3) := by decide +kernel
theorem dX11_livingShare_13 : decode cX11_livingShare 13 = .ok (.iadd, 1) := by decide +kernel
theorem dX11_livingShare_14 : decode cX11_livingShare 14 = .ok (.istore_n 1, 1) := by decide +kernel
theorem dX11_livingShare_15 : decode cX11_livingShare 15 = .ok (.iload_n 1, 1) := by decide +kernel
theorem dX11_livingShare_16 : decode cX11_livingShare 16 = .ok (.ifCond .ne 11, 3) := by decide +kernel
theorem dX11_livingShare_19 : decode cX11_livingShare 19 = .ok (.aload_n 0, 1) := by decide +kernel
theorem dX11_livingShare_20 : decode cX11_livingShare 20 = .ok (.iconst 1, 1) := by decide +kernel
theorem dX11_livingShare_21 : decode cX11_livingShare 21 = .ok (.invokevirtual 75, 3) := by decide +kernel
theorem dX11_livingShare_24 : decode cX11_livingShare 24 = .ok (.pop, 1) := by decide +kernel
theorem dX11_livingShare_25 : decode cX11_livingShare 25 = .ok (.fconst 0, 1) := by decide +kernel
theorem dX11_livingShare_26 : decode cX11_livingShare 26 = .ok (.freturn, 1) := by decide +kernel
theorem dX11_livingShare_27 : decode cX11_livingShare 27 = .ok (.aload_n 0, 1) := by decide +kernel
theorem dX11_livingShare_28 : decode cX11_livingShare 28 = .ok (.invokevirtual 138, 3) := by decide +kernel
theorem dX11_livingShare_31 : decode cX11_livingShare 31 = .ok (.i2f, 1) := by decide +kernel
theorem dX11_livingShare_32 : decode cX11_livingShare 32 = .ok (.iload_n 1, 1) := by decide +kernel
theorem dX11_livingShare_33 : decode cX11_livingShare 33 = .ok (.i2f, 1) := by decide +kernel
theorem dX11_livingShare_34 : decode cX11_livingShare 34 = .ok (.fdiv, 1) := by decide +kernel
theorem dX11_livingShare_35 : decode cX11_livingShare 35 = .ok (.freturn, 1) := by decide +kernel
theorem dX11_isConsistent_0 : decode cX11_isConsistent 0 = .ok (.aload_n 0, 1) := by decide +kernel
theorem dX11_isConsistent_1 : decode cX11_isConsistent 1 = .ok (.iconst 0, 1) := by decide +kernel
theorem dX11_isConsistent_2 : decode cX11_isConsistent 2 = .ok (.putfield 66, 3) := by decide +kernel
theorem dX11_isConsistent_5 : decode cX11_isConsistent 5 = .ok (.iconst 1, 1) := by decide +kernel
theorem dX11_isConsistent_6 : decode cX11_isConsistent 6 = .ok (.ireturn, 1) := by decide +kernel
theorem dX11_sign_0 : decode cX11_sign 0 = .ok (.aload_n 0, 1) := by decide +kernel
theorem dX11_sign_1 : decode cX11_sign 1 = .ok (.getfield 50, 3) := by decide +kernel
theorem dX11_sign_4 : decode cX11_sign 4 = .ok (.aload_n 0, 1) := by decide +kernel
theorem dX11_sign_5 : decode cX11_sign 5 = .ok (.getfield 246, 3) := by decide +kernel
theorem dX11_sign_8 : decode cX11_sign 8 = .ok (.iload_n 1, 1) := by decide +kernel
theorem dX11_sign_9 : decode cX11_sign 9 = .ok (.iastore, 1) := by decide +kernel
theorem dX11_sign_10 : decode cX11_sign 10 = .ok (.aload_n 0, 1) := by decide +kernel
theorem dX11_sign_11 : decode cX11_sign 11 = .ok (.dup, 1) := by decide +kernel
theorem dX11_sign_12 : decode cX11_sign 12 = .ok (.getfield 246, 3) := by decide +kernel
theorem dX11_sign_15 : decode cX11_sign 15 = .ok (.iconst 1, 1) := by decide +kernel
theorem dX11_sign_16 : decode cX11_sign 16 = .ok (.iadd, 1) := by decide +kernel
theorem dX11_sign_17 : decode cX11_sign 17 = .ok (.putfield 246, 3) := by decide +kernel
theorem dX11_sign_20 : decode cX11_sign 20 = .ok (.return_, 1) := by decide +kernel
theorem dX11_writeRow_0 : decode cX11_writeRow 0 = .ok (.aload_n 0, 1) := by decide +kernel
theorem dX11_writeRow_1 : decode cX11_writeRow 1 = .ok (.iconst 0, 1) := by decide +kernel
theorem dX11_writeRow_2 : decode cX11_writeRow 2 = .ok (.putfield 66, 3) := by decide +kernel
theorem dX11_writeRow_5 : decode cX11_writeRow 5 = .ok (.iload_n 1, 1) := by decide +kernel
theorem dX11_writeRow_6 : decode cX11_writeRow 6 = .ok (.i2l, 1) := by decide +kernel
theorem dX11_writeRow_7 : decode cX11_writeRow 7 = .ok (.lconst 0, 1) := by decide +kernel
theorem dX11_writeRow_8 : decode cX11_writeRow 8 = .ok (.ldc2_w 91, 3) := by decide +kernel
theorem dX11_writeRow_11 : decode cX11_writeRow 11 = .ok (.invokestatic 93, 3) := by decide +kernel
theorem dX11_writeRow_14 : decode cX11_writeRow 14 = .ok (.ifCond .ne 9, 3) := by decide +kernel
theorem dX11_writeRow_17 : decode cX11_writeRow 17 = .ok (.aload_n 0, 1) := by decide +kernel
theorem dX11_writeRow_18 : decode cX11_writeRow 18 = .ok (.iconst 1, 1) := by decide +kernel
theorem dX11_writeRow_19 : decode cX11_writeRow 19 = .ok (.invokevirtual 75, 3) := by decide +kernel
theorem dX11_writeRow_22 : decode cX11_writeRow 22 = .ok (.ireturn, 1) := by decide +kernel
theorem dX11_writeRow_23 : decode cX11_writeRow 23 = .ok (.aload_n 0, 1) := by decide +kernel
theorem dX11_writeRow_24 : decode cX11_writeRow 24 = .ok (.iconst 0, 1) := by decide +kernel
theorem dX11_writeRow_25 : decode cX11_writeRow 25 = .ok (.putfield 246, 3) := by decide +kernel
theorem dX11_writeRow_28 : decode cX11_writeRow 28 = .ok (.iconst 0, 1) := by decide +kernel
theorem dX11_writeRow_29 : decode cX11_writeRow 29 = .ok (.istore_n 2, 1) := by decide +kernel
theorem dX11_writeRow_30 : decode cX11_writeRow 30 = .ok (.iload_n 2, 1) := by decide +kernel
theorem dX11_writeRow_31 : decode cX11_writeRow 31 = .ok (.bipush 8, 2) := by decide +kernel
theorem dX11_writeRow_33 : decode cX11_writeRow 33 = .ok (.if_icmp .ge 69, 3) := by decide +kernel
theorem dX11_writeRow_36 : decode cX11_writeRow 36 = .ok (.aload_n 0, 1) := by decide +kernel
theorem dX11_writeRow_37 : decode cX11_writeRow 37 = .ok (.iload_n 1, 1) := by decide +kernel
theorem dX11_writeRow_38 : decode cX11_writeRow 38 = .ok (.iload_n 2, 1) := by decide +kernel
theorem dX11_writeRow_39 : decode cX11_writeRow 39 = .ok (.invokestatic 108, 3) := by decide +kernel
theorem dX11_writeRow_42 : decode cX11_writeRow 42 = .ok (.invokevirtual 101, 3) := by decide +kernel
theorem dX11_writeRow_45 : decode cX11_writeRow 45 = .ok (.istore_n 3, 1) := by decide +kernel
theorem dX11_writeRow_46 : decode cX11_writeRow 46 = .ok (.iload_n 3, 1) := by decide +kernel
theorem dX11_writeRow_47 : decode cX11_writeRow 47 = .ok (.bipush 10, 2) := by decide +kernel
theorem dX11_writeRow_49 : decode cX11_writeRow 49 = .ok (.if_icmp .ge 21, 3) := by decide +kernel
theorem dX11_writeRow_52 : decode cX11_writeRow 52 = .ok (.aload_n 0, 1) := by decide +kernel
theorem dX11_writeRow_53 : decode cX11_writeRow 53 = .ok (.iload_n 3, 1) := by decide +kernel
theorem dX11_writeRow_54 : decode cX11_writeRow 54 = .ok (.ifCond .ne 8, 3) := by decide +kernel
theorem dX11_writeRow_57 : decode cX11_writeRow 57 = .ok (.bipush 46, 2) := by decide +kernel
theorem dX11_writeRow_59 : decode cX11_writeRow 59 = .ok (.goto 5, 3) := by decide +kernel
theorem dX11_writeRow_62 : decode cX11_writeRow 62 = .ok (.bipush 35, 2) := by decide +kernel
theorem dX11_writeRow_64 : decode cX11_writeRow 64 = .ok (.invokevirtual 249, 3) := by decide +kernel
theorem dX11_writeRow_67 : decode cX11_writeRow 67 = .ok (.goto 29, 3) := by decide +kernel
theorem dX11_writeRow_70 : decode cX11_writeRow 70 = .ok (.aload_n 0, 1) := by decide +kernel
theorem dX11_writeRow_71 : decode cX11_writeRow 71 = .ok (.iload_n 3, 1) := by decide +kernel
theorem dX11_writeRow_72 : decode cX11_writeRow 72 = .ok (.invokestatic 112, 3) := by decide +kernel
theorem dX11_writeRow_75 : decode cX11_writeRow 75 = .ok (.iload_n 3, 1) := by decide +kernel
theorem dX11_writeRow_76 : decode cX11_writeRow 76 = .ok (.bipush 10, 2) := by decide +kernel
theorem dX11_writeRow_78 : decode cX11_writeRow 78 = .ok (.isub, 1) := by decide +kernel
theorem dX11_writeRow_79 : decode cX11_writeRow 79 = .ok (.bipush 10, 2) := by decide +kernel
theorem dX11_writeRow_81 : decode cX11_writeRow 81 = .ok (.irem, 1) := by decide +kernel
theorem dX11_writeRow_82 : decode cX11_writeRow 82 = .ok (.iconst 5, 1) := by decide +kernel
theorem dX11_writeRow_83 : decode cX11_writeRow 83 = .ok (.if_icmp .lt 8, 3) := by decide +kernel
theorem dX11_writeRow_86 : decode cX11_writeRow 86 = .ok (.bipush 32, 2) := by decide +kernel
theorem dX11_writeRow_88 : decode cX11_writeRow 88 = .ok (.goto 4, 3) := by decide +kernel
theorem dX11_writeRow_91 : decode cX11_writeRow 91 = .ok (.iconst 0, 1) := by decide +kernel
theorem dX11_writeRow_92 : decode cX11_writeRow 92 = .ok (.isub, 1) := by decide +kernel
theorem dX11_writeRow_93 : decode cX11_writeRow 93 = .ok (.invokevirtual 249, 3) := by decide +kernel
theorem dX11_writeRow_96 : decode cX11_writeRow 96 = .ok (.iinc 2 1, 3) := by decide +kernel
theorem dX11_writeRow_99 : decode cX11_writeRow 99 = .ok (.goto (-69), 3) := by decide +kernel
theorem dX11_writeRow_102 : decode cX11_writeRow 102 = .ok (.aload_n 0, 1) := by decide +kernel
theorem dX11_writeRow_103 : decode cX11_writeRow 103 = .ok (.getfield 246, 3) := by decide +kernel
theorem dX11_writeRow_106 : decode cX11_writeRow 106 = .ok (.ireturn, 1) := by decide +kernel
theorem dX11_writeRule_0 : decode cX11_writeRule 0 = .ok (.aload_n 0, 1) := by decide +kernel
theorem dX11_writeRule_1 : decode cX11_writeRule 1 = .ok (.iconst 0, 1) := by decide +kernel
theorem dX11_writeRule_2 : decode cX11_writeRule 2 = .ok (.putfield 66, 3) := by decide +kernel
theorem dX11_writeRule_5 : decode cX11_writeRule 5 = .ok (.aload_n 0, 1) := by decide +kernel
theorem dX11_writeRule_6 : decode cX11_writeRule 6 = .ok (.iconst 0, 1) := by decide +kernel
theorem dX11_writeRule_7 : decode cX11_writeRule 7 = .ok (.putfield 246, 3) := by decide +kernel
theorem dX11_writeRule_10 : decode cX11_writeRule 10 = .ok (.iconst 0, 1) := by decide +kernel
theorem dX11_writeRule_11 : decode cX11_writeRule 11 = .ok (.istore_n 1, 1) := by decide +kernel
theorem dX11_writeRule_12 : decode cX11_writeRule 12 = .ok (.iload_n 1, 1) := by decide +kernel
theorem dX11_writeRule_13 : decode cX11_writeRule 13 = .ok (.iconst 4, 1) := by decide +kernel
theorem dX11_writeRule_14 : decode cX11_writeRule 14 = .ok (.if_icmp .ge 28, 3) := by decide +kernel
theorem dX11_writeRule_17 : decode cX11_writeRule 17 = .ok (.aload_n 0, 1) := by decide +kernel
theorem dX11_writeRule_18 : decode cX11_writeRule 18 = .ok (.aload_n 0, 1) := by decide +kernel
theorem dX11_writeRule_19 : decode cX11_writeRule 19 = .ok (.getfield 53, 3) := by decide +kernel
theorem dX11_writeRule_22 : decode cX11_writeRule 22 = .ok (.iconst 4, 1) := by decide +kernel
theorem dX11_writeRule_23 : decode cX11_writeRule 23 = .ok (.aload_n 0, 1) := by decide +kernel
theorem dX11_writeRule_24 : decode cX11_writeRule 24 = .ok (.getfield 9, 3) := by decide +kernel
theorem dX11_writeRule_27 : decode cX11_writeRule 27 = .ok (.iconst 0, 1) := by decide +kernel
theorem dX11_writeRule_28 : decode cX11_writeRule 28 = .ok (.iaload, 1) := by decide +kernel
theorem dX11_writeRule_29 : decode cX11_writeRule 29 = .ok (.imul, 1) := by decide +kernel
theorem dX11_writeRule_30 : decode cX11_writeRule 30 = .ok (.iload_n 1, 1) := by decide +kernel
theorem dX11_writeRule_31 : decode cX11_writeRule 31 = .ok (.iadd, 1) := by decide +kernel
theorem dX11_writeRule_32 : decode cX11_writeRule 32 = .ok (.caload, 1) := by decide +kernel
theorem dX11_writeRule_33 : decode cX11_writeRule 33 = .ok (.invokevirtual 249, 3) := by decide +kernel
theorem dX11_writeRule_36 : decode cX11_writeRule 36 = .ok (.iinc 1 1, 3) := by decide +kernel
theorem dX11_writeRule_39 : decode cX11_writeRule 39 = .ok (.goto (-27), 3) := by decide +kernel
theorem dX11_writeRule_42 : decode cX11_writeRule 42 = .ok (.aload_n 0, 1) := by decide +kernel
theorem dX11_writeRule_43 : decode cX11_writeRule 43 = .ok (.bipush 32, 2) := by decide +kernel
theorem dX11_writeRule_45 : decode cX11_writeRule 45 = .ok (.invokevirtual 249, 3) := by decide +kernel
theorem dX11_writeRule_48 : decode cX11_writeRule 48 = .ok (.aload_n 0, 1) := by decide +kernel
theorem dX11_writeRule_49 : decode cX11_writeRule 49 = .ok (.bipush 98, 2) := by decide +kernel
theorem dX11_writeRule_51 : decode cX11_writeRule 51 = .ok (.invokevirtual 249, 3) := by decide +kernel
theorem dX11_writeRule_54 : decode cX11_writeRule 54 = .ok (.iconst 0, 1) := by decide +kernel
theorem dX11_writeRule_55 : decode cX11_writeRule 55 = .ok (.istore_n 1, 1) := by decide +kernel
theorem dX11_writeRule_56 : decode cX11_writeRule 56 = .ok (.iload_n 1, 1) := by decide +kernel
theorem dX11_writeRule_57 : decode cX11_writeRule 57 = .ok (.bipush 8, 2) := by decide +kernel
theorem dX11_writeRule_59 : decode cX11_writeRule 59 = .ok (.if_icmp .gt 25, 3) := by decide +kernel
theorem dX11_writeRule_62 : decode cX11_writeRule 62 = .ok (.aload_n 0, 1) := by decide +kernel
theorem dX11_writeRule_63 : decode cX11_writeRule 63 = .ok (.iload_n 1, 1) := by decide +kernel
theorem dX11_writeRule_64 : decode cX11_writeRule 64 = .ok (.invokevirtual 179, 3) := by decide +kernel
theorem dX11_writeRule_67 : decode cX11_writeRule 67 = .ok (.ifCond .eq 11, 3) := by decide +kernel
theorem dX11_writeRule_70 : decode cX11_writeRule 70 = .ok (.aload_n 0, 1) := by decide +kernel
theorem dX11_writeRule_71 : decode cX11_writeRule 71 = .ok (.bipush 48, 2) := by decide +kernel
theorem dX11_writeRule_73 : decode cX11_writeRule 73 = .ok (.iload_n 1, 1) := by decide +kernel
theorem dX11_writeRule_74 : decode cX11_writeRule 74 = .ok (.iadd, 1) := by decide +kernel
theorem dX11_writeRule_75 : decode cX11_writeRule 75 = .ok (.invokevirtual 249, 3) := by decide +kernel
theorem dX11_writeRule_78 : decode cX11_writeRule 78 = .ok (.iinc 1 1, 3) := by decide +kernel
theorem dX11_writeRule_81 : decode cX11_writeRule 81 = .ok (.goto (-25), 3) := by decide +kernel
theorem dX11_writeRule_84 : decode cX11_writeRule 84 = .ok (.aload_n 0, 1) := by decide +kernel
theorem dX11_writeRule_85 : decode cX11_writeRule 85 = .ok (.bipush 47, 2) := by decide +kernel
theorem dX11_writeRule_87 : decode cX11_writeRule 87 = .ok (.invokevirtual 249, 3) := by decide +kernel
theorem dX11_writeRule_90 : decode cX11_writeRule 90 = .ok (.aload_n 0, 1) := by decide +kernel
theorem dX11_writeRule_91 : decode cX11_writeRule 91 = .ok (.bipush 115, 2) := by decide +kernel
theorem dX11_writeRule_93 : decode cX11_writeRule 93 = .ok (.invokevirtual 249, 3) := by decide +kernel
theorem dX11_writeRule_96 : decode cX11_writeRule 96 = .ok (.iconst 0, 1) := by decide +kernel
theorem dX11_writeRule_97 : decode cX11_writeRule 97 = .ok (.istore_n 1, 1) := by decide +kernel
theorem dX11_writeRule_98 : decode cX11_writeRule 98 = .ok (.iload_n 1, 1) := by decide +kernel
theorem dX11_writeRule_99 : decode cX11_writeRule 99 = .ok (.bipush 8, 2) := by decide +kernel
theorem dX11_writeRule_101 : decode cX11_writeRule 101 = .ok (.if_icmp .gt 25, 3) := by decide +kernel
theorem dX11_writeRule_104 : decode cX11_writeRule 104 = .ok (.aload_n 0, 1) := by decide +kernel
theorem dX11_writeRule_105 : decode cX11_writeRule 105 = .ok (.iload_n 1, 1) := by decide +kernel
theorem dX11_writeRule_106 : decode cX11_writeRule 106 = .ok (.invokevirtual 185, 3) := by decide +kernel
theorem dX11_writeRule_109 : decode cX11_writeRule 109 = .ok (.ifCond .eq 11, 3) := by decide +kernel
theorem dX11_writeRule_112 : decode cX11_writeRule 112 = .ok (.aload_n 0, 1) := by decide +kernel
theorem dX11_writeRule_113 : decode cX11_writeRule 113 = .ok (.bipush 48, 2) := by decide +kernel
theorem dX11_writeRule_115 : decode cX11_writeRule 115 = .ok (.iload_n 1, 1) := by decide +kernel
theorem dX11_writeRule_116 : decode cX11_writeRule 116 = .ok (.iadd, 1) := by decide +kernel
theorem dX11_writeRule_117 : decode cX11_writeRule 117 = .ok (.invokevirtual 249, 3) := by decide +kernel
theorem dX11_writeRule_120 : decode cX11_writeRule 120 = .ok (.iinc 1 1, 3) := by decide +kernel
theorem dX11_writeRule_123 : decode cX11_writeRule 123 = .ok (.goto (-25), 3) := by decide +kernel
theorem dX11_writeRule_126 : decode cX11_writeRule 126 = .ok (.aload_n 0, 1) := by decide +kernel
theorem dX11_writeRule_127 : decode cX11_writeRule 127 = .ok (.getfield 246, 3) := by decide +kernel
theorem dX11_writeRule_130 : decode cX11_writeRule 130 = .ok (.ireturn, 1) := by decide +kernel
theorem dX11_outputAt_0 : decode cX11_outputAt 0 = .ok (.aload_n 0, 1) := by decide +kernel
theorem dX11_outputAt_1 : decode cX11_outputAt 1 = .ok (.iconst 0, 1) := by decide +kernel
theorem dX11_outputAt_2 : decode cX11_outputAt 2 = .ok (.putfield 66, 3) := by decide +kernel
theorem dX11_outputAt_5 : decode cX11_outputAt 5 = .ok (.iload_n 1, 1) := by decide +kernel
theorem dX11_outputAt_6 : decode cX11_outputAt 6 = .ok (.i2l, 1) := by decide +kernel
theorem dX11_outputAt_7 : decode cX11_outputAt 7 = .ok (.lconst 0, 1) := by decide +kernel
theorem dX11_outputAt_8 : decode cX11_outputAt 8 = .ok (.aload_n 0, 1) := by decide +kernel
theorem dX11_outputAt_9 : decode cX11_outputAt 9 = .ok (.getfield 246, 3) := by decide +kernel
theorem dX11_outputAt_12 : decode cX11_outputAt 12 = .ok (.iconst 1, 1) := by decide +kernel
theorem dX11_outputAt_13 : decode cX11_outputAt 13 = .ok (.isub, 1) := by decide +kernel
theorem dX11_outputAt_14 : decode cX11_outputAt 14 = .ok (.i2l, 1) := by decide +kernel
theorem dX11_outputAt_15 : decode cX11_outputAt 15 = .ok (.invokestatic 93, 3) := by decide +kernel
theorem dX11_outputAt_18 : decode cX11_outputAt 18 = .ok (.ifCond .eq 13, 3) := by decide +kernel
theorem dX11_outputAt_21 : decode cX11_outputAt 21 = .ok (.aload_n 0, 1) := by decide +kernel
theorem dX11_outputAt_22 : decode cX11_outputAt 22 = .ok (.getfield 50, 3) := by decide +kernel
theorem dX11_outputAt_25 : decode cX11_outputAt 25 = .ok (.iload_n 1, 1) := by decide +kernel
theorem dX11_outputAt_26 : decode cX11_outputAt 26 = .ok (.iaload, 1) := by decide +kernel
theorem dX11_outputAt_27 : decode cX11_outputAt 27 = .ok (.i2c, 1) := by decide +kernel
theorem dX11_outputAt_28 : decode cX11_outputAt 28 = .ok (.goto 9, 3) := by decide +kernel
theorem dX11_outputAt_31 : decode cX11_outputAt 31 = .ok (.aload_n 0, 1) := by decide +kernel
theorem dX11_outputAt_32 : decode cX11_outputAt 32 = .ok (.iconst 1, 1) := by decide +kernel
theorem dX11_outputAt_33 : decode cX11_outputAt 33 = .ok (.invokevirtual 75, 3) := by decide +kernel
theorem dX11_outputAt_36 : decode cX11_outputAt 36 = .ok (.i2c, 1) := by decide +kernel
theorem dX11_outputAt_37 : decode cX11_outputAt 37 = .ok (.ireturn, 1) := by decide +kernel
theorem dX11_appendInput_0 : decode cX11_appendInput 0 = .ok (.aload_n 0, 1) := by decide +kernel
theorem dX11_appendInput_1 : decode cX11_appendInput 1 = .ok (.iconst 0, 1) := by decide +kernel
theorem dX11_appendInput_2 : decode cX11_appendInput 2 = .ok (.putfield 66, 3) := by decide +kernel
theorem dX11_appendInput_5 : decode cX11_appendInput 5 = .ok (.iload_n 1, 1) := by decide +kernel
theorem dX11_appendInput_6 : decode cX11_appendInput 6 = .ok (.i2l, 1) := by decide +kernel
theorem dX11_appendInput_7 : decode cX11_appendInput 7 = .ok (.ldc2_w 253, 3) := by decide +kernel
theorem dX11_appendInput_10 : decode cX11_appendInput 10 = .ok (.ldc2_w 255, 3) := by decide +kernel
theorem dX11_appendInput_13 : decode cX11_appendInput 13 = .ok (.invokestatic 93, 3) := by decide +kernel
theorem dX11_appendInput_16 : decode cX11_appendInput 16 = .ok (.ifCond .ne 9, 3) := by decide +kernel
theorem dX11_appendInput_19 : decode cX11_appendInput 19 = .ok (.aload_n 0, 1) := by decide +kernel
theorem dX11_appendInput_20 : decode cX11_appendInput 20 = .ok (.iconst 1, 1) := by decide +kernel
theorem dX11_appendInput_21 : decode cX11_appendInput 21 = .ok (.invokevirtual 75, 3) := by decide +kernel
theorem dX11_appendInput_24 : decode cX11_appendInput 24 = .ok (.ireturn, 1) := by decide +kernel
theorem dX11_appendInput_25 : decode cX11_appendInput 25 = .ok (.aload_n 0, 1) := by decide +kernel
theorem dX11_appendInput_26 : decode cX11_appendInput 26 = .ok (.getfield 257, 3) := by decide +kernel
theorem dX11_appendInput_29 : decode cX11_appendInput 29 = .ok (.bipush 60, 2) := by decide +kernel
theorem dX11_appendInput_31 : decode cX11_appendInput 31 = .ok (.if_icmp .ne 9, 3) := by decide +kernel
theorem dX11_appendInput_34 : decode cX11_appendInput 34 = .ok (.aload_n 0, 1) := by decide +kernel
theorem dX11_appendInput_35 : decode cX11_appendInput 35 = .ok (.iconst 2, 1) := by decide +kernel
theorem dX11_appendInput_36 : decode cX11_appendInput 36 = .ok (.invokevirtual 75, 3) := by decide +kernel
theorem dX11_appendInput_39 : decode cX11_appendInput 39 = .ok (.ireturn, 1) := by decide +kernel
theorem dX11_appendInput_40 : decode cX11_appendInput 40 = .ok (.aload_n 0, 1) := by decide +kernel
theorem dX11_appendInput_41 : decode cX11_appendInput 41 = .ok (.getfield 32, 3) := by decide +kernel
theorem dX11_appendInput_44 : decode cX11_appendInput 44 = .ok (.aload_n 0, 1) := by decide +kernel
theorem dX11_appendInput_45 : decode cX11_appendInput 45 = .ok (.getfield 257, 3) := by decide +kernel
theorem dX11_appendInput_48 : decode cX11_appendInput 48 = .ok (.iload_n 1, 1) := by decide +kernel
theorem dX11_appendInput_49 : decode cX11_appendInput 49 = .ok (.iastore, 1) := by decide +kernel
theorem dX11_appendInput_50 : decode cX11_appendInput 50 = .ok (.aload_n 0, 1) := by decide +kernel
theorem dX11_appendInput_51 : decode cX11_appendInput 51 = .ok (.dup, 1) := by decide +kernel
theorem dX11_appendInput_52 : decode cX11_appendInput 52 = .ok (.getfield 257, 3) := by decide +kernel
theorem dX11_appendInput_55 : decode cX11_appendInput 55 = .ok (.iconst 1, 1) := by decide +kernel
theorem dX11_appendInput_56 : decode cX11_appendInput 56 = .ok (.iadd, 1) := by decide +kernel
theorem dX11_appendInput_57 : decode cX11_appendInput 57 = .ok (.putfield 257, 3) := by decide +kernel
theorem dX11_appendInput_60 : decode cX11_appendInput 60 = .ok (.aload_n 0, 1) := by decide +kernel
theorem dX11_appendInput_61 : decode cX11_appendInput 61 = .ok (.getfield 257, 3) := by decide +kernel
theorem dX11_appendInput_64 : decode cX11_appendInput 64 = .ok (.ireturn, 1) := by decide +kernel
theorem dX11_here_0 : decode cX11_here 0 = .ok (.aload_n 0, 1) := by decide +kernel
theorem dX11_here_1 : decode cX11_here 1 = .ok (.getfield 260, 3) := by decide +kernel
theorem dX11_here_4 : decode cX11_here 4 = .ok (.aload_n 0, 1) := by decide +kernel
theorem dX11_here_5 : decode cX11_here 5 = .ok (.getfield 263, 3) := by decide +kernel
theorem dX11_here_8 : decode cX11_here 8 = .ok (.if_icmp .ge 15, 3) := by decide +kernel
theorem dX11_here_11 : decode cX11_here 11 = .ok (.aload_n 0, 1) := by decide +kernel
theorem dX11_here_12 : decode cX11_here 12 = .ok (.getfield 32, 3) := by decide +kernel
theorem dX11_here_15 : decode cX11_here 15 = .ok (.aload_n 0, 1) := by decide +kernel
theorem dX11_here_16 : decode cX11_here 16 = .ok (.getfield 260, 3) := by decide +kernel
theorem dX11_here_19 : decode cX11_here 19 = .ok (.iaload, 1) := by decide +kernel
theorem dX11_here_20 : decode cX11_here 20 = .ok (.goto 4, 3) := by decide +kernel
theorem dX11_here_23 : decode cX11_here 23 = .ok (.iconst (-1), 1) := by decide +kernel
theorem dX11_here_24 : decode cX11_here 24 = .ok (.ireturn, 1) := by decide +kernel
theorem dX11_expects_0 : decode cX11_expects 0 = .ok (.aload_n 0, 1) := by decide +kernel
theorem dX11_expects_1 : decode cX11_expects 1 = .ok (.aload_n 0, 1) := by decide +kernel
theorem dX11_expects_2 : decode cX11_expects 2 = .ok (.getfield 266, 3) := by decide +kernel
theorem dX11_expects_5 : decode cX11_expects 5 = .ok (.ifCond .ne 11, 3) := by decide +kernel
theorem dX11_expects_8 : decode cX11_expects 8 = .ok (.aload_n 0, 1) := by decide +kernel
theorem dX11_expects_9 : decode cX11_expects 9 = .ok (.invokevirtual 270, 3) := by decide +kernel
theorem dX11_expects_12 : decode cX11_expects 12 = .ok (.iload_n 1, 1) := by decide +kernel
theorem dX11_expects_13 : decode cX11_expects 13 = .ok (.if_icmp .eq 7, 3) := by decide +kernel
theorem dX11_expects_16 : decode cX11_expects 16 = .ok (.iconst 1, 1) := by decide +kernel
theorem dX11_expects_17 : decode cX11_expects 17 = .ok (.goto 4, 3) := by decide +kernel
theorem dX11_expects_20 : decode cX11_expects 20 = .ok (.iconst 0, 1) := by decide +kernel
theorem dX11_expects_21 : decode cX11_expects 21 = .ok (.putfield 266, 3) := by decide +kernel
theorem dX11_expects_24 : decode cX11_expects 24 = .ok (.aload_n 0, 1) := by decide +kernel
theorem dX11_expects_25 : decode cX11_expects 25 = .ok (.dup, 1) := by decide +kernel
theorem dX11_expects_26 : decode cX11_expects 26 = .ok (.getfield 260, 3) := by decide +kernel
theorem dX11_expects_29 : decode cX11_expects 29 = .ok (.aload_n 0, 1) := by decide +kernel
theorem dX11_expects_30 : decode cX11_expects 30 = .ok (.getfield 266, 3) := by decide +kernel
theorem dX11_expects_33 : decode cX11_expects 33 = .ok (.ifCond .eq 7, 3) := by decide +kernel
theorem dX11_expects_36 : decode cX11_expects 36 = .ok (.iconst 0, 1) := by decide +kernel
theorem dX11_expects_37 : decode cX11_expects 37 = .ok (.goto 4, 3) := by decide +kernel
theorem dX11_expects_40 : decode cX11_expects 40 = .ok (.iconst 1, 1) := by decide +kernel
theorem dX11_expects_41 : decode cX11_expects 41 = .ok (.iadd, 1) := by decide +kernel
theorem dX11_expects_42 : decode cX11_expects 42 = .ok (.putfield 260, 3) := by decide +kernel
theorem dX11_expects_45 : decode cX11_expects 45 = .ok (.return_, 1) := by decide +kernel
theorem dX11_digit_0 : decode cX11_digit 0 = .ok (.aload_n 0, 1) := by decide +kernel
theorem dX11_digit_1 : decode cX11_digit 1 = .ok (.aload_n 0, 1) := by decide +kernel
theorem dX11_digit_2 : decode cX11_digit 2 = .ok (.getfield 266, 3) := by decide +kernel
theorem dX11_digit_5 : decode cX11_digit 5 = .ok (.ifCond .ne 20, 3) := by decide +kernel
theorem dX11_digit_8 : decode cX11_digit 8 = .ok (.aload_n 0, 1) := by decide +kernel
theorem dX11_digit_9 : decode cX11_digit 9 = .ok (.invokevirtual 270, 3) := by decide +kernel
theorem dX11_digit_12 : decode cX11_digit 12 = .ok (.i2l, 1) := by decide +kernel
theorem dX11_digit_13 : decode cX11_digit 13 = .ok (.ldc2_w 273, 3) := by decide +kernel
theorem dX11_digit_16 : decode cX11_digit 16 = .ok (.ldc2_w 275, 3) := by decide +kernel
theorem dX11_digit_19 : decode cX11_digit 19 = .ok (.invokestatic 93, 3) := by decide +kernel
theorem dX11_digit_22 : decode cX11_digit 22 = .ok (.ifCond .ne 7, 3) := by decide +kernel
theorem dX11_digit_25 : decode cX11_digit 25 = .ok (.iconst 1, 1) := by decide +kernel
theorem dX11_digit_26 : decode cX11_digit 26 = .ok (.goto 4, 3) := by decide +kernel
theorem dX11_digit_29 : decode cX11_digit 29 = .ok (.iconst 0, 1) := by decide +kernel
theorem dX11_digit_30 : decode cX11_digit 30 = .ok (.putfield 266, 3) := by decide +kernel
theorem dX11_digit_33 : decode cX11_digit 33 = .ok (.aload_n 0, 1) := by decide +kernel
theorem dX11_digit_34 : decode cX11_digit 34 = .ok (.getfield 266, 3) := by decide +kernel
theorem dX11_digit_37 : decode cX11_digit 37 = .ok (.ifCond .eq 7, 3) := by decide +kernel
theorem dX11_digit_40 : decode cX11_digit 40 = .ok (.iconst 0, 1) := by decide +kernel
theorem dX11_digit_41 : decode cX11_digit 41 = .ok (.goto 10, 3) := by decide +kernel
theorem dX11_digit_44 : decode cX11_digit 44 = .ok (.aload_n 0, 1) := by decide +kernel
theorem dX11_digit_45 : decode cX11_digit 45 = .ok (.invokevirtual 270, 3) := by decide +kernel
theorem dX11_digit_48 : decode cX11_digit 48 = .ok (.bipush 48, 2) := by decide +kernel
theorem dX11_digit_50 : decode cX11_digit 50 = .ok (.isub, 1) := by decide +kernel
theorem dX11_digit_51 : decode cX11_digit 51 = .ok (.istore_n 1, 1) := by decide +kernel
theorem dX11_digit_52 : decode cX11_digit 52 = .ok (.aload_n 0, 1) := by decide +kernel
theorem dX11_digit_53 : decode cX11_digit 53 = .ok (.dup, 1) := by decide +kernel
theorem dX11_digit_54 : decode cX11_digit 54 = .ok (.getfield 260, 3) := by decide +kernel
theorem dX11_digit_57 : decode cX11_digit 57 = .ok (.aload_n 0, 1) := by decide +kernel
theorem dX11_digit_58 : decode cX11_digit 58 = .ok (.getfield 266, 3) := by decide +kernel
theorem dX11_digit_61 : decode cX11_digit 61 = .ok (.ifCond .eq 7, 3) := by decide +kernel
theorem dX11_digit_64 : decode cX11_digit 64 = .ok (.iconst 0, 1) := by decide +kernel
theorem dX11_digit_65 : decode cX11_digit 65 = .ok (.goto 4, 3) := by decide +kernel
theorem dX11_digit_68 : decode cX11_digit 68 = .ok (.iconst 1, 1) := by decide +kernel
theorem dX11_digit_69 : decode cX11_digit 69 = .ok (.iadd, 1) := by decide +kernel
theorem dX11_digit_70 : decode cX11_digit 70 = .ok (.putfield 260, 3) := by decide +kernel
theorem dX11_digit_73 : decode cX11_digit 73 = .ok (.iload_n 1, 1) := by decide +kernel
theorem dX11_digit_74 : decode cX11_digit 74 = .ok (.ireturn, 1) := by decide +kernel
theorem dX11_number_0 : decode cX11_number 0 = .ok (.aload_n 0, 1) := by decide +kernel
theorem dX11_number_1 : decode cX11_number 1 = .ok (.invokevirtual 277, 3) := by decide +kernel
theorem dX11_number_4 : decode cX11_number 4 = .ok (.istore_n 1, 1) := by decide +kernel
theorem dX11_number_5 : decode cX11_number 5 = .ok (.aload_n 0, 1) := by decide +kernel
theorem dX11_number_6 : decode cX11_number 6 = .ok (.getfield 266, 3) := by decide +kernel
theorem dX11_number_9 : decode cX11_number 9 = .ok (.ifCond .ne 32, 3) := by decide +kernel
theorem dX11_number_12 : decode cX11_number 12 = .ok (.aload_n 0, 1) := by decide +kernel
theorem dX11_number_13 : decode cX11_number 13 = .ok (.invokevirtual 270, 3) := by decide +kernel
theorem dX11_number_16 : decode cX11_number 16 = .ok (.i2l, 1) := by decide +kernel
theorem dX11_number_17 : decode cX11_number 17 = .ok (.ldc2_w 273, 3) := by decide +kernel
theorem dX11_number_20 : decode cX11_number 20 = .ok (.ldc2_w 275, 3) := by decide +kernel
theorem dX11_number_23 : decode cX11_number 23 = .ok (.invokestatic 93, 3) := by decide +kernel
theorem dX11_number_26 : decode cX11_number 26 = .ok (.ifCond .eq 15, 3) := by decide +kernel
theorem dX11_number_29 : decode cX11_number 29 = .ok (.bipush 10, 2) := by decide +kernel
theorem dX11_number_31 : decode cX11_number 31 = .ok (.iload_n 1, 1) := by decide +kernel
theorem dX11_number_32 : decode cX11_number 32 = .ok (.imul, 1) := by decide +kernel
theorem dX11_number_33 : decode cX11_number 33 = .ok (.aload_n 0, 1) := by decide +kernel
theorem dX11_number_34 : decode cX11_number 34 = .ok (.invokevirtual 277, 3) := by decide +kernel
theorem dX11_number_37 : decode cX11_number 37 = .ok (.iadd, 1) := by decide +kernel
theorem dX11_number_38 : decode cX11_number 38 = .ok (.goto 4, 3) := by decide +kernel
theorem dX11_number_41 : decode cX11_number 41 = .ok (.iload_n 1, 1) := by decide +kernel
theorem dX11_number_42 : decode cX11_number 42 = .ok (.ireturn, 1) := by decide +kernel
theorem dX11_letter_0 : decode cX11_letter 0 = .ok (.aload_n 0, 1) := by decide +kernel
theorem dX11_letter_1 : decode cX11_letter 1 = .ok (.aload_n 0, 1) := by decide +kernel
theorem dX11_letter_2 : decode cX11_letter 2 = .ok (.getfield 266, 3) := by decide +kernel
theorem dX11_letter_5 : decode cX11_letter 5 = .ok (.ifCond .ne 7, 3) := by decide +kernel
theorem dX11_letter_8 : decode cX11_letter 8 = .ok (.iload_n 1, 1) := by decide +kernel
theorem dX11_letter_9 : decode cX11_letter 9 = .ok (.ifCond .ne 7, 3) := by decide +kernel
theorem dX11_letter_12 : decode cX11_letter 12 = .ok (.iconst 1, 1) := by decide +kernel
theorem dX11_letter_13 : decode cX11_letter 13 = .ok (.goto 4, 3) := by decide +kernel
theorem dX11_letter_16 : decode cX11_letter 16 = .ok (.iconst 0, 1) := by decide +kernel
theorem dX11_letter_17 : decode cX11_letter 17 = .ok (.putfield 266, 3) := by decide +kernel
theorem dX11_letter_20 : decode cX11_letter 20 = .ok (.aload_n 0, 1) := by decide +kernel
theorem dX11_letter_21 : decode cX11_letter 21 = .ok (.getfield 266, 3) := by decide +kernel
theorem dX11_letter_24 : decode cX11_letter 24 = .ok (.ifCond .eq 7, 3) := by decide +kernel
theorem dX11_letter_27 : decode cX11_letter 27 = .ok (.iconst 0, 1) := by decide +kernel
theorem dX11_letter_28 : decode cX11_letter 28 = .ok (.goto 7, 3) := by decide +kernel
theorem dX11_letter_31 : decode cX11_letter 31 = .ok (.aload_n 0, 1) := by decide +kernel
theorem dX11_letter_32 : decode cX11_letter 32 = .ok (.invokevirtual 270, 3) := by decide +kernel
theorem dX11_letter_35 : decode cX11_letter 35 = .ok (.istore_n 2, 1) := by decide +kernel
theorem dX11_letter_36 : decode cX11_letter 36 = .ok (.aload_n 0, 1) := by decide +kernel
theorem dX11_letter_37 : decode cX11_letter 37 = .ok (.dup, 1) := by decide +kernel
theorem dX11_letter_38 : decode cX11_letter 38 = .ok (.getfield 260, 3) := by decide +kernel
theorem dX11_letter_41 : decode cX11_letter 41 = .ok (.aload_n 0, 1) := by decide +kernel
theorem dX11_letter_42 : decode cX11_letter 42 = .ok (.getfield 266, 3) := by decide +kernel
theorem dX11_letter_45 : decode cX11_letter 45 = .ok (.ifCond .eq 7, 3) := by decide +kernel
theorem dX11_letter_48 : decode cX11_letter 48 = .ok (.iconst 0, 1) := by decide +kernel
theorem dX11_letter_49 : decode cX11_letter 49 = .ok (.goto 4, 3) := by decide +kernel
theorem dX11_letter_52 : decode cX11_letter 52 = .ok (.iconst 1, 1) := by decide +kernel
theorem dX11_letter_53 : decode cX11_letter 53 = .ok (.iadd, 1) := by decide +kernel
theorem dX11_letter_54 : decode cX11_letter 54 = .ok (.putfield 260, 3) := by decide +kernel
theorem dX11_letter_57 : decode cX11_letter 57 = .ok (.iload_n 2, 1) := by decide +kernel
theorem dX11_letter_58 : decode cX11_letter 58 = .ok (.ireturn, 1) := by decide +kernel
theorem dX11_likeness_0 : decode cX11_likeness 0 = .ok (.iconst 0, 1) := by decide +kernel
theorem dX11_likeness_1 : decode cX11_likeness 1 = .ok (.istore_n 2, 1) := by decide +kernel
theorem dX11_likeness_2 : decode cX11_likeness 2 = .ok (.aload_n 0, 1) := by decide +kernel
theorem dX11_likeness_3 : decode cX11_likeness 3 = .ok (.getfield 60, 3) := by decide +kernel
theorem dX11_likeness_6 : decode cX11_likeness 6 = .ok (.iload_n 1, 1) := by decide +kernel
theorem dX11_likeness_7 : decode cX11_likeness 7 = .ok (.iconst 1, 1) := by decide +kernel
theorem dX11_likeness_8 : decode cX11_likeness 8 = .ok (.iadd, 1) := by decide +kernel
theorem dX11_likeness_9 : decode cX11_likeness 9 = .ok (.iaload, 1) := by decide +kernel
theorem dX11_likeness_10 : decode cX11_likeness 10 = .ok (.aload_n 0, 1) := by decide +kernel
theorem dX11_likeness_11 : decode cX11_likeness 11 = .ok (.getfield 60, 3) := by decide +kernel
theorem dX11_likeness_14 : decode cX11_likeness 14 = .ok (.iload_n 1, 1) := by decide +kernel
theorem dX11_likeness_15 : decode cX11_likeness 15 = .ok (.iaload, 1) := by decide +kernel
theorem dX11_likeness_16 : decode cX11_likeness 16 = .ok (.isub, 1) := by decide +kernel
theorem dX11_likeness_17 : decode cX11_likeness 17 = .ok (.istore_n 3, 1) := by decide +kernel
theorem dX11_likeness_18 : decode cX11_likeness 18 = .ok (.iload_n 2, 1) := by decide +kernel
theorem dX11_likeness_19 : decode cX11_likeness 19 = .ok (.iload_n 3, 1) := by decide +kernel
theorem dX11_likeness_20 : decode cX11_likeness 20 = .ok (.if_icmp .ge 49, 3) := by decide +kernel
theorem dX11_likeness_23 : decode cX11_likeness 23 = .ok (.aload_n 0, 1) := by decide +kernel
theorem dX11_likeness_24 : decode cX11_likeness 24 = .ok (.getfield 260, 3) := by decide +kernel
theorem dX11_likeness_27 : decode cX11_likeness 27 = .ok (.iload_n 2, 1) := by decide +kernel
theorem dX11_likeness_28 : decode cX11_likeness 28 = .ok (.iadd, 1) := by decide +kernel
theorem dX11_likeness_29 : decode cX11_likeness 29 = .ok (.aload_n 0, 1) := by decide +kernel
theorem dX11_likeness_30 : decode cX11_likeness 30 = .ok (.getfield 263, 3) := by decide +kernel
theorem dX11_likeness_33 : decode cX11_likeness 33 = .ok (.if_icmp .ge 36, 3) := by decide +kernel
theorem dX11_likeness_36 : decode cX11_likeness 36 = .ok (.aload_n 0, 1) := by decide +kernel
theorem dX11_likeness_37 : decode cX11_likeness 37 = .ok (.getfield 32, 3) := by decide +kernel
theorem dX11_likeness_40 : decode cX11_likeness 40 = .ok (.aload_n 0, 1) := by decide +kernel
theorem dX11_likeness_41 : decode cX11_likeness 41 = .ok (.getfield 260, 3) := by decide +kernel
theorem dX11_likeness_44 : decode cX11_likeness 44 = .ok (.iload_n 2, 1) := by decide +kernel
theorem dX11_likeness_45 : decode cX11_likeness 45 = .ok (.iadd, 1) := by decide +kernel
theorem dX11_likeness_46 : decode cX11_likeness 46 = .ok (.iaload, 1) := by decide +kernel
theorem dX11_likeness_47 : decode cX11_likeness 47 = .ok (.aload_n 0, 1) := by decide +kernel
theorem dX11_likeness_48 : decode cX11_likeness 48 = .ok (.getfield 57, 3) := by decide +kernel
theorem dX11_likeness_51 : decode cX11_likeness 51 = .ok (.aload_n 0, 1) := by decide +kernel
theorem dX11_likeness_52 : decode cX11_likeness 52 = .ok (.getfield 60, 3) := by decide +kernel
theorem dX11_likeness_55 : decode cX11_likeness 55 = .ok (.iload_n 1, 1) := by decide +kernel
theorem dX11_likeness_56 : decode cX11_likeness 56 = .ok (.iaload, 1) := by decide +kernel
theorem dX11_likeness_57 : decode cX11_likeness 57 = .ok (.iload_n 2, 1) := by decide +kernel
theorem dX11_likeness_58 : decode cX11_likeness 58 = .ok (.iadd, 1) := by decide +kernel
theorem dX11_likeness_59 : decode cX11_likeness 59 = .ok (.caload, 1) := by decide +kernel
theorem dX11_likeness_60 : decode cX11_likeness 60 = .ok (.if_icmp .ne 9, 3) := by decide +kernel
theorem dX11_likeness_63 : decode cX11_likeness 63 = .ok (.iinc 2 1, 3) := by decide +kernel
theorem dX11_likeness_66 : decode cX11_likeness 66 = .ok (.goto (-48), 3) := by decide +kernel
theorem dX11_likeness_69 : decode cX11_likeness 69 = .ok (.iload_n 2, 1) := by decide +kernel
theorem dX11_likeness_70 : decode cX11_likeness 70 = .ok (.ireturn, 1) := by decide +kernel
theorem dX11_ruleWord_0 : decode cX11_ruleWord 0 = .ok (.aload_n 0, 1) := by decide +kernel
theorem dX11_ruleWord_1 : decode cX11_ruleWord 1 = .ok (.invokevirtual 270, 3) := by decide +kernel
theorem dX11_ruleWord_4 : decode cX11_ruleWord 4 = .ok (.bipush 99, 2) := by decide +kernel
theorem dX11_ruleWord_6 : decode cX11_ruleWord 6 = .ok (.if_icmp .ne 7, 3) := by decide +kernel
theorem dX11_ruleWord_9 : decode cX11_ruleWord 9 = .ok (.iconst 0, 1) := by decide +kernel
theorem dX11_ruleWord_10 : decode cX11_ruleWord 10 = .ok (.goto 17, 3) := by decide +kernel
theorem dX11_ruleWord_13 : decode cX11_ruleWord 13 = .ok (.aload_n 0, 1) := by decide +kernel
theorem dX11_ruleWord_14 : decode cX11_ruleWord 14 = .ok (.invokevirtual 270, 3) := by decide +kernel
theorem dX11_ruleWord_17 : decode cX11_ruleWord 17 = .ok (.bipush 98, 2) := by decide +kernel
theorem dX11_ruleWord_19 : decode cX11_ruleWord 19 = .ok (.if_icmp .ne 7, 3) := by decide +kernel
theorem dX11_ruleWord_22 : decode cX11_ruleWord 22 = .ok (.iconst 1, 1) := by decide +kernel
theorem dX11_ruleWord_23 : decode cX11_ruleWord 23 = .ok (.goto 4, 3) := by decide +kernel
theorem dX11_ruleWord_26 : decode cX11_ruleWord 26 = .ok (.iconst 2, 1) := by decide +kernel
theorem dX11_ruleWord_27 : decode cX11_ruleWord 27 = .ok (.istore_n 1, 1) := by decide +kernel
theorem dX11_ruleWord_28 : decode cX11_ruleWord 28 = .ok (.iconst 0, 1) := by decide +kernel
theorem dX11_ruleWord_29 : decode cX11_ruleWord 29 = .ok (.istore_n 2, 1) := by decide +kernel
theorem dX11_ruleWord_30 : decode cX11_ruleWord 30 = .ok (.iload_n 2, 1) := by decide +kernel
theorem dX11_ruleWord_31 : decode cX11_ruleWord 31 = .ok (.iconst 4, 1) := by decide +kernel
theorem dX11_ruleWord_32 : decode cX11_ruleWord 32 = .ok (.if_icmp .ge 23, 3) := by decide +kernel
theorem dX11_ruleWord_35 : decode cX11_ruleWord 35 = .ok (.aload_n 0, 1) := by decide +kernel
theorem dX11_ruleWord_36 : decode cX11_ruleWord 36 = .ok (.aload_n 0, 1) := by decide +kernel
theorem dX11_ruleWord_37 : decode cX11_ruleWord 37 = .ok (.getfield 53, 3) := by decide +kernel
theorem dX11_ruleWord_40 : decode cX11_ruleWord 40 = .ok (.iconst 4, 1) := by decide +kernel
theorem dX11_ruleWord_41 : decode cX11_ruleWord 41 = .ok (.iload_n 1, 1) := by decide +kernel
theorem dX11_ruleWord_42 : decode cX11_ruleWord 42 = .ok (.imul, 1) := by decide +kernel
theorem dX11_ruleWord_43 : decode cX11_ruleWord 43 = .ok (.iload_n 2, 1) := by decide +kernel
theorem dX11_ruleWord_44 : decode cX11_ruleWord 44 = .ok (.iadd, 1) := by decide +kernel
theorem dX11_ruleWord_45 : decode cX11_ruleWord 45 = .ok (.caload, 1) := by decide +kernel
theorem dX11_ruleWord_46 : decode cX11_ruleWord 46 = .ok (.invokevirtual 280, 3) := by decide +kernel
theorem dX11_ruleWord_49 : decode cX11_ruleWord 49 = .ok (.iinc 2 1, 3) := by decide +kernel
theorem dX11_ruleWord_52 : decode cX11_ruleWord 52 = .ok (.goto (-22), 3) := by decide +kernel
theorem dX11_ruleWord_55 : decode cX11_ruleWord 55 = .ok (.iload_n 1, 1) := by decide +kernel
theorem dX11_ruleWord_56 : decode cX11_ruleWord 56 = .ok (.invokestatic 173, 3) := by decide +kernel
theorem dX11_ruleWord_59 : decode cX11_ruleWord 59 = .ok (.ireturn, 1) := by decide +kernel
theorem dX11_readArguments_0 : decode cX11_readArguments 0 = .ok (.iload_n 1, 1) := by decide +kernel
theorem dX11_readArguments_1 : decode cX11_readArguments 1 = .ok (.iconst 5, 1) := by decide +kernel
theorem dX11_readArguments_2 : decode cX11_readArguments 2 = .ok (.if_icmp .ne 16, 3) := by decide +kernel
theorem dX11_readArguments_5 : decode cX11_readArguments 5 = .ok (.aload_n 0, 1) := by decide +kernel
theorem dX11_readArguments_6 : decode cX11_readArguments 6 = .ok (.getfield 63, 3) := by decide +kernel
theorem dX11_readArguments_9 : decode cX11_readArguments 9 = .ok (.iload_n 2, 1) := by decide +kernel
theorem dX11_readArguments_10 : decode cX11_readArguments 10 = .ok (.aload_n 0, 1) := by decide +kernel
theorem dX11_readArguments_11 : decode cX11_readArguments 11 = .ok (.invokevirtual 283, 3) := by decide +kernel
theorem dX11_readArguments_14 : decode cX11_readArguments 14 = .ok (.iastore, 1) := by decide +kernel
theorem dX11_readArguments_15 : decode cX11_readArguments 15 = .ok (.goto 135, 3) := by decide +kernel
theorem dX11_readArguments_18 : decode cX11_readArguments 18 = .ok (.iload_n 1, 1) := by decide +kernel
theorem dX11_readArguments_19 : decode cX11_readArguments 19 = .ok (.bipush 6, 2) := by decide +kernel
theorem dX11_readArguments_21 : decode cX11_readArguments 21 = .ok (.if_icmp .ne 16, 3) := by decide +kernel
theorem dX11_readArguments_24 : decode cX11_readArguments 24 = .ok (.aload_n 0, 1) := by decide +kernel
theorem dX11_readArguments_25 : decode cX11_readArguments 25 = .ok (.getfield 63, 3) := by decide +kernel
theorem dX11_readArguments_28 : decode cX11_readArguments 28 = .ok (.iload_n 2, 1) := by decide +kernel
theorem dX11_readArguments_29 : decode cX11_readArguments 29 = .ok (.aload_n 0, 1) := by decide +kernel
theorem dX11_readArguments_30 : decode cX11_readArguments 30 = .ok (.invokevirtual 286, 3) := by decide +kernel
theorem dX11_readArguments_33 : decode cX11_readArguments 33 = .ok (.iastore, 1) := by decide +kernel
theorem dX11_readArguments_34 : decode cX11_readArguments 34 = .ok (.goto 116, 3) := by decide +kernel
theorem dX11_readArguments_37 : decode cX11_readArguments 37 = .ok (.aload_n 0, 1) := by decide +kernel
theorem dX11_readArguments_38 : decode cX11_readArguments 38 = .ok (.getfield 63, 3) := by decide +kernel
theorem dX11_readArguments_41 : decode cX11_readArguments 41 = .ok (.iload_n 2, 1) := by decide +kernel
theorem dX11_readArguments_42 : decode cX11_readArguments 42 = .ok (.aload_n 0, 1) := by decide +kernel
theorem dX11_readArguments_43 : decode cX11_readArguments 43 = .ok (.invokevirtual 277, 3) := by decide +kernel
theorem dX11_readArguments_46 : decode cX11_readArguments 46 = .ok (.iastore, 1) := by decide +kernel
theorem dX11_readArguments_47 : decode cX11_readArguments 47 = .ok (.aload_n 0, 1) := by decide +kernel
theorem dX11_readArguments_48 : decode cX11_readArguments 48 = .ok (.getfield 63, 3) := by decide +kernel
theorem dX11_readArguments_51 : decode cX11_readArguments 51 = .ok (.iload_n 2, 1) := by decide +kernel
theorem dX11_readArguments_52 : decode cX11_readArguments 52 = .ok (.iconst 1, 1) := by decide +kernel
theorem dX11_readArguments_53 : decode cX11_readArguments 53 = .ok (.iadd, 1) := by decide +kernel
theorem dX11_readArguments_54 : decode cX11_readArguments 54 = .ok (.aload_n 0, 1) := by decide +kernel
theorem dX11_readArguments_55 : decode cX11_readArguments 55 = .ok (.invokevirtual 277, 3) := by decide +kernel
theorem dX11_readArguments_58 : decode cX11_readArguments 58 = .ok (.iastore, 1) := by decide +kernel
theorem dX11_readArguments_59 : decode cX11_readArguments 59 = .ok (.iload_n 1, 1) := by decide +kernel
theorem dX11_readArguments_60 : decode cX11_readArguments 60 = .ok (.ifCond .eq 13, 3) := by decide +kernel
theorem dX11_readArguments_63 : decode cX11_readArguments 63 = .ok (.iload_n 1, 1) := by decide +kernel
theorem dX11_readArguments_64 : decode cX11_readArguments 64 = .ok (.iconst 3, 1) := by decide +kernel
theorem dX11_readArguments_65 : decode cX11_readArguments 65 = .ok (.if_icmp .eq 8, 3) := by decide +kernel
theorem dX11_readArguments_68 : decode cX11_readArguments 68 = .ok (.iload_n 1, 1) := by decide +kernel
theorem dX11_readArguments_69 : decode cX11_readArguments 69 = .ok (.iconst 4, 1) := by decide +kernel
theorem dX11_readArguments_70 : decode cX11_readArguments 70 = .ok (.if_icmp .ne 56, 3) := by decide +kernel
theorem dX11_readArguments_73 : decode cX11_readArguments 73 = .ok (.aload_n 0, 1) := by decide +kernel
theorem dX11_readArguments_74 : decode cX11_readArguments 74 = .ok (.bipush 32, 2) := by decide +kernel
theorem dX11_readArguments_76 : decode cX11_readArguments 76 = .ok (.invokevirtual 280, 3) := by decide +kernel
theorem dX11_readArguments_79 : decode cX11_readArguments 79 = .ok (.aload_n 0, 1) := by decide +kernel
theorem dX11_readArguments_80 : decode cX11_readArguments 80 = .ok (.getfield 63, 3) := by decide +kernel
theorem dX11_readArguments_83 : decode cX11_readArguments 83 = .ok (.iload_n 2, 1) := by decide +kernel
theorem dX11_readArguments_84 : decode cX11_readArguments 84 = .ok (.iconst 2, 1) := by decide +kernel
theorem dX11_readArguments_85 : decode cX11_readArguments 85 = .ok (.iadd, 1) := by decide +kernel
theorem dX11_readArguments_86 : decode cX11_readArguments 86 = .ok (.iload_n 1, 1) := by decide +kernel
theorem dX11_readArguments_87 : decode cX11_readArguments 87 = .ok (.iconst 4, 1) := by decide +kernel
theorem dX11_readArguments_88 : decode cX11_readArguments 88 = .ok (.if_icmp .ne 26, 3) := by decide +kernel
theorem dX11_readArguments_91 : decode cX11_readArguments 91 = .ok (.aload_n 0, 1) := by decide +kernel
theorem dX11_readArguments_92 : decode cX11_readArguments 92 = .ok (.aload_n 0, 1) := by decide +kernel
theorem dX11_readArguments_93 : decode cX11_readArguments 93 = .ok (.invokevirtual 270, 3) := by decide +kernel
theorem dX11_readArguments_96 : decode cX11_readArguments 96 = .ok (.invokestatic 163, 3) := by decide +kernel
theorem dX11_readArguments_99 : decode cX11_readArguments 99 = .ok (.iconst (-1), 1) := by decide +kernel
theorem dX11_readArguments_100 : decode cX11_readArguments 100 = .ok (.if_icmp .eq 7, 3) := by decide +kernel
theorem dX11_readArguments_103 : decode cX11_readArguments 103 = .ok (.iconst 1, 1) := by decide +kernel
theorem dX11_readArguments_104 : decode cX11_readArguments 104 = .ok (.goto 4, 3) := by decide +kernel
theorem dX11_readArguments_107 : decode cX11_readArguments 107 = .ok (.iconst 0, 1) := by decide +kernel
theorem dX11_readArguments_108 : decode cX11_readArguments 108 = .ok (.invokevirtual 289, 3) := by decide +kernel
theorem dX11_readArguments_111 : decode cX11_readArguments 111 = .ok (.goto 14, 3) := by decide +kernel
theorem dX11_readArguments_114 : decode cX11_readArguments 114 = .ok (.aload_n 0, 1) := by decide +kernel
theorem dX11_readArguments_115 : decode cX11_readArguments 115 = .ok (.aload_n 0, 1) := by decide +kernel
theorem dX11_readArguments_116 : decode cX11_readArguments 116 = .ok (.invokevirtual 270, 3) := by decide +kernel
theorem dX11_readArguments_119 : decode cX11_readArguments 119 = .ok (.invokestatic 127, 3) := by decide +kernel
theorem dX11_readArguments_122 : decode cX11_readArguments 122 = .ok (.invokevirtual 289, 3) := by decide +kernel
theorem dX11_readArguments_125 : decode cX11_readArguments 125 = .ok (.iastore, 1) := by decide +kernel
theorem dX11_readArguments_126 : decode cX11_readArguments 126 = .ok (.iload_n 1, 1) := by decide +kernel
theorem dX11_readArguments_127 : decode cX11_readArguments 127 = .ok (.iconst 4, 1) := by decide +kernel
theorem dX11_readArguments_128 : decode cX11_readArguments 128 = .ok (.if_icmp .ne 22, 3) := by decide +kernel
theorem dX11_readArguments_131 : decode cX11_readArguments 131 = .ok (.aload_n 0, 1) := by decide +kernel
theorem dX11_readArguments_132 : decode cX11_readArguments 132 = .ok (.getfield 63, 3) := by decide +kernel
theorem dX11_readArguments_135 : decode cX11_readArguments 135 = .ok (.iload_n 2, 1) := by decide +kernel
theorem dX11_readArguments_136 : decode cX11_readArguments 136 = .ok (.iconst 3, 1) := by decide +kernel
theorem dX11_readArguments_137 : decode cX11_readArguments 137 = .ok (.iadd, 1) := by decide +kernel
theorem dX11_readArguments_138 : decode cX11_readArguments 138 = .ok (.aload_n 0, 1) := by decide +kernel
theorem dX11_readArguments_139 : decode cX11_readArguments 139 = .ok (.aload_n 0, 1) := by decide +kernel
theorem dX11_readArguments_140 : decode cX11_readArguments 140 = .ok (.invokevirtual 270, 3) := by decide +kernel
theorem dX11_readArguments_143 : decode cX11_readArguments 143 = .ok (.invokestatic 127, 3) := by decide +kernel
theorem dX11_readArguments_146 : decode cX11_readArguments 146 = .ok (.invokevirtual 289, 3) := by decide +kernel
theorem dX11_readArguments_149 : decode cX11_readArguments 149 = .ok (.iastore, 1) := by decide +kernel
theorem dX11_readArguments_150 : decode cX11_readArguments 150 = .ok (.return_, 1) := by decide +kernel
theorem dX11_readCommand_0 : decode cX11_readCommand 0 = .ok (.iconst 5, 1) := by decide +kernel
theorem dX11_readCommand_1 : decode cX11_readCommand 1 = .ok (.aload_n 0, 1) := by decide +kernel
theorem dX11_readCommand_2 : decode cX11_readCommand 2 = .ok (.getfield 293, 3) := by decide +kernel
theorem dX11_readCommand_5 : decode cX11_readCommand 5 = .ok (.imul, 1) := by decide +kernel
theorem dX11_readCommand_6 : decode cX11_readCommand 6 = .ok (.istore_n 1, 1) := by decide +kernel
theorem dX11_readCommand_7 : decode cX11_readCommand 7 = .ok (.iconst 0, 1) := by decide +kernel
theorem dX11_readCommand_8 : decode cX11_readCommand 8 = .ok (.istore_n 2, 1) := by decide +kernel
theorem dX11_readCommand_9 : decode cX11_readCommand 9 = .ok (.iconst 1, 1) := by decide +kernel
theorem dX11_readCommand_10 : decode cX11_readCommand 10 = .ok (.istore_n 3, 1) := by decide +kernel
theorem dX11_readCommand_11 : decode cX11_readCommand 11 = .ok (.iload_n 3, 1) := by decide +kernel
theorem dX11_readCommand_12 : decode cX11_readCommand 12 = .ok (.bipush 7, 2) := by decide +kernel
theorem dX11_readCommand_14 : decode cX11_readCommand 14 = .ok (.if_icmp .ge 28, 3) := by decide +kernel
theorem dX11_readCommand_17 : decode cX11_readCommand 17 = .ok (.aload_n 0, 1) := by decide +kernel
theorem dX11_readCommand_18 : decode cX11_readCommand 18 = .ok (.iload_n 3, 1) := by decide +kernel
theorem dX11_readCommand_19 : decode cX11_readCommand 19 = .ok (.invokevirtual 296, 3) := by decide +kernel
theorem dX11_readCommand_22 : decode cX11_readCommand 22 = .ok (.aload_n 0, 1) := by decide +kernel
theorem dX11_readCommand_23 : decode cX11_readCommand 23 = .ok (.iload_n 2, 1) := by decide +kernel
theorem dX11_readCommand_24 : decode cX11_readCommand 24 = .ok (.invokevirtual 296, 3) := by decide +kernel
theorem dX11_readCommand_27 : decode cX11_readCommand 27 = .ok (.if_icmp .le 7, 3) := by decide +kernel
theorem dX11_readCommand_30 : decode cX11_readCommand 30 = .ok (.iload_n 3, 1) := by decide +kernel
theorem dX11_readCommand_31 : decode cX11_readCommand 31 = .ok (.goto 4, 3) := by decide +kernel
theorem dX11_readCommand_34 : decode cX11_readCommand 34 = .ok (.iload_n 2, 1) := by decide +kernel
theorem dX11_readCommand_35 : decode cX11_readCommand 35 = .ok (.istore_n 2, 1) := by decide +kernel
theorem dX11_readCommand_36 : decode cX11_readCommand 36 = .ok (.iinc 3 1, 3) := by decide +kernel
theorem dX11_readCommand_39 : decode cX11_readCommand 39 = .ok (.goto (-28), 3) := by decide +kernel
theorem dX11_readCommand_42 : decode cX11_readCommand 42 = .ok (.aload_n 0, 1) := by decide +kernel
theorem dX11_readCommand_43 : decode cX11_readCommand 43 = .ok (.iload_n 2, 1) := by decide +kernel
theorem dX11_readCommand_44 : decode cX11_readCommand 44 = .ok (.invokevirtual 296, 3) := by decide +kernel
theorem dX11_readCommand_47 : decode cX11_readCommand 47 = .ok (.istore_n 3, 1) := by decide +kernel
theorem dX11_readCommand_48 : decode cX11_readCommand 48 = .ok (.aload_n 0, 1) := by decide +kernel
theorem dX11_readCommand_49 : decode cX11_readCommand 49 = .ok (.dup, 1) := by decide +kernel
theorem dX11_readCommand_50 : decode cX11_readCommand 50 = .ok (.getfield 260, 3) := by decide +kernel
theorem dX11_readCommand_53 : decode cX11_readCommand 53 = .ok (.iload_n 3, 1) := by decide +kernel
theorem dX11_readCommand_54 : decode cX11_readCommand 54 = .ok (.iadd, 1) := by decide +kernel
theorem dX11_readCommand_55 : decode cX11_readCommand 55 = .ok (.putfield 260, 3) := by decide +kernel
theorem dX11_readCommand_58 : decode cX11_readCommand 58 = .ok (.aload_n 0, 1) := by decide +kernel
theorem dX11_readCommand_59 : decode cX11_readCommand 59 = .ok (.iload_n 3, 1) := by decide +kernel
theorem dX11_readCommand_60 : decode cX11_readCommand 60 = .ok (.aload_n 0, 1) := by decide +kernel
theorem dX11_readCommand_61 : decode cX11_readCommand 61 = .ok (.getfield 60, 3) := by decide +kernel
theorem dX11_readCommand_64 : decode cX11_readCommand 64 = .ok (.iload_n 2, 1) := by decide +kernel
theorem dX11_readCommand_65 : decode cX11_readCommand 65 = .ok (.iconst 1, 1) := by decide +kernel
theorem dX11_readCommand_66 : decode cX11_readCommand 66 = .ok (.iadd, 1) := by decide +kernel
theorem dX11_readCommand_67 : decode cX11_readCommand 67 = .ok (.iaload, 1) := by decide +kernel
theorem dX11_readCommand_68 : decode cX11_readCommand 68 = .ok (.aload_n 0, 1) := by decide +kernel
theorem dX11_readCommand_69 : decode cX11_readCommand 69 = .ok (.getfield 60, 3) := by decide +kernel
theorem dX11_readCommand_72 : decode cX11_readCommand 72 = .ok (.iload_n 2, 1) := by decide +kernel
theorem dX11_readCommand_73 : decode cX11_readCommand 73 = .ok (.iaload, 1) := by decide +kernel
theorem dX11_readCommand_74 : decode cX11_readCommand 74 = .ok (.isub, 1) := by decide +kernel
theorem dX11_readCommand_75 : decode cX11_readCommand 75 = .ok (.if_icmp .ge 7, 3) := by decide +kernel
theorem dX11_readCommand_78 : decode cX11_readCommand 78 = .ok (.iconst 1, 1) := by decide +kernel
theorem dX11_readCommand_79 : decode cX11_readCommand 79 = .ok (.goto 4, 3) := by decide +kernel
theorem dX11_readCommand_82 : decode cX11_readCommand 82 = .ok (.iconst 0, 1) := by decide +kernel
theorem dX11_readCommand_83 : decode cX11_readCommand 83 = .ok (.putfield 266, 3) := by decide +kernel
theorem dX11_readCommand_86 : decode cX11_readCommand 86 = .ok (.aload_n 0, 1) := by decide +kernel
theorem dX11_readCommand_87 : decode cX11_readCommand 87 = .ok (.getfield 266, 3) := by decide +kernel
theorem dX11_readCommand_90 : decode cX11_readCommand 90 = .ok (.ifCond .ne 28, 3) := by decide +kernel
theorem dX11_readCommand_93 : decode cX11_readCommand 93 = .ok (.aload_n 0, 1) := by decide +kernel
theorem dX11_readCommand_94 : decode cX11_readCommand 94 = .ok (.getfield 63, 3) := by decide +kernel
theorem dX11_readCommand_97 : decode cX11_readCommand 97 = .ok (.iload_n 1, 1) := by decide +kernel
theorem dX11_readCommand_98 : decode cX11_readCommand 98 = .ok (.iload_n 2, 1) := by decide +kernel
theorem dX11_readCommand_99 : decode cX11_readCommand 99 = .ok (.iastore, 1) := by decide +kernel
theorem dX11_readCommand_100 : decode cX11_readCommand 100 = .ok (.aload_n 0, 1) := by decide +kernel
theorem dX11_readCommand_101 : decode cX11_readCommand 101 = .ok (.dup, 1) := by decide +kernel
theorem dX11_readCommand_102 : decode cX11_readCommand 102 = .ok (.getfield 293, 3) := by decide +kernel
theorem dX11_readCommand_105 : decode cX11_readCommand 105 = .ok (.iconst 1, 1) := by decide +kernel
theorem dX11_readCommand_106 : decode cX11_readCommand 106 = .ok (.iadd, 1) := by decide +kernel
theorem dX11_readCommand_107 : decode cX11_readCommand 107 = .ok (.putfield 293, 3) := by decide +kernel
theorem dX11_readCommand_110 : decode cX11_readCommand 110 = .ok (.aload_n 0, 1) := by decide +kernel
theorem dX11_readCommand_111 : decode cX11_readCommand 111 = .ok (.iload_n 2, 1) := by decide +kernel
theorem dX11_readCommand_112 : decode cX11_readCommand 112 = .ok (.iload_n 1, 1) := by decide +kernel
theorem dX11_readCommand_113 : decode cX11_readCommand 113 = .ok (.iconst 1, 1) := by decide +kernel
theorem dX11_readCommand_114 : decode cX11_readCommand 114 = .ok (.iadd, 1) := by decide +kernel
theorem dX11_readCommand_115 : decode cX11_readCommand 115 = .ok (.invokevirtual 299, 3) := by decide +kernel
theorem dX11_readCommand_118 : decode cX11_readCommand 118 = .ok (.return_, 1) := by decide +kernel
theorem dX11_does_0 : decode cX11_does 0 = .ok (.aload_n 0, 1) := by decide +kernel
theorem dX11_does_1 : decode cX11_does 1 = .ok (.getfield 63, 3) := by decide +kernel
theorem dX11_does_4 : decode cX11_does 4 = .ok (.iload_n 1, 1) := by decide +kernel
theorem dX11_does_5 : decode cX11_does 5 = .ok (.iconst 1, 1) := by decide +kernel
theorem dX11_does_6 : decode cX11_does 6 = .ok (.iadd, 1) := by decide +kernel
theorem dX11_does_7 : decode cX11_does 7 = .ok (.iaload, 1) := by decide +kernel
theorem dX11_does_8 : decode cX11_does 8 = .ok (.istore_n 2, 1) := by decide +kernel
theorem dX11_does_9 : decode cX11_does 9 = .ok (.aload_n 0, 1) := by decide +kernel
theorem dX11_does_10 : decode cX11_does 10 = .ok (.getfield 63, 3) := by decide +kernel
theorem dX11_does_13 : decode cX11_does 13 = .ok (.iload_n 1, 1) := by decide +kernel
theorem dX11_does_14 : decode cX11_does 14 = .ok (.iconst 2, 1) := by decide +kernel
theorem dX11_does_15 : decode cX11_does 15 = .ok (.iadd, 1) := by decide +kernel
theorem dX11_does_16 : decode cX11_does 16 = .ok (.iaload, 1) := by decide +kernel
theorem dX11_does_17 : decode cX11_does 17 = .ok (.istore_n 3, 1) := by decide +kernel
theorem dX11_does_18 : decode cX11_does 18 = .ok (.aload_n 0, 1) := by decide +kernel
theorem dX11_does_19 : decode cX11_does 19 = .ok (.getfield 63, 3) := by decide +kernel
theorem dX11_does_22 : decode cX11_does 22 = .ok (.iload_n 1, 1) := by decide +kernel
theorem dX11_does_23 : decode cX11_does 23 = .ok (.iconst 3, 1) := by decide +kernel
theorem dX11_does_24 : decode cX11_does 24 = .ok (.iadd, 1) := by decide +kernel
theorem dX11_does_25 : decode cX11_does 25 = .ok (.iaload, 1) := by decide +kernel
theorem dX11_does_26 : decode cX11_does 26 = .ok (.istore 4, 2) := by decide +kernel
theorem dX11_does_28 : decode cX11_does 28 = .ok (.aload_n 0, 1) := by decide +kernel
theorem dX11_does_29 : decode cX11_does 29 = .ok (.getfield 63, 3) := by decide +kernel
theorem dX11_does_32 : decode cX11_does 32 = .ok (.iload_n 1, 1) := by decide +kernel
theorem dX11_does_33 : decode cX11_does 33 = .ok (.iaload, 1) := by decide +kernel
theorem dX11_does_34 : decode cX11_does 34 = .ok (.tableswitch 111 0 5 #[38, 50, 60, 70, 82, 102], 38) := by decide +kernel
theorem dX11_does_72 : decode cX11_does 72 = .ok (.aload_n 0, 1) := by decide +kernel
theorem dX11_does_73 : decode cX11_does 73 = .ok (.iload_n 2, 1) := by decide +kernel
theorem dX11_does_74 : decode cX11_does 74 = .ok (.iload_n 3, 1) := by decide +kernel
theorem dX11_does_75 : decode cX11_does 75 = .ok (.iload 4, 2) := by decide +kernel
theorem dX11_does_77 : decode cX11_does 77 = .ok (.invokevirtual 145, 3) := by decide +kernel
theorem dX11_does_80 : decode cX11_does 80 = .ok (.pop, 1) := by decide +kernel
theorem dX11_does_81 : decode cX11_does 81 = .ok (.goto 70, 3) := by decide +kernel
theorem dX11_does_84 : decode cX11_does 84 = .ok (.aload_n 0, 1) := by decide +kernel
theorem dX11_does_85 : decode cX11_does 85 = .ok (.iload_n 2, 1) := by decide +kernel
theorem dX11_does_86 : decode cX11_does 86 = .ok (.iload_n 3, 1) := by decide +kernel
theorem dX11_does_87 : decode cX11_does 87 = .ok (.invokevirtual 151, 3) := by decide +kernel
theorem dX11_does_90 : decode cX11_does 90 = .ok (.pop, 1) := by decide +kernel
theorem dX11_does_91 : decode cX11_does 91 = .ok (.goto 60, 3) := by decide +kernel
theorem dX11_does_94 : decode cX11_does 94 = .ok (.aload_n 0, 1) := by decide +kernel
theorem dX11_does_95 : decode cX11_does 95 = .ok (.iload_n 2, 1) := by decide +kernel
theorem dX11_does_96 : decode cX11_does 96 = .ok (.iload_n 3, 1) := by decide +kernel
theorem dX11_does_97 : decode cX11_does 97 = .ok (.invokevirtual 157, 3) := by decide +kernel
theorem dX11_does_100 : decode cX11_does 100 = .ok (.pop, 1) := by decide +kernel
theorem dX11_does_101 : decode cX11_does 101 = .ok (.goto 50, 3) := by decide +kernel
theorem dX11_does_104 : decode cX11_does 104 = .ok (.aload_n 0, 1) := by decide +kernel
theorem dX11_does_105 : decode cX11_does 105 = .ok (.iload_n 2, 1) := by decide +kernel
theorem dX11_does_106 : decode cX11_does 106 = .ok (.iload_n 3, 1) := by decide +kernel
theorem dX11_does_107 : decode cX11_does 107 = .ok (.iload 4, 2) := by decide +kernel
theorem dX11_does_109 : decode cX11_does 109 = .ok (.invokevirtual 160, 3) := by decide +kernel
theorem dX11_does_112 : decode cX11_does 112 = .ok (.pop, 1) := by decide +kernel
theorem dX11_does_113 : decode cX11_does 113 = .ok (.goto 38, 3) := by decide +kernel
theorem dX11_does_116 : decode cX11_does 116 = .ok (.aload_n 0, 1) := by decide +kernel
theorem dX11_does_117 : decode cX11_does 117 = .ok (.iload_n 2, 1) := by decide +kernel
theorem dX11_does_118 : decode cX11_does 118 = .ok (.iload_n 3, 1) := by decide +kernel
theorem dX11_does_119 : decode cX11_does 119 = .ok (.iload 4, 2) := by decide +kernel
theorem dX11_does_121 : decode cX11_does 121 = .ok (.aload_n 0, 1) := by decide +kernel
theorem dX11_does_122 : decode cX11_does 122 = .ok (.getfield 63, 3) := by decide +kernel
theorem dX11_does_125 : decode cX11_does 125 = .ok (.iload_n 1, 1) := by decide +kernel
theorem dX11_does_126 : decode cX11_does 126 = .ok (.iconst 4, 1) := by decide +kernel
theorem dX11_does_127 : decode cX11_does 127 = .ok (.iadd, 1) := by decide +kernel
theorem dX11_does_128 : decode cX11_does 128 = .ok (.iaload, 1) := by decide +kernel
theorem dX11_does_129 : decode cX11_does 129 = .ok (.invokevirtual 166, 3) := by decide +kernel
theorem dX11_does_132 : decode cX11_does 132 = .ok (.pop, 1) := by decide +kernel
theorem dX11_does_133 : decode cX11_does 133 = .ok (.goto 18, 3) := by decide +kernel
theorem dX11_does_136 : decode cX11_does 136 = .ok (.aload_n 0, 1) := by decide +kernel
theorem dX11_does_137 : decode cX11_does 137 = .ok (.iload_n 2, 1) := by decide +kernel
theorem dX11_does_138 : decode cX11_does 138 = .ok (.invokevirtual 176, 3) := by decide +kernel
theorem dX11_does_141 : decode cX11_does 141 = .ok (.pop, 1) := by decide +kernel
theorem dX11_does_142 : decode cX11_does 142 = .ok (.goto 9, 3) := by decide +kernel
theorem dX11_does_145 : decode cX11_does 145 = .ok (.aload_n 0, 1) := by decide +kernel
theorem dX11_does_146 : decode cX11_does 146 = .ok (.iload_n 2, 1) := by decide +kernel
theorem dX11_does_147 : decode cX11_does 147 = .ok (.invokevirtual 196, 3) := by decide +kernel
theorem dX11_does_150 : decode cX11_does 150 = .ok (.pop, 1) := by decide +kernel
theorem dX11_does_151 : decode cX11_does 151 = .ok (.return_, 1) := by decide +kernel
theorem dX11_fails_0 : decode cX11_fails 0 = .ok (.iconst 0, 1) := by decide +kernel
theorem dX11_fails_1 : decode cX11_fails 1 = .ok (.istore_n 2, 1) := by decide +kernel
theorem dX11_fails_2 : decode cX11_fails 2 = .ok (.iload_n 2, 1) := by decide +kernel
theorem dX11_fails_3 : decode cX11_fails 3 = .ok (.bipush 71, 2) := by decide +kernel
theorem dX11_fails_5 : decode cX11_fails 5 = .ok (.if_icmp .ge 21, 3) := by decide +kernel
theorem dX11_fails_8 : decode cX11_fails 8 = .ok (.aload_n 0, 1) := by decide +kernel
theorem dX11_fails_9 : decode cX11_fails 9 = .ok (.getfield 9, 3) := by decide +kernel
theorem dX11_fails_12 : decode cX11_fails 12 = .ok (.iload_n 2, 1) := by decide +kernel
theorem dX11_fails_13 : decode cX11_fails 13 = .ok (.aload_n 0, 1) := by decide +kernel
theorem dX11_fails_14 : decode cX11_fails 14 = .ok (.getfield 13, 3) := by decide +kernel
theorem dX11_fails_17 : decode cX11_fails 17 = .ok (.iload_n 2, 1) := by decide +kernel
theorem dX11_fails_18 : decode cX11_fails 18 = .ok (.iaload, 1) := by decide +kernel
theorem dX11_fails_19 : decode cX11_fails 19 = .ok (.iastore, 1) := by decide +kernel
theorem dX11_fails_20 : decode cX11_fails 20 = .ok (.iinc 2 1, 3) := by decide +kernel
theorem dX11_fails_23 : decode cX11_fails 23 = .ok (.goto (-21), 3) := by decide +kernel
theorem dX11_fails_26 : decode cX11_fails 26 = .ok (.aload_n 0, 1) := by decide +kernel
theorem dX11_fails_27 : decode cX11_fails 27 = .ok (.getfield 69, 3) := by decide +kernel
theorem dX11_fails_30 : decode cX11_fails 30 = .ok (.ifCond .ne 9, 3) := by decide +kernel
theorem dX11_fails_33 : decode cX11_fails 33 = .ok (.aload_n 0, 1) := by decide +kernel
theorem dX11_fails_34 : decode cX11_fails 34 = .ok (.iconst 2, 1) := by decide +kernel
theorem dX11_fails_35 : decode cX11_fails 35 = .ok (.invokevirtual 75, 3) := by decide +kernel
theorem dX11_fails_38 : decode cX11_fails 38 = .ok (.ireturn, 1) := by decide +kernel
theorem dX11_fails_39 : decode cX11_fails 39 = .ok (.aload_n 0, 1) := by decide +kernel
theorem dX11_fails_40 : decode cX11_fails 40 = .ok (.bipush 6, 2) := by decide +kernel
theorem dX11_fails_42 : decode cX11_fails 42 = .ok (.putfield 79, 3) := by decide +kernel
theorem dX11_fails_45 : decode cX11_fails 45 = .ok (.aload_n 0, 1) := by decide +kernel
theorem dX11_fails_46 : decode cX11_fails 46 = .ok (.iload_n 1, 1) := by decide +kernel
theorem dX11_fails_47 : decode cX11_fails 47 = .ok (.putfield 82, 3) := by decide +kernel
theorem dX11_fails_50 : decode cX11_fails 50 = .ok (.aload_n 0, 1) := by decide +kernel
theorem dX11_fails_51 : decode cX11_fails 51 = .ok (.aload_n 0, 1) := by decide +kernel
theorem dX11_fails_52 : decode cX11_fails 52 = .ok (.getfield 69, 3) := by decide +kernel
theorem dX11_fails_55 : decode cX11_fails 55 = .ok (.putfield 85, 3) := by decide +kernel
theorem dX11_fails_58 : decode cX11_fails 58 = .ok (.aload_n 0, 1) := by decide +kernel
theorem dX11_fails_59 : decode cX11_fails 59 = .ok (.iconst 3, 1) := by decide +kernel
theorem dX11_fails_60 : decode cX11_fails 60 = .ok (.invokevirtual 75, 3) := by decide +kernel
theorem dX11_fails_63 : decode cX11_fails 63 = .ok (.ireturn, 1) := by decide +kernel
theorem dX11_execute_0 : decode cX11_execute 0 = .ok (.aload_n 0, 1) := by decide +kernel
theorem dX11_execute_1 : decode cX11_execute 1 = .ok (.invokevirtual 142, 3) := by decide +kernel
theorem dX11_execute_4 : decode cX11_execute 4 = .ok (.aload_n 0, 1) := by decide +kernel
theorem dX11_execute_5 : decode cX11_execute 5 = .ok (.aload_n 0, 1) := by decide +kernel
theorem dX11_execute_6 : decode cX11_execute 6 = .ok (.getfield 257, 3) := by decide +kernel
theorem dX11_execute_9 : decode cX11_execute 9 = .ok (.putfield 263, 3) := by decide +kernel
theorem dX11_execute_12 : decode cX11_execute 12 = .ok (.aload_n 0, 1) := by decide +kernel
theorem dX11_execute_13 : decode cX11_execute 13 = .ok (.iconst 0, 1) := by decide +kernel
theorem dX11_execute_14 : decode cX11_execute 14 = .ok (.putfield 257, 3) := by decide +kernel
theorem dX11_execute_17 : decode cX11_execute 17 = .ok (.aload_n 0, 1) := by decide +kernel
theorem dX11_execute_18 : decode cX11_execute 18 = .ok (.iconst 0, 1) := by decide +kernel
theorem dX11_execute_19 : decode cX11_execute 19 = .ok (.putfield 260, 3) := by decide +kernel
theorem dX11_execute_22 : decode cX11_execute 22 = .ok (.aload_n 0, 1) := by decide +kernel
theorem dX11_execute_23 : decode cX11_execute 23 = .ok (.iconst 0, 1) := by decide +kernel
theorem dX11_execute_24 : decode cX11_execute 24 = .ok (.putfield 293, 3) := by decide +kernel
theorem dX11_execute_27 : decode cX11_execute 27 = .ok (.aload_n 0, 1) := by decide +kernel
theorem dX11_execute_28 : decode cX11_execute 28 = .ok (.iconst 0, 1) := by decide +kernel
theorem dX11_execute_29 : decode cX11_execute 29 = .ok (.putfield 266, 3) := by decide +kernel
theorem dX11_execute_32 : decode cX11_execute 32 = .ok (.iconst 1, 1) := by decide +kernel
theorem dX11_execute_33 : decode cX11_execute 33 = .ok (.istore_n 1, 1) := by decide +kernel
theorem dX11_execute_34 : decode cX11_execute 34 = .ok (.iload_n 1, 1) := by decide +kernel
theorem dX11_execute_35 : decode cX11_execute 35 = .ok (.ifCond .eq 57, 3) := by decide +kernel
theorem dX11_execute_38 : decode cX11_execute 38 = .ok (.aload_n 0, 1) := by decide +kernel
theorem dX11_execute_39 : decode cX11_execute 39 = .ok (.invokevirtual 303, 3) := by decide +kernel
theorem dX11_execute_42 : decode cX11_execute 42 = .ok (.aload_n 0, 1) := by decide +kernel
theorem dX11_execute_43 : decode cX11_execute 43 = .ok (.getfield 266, 3) := by decide +kernel
theorem dX11_execute_46 : decode cX11_execute 46 = .ok (.ifCond .ne 18, 3) := by decide +kernel
theorem dX11_execute_49 : decode cX11_execute 49 = .ok (.aload_n 0, 1) := by decide +kernel
theorem dX11_execute_50 : decode cX11_execute 50 = .ok (.getfield 260, 3) := by decide +kernel
theorem dX11_execute_53 : decode cX11_execute 53 = .ok (.aload_n 0, 1) := by decide +kernel
theorem dX11_execute_54 : decode cX11_execute 54 = .ok (.getfield 263, 3) := by decide +kernel
theorem dX11_execute_57 : decode cX11_execute 57 = .ok (.if_icmp .ge 7, 3) := by decide +kernel
theorem dX11_execute_60 : decode cX11_execute 60 = .ok (.iconst 1, 1) := by decide +kernel
theorem dX11_execute_61 : decode cX11_execute 61 = .ok (.goto 4, 3) := by decide +kernel
theorem dX11_execute_64 : decode cX11_execute 64 = .ok (.iconst 0, 1) := by decide +kernel
theorem dX11_execute_65 : decode cX11_execute 65 = .ok (.istore_n 1, 1) := by decide +kernel
theorem dX11_execute_66 : decode cX11_execute 66 = .ok (.iload_n 1, 1) := by decide +kernel
theorem dX11_execute_67 : decode cX11_execute 67 = .ok (.ifCond .eq (-33), 3) := by decide +kernel
theorem dX11_execute_70 : decode cX11_execute 70 = .ok (.aload_n 0, 1) := by decide +kernel
theorem dX11_execute_71 : decode cX11_execute 71 = .ok (.bipush 59, 2) := by decide +kernel
theorem dX11_execute_73 : decode cX11_execute 73 = .ok (.invokevirtual 280, 3) := by decide +kernel
theorem dX11_execute_76 : decode cX11_execute 76 = .ok (.aload_n 0, 1) := by decide +kernel
theorem dX11_execute_77 : decode cX11_execute 77 = .ok (.getfield 266, 3) := by decide +kernel
theorem dX11_execute_80 : decode cX11_execute 80 = .ok (.ifCond .ne 7, 3) := by decide +kernel
theorem dX11_execute_83 : decode cX11_execute 83 = .ok (.iconst 1, 1) := by decide +kernel
theorem dX11_execute_84 : decode cX11_execute 84 = .ok (.goto 4, 3) := by decide +kernel
theorem dX11_execute_87 : decode cX11_execute 87 = .ok (.iconst 0, 1) := by decide +kernel
theorem dX11_execute_88 : decode cX11_execute 88 = .ok (.istore_n 1, 1) := by decide +kernel
theorem dX11_execute_89 : decode cX11_execute 89 = .ok (.goto (-55), 3) := by decide +kernel
theorem dX11_execute_92 : decode cX11_execute 92 = .ok (.aload_n 0, 1) := by decide +kernel
theorem dX11_execute_93 : decode cX11_execute 93 = .ok (.getfield 266, 3) := by decide +kernel
theorem dX11_execute_96 : decode cX11_execute 96 = .ok (.ifCond .eq 17, 3) := by decide +kernel
theorem dX11_execute_99 : decode cX11_execute 99 = .ok (.aload_n 0, 1) := by decide +kernel
theorem dX11_execute_100 : decode cX11_execute 100 = .ok (.aload_n 0, 1) := by decide +kernel
theorem dX11_execute_101 : decode cX11_execute 101 = .ok (.getfield 260, 3) := by decide +kernel
theorem dX11_execute_104 : decode cX11_execute 104 = .ok (.putfield 28, 3) := by decide +kernel
theorem dX11_execute_107 : decode cX11_execute 107 = .ok (.aload_n 0, 1) := by decide +kernel
theorem dX11_execute_108 : decode cX11_execute 108 = .ok (.iconst 1, 1) := by decide +kernel
theorem dX11_execute_109 : decode cX11_execute 109 = .ok (.invokevirtual 75, 3) := by decide +kernel
theorem dX11_execute_112 : decode cX11_execute 112 = .ok (.ireturn, 1) := by decide +kernel
theorem dX11_execute_113 : decode cX11_execute 113 = .ok (.iconst 0, 1) := by decide +kernel
theorem dX11_execute_114 : decode cX11_execute 114 = .ok (.istore_n 2, 1) := by decide +kernel
theorem dX11_execute_115 : decode cX11_execute 115 = .ok (.iload_n 2, 1) := by decide +kernel
theorem dX11_execute_116 : decode cX11_execute 116 = .ok (.aload_n 0, 1) := by decide +kernel
theorem dX11_execute_117 : decode cX11_execute 117 = .ok (.getfield 293, 3) := by decide +kernel
theorem dX11_execute_120 : decode cX11_execute 120 = .ok (.if_icmp .ge 29, 3) := by decide +kernel
theorem dX11_execute_123 : decode cX11_execute 123 = .ok (.aload_n 0, 1) := by decide +kernel
theorem dX11_execute_124 : decode cX11_execute 124 = .ok (.iconst 5, 1) := by decide +kernel
theorem dX11_execute_125 : decode cX11_execute 125 = .ok (.iload_n 2, 1) := by decide +kernel
theorem dX11_execute_126 : decode cX11_execute 126 = .ok (.imul, 1) := by decide +kernel
theorem dX11_execute_127 : decode cX11_execute 127 = .ok (.invokevirtual 306, 3) := by decide +kernel
theorem dX11_execute_130 : decode cX11_execute 130 = .ok (.aload_n 0, 1) := by decide +kernel
theorem dX11_execute_131 : decode cX11_execute 131 = .ok (.getfield 66, 3) := by decide +kernel
theorem dX11_execute_134 : decode cX11_execute 134 = .ok (.ifCond .le 9, 3) := by decide +kernel
theorem dX11_execute_137 : decode cX11_execute 137 = .ok (.aload_n 0, 1) := by decide +kernel
theorem dX11_execute_138 : decode cX11_execute 138 = .ok (.iload_n 2, 1) := by decide +kernel
theorem dX11_execute_139 : decode cX11_execute 139 = .ok (.invokevirtual 309, 3) := by decide +kernel
theorem dX11_execute_142 : decode cX11_execute 142 = .ok (.ireturn, 1) := by decide +kernel
theorem dX11_execute_143 : decode cX11_execute 143 = .ok (.iinc 2 1, 3) := by decide +kernel
theorem dX11_execute_146 : decode cX11_execute 146 = .ok (.goto (-31), 3) := by decide +kernel
theorem dX11_execute_149 : decode cX11_execute 149 = .ok (.aload_n 0, 1) := by decide +kernel
theorem dX11_execute_150 : decode cX11_execute 150 = .ok (.aload_n 0, 1) := by decide +kernel
theorem dX11_execute_151 : decode cX11_execute 151 = .ok (.getfield 293, 3) := by decide +kernel
theorem dX11_execute_154 : decode cX11_execute 154 = .ok (.invokevirtual 148, 3) := by decide +kernel
theorem dX11_execute_157 : decode cX11_execute 157 = .ok (.ireturn, 1) := by decide +kernel
theorem dX11_syntaxErrorOffset_0 : decode cX11_syntaxErrorOffset 0 = .ok (.aload_n 0, 1) := by decide +kernel
theorem dX11_syntaxErrorOffset_1 : decode cX11_syntaxErrorOffset 1 = .ok (.iconst 0, 1) := by decide +kernel
theorem dX11_syntaxErrorOffset_2 : decode cX11_syntaxErrorOffset 2 = .ok (.putfield 66, 3) := by decide +kernel
theorem dX11_syntaxErrorOffset_5 : decode cX11_syntaxErrorOffset 5 = .ok (.aload_n 0, 1) := by decide +kernel
theorem dX11_syntaxErrorOffset_6 : decode cX11_syntaxErrorOffset 6 = .ok (.getfield 28, 3) := by decide +kernel
theorem dX11_syntaxErrorOffset_9 : decode cX11_syntaxErrorOffset 9 = .ok (.iconst (-1), 1) := by decide +kernel
theorem dX11_syntaxErrorOffset_10 : decode cX11_syntaxErrorOffset 10 = .ok (.if_icmp .ne 11, 3) := by decide +kernel
theorem dX11_syntaxErrorOffset_13 : decode cX11_syntaxErrorOffset 13 = .ok (.aload_n 0, 1) := by decide +kernel
theorem dX11_syntaxErrorOffset_14 : decode cX11_syntaxErrorOffset 14 = .ok (.iconst 1, 1) := by decide +kernel
theorem dX11_syntaxErrorOffset_15 : decode cX11_syntaxErrorOffset 15 = .ok (.invokevirtual 75, 3) := by decide +kernel
theorem dX11_syntaxErrorOffset_18 : decode cX11_syntaxErrorOffset 18 = .ok (.goto 7, 3) := by decide +kernel
theorem dX11_syntaxErrorOffset_21 : decode cX11_syntaxErrorOffset 21 = .ok (.aload_n 0, 1) := by decide +kernel
theorem dX11_syntaxErrorOffset_22 : decode cX11_syntaxErrorOffset 22 = .ok (.getfield 28, 3) := by decide +kernel
theorem dX11_syntaxErrorOffset_25 : decode cX11_syntaxErrorOffset 25 = .ok (.ireturn, 1) := by decide +kernel
theorem dX11_rejectionReason_0 : decode cX11_rejectionReason 0 = .ok (.aload_n 0, 1) := by decide +kernel
theorem dX11_rejectionReason_1 : decode cX11_rejectionReason 1 = .ok (.iconst 0, 1) := by decide +kernel
theorem dX11_rejectionReason_2 : decode cX11_rejectionReason 2 = .ok (.putfield 66, 3) := by decide +kernel
theorem dX11_rejectionReason_5 : decode cX11_rejectionReason 5 = .ok (.aload_n 0, 1) := by decide +kernel
theorem dX11_rejectionReason_6 : decode cX11_rejectionReason 6 = .ok (.getfield 79, 3) := by decide +kernel
theorem dX11_rejectionReason_9 : decode cX11_rejectionReason 9 = .ok (.ifCond .ne 11, 3) := by decide +kernel
theorem dX11_rejectionReason_12 : decode cX11_rejectionReason 12 = .ok (.aload_n 0, 1) := by decide +kernel
theorem dX11_rejectionReason_13 : decode cX11_rejectionReason 13 = .ok (.iconst 1, 1) := by decide +kernel
theorem dX11_rejectionReason_14 : decode cX11_rejectionReason 14 = .ok (.invokevirtual 75, 3) := by decide +kernel
theorem dX11_rejectionReason_17 : decode cX11_rejectionReason 17 = .ok (.goto 7, 3) := by decide +kernel
theorem dX11_rejectionReason_20 : decode cX11_rejectionReason 20 = .ok (.aload_n 0, 1) := by decide +kernel
theorem dX11_rejectionReason_21 : decode cX11_rejectionReason 21 = .ok (.getfield 79, 3) := by decide +kernel
theorem dX11_rejectionReason_24 : decode cX11_rejectionReason 24 = .ok (.ireturn, 1) := by decide +kernel
theorem dX11_rejectionDetail_0 : decode cX11_rejectionDetail 0 = .ok (.aload_n 0, 1) := by decide +kernel
theorem dX11_rejectionDetail_1 : decode cX11_rejectionDetail 1 = .ok (.iconst 0, 1) := by decide +kernel
theorem dX11_rejectionDetail_2 : decode cX11_rejectionDetail 2 = .ok (.putfield 66, 3) := by decide +kernel
theorem dX11_rejectionDetail_5 : decode cX11_rejectionDetail 5 = .ok (.aload_n 0, 1) := by decide +kernel
theorem dX11_rejectionDetail_6 : decode cX11_rejectionDetail 6 = .ok (.getfield 79, 3) := by decide +kernel
theorem dX11_rejectionDetail_9 : decode cX11_rejectionDetail 9 = .ok (.ifCond .ne 11, 3) := by decide +kernel
theorem dX11_rejectionDetail_12 : decode cX11_rejectionDetail 12 = .ok (.aload_n 0, 1) := by decide +kernel
theorem dX11_rejectionDetail_13 : decode cX11_rejectionDetail 13 = .ok (.iconst 1, 1) := by decide +kernel
theorem dX11_rejectionDetail_14 : decode cX11_rejectionDetail 14 = .ok (.invokevirtual 75, 3) := by decide +kernel
theorem dX11_rejectionDetail_17 : decode cX11_rejectionDetail 17 = .ok (.goto 7, 3) := by decide +kernel
theorem dX11_rejectionDetail_20 : decode cX11_rejectionDetail 20 = .ok (.aload_n 0, 1) := by decide +kernel
theorem dX11_rejectionDetail_21 : decode cX11_rejectionDetail 21 = .ok (.getfield 82, 3) := by decide +kernel
theorem dX11_rejectionDetail_24 : decode cX11_rejectionDetail 24 = .ok (.ireturn, 1) := by decide +kernel
theorem dX11_causeReason_0 : decode cX11_causeReason 0 = .ok (.aload_n 0, 1) := by decide +kernel
theorem dX11_causeReason_1 : decode cX11_causeReason 1 = .ok (.iconst 0, 1) := by decide +kernel
theorem dX11_causeReason_2 : decode cX11_causeReason 2 = .ok (.putfield 66, 3) := by decide +kernel
theorem dX11_causeReason_5 : decode cX11_causeReason 5 = .ok (.aload_n 0, 1) := by decide +kernel
theorem dX11_causeReason_6 : decode cX11_causeReason 6 = .ok (.getfield 85, 3) := by decide +kernel
theorem dX11_causeReason_9 : decode cX11_causeReason 9 = .ok (.ifCond .ne 11, 3) := by decide +kernel
theorem dX11_causeReason_12 : decode cX11_causeReason 12 = .ok (.aload_n 0, 1) := by decide +kernel
theorem dX11_causeReason_13 : decode cX11_causeReason 13 = .ok (.iconst 1, 1) := by decide +kernel
theorem dX11_causeReason_14 : decode cX11_causeReason 14 = .ok (.invokevirtual 75, 3) := by decide +kernel
theorem dX11_causeReason_17 : decode cX11_causeReason 17 = .ok (.goto 7, 3) := by decide +kernel
theorem dX11_causeReason_20 : decode cX11_causeReason 20 = .ok (.aload_n 0, 1) := by decide +kernel
theorem dX11_causeReason_21 : decode cX11_causeReason 21 = .ok (.getfield 85, 3) := by decide +kernel
theorem dX11_causeReason_24 : decode cX11_causeReason 24 = .ok (.ireturn, 1) := by decide +kernel
theorem dX11_undo_0 : decode cX11_undo 0 = .ok (.aload_n 0, 1) := by decide +kernel
theorem dX11_undo_1 : decode cX11_undo 1 = .ok (.iconst 0, 1) := by decide +kernel
theorem dX11_undo_2 : decode cX11_undo 2 = .ok (.putfield 66, 3) := by decide +kernel
theorem dX11_undo_5 : decode cX11_undo 5 = .ok (.aload_n 0, 1) := by decide +kernel
theorem dX11_undo_6 : decode cX11_undo 6 = .ok (.getfield 88, 3) := by decide +kernel
theorem dX11_undo_9 : decode cX11_undo 9 = .ok (.ifCond .ne 9, 3) := by decide +kernel
theorem dX11_undo_12 : decode cX11_undo 12 = .ok (.aload_n 0, 1) := by decide +kernel
theorem dX11_undo_13 : decode cX11_undo 13 = .ok (.iconst 1, 1) := by decide +kernel
theorem dX11_undo_14 : decode cX11_undo 14 = .ok (.invokevirtual 75, 3) := by decide +kernel
theorem dX11_undo_17 : decode cX11_undo 17 = .ok (.ireturn, 1) := by decide +kernel
theorem dX11_undo_18 : decode cX11_undo 18 = .ok (.aload_n 0, 1) := by decide +kernel
theorem dX11_undo_19 : decode cX11_undo 19 = .ok (.dup, 1) := by decide +kernel
theorem dX11_undo_20 : decode cX11_undo 20 = .ok (.getfield 88, 3) := by decide +kernel
theorem dX11_undo_23 : decode cX11_undo 23 = .ok (.iconst 1, 1) := by decide +kernel
theorem dX11_undo_24 : decode cX11_undo 24 = .ok (.isub, 1) := by decide +kernel
theorem dX11_undo_25 : decode cX11_undo 25 = .ok (.putfield 88, 3) := by decide +kernel
theorem dX11_undo_28 : decode cX11_undo 28 = .ok (.iconst 0, 1) := by decide +kernel
theorem dX11_undo_29 : decode cX11_undo 29 = .ok (.istore_n 1, 1) := by decide +kernel
theorem dX11_undo_30 : decode cX11_undo 30 = .ok (.iload_n 1, 1) := by decide +kernel
theorem dX11_undo_31 : decode cX11_undo 31 = .ok (.bipush 71, 2) := by decide +kernel
theorem dX11_undo_33 : decode cX11_undo 33 = .ok (.if_icmp .ge 29, 3) := by decide +kernel
theorem dX11_undo_36 : decode cX11_undo 36 = .ok (.aload_n 0, 1) := by decide +kernel
theorem dX11_undo_37 : decode cX11_undo 37 = .ok (.getfield 9, 3) := by decide +kernel
theorem dX11_undo_40 : decode cX11_undo 40 = .ok (.iload_n 1, 1) := by decide +kernel
theorem dX11_undo_41 : decode cX11_undo 41 = .ok (.aload_n 0, 1) := by decide +kernel
theorem dX11_undo_42 : decode cX11_undo 42 = .ok (.getfield 25, 3) := by decide +kernel
theorem dX11_undo_45 : decode cX11_undo 45 = .ok (.bipush 71, 2) := by decide +kernel
theorem dX11_undo_47 : decode cX11_undo 47 = .ok (.aload_n 0, 1) := by decide +kernel
theorem dX11_undo_48 : decode cX11_undo 48 = .ok (.getfield 88, 3) := by decide +kernel
theorem dX11_undo_51 : decode cX11_undo 51 = .ok (.imul, 1) := by decide +kernel
theorem dX11_undo_52 : decode cX11_undo 52 = .ok (.iload_n 1, 1) := by decide +kernel
theorem dX11_undo_53 : decode cX11_undo 53 = .ok (.iadd, 1) := by decide +kernel
theorem dX11_undo_54 : decode cX11_undo 54 = .ok (.iaload, 1) := by decide +kernel
theorem dX11_undo_55 : decode cX11_undo 55 = .ok (.iastore, 1) := by decide +kernel
theorem dX11_undo_56 : decode cX11_undo 56 = .ok (.iinc 1 1, 3) := by decide +kernel
theorem dX11_undo_59 : decode cX11_undo 59 = .ok (.goto (-29), 3) := by decide +kernel
theorem dX11_undo_62 : decode cX11_undo 62 = .ok (.aload_n 0, 1) := by decide +kernel
theorem dX11_undo_63 : decode cX11_undo 63 = .ok (.getfield 88, 3) := by decide +kernel
theorem dX11_undo_66 : decode cX11_undo 66 = .ok (.ireturn, 1) := by decide +kernel
theorem dX11_saveSnapshot_0 : decode cX11_saveSnapshot 0 = .ok (.aload_n 0, 1) := by decide +kernel
theorem dX11_saveSnapshot_1 : decode cX11_saveSnapshot 1 = .ok (.iconst 0, 1) := by decide +kernel
theorem dX11_saveSnapshot_2 : decode cX11_saveSnapshot 2 = .ok (.putfield 66, 3) := by decide +kernel
theorem dX11_saveSnapshot_5 : decode cX11_saveSnapshot 5 = .ok (.iconst 0, 1) := by decide +kernel
theorem dX11_saveSnapshot_6 : decode cX11_saveSnapshot 6 = .ok (.istore_n 1, 1) := by decide +kernel
theorem dX11_saveSnapshot_7 : decode cX11_saveSnapshot 7 = .ok (.iload_n 1, 1) := by decide +kernel
theorem dX11_saveSnapshot_8 : decode cX11_saveSnapshot 8 = .ok (.bipush 71, 2) := by decide +kernel
theorem dX11_saveSnapshot_10 : decode cX11_saveSnapshot 10 = .ok (.if_icmp .ge 21, 3) := by decide +kernel
theorem dX11_saveSnapshot_13 : decode cX11_saveSnapshot 13 = .ok (.aload_n 0, 1) := by decide +kernel
theorem dX11_saveSnapshot_14 : decode cX11_saveSnapshot 14 = .ok (.getfield 19, 3) := by decide +kernel
theorem dX11_saveSnapshot_17 : decode cX11_saveSnapshot 17 = .ok (.iload_n 1, 1) := by decide +kernel
theorem dX11_saveSnapshot_18 : decode cX11_saveSnapshot 18 = .ok (.aload_n 0, 1) := by decide +kernel
theorem dX11_saveSnapshot_19 : decode cX11_saveSnapshot 19 = .ok (.getfield 9, 3) := by decide +kernel
theorem dX11_saveSnapshot_22 : decode cX11_saveSnapshot 22 = .ok (.iload_n 1, 1) := by decide +kernel
theorem dX11_saveSnapshot_23 : decode cX11_saveSnapshot 23 = .ok (.iaload, 1) := by decide +kernel
theorem dX11_saveSnapshot_24 : decode cX11_saveSnapshot 24 = .ok (.iastore, 1) := by decide +kernel
theorem dX11_saveSnapshot_25 : decode cX11_saveSnapshot 25 = .ok (.iinc 1 1, 3) := by decide +kernel
theorem dX11_saveSnapshot_28 : decode cX11_saveSnapshot 28 = .ok (.goto (-21), 3) := by decide +kernel
theorem dX11_saveSnapshot_31 : decode cX11_saveSnapshot 31 = .ok (.aload_n 0, 1) := by decide +kernel
theorem dX11_saveSnapshot_32 : decode cX11_saveSnapshot 32 = .ok (.iconst 1, 1) := by decide +kernel
theorem dX11_saveSnapshot_33 : decode cX11_saveSnapshot 33 = .ok (.putfield 312, 3) := by decide +kernel
theorem dX11_saveSnapshot_36 : decode cX11_saveSnapshot 36 = .ok (.aload_n 0, 1) := by decide +kernel
theorem dX11_saveSnapshot_37 : decode cX11_saveSnapshot 37 = .ok (.invokevirtual 138, 3) := by decide +kernel
theorem dX11_saveSnapshot_40 : decode cX11_saveSnapshot 40 = .ok (.ireturn, 1) := by decide +kernel
theorem dX11_restoreSnapshot_0 : decode cX11_restoreSnapshot 0 = .ok (.aload_n 0, 1) := by decide +kernel
theorem dX11_restoreSnapshot_1 : decode cX11_restoreSnapshot 1 = .ok (.iconst 0, 1) := by decide +kernel
theorem dX11_restoreSnapshot_2 : decode cX11_restoreSnapshot 2 = .ok (.putfield 66, 3) := by decide +kernel
theorem dX11_restoreSnapshot_5 : decode cX11_restoreSnapshot 5 = .ok (.aload_n 0, 1) := by decide +kernel
theorem dX11_restoreSnapshot_6 : decode cX11_restoreSnapshot 6 = .ok (.getfield 312, 3) := by decide +kernel
theorem dX11_restoreSnapshot_9 : decode cX11_restoreSnapshot 9 = .ok (.ifCond .ne 9, 3) := by decide +kernel
theorem dX11_restoreSnapshot_12 : decode cX11_restoreSnapshot 12 = .ok (.aload_n 0, 1) := by decide +kernel
theorem dX11_restoreSnapshot_13 : decode cX11_restoreSnapshot 13 = .ok (.iconst 1, 1) := by decide +kernel
theorem dX11_restoreSnapshot_14 : decode cX11_restoreSnapshot 14 = .ok (.invokevirtual 75, 3) := by decide +kernel
theorem dX11_restoreSnapshot_17 : decode cX11_restoreSnapshot 17 = .ok (.ireturn, 1) := by decide +kernel
theorem dX11_restoreSnapshot_18 : decode cX11_restoreSnapshot 18 = .ok (.iconst 0, 1) := by decide +kernel
theorem dX11_restoreSnapshot_19 : decode cX11_restoreSnapshot 19 = .ok (.istore_n 1, 1) := by decide +kernel
theorem dX11_restoreSnapshot_20 : decode cX11_restoreSnapshot 20 = .ok (.iload_n 1, 1) := by decide +kernel
theorem dX11_restoreSnapshot_21 : decode cX11_restoreSnapshot 21 = .ok (.bipush 71, 2) := by decide +kernel
theorem dX11_restoreSnapshot_23 : decode cX11_restoreSnapshot 23 = .ok (.if_icmp .ge 21, 3) := by decide +kernel
theorem dX11_restoreSnapshot_26 : decode cX11_restoreSnapshot 26 = .ok (.aload_n 0, 1) := by decide +kernel
theorem dX11_restoreSnapshot_27 : decode cX11_restoreSnapshot 27 = .ok (.getfield 9, 3) := by decide +kernel
theorem dX11_restoreSnapshot_30 : decode cX11_restoreSnapshot 30 = .ok (.iload_n 1, 1) := by decide +kernel
theorem dX11_restoreSnapshot_31 : decode cX11_restoreSnapshot 31 = .ok (.aload_n 0, 1) := by decide +kernel
theorem dX11_restoreSnapshot_32 : decode cX11_restoreSnapshot 32 = .ok (.getfield 19, 3) := by decide +kernel
theorem dX11_restoreSnapshot_35 : decode cX11_restoreSnapshot 35 = .ok (.iload_n 1, 1) := by decide +kernel
theorem dX11_restoreSnapshot_36 : decode cX11_restoreSnapshot 36 = .ok (.iaload, 1) := by decide +kernel
theorem dX11_restoreSnapshot_37 : decode cX11_restoreSnapshot 37 = .ok (.iastore, 1) := by decide +kernel
theorem dX11_restoreSnapshot_38 : decode cX11_restoreSnapshot 38 = .ok (.iinc 1 1, 3) := by decide +kernel
theorem dX11_restoreSnapshot_41 : decode cX11_restoreSnapshot 41 = .ok (.goto (-21), 3) := by decide +kernel
theorem dX11_restoreSnapshot_44 : decode cX11_restoreSnapshot 44 = .ok (.aload_n 0, 1) := by decide +kernel
theorem dX11_restoreSnapshot_45 : decode cX11_restoreSnapshot 45 = .ok (.iconst 0, 1) := by decide +kernel
theorem dX11_restoreSnapshot_46 : decode cX11_restoreSnapshot 46 = .ok (.putfield 88, 3) := by decide +kernel
theorem dX11_restoreSnapshot_49 : decode cX11_restoreSnapshot 49 = .ok (.aload_n 0, 1) := by decide +kernel
theorem dX11_restoreSnapshot_50 : decode cX11_restoreSnapshot 50 = .ok (.invokevirtual 138, 3) := by decide +kernel
theorem dX11_restoreSnapshot_53 : decode cX11_restoreSnapshot 53 = .ok (.ireturn, 1) := by decide +kernel
