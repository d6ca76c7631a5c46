theorem dX10_hoop_0 : decode cX10_hoop 0 = .ok (.iload_n 1, 1) := by decide +kernel
theorem dX10_hoop_1 : decode cX10_hoop 1 = .ok (.ifCond .lt 22, 3) := by decide +kernel
theorem dX10_hoop_23 : decode cX10_hoop 23 = .ok (.iconst (-1), 1) := by decide +kernel
theorem dX10_hoop_24 : decode cX10_hoop 24 = .ok (.ireturn, 1) := by decide +kernel
theorem dX10_hoop_4 : decode cX10_hoop 4 = .ok (.iload_n 1, 1) := by decide +kernel
theorem dX10_hoop_5 : decode cX10_hoop 5 = .ok (.bipush 10, 2) := by decide +kernel
theorem dX10_hoop_7 : decode cX10_hoop 7 = .ok (.idiv, 1) := by decide +kernel
theorem dX10_hoop_8 : decode cX10_hoop 8 = .ok (.i2l, 1) := by decide +kernel
theorem dX10_hoop_9 : decode cX10_hoop 9 = .ok (.iload_n 1, 1) := by decide +kernel
theorem dX10_hoop_10 : decode cX10_hoop 10 = .ok (.bipush 10, 2) := by decide +kernel
theorem dX10_hoop_12 : decode cX10_hoop 12 = .ok (.irem, 1) := by decide +kernel
theorem dX10_hoop_13 : decode cX10_hoop 13 = .ok (.i2l, 1) := by decide +kernel
theorem dX10_hoop_14 : decode cX10_hoop 14 = .ok (.ldc2_w 116, 3) := by decide +kernel
theorem dX10_hoop_17 : decode cX10_hoop 17 = .ok (.invokestatic 118, 3) := by decide +kernel
theorem dX10_hoop_20 : decode cX10_hoop 20 = .ok (.ifCond .ne 5, 3) := by decide +kernel
theorem dX10_hoop_25 : decode cX10_hoop 25 = .ok (.aload_n 0, 1) := by decide +kernel
theorem dX10_hoop_26 : decode cX10_hoop 26 = .ok (.getfield 109, 3) := by decide +kernel
theorem dX10_hoop_29 : decode cX10_hoop 29 = .ok (.iconst 5, 1) := by decide +kernel
theorem dX10_hoop_30 : decode cX10_hoop 30 = .ok (.if_icmp .ne 6, 3) := by decide +kernel
theorem dX10_hoop_36 : decode cX10_hoop 36 = .ok (.aload_n 0, 1) := by decide +kernel
theorem dX10_hoop_37 : decode cX10_hoop 37 = .ok (.iload_n 1, 1) := by decide +kernel
theorem dX10_hoop_38 : decode cX10_hoop 38 = .ok (.bipush 10, 2) := by decide +kernel
theorem dX10_hoop_40 : decode cX10_hoop 40 = .ok (.idiv, 1) := by decide +kernel
theorem dX10_hoop_41 : decode cX10_hoop 41 = .ok (.iload_n 1, 1) := by decide +kernel
theorem dX10_hoop_42 : decode cX10_hoop 42 = .ok (.bipush 10, 2) := by decide +kernel
theorem dX10_hoop_44 : decode cX10_hoop 44 = .ok (.irem, 1) := by decide +kernel
theorem dX10_hoop_45 : decode cX10_hoop 45 = .ok (.iconst 4, 1) := by decide +kernel
theorem dX10_hoop_46 : decode cX10_hoop 46 = .ok (.invokevirtual 121, 3) := by decide +kernel
theorem dX10_hoop_49 : decode cX10_hoop 49 = .ok (.aload_n 0, 1) := by decide +kernel
theorem dX10_hoop_50 : decode cX10_hoop 50 = .ok (.getfield 109, 3) := by decide +kernel
theorem dX10_hoop_53 : decode cX10_hoop 53 = .ok (.iconst 1, 1) := by decide +kernel
theorem dX10_hoop_54 : decode cX10_hoop 54 = .ok (.isub, 1) := by decide +kernel
theorem dX10_hoop_55 : decode cX10_hoop 55 = .ok (.ireturn, 1) := by decide +kernel
theorem dX10_hoop_33 : decode cX10_hoop 33 = .ok (.bipush (-3), 2) := by decide +kernel
theorem dX10_hoop_35 : decode cX10_hoop 35 = .ok (.ireturn, 1) := by decide +kernel
theorem dX10_feed_0 : decode cX10_feed 0 = .ok (.iload_n 1, 1) := by decide +kernel
theorem dX10_feed_1 : decode cX10_feed 1 = .ok (.i2l, 1) := by decide +kernel
theorem dX10_feed_2 : decode cX10_feed 2 = .ok (.lconst 0, 1) := by decide +kernel
theorem dX10_feed_3 : decode cX10_feed 3 = .ok (.ldc2_w 160, 3) := by decide +kernel
theorem dX10_feed_6 : decode cX10_feed 6 = .ok (.invokestatic 101, 3) := by decide +kernel
theorem dX10_feed_9 : decode cX10_feed 9 = .ok (.ifCond .ne 5, 3) := by decide +kernel
theorem dX10_feed_14 : decode cX10_feed 14 = .ok (.aload_n 0, 1) := by decide +kernel
theorem dX10_feed_15 : decode cX10_feed 15 = .ok (.getfield 162, 3) := by decide +kernel
theorem dX10_feed_18 : decode cX10_feed 18 = .ok (.bipush 120, 2) := by decide +kernel
theorem dX10_feed_20 : decode cX10_feed 20 = .ok (.if_icmp .ne 6, 3) := by decide +kernel
theorem dX10_feed_26 : decode cX10_feed 26 = .ok (.aload_n 0, 1) := by decide +kernel
theorem dX10_feed_27 : decode cX10_feed 27 = .ok (.getfield 28, 3) := by decide +kernel
theorem dX10_feed_30 : decode cX10_feed 30 = .ok (.aload_n 0, 1) := by decide +kernel
theorem dX10_feed_31 : decode cX10_feed 31 = .ok (.getfield 162, 3) := by decide +kernel
theorem dX10_feed_34 : decode cX10_feed 34 = .ok (.iload_n 1, 1) := by decide +kernel
theorem dX10_feed_35 : decode cX10_feed 35 = .ok (.iastore, 1) := by decide +kernel
theorem dX10_feed_36 : decode cX10_feed 36 = .ok (.aload_n 0, 1) := by decide +kernel
theorem dX10_feed_37 : decode cX10_feed 37 = .ok (.dup, 1) := by decide +kernel
theorem dX10_feed_38 : decode cX10_feed 38 = .ok (.getfield 162, 3) := by decide +kernel
theorem dX10_feed_41 : decode cX10_feed 41 = .ok (.iconst 1, 1) := by decide +kernel
theorem dX10_feed_42 : decode cX10_feed 42 = .ok (.iadd, 1) := by decide +kernel
theorem dX10_feed_43 : decode cX10_feed 43 = .ok (.putfield 162, 3) := by decide +kernel
theorem dX10_feed_46 : decode cX10_feed 46 = .ok (.aload_n 0, 1) := by decide +kernel
theorem dX10_feed_47 : decode cX10_feed 47 = .ok (.getfield 162, 3) := by decide +kernel
theorem dX10_feed_50 : decode cX10_feed 50 = .ok (.ireturn, 1) := by decide +kernel
theorem dX10_feed_23 : decode cX10_feed 23 = .ok (.bipush (-3), 2) := by decide +kernel
theorem dX10_feed_25 : decode cX10_feed 25 = .ok (.ireturn, 1) := by decide +kernel
theorem dX10_feed_12 : decode cX10_feed 12 = .ok (.iconst (-1), 1) := by decide +kernel
theorem dX10_feed_13 : decode cX10_feed 13 = .ok (.ireturn, 1) := by decide +kernel
theorem dX10_law_0 : decode cX10_law 0 = .ok (.aload_n 0, 1) := by decide +kernel
theorem dX10_law_1 : decode cX10_law 1 = .ok (.iconst (-1), 1) := by decide +kernel
theorem dX10_law_2 : decode cX10_law 2 = .ok (.aload_n 0, 1) := by decide +kernel
theorem dX10_law_3 : decode cX10_law 3 = .ok (.getfield 162, 3) := by decide +kernel
theorem dX10_law_6 : decode cX10_law 6 = .ok (.invokevirtual 211, 3) := by decide +kernel
theorem dX10_law_9 : decode cX10_law 9 = .ok (.istore_n 1, 1) := by decide +kernel
theorem dX10_law_10 : decode cX10_law 10 = .ok (.aload_n 0, 1) := by decide +kernel
theorem dX10_law_11 : decode cX10_law 11 = .ok (.getfield 162, 3) := by decide +kernel
theorem dX10_law_14 : decode cX10_law 14 = .ok (.istore_n 2, 1) := by decide +kernel
theorem dX10_law_15 : decode cX10_law 15 = .ok (.aload_n 0, 1) := by decide +kernel
theorem dX10_law_16 : decode cX10_law 16 = .ok (.iconst 0, 1) := by decide +kernel
theorem dX10_law_17 : decode cX10_law 17 = .ok (.putfield 162, 3) := by decide +kernel
theorem dX10_law_20 : decode cX10_law 20 = .ok (.aload_n 0, 1) := by decide +kernel
theorem dX10_law_21 : decode cX10_law 21 = .ok (.getfield 174, 3) := by decide +kernel
theorem dX10_law_24 : decode cX10_law 24 = .ok (.ifCond .lt 11, 3) := by decide +kernel
theorem dX10_law_35 : decode cX10_law 35 = .ok (.iconst 0, 1) := by decide +kernel
theorem dX10_law_36 : decode cX10_law 36 = .ok (.istore_n 3, 1) := by decide +kernel
theorem dX10_law_60 : decode cX10_law 60 = .ok (.aload_n 0, 1) := by decide +kernel
theorem dX10_law_61 : decode cX10_law 61 = .ok (.iload_n 2, 1) := by decide +kernel
theorem dX10_law_62 : decode cX10_law 62 = .ok (.putfield 88, 3) := by decide +kernel
theorem dX10_law_65 : decode cX10_law 65 = .ok (.iconst 1, 1) := by decide +kernel
theorem dX10_law_66 : decode cX10_law 66 = .ok (.ireturn, 1) := by decide +kernel
theorem dX10_law_27 : decode cX10_law 27 = .ok (.bipush (-100), 2) := by decide +kernel
theorem dX10_law_29 : decode cX10_law 29 = .ok (.aload_n 0, 1) := by decide +kernel
theorem dX10_law_30 : decode cX10_law 30 = .ok (.getfield 174, 3) := by decide +kernel
theorem dX10_law_33 : decode cX10_law 33 = .ok (.isub, 1) := by decide +kernel
theorem dX10_law_34 : decode cX10_law 34 = .ok (.ireturn, 1) := by decide +kernel
theorem dX10_led_0 : decode cX10_led 0 = .ok (.iload_n 1, 1) := by decide +kernel
theorem dX10_led_1 : decode cX10_led 1 = .ok (.ifCond .ne 10, 3) := by decide +kernel
theorem dX10_led_11 : decode cX10_led 11 = .ok (.iload_n 1, 1) := by decide +kernel
theorem dX10_led_12 : decode cX10_led 12 = .ok (.iconst 1, 1) := by decide +kernel
theorem dX10_led_13 : decode cX10_led 13 = .ok (.if_icmp .ne 10, 3) := by decide +kernel
theorem dX10_led_23 : decode cX10_led 23 = .ok (.iconst (-1), 1) := by decide +kernel
theorem dX10_led_24 : decode cX10_led 24 = .ok (.ireturn, 1) := by decide +kernel
theorem dX10_led_16 : decode cX10_led 16 = .ok (.aload_n 0, 1) := by decide +kernel
theorem dX10_led_17 : decode cX10_led 17 = .ok (.getfield 46, 3) := by decide +kernel
theorem dX10_led_20 : decode cX10_led 20 = .ok (.goto 4, 3) := by decide +kernel
theorem dX10_led_4 : decode cX10_led 4 = .ok (.aload_n 0, 1) := by decide +kernel
theorem dX10_led_5 : decode cX10_led 5 = .ok (.getfield 258, 3) := by decide +kernel
theorem dX10_led_8 : decode cX10_led 8 = .ok (.goto 16, 3) := by decide +kernel
theorem dX10_lift_0 : decode cX10_lift 0 = .ok (.aload_n 0, 1) := by decide +kernel
theorem dX10_lift_1 : decode cX10_lift 1 = .ok (.iload_n 1, 1) := by decide +kernel
theorem dX10_lift_2 : decode cX10_lift 2 = .ok (.invokevirtual 133, 3) := by decide +kernel
theorem dX10_lift_5 : decode cX10_lift 5 = .ok (.ifCond .ne 5, 3) := by decide +kernel
theorem dX10_lift_10 : decode cX10_lift 10 = .ok (.aload_n 0, 1) := by decide +kernel
theorem dX10_lift_11 : decode cX10_lift 11 = .ok (.getfield 25, 3) := by decide +kernel
theorem dX10_lift_14 : decode cX10_lift 14 = .ok (.iload_n 1, 1) := by decide +kernel
theorem dX10_lift_15 : decode cX10_lift 15 = .ok (.iaload, 1) := by decide +kernel
theorem dX10_lift_16 : decode cX10_lift 16 = .ok (.ifCond .le 6, 3) := by decide +kernel
theorem dX10_lift_22 : decode cX10_lift 22 = .ok (.aload_n 0, 1) := by decide +kernel
theorem dX10_lift_23 : decode cX10_lift 23 = .ok (.getfield 25, 3) := by decide +kernel
theorem dX10_lift_26 : decode cX10_lift 26 = .ok (.iload_n 1, 1) := by decide +kernel
theorem dX10_lift_27 : decode cX10_lift 27 = .ok (.bipush 20, 2) := by decide +kernel
theorem dX10_lift_29 : decode cX10_lift 29 = .ok (.iastore, 1) := by decide +kernel
theorem dX10_lift_30 : decode cX10_lift 30 = .ok (.aload_n 0, 1) := by decide +kernel
theorem dX10_lift_31 : decode cX10_lift 31 = .ok (.getfield 22, 3) := by decide +kernel
theorem dX10_lift_34 : decode cX10_lift 34 = .ok (.iload_n 1, 1) := by decide +kernel
theorem dX10_lift_35 : decode cX10_lift 35 = .ok (.iconst 0, 1) := by decide +kernel
theorem dX10_lift_36 : decode cX10_lift 36 = .ok (.iastore, 1) := by decide +kernel
theorem dX10_lift_37 : decode cX10_lift 37 = .ok (.aload_n 0, 1) := by decide +kernel
theorem dX10_lift_38 : decode cX10_lift 38 = .ok (.getfield 9, 3) := by decide +kernel
theorem dX10_lift_41 : decode cX10_lift 41 = .ok (.bipush 10, 2) := by decide +kernel
theorem dX10_lift_43 : decode cX10_lift 43 = .ok (.iload_n 1, 1) := by decide +kernel
theorem dX10_lift_44 : decode cX10_lift 44 = .ok (.iadd, 1) := by decide +kernel
theorem dX10_lift_45 : decode cX10_lift 45 = .ok (.iconst 4, 1) := by decide +kernel
theorem dX10_lift_46 : decode cX10_lift 46 = .ok (.iastore, 1) := by decide +kernel
theorem dX10_lift_47 : decode cX10_lift 47 = .ok (.iload_n 1, 1) := by decide +kernel
theorem dX10_lift_48 : decode cX10_lift 48 = .ok (.ireturn, 1) := by decide +kernel
theorem dX10_lift_19 : decode cX10_lift 19 = .ok (.bipush (-5), 2) := by decide +kernel
theorem dX10_lift_21 : decode cX10_lift 21 = .ok (.ireturn, 1) := by decide +kernel
theorem dX10_lift_8 : decode cX10_lift 8 = .ok (.iconst (-1), 1) := by decide +kernel
theorem dX10_lift_9 : decode cX10_lift 9 = .ok (.ireturn, 1) := by decide +kernel
theorem dX10_then_0 : decode cX10_then 0 = .ok (.aload_n 0, 1) := by decide +kernel
theorem dX10_then_1 : decode cX10_then 1 = .ok (.iload_n 1, 1) := by decide +kernel
theorem dX10_then_2 : decode cX10_then 2 = .ok (.invokevirtual 133, 3) := by decide +kernel
theorem dX10_then_5 : decode cX10_then 5 = .ok (.ifCond .eq 27, 3) := by decide +kernel
theorem dX10_then_32 : decode cX10_then 32 = .ok (.ldc 140, 2) := by decide +kernel
theorem dX10_then_34 : decode cX10_then 34 = .ok (.ireturn, 1) := by decide +kernel
theorem dX10_then_8 : decode cX10_then 8 = .ok (.iload_n 2, 1) := by decide +kernel
theorem dX10_then_9 : decode cX10_then 9 = .ok (.i2l, 1) := by decide +kernel
theorem dX10_then_10 : decode cX10_then 10 = .ok (.lconst 0, 1) := by decide +kernel
theorem dX10_then_11 : decode cX10_then 11 = .ok (.ldc2_w 244, 3) := by decide +kernel
theorem dX10_then_14 : decode cX10_then 14 = .ok (.invokestatic 101, 3) := by decide +kernel
theorem dX10_then_17 : decode cX10_then 17 = .ok (.ifCond .eq 15, 3) := by decide +kernel
theorem dX10_then_20 : decode cX10_then 20 = .ok (.iload_n 3, 1) := by decide +kernel
theorem dX10_then_21 : decode cX10_then 21 = .ok (.i2l, 1) := by decide +kernel
theorem dX10_then_22 : decode cX10_then 22 = .ok (.lconst 0, 1) := by decide +kernel
theorem dX10_then_23 : decode cX10_then 23 = .ok (.ldc2_w 131, 3) := by decide +kernel
theorem dX10_then_26 : decode cX10_then 26 = .ok (.invokestatic 101, 3) := by decide +kernel
theorem dX10_then_29 : decode cX10_then 29 = .ok (.ifCond .ne 6, 3) := by decide +kernel
theorem dX10_then_35 : decode cX10_then 35 = .ok (.aload_n 0, 1) := by decide +kernel
theorem dX10_then_36 : decode cX10_then 36 = .ok (.aload_n 0, 1) := by decide +kernel
theorem dX10_then_37 : decode cX10_then 37 = .ok (.invokevirtual 246, 3) := by decide +kernel
theorem dX10_then_40 : decode cX10_then 40 = .ok (.invokevirtual 249, 3) := by decide +kernel
theorem dX10_then_43 : decode cX10_then 43 = .ok (.iconst 0, 1) := by decide +kernel
theorem dX10_then_44 : decode cX10_then 44 = .ok (.istore 4, 2) := by decide +kernel
theorem dX10_then_69 : decode cX10_then 69 = .ok (.iload_n 3, 1) := by decide +kernel
theorem dX10_then_70 : decode cX10_then 70 = .ok (.ifCond .ne 12, 3) := by decide +kernel
theorem dX10_then_82 : decode cX10_then 82 = .ok (.iload_n 3, 1) := by decide +kernel
theorem dX10_then_83 : decode cX10_then 83 = .ok (.iconst 1, 1) := by decide +kernel
theorem dX10_then_84 : decode cX10_then 84 = .ok (.if_icmp .ne 12, 3) := by decide +kernel
theorem dX10_then_96 : decode cX10_then 96 = .ok (.aload_n 0, 1) := by decide +kernel
theorem dX10_then_97 : decode cX10_then 97 = .ok (.getfield 43, 3) := by decide +kernel
theorem dX10_then_100 : decode cX10_then 100 = .ok (.iload_n 1, 1) := by decide +kernel
theorem dX10_then_101 : decode cX10_then 101 = .ok (.iaload, 1) := by decide +kernel
theorem dX10_then_102 : decode cX10_then 102 = .ok (.ireturn, 1) := by decide +kernel
theorem dX10_then_87 : decode cX10_then 87 = .ok (.aload_n 0, 1) := by decide +kernel
theorem dX10_then_88 : decode cX10_then 88 = .ok (.getfield 40, 3) := by decide +kernel
theorem dX10_then_91 : decode cX10_then 91 = .ok (.iload_n 1, 1) := by decide +kernel
theorem dX10_then_92 : decode cX10_then 92 = .ok (.iaload, 1) := by decide +kernel
theorem dX10_then_93 : decode cX10_then 93 = .ok (.goto 9, 3) := by decide +kernel
theorem dX10_then_73 : decode cX10_then 73 = .ok (.aload_n 0, 1) := by decide +kernel
theorem dX10_then_74 : decode cX10_then 74 = .ok (.getfield 37, 3) := by decide +kernel
theorem dX10_then_77 : decode cX10_then 77 = .ok (.iload_n 1, 1) := by decide +kernel
theorem dX10_then_78 : decode cX10_then 78 = .ok (.iaload, 1) := by decide +kernel
theorem dX10_then_79 : decode cX10_then 79 = .ok (.goto 23, 3) := by decide +kernel
theorem dX10_falls_0 : decode cX10_falls 0 = .ok (.aload_n 0, 1) := by decide +kernel
theorem dX10_falls_1 : decode cX10_falls 1 = .ok (.iload_n 1, 1) := by decide +kernel
theorem dX10_falls_2 : decode cX10_falls 2 = .ok (.invokevirtual 133, 3) := by decide +kernel
theorem dX10_falls_5 : decode cX10_falls 5 = .ok (.ifCond .ne 5, 3) := by decide +kernel
theorem dX10_falls_10 : decode cX10_falls 10 = .ok (.aload_n 0, 1) := by decide +kernel
theorem dX10_falls_11 : decode cX10_falls 11 = .ok (.iload_n 1, 1) := by decide +kernel
theorem dX10_falls_12 : decode cX10_falls 12 = .ok (.invokevirtual 264, 3) := by decide +kernel
theorem dX10_falls_15 : decode cX10_falls 15 = .ok (.istore_n 2, 1) := by decide +kernel
theorem dX10_falls_16 : decode cX10_falls 16 = .ok (.iload_n 2, 1) := by decide +kernel
theorem dX10_falls_17 : decode cX10_falls 17 = .ok (.sipush 201, 3) := by decide +kernel
theorem dX10_falls_20 : decode cX10_falls 20 = .ok (.if_icmp .ne 8, 3) := by decide +kernel
theorem dX10_falls_28 : decode cX10_falls 28 = .ok (.iload_n 2, 1) := by decide +kernel
theorem dX10_falls_29 : decode cX10_falls 29 = .ok (.ireturn, 1) := by decide +kernel
theorem dX10_falls_23 : decode cX10_falls 23 = .ok (.bipush (-2), 2) := by decide +kernel
theorem dX10_falls_25 : decode cX10_falls 25 = .ok (.goto 4, 3) := by decide +kernel
theorem dX10_falls_8 : decode cX10_falls 8 = .ok (.iconst (-1), 1) := by decide +kernel
theorem dX10_falls_9 : decode cX10_falls 9 = .ok (.ireturn, 1) := by decide +kernel
theorem dX10_mistake_0 : decode cX10_mistake 0 = .ok (.iload_n 1, 1) := by decide +kernel
theorem dX10_mistake_1 : decode cX10_mistake 1 = .ok (.i2l, 1) := by decide +kernel
theorem dX10_mistake_2 : decode cX10_mistake 2 = .ok (.lconst 0, 1) := by decide +kernel
theorem dX10_mistake_3 : decode cX10_mistake 3 = .ok (.ldc2_w 276, 3) := by decide +kernel
theorem dX10_mistake_6 : decode cX10_mistake 6 = .ok (.invokestatic 101, 3) := by decide +kernel
theorem dX10_mistake_9 : decode cX10_mistake 9 = .ok (.ifCond .eq 13, 3) := by decide +kernel
theorem dX10_mistake_22 : decode cX10_mistake 22 = .ok (.iconst (-1), 1) := by decide +kernel
theorem dX10_mistake_23 : decode cX10_mistake 23 = .ok (.ireturn, 1) := by decide +kernel
theorem dX10_mistake_12 : decode cX10_mistake 12 = .ok (.iload_n 2, 1) := by decide +kernel
theorem dX10_mistake_13 : decode cX10_mistake 13 = .ok (.i2l, 1) := by decide +kernel
theorem dX10_mistake_14 : decode cX10_mistake 14 = .ok (.lconst 0, 1) := by decide +kernel
theorem dX10_mistake_15 : decode cX10_mistake 15 = .ok (.lconst 1, 1) := by decide +kernel
theorem dX10_mistake_16 : decode cX10_mistake 16 = .ok (.invokestatic 101, 3) := by decide +kernel
theorem dX10_mistake_19 : decode cX10_mistake 19 = .ok (.ifCond .ne 5, 3) := by decide +kernel
theorem dX10_mistake_24 : decode cX10_mistake 24 = .ok (.aload_n 0, 1) := by decide +kernel
theorem dX10_mistake_25 : decode cX10_mistake 25 = .ok (.iload_n 1, 1) := by decide +kernel
theorem dX10_mistake_26 : decode cX10_mistake 26 = .ok (.invokevirtual 278, 3) := by decide +kernel
theorem dX10_mistake_29 : decode cX10_mistake 29 = .ok (.istore_n 3, 1) := by decide +kernel
theorem dX10_mistake_30 : decode cX10_mistake 30 = .ok (.iload_n 2, 1) := by decide +kernel
theorem dX10_mistake_31 : decode cX10_mistake 31 = .ok (.ifCond .ne 7, 3) := by decide +kernel
theorem dX10_mistake_38 : decode cX10_mistake 38 = .ok (.aload_n 0, 1) := by decide +kernel
theorem dX10_mistake_39 : decode cX10_mistake 39 = .ok (.getfield 273, 3) := by decide +kernel
theorem dX10_mistake_42 : decode cX10_mistake 42 = .ok (.ireturn, 1) := by decide +kernel
theorem dX10_mistake_34 : decode cX10_mistake 34 = .ok (.iload_n 3, 1) := by decide +kernel
theorem dX10_mistake_35 : decode cX10_mistake 35 = .ok (.goto 7, 3) := by decide +kernel
theorem dX10_rescue_0 : decode cX10_rescue 0 = .ok (.aload_n 0, 1) := by decide +kernel
theorem dX10_rescue_1 : decode cX10_rescue 1 = .ok (.iload_n 1, 1) := by decide +kernel
theorem dX10_rescue_2 : decode cX10_rescue 2 = .ok (.invokevirtual 133, 3) := by decide +kernel
theorem dX10_rescue_5 : decode cX10_rescue 5 = .ok (.ifCond .eq 31, 3) := by decide +kernel
theorem dX10_rescue_36 : decode cX10_rescue 36 = .ok (.iconst (-1), 1) := by decide +kernel
theorem dX10_rescue_37 : decode cX10_rescue 37 = .ok (.ireturn, 1) := by decide +kernel
theorem dX10_rescue_8 : decode cX10_rescue 8 = .ok (.iload_n 2, 1) := by decide +kernel
theorem dX10_rescue_9 : decode cX10_rescue 9 = .ok (.ifCond .lt 27, 3) := by decide +kernel
theorem dX10_rescue_12 : decode cX10_rescue 12 = .ok (.iload_n 2, 1) := by decide +kernel
theorem dX10_rescue_13 : decode cX10_rescue 13 = .ok (.bipush 100, 2) := by decide +kernel
theorem dX10_rescue_15 : decode cX10_rescue 15 = .ok (.idiv, 1) := by decide +kernel
theorem dX10_rescue_16 : decode cX10_rescue 16 = .ok (.i2l, 1) := by decide +kernel
theorem dX10_rescue_17 : decode cX10_rescue 17 = .ok (.lconst 1, 1) := by decide +kernel
theorem dX10_rescue_18 : decode cX10_rescue 18 = .ok (.ldc2_w 129, 3) := by decide +kernel
theorem dX10_rescue_21 : decode cX10_rescue 21 = .ok (.invokestatic 101, 3) := by decide +kernel
theorem dX10_rescue_24 : decode cX10_rescue 24 = .ok (.ifCond .eq 12, 3) := by decide +kernel
theorem dX10_rescue_27 : decode cX10_rescue 27 = .ok (.iload_n 2, 1) := by decide +kernel
theorem dX10_rescue_28 : decode cX10_rescue 28 = .ok (.bipush 100, 2) := by decide +kernel
theorem dX10_rescue_30 : decode cX10_rescue 30 = .ok (.irem, 1) := by decide +kernel
theorem dX10_rescue_31 : decode cX10_rescue 31 = .ok (.bipush 24, 2) := by decide +kernel
theorem dX10_rescue_33 : decode cX10_rescue 33 = .ok (.if_icmp .lt 5, 3) := by decide +kernel
theorem dX10_rescue_38 : decode cX10_rescue 38 = .ok (.aload_n 0, 1) := by decide +kernel
theorem dX10_rescue_39 : decode cX10_rescue 39 = .ok (.iload_n 1, 1) := by decide +kernel
theorem dX10_rescue_40 : decode cX10_rescue 40 = .ok (.invokevirtual 264, 3) := by decide +kernel
theorem dX10_rescue_43 : decode cX10_rescue 43 = .ok (.istore_n 3, 1) := by decide +kernel
theorem dX10_rescue_44 : decode cX10_rescue 44 = .ok (.iload_n 3, 1) := by decide +kernel
theorem dX10_rescue_45 : decode cX10_rescue 45 = .ok (.ifCond .eq 10, 3) := by decide +kernel
theorem dX10_rescue_55 : decode cX10_rescue 55 = .ok (.bipush (-5), 2) := by decide +kernel
theorem dX10_rescue_57 : decode cX10_rescue 57 = .ok (.ireturn, 1) := by decide +kernel
theorem dX10_rescue_48 : decode cX10_rescue 48 = .ok (.iload_n 3, 1) := by decide +kernel
theorem dX10_rescue_49 : decode cX10_rescue 49 = .ok (.sipush 201, 3) := by decide +kernel
theorem dX10_rescue_52 : decode cX10_rescue 52 = .ok (.if_icmp .ne 6, 3) := by decide +kernel
theorem dX10_rescue_58 : decode cX10_rescue 58 = .ok (.iconst 0, 1) := by decide +kernel
theorem dX10_rescue_59 : decode cX10_rescue 59 = .ok (.istore 4, 2) := by decide +kernel
theorem dX10_rescue_96 : decode cX10_rescue 96 = .ok (.bipush (-2), 2) := by decide +kernel
theorem dX10_rescue_98 : decode cX10_rescue 98 = .ok (.ireturn, 1) := by decide +kernel
theorem dX10_beatFor_0 : decode cX10_beatFor 0 = .ok (.iload_n 1, 1) := by decide +kernel
theorem dX10_beatFor_1 : decode cX10_beatFor 1 = .ok (.i2l, 1) := by decide +kernel
theorem dX10_beatFor_2 : decode cX10_beatFor 2 = .ok (.lconst 0, 1) := by decide +kernel
theorem dX10_beatFor_3 : decode cX10_beatFor 3 = .ok (.lconst 1, 1) := by decide +kernel
theorem dX10_beatFor_4 : decode cX10_beatFor 4 = .ok (.invokestatic 101, 3) := by decide +kernel
theorem dX10_beatFor_7 : decode cX10_beatFor 7 = .ok (.ifCond .ne 5, 3) := by decide +kernel
theorem dX10_beatFor_12 : decode cX10_beatFor 12 = .ok (.aload_n 0, 1) := by decide +kernel
theorem dX10_beatFor_13 : decode cX10_beatFor 13 = .ok (.getfield 9, 3) := by decide +kernel
theorem dX10_beatFor_16 : decode cX10_beatFor 16 = .ok (.bipush 16, 2) := by decide +kernel
theorem dX10_beatFor_18 : decode cX10_beatFor 18 = .ok (.iaload, 1) := by decide +kernel
theorem dX10_beatFor_19 : decode cX10_beatFor 19 = .ok (.istore_n 2, 1) := by decide +kernel
theorem dX10_beatFor_20 : decode cX10_beatFor 20 = .ok (.aload_n 0, 1) := by decide +kernel
theorem dX10_beatFor_21 : decode cX10_beatFor 21 = .ok (.getfield 9, 3) := by decide +kernel
theorem dX10_beatFor_24 : decode cX10_beatFor 24 = .ok (.bipush 17, 2) := by decide +kernel
theorem dX10_beatFor_26 : decode cX10_beatFor 26 = .ok (.iaload, 1) := by decide +kernel
theorem dX10_beatFor_27 : decode cX10_beatFor 27 = .ok (.istore_n 3, 1) := by decide +kernel
theorem dX10_beatFor_28 : decode cX10_beatFor 28 = .ok (.iconst 0, 1) := by decide +kernel
theorem dX10_beatFor_29 : decode cX10_beatFor 29 = .ok (.istore 4, 2) := by decide +kernel
theorem dX10_beatFor_31 : decode cX10_beatFor 31 = .ok (.iconst (-1), 1) := by decide +kernel
theorem dX10_beatFor_32 : decode cX10_beatFor 32 = .ok (.istore 5, 2) := by decide +kernel
theorem dX10_beatFor_34 : decode cX10_beatFor 34 = .ok (.iconst 2, 1) := by decide +kernel
theorem dX10_beatFor_35 : decode cX10_beatFor 35 = .ok (.istore 6, 2) := by decide +kernel
theorem dX10_beatFor_128 : decode cX10_beatFor 128 = .ok (.aload_n 0, 1) := by decide +kernel
theorem dX10_beatFor_129 : decode cX10_beatFor 129 = .ok (.getfield 9, 3) := by decide +kernel
theorem dX10_beatFor_132 : decode cX10_beatFor 132 = .ok (.bipush 16, 2) := by decide +kernel
theorem dX10_beatFor_134 : decode cX10_beatFor 134 = .ok (.iload_n 2, 1) := by decide +kernel
theorem dX10_beatFor_135 : decode cX10_beatFor 135 = .ok (.iastore, 1) := by decide +kernel
theorem dX10_beatFor_136 : decode cX10_beatFor 136 = .ok (.aload_n 0, 1) := by decide +kernel
theorem dX10_beatFor_137 : decode cX10_beatFor 137 = .ok (.getfield 9, 3) := by decide +kernel
theorem dX10_beatFor_140 : decode cX10_beatFor 140 = .ok (.bipush 17, 2) := by decide +kernel
theorem dX10_beatFor_142 : decode cX10_beatFor 142 = .ok (.iload_n 3, 1) := by decide +kernel
theorem dX10_beatFor_143 : decode cX10_beatFor 143 = .ok (.iastore, 1) := by decide +kernel
theorem dX10_beatFor_144 : decode cX10_beatFor 144 = .ok (.iload_n 1, 1) := by decide +kernel
theorem dX10_beatFor_145 : decode cX10_beatFor 145 = .ok (.ifCond .ne 8, 3) := by decide +kernel
theorem dX10_beatFor_153 : decode cX10_beatFor 153 = .ok (.iload 5, 2) := by decide +kernel
theorem dX10_beatFor_155 : decode cX10_beatFor 155 = .ok (.ireturn, 1) := by decide +kernel
theorem dX10_beatFor_148 : decode cX10_beatFor 148 = .ok (.iload 4, 2) := by decide +kernel
theorem dX10_beatFor_150 : decode cX10_beatFor 150 = .ok (.goto 5, 3) := by decide +kernel
theorem dX10_beatFor_10 : decode cX10_beatFor 10 = .ok (.iconst (-1), 1) := by decide +kernel
theorem dX10_beatFor_11 : decode cX10_beatFor 11 = .ok (.ireturn, 1) := by decide +kernel
theorem dX10_leastPush_0 : decode cX10_leastPush 0 = .ok (.iload_n 1, 1) := by decide +kernel
theorem dX10_leastPush_1 : decode cX10_leastPush 1 = .ok (.i2l, 1) := by decide +kernel
theorem dX10_leastPush_2 : decode cX10_leastPush 2 = .ok (.lconst 1, 1) := by decide +kernel
theorem dX10_leastPush_3 : decode cX10_leastPush 3 = .ok (.ldc2_w 244, 3) := by decide +kernel
theorem dX10_leastPush_6 : decode cX10_leastPush 6 = .ok (.invokestatic 101, 3) := by decide +kernel
theorem dX10_leastPush_9 : decode cX10_leastPush 9 = .ok (.ifCond .ne 5, 3) := by decide +kernel
theorem dX10_leastPush_14 : decode cX10_leastPush 14 = .ok (.aload_n 0, 1) := by decide +kernel
theorem dX10_leastPush_15 : decode cX10_leastPush 15 = .ok (.getfield 9, 3) := by decide +kernel
theorem dX10_leastPush_18 : decode cX10_leastPush 18 = .ok (.bipush 18, 2) := by decide +kernel
theorem dX10_leastPush_20 : decode cX10_leastPush 20 = .ok (.iaload, 1) := by decide +kernel
theorem dX10_leastPush_21 : decode cX10_leastPush 21 = .ok (.istore_n 2, 1) := by decide +kernel
theorem dX10_leastPush_22 : decode cX10_leastPush 22 = .ok (.bipush (-2), 2) := by decide +kernel
theorem dX10_leastPush_24 : decode cX10_leastPush 24 = .ok (.istore_n 3, 1) := by decide +kernel
theorem dX10_leastPush_25 : decode cX10_leastPush 25 = .ok (.iconst 5, 1) := by decide +kernel
theorem dX10_leastPush_26 : decode cX10_leastPush 26 = .ok (.istore 4, 2) := by decide +kernel
theorem dX10_leastPush_63 : decode cX10_leastPush 63 = .ok (.aload_n 0, 1) := by decide +kernel
theorem dX10_leastPush_64 : decode cX10_leastPush 64 = .ok (.getfield 9, 3) := by decide +kernel
theorem dX10_leastPush_67 : decode cX10_leastPush 67 = .ok (.bipush 18, 2) := by decide +kernel
theorem dX10_leastPush_69 : decode cX10_leastPush 69 = .ok (.iload_n 2, 1) := by decide +kernel
theorem dX10_leastPush_70 : decode cX10_leastPush 70 = .ok (.iastore, 1) := by decide +kernel
theorem dX10_leastPush_71 : decode cX10_leastPush 71 = .ok (.iload_n 3, 1) := by decide +kernel
theorem dX10_leastPush_72 : decode cX10_leastPush 72 = .ok (.ireturn, 1) := by decide +kernel
theorem dX10_leastPush_12 : decode cX10_leastPush 12 = .ok (.iconst (-1), 1) := by decide +kernel
theorem dX10_leastPush_13 : decode cX10_leastPush 13 = .ok (.ireturn, 1) := by decide +kernel
theorem dX10_held_0 : decode cX10_held 0 = .ok (.iload_n 1, 1) := by decide +kernel
theorem dX10_held_1 : decode cX10_held 1 = .ok (.i2l, 1) := by decide +kernel
theorem dX10_held_2 : decode cX10_held 2 = .ok (.lconst 1, 1) := by decide +kernel
theorem dX10_held_3 : decode cX10_held 3 = .ok (.ldc2_w 244, 3) := by decide +kernel
theorem dX10_held_6 : decode cX10_held 6 = .ok (.invokestatic 101, 3) := by decide +kernel
theorem dX10_held_9 : decode cX10_held 9 = .ok (.ifCond .ne 5, 3) := by decide +kernel
theorem dX10_held_14 : decode cX10_held 14 = .ok (.aload_n 0, 1) := by decide +kernel
theorem dX10_held_15 : decode cX10_held 15 = .ok (.invokevirtual 246, 3) := by decide +kernel
theorem dX10_held_18 : decode cX10_held 18 = .ok (.istore_n 2, 1) := by decide +kernel
theorem dX10_held_19 : decode cX10_held 19 = .ok (.iconst 0, 1) := by decide +kernel
theorem dX10_held_20 : decode cX10_held 20 = .ok (.istore_n 3, 1) := by decide +kernel
theorem dX10_held_21 : decode cX10_held 21 = .ok (.iconst 1, 1) := by decide +kernel
theorem dX10_held_22 : decode cX10_held 22 = .ok (.istore 4, 2) := by decide +kernel
theorem dX10_held_12 : decode cX10_held 12 = .ok (.iconst (-1), 1) := by decide +kernel
theorem dX10_held_13 : decode cX10_held 13 = .ok (.ireturn, 1) := by decide +kernel
theorem dX10_start_0 : decode cX10_start 0 = .ok (.aload_n 0, 1) := by decide +kernel
theorem dX10_start_1 : decode cX10_start 1 = .ok (.iload_n 1, 1) := by decide +kernel
theorem dX10_start_2 : decode cX10_start 2 = .ok (.invokevirtual 133, 3) := by decide +kernel
theorem dX10_start_5 : decode cX10_start 5 = .ok (.ifCond .ne 6, 3) := by decide +kernel
theorem dX10_start_11 : decode cX10_start 11 = .ok (.aload_n 0, 1) := by decide +kernel
theorem dX10_start_12 : decode cX10_start 12 = .ok (.getfield 25, 3) := by decide +kernel
theorem dX10_start_15 : decode cX10_start 15 = .ok (.iload_n 1, 1) := by decide +kernel
theorem dX10_start_16 : decode cX10_start 16 = .ok (.iaload, 1) := by decide +kernel
theorem dX10_start_17 : decode cX10_start 17 = .ok (.ifCond .ne 6, 3) := by decide +kernel
theorem dX10_start_23 : decode cX10_start 23 = .ok (.aload_n 0, 1) := by decide +kernel
theorem dX10_start_24 : decode cX10_start 24 = .ok (.getfield 9, 3) := by decide +kernel
theorem dX10_start_27 : decode cX10_start 27 = .ok (.bipush 10, 2) := by decide +kernel
theorem dX10_start_29 : decode cX10_start 29 = .ok (.iload_n 1, 1) := by decide +kernel
theorem dX10_start_30 : decode cX10_start 30 = .ok (.iadd, 1) := by decide +kernel
theorem dX10_start_31 : decode cX10_start 31 = .ok (.iaload, 1) := by decide +kernel
theorem dX10_start_32 : decode cX10_start 32 = .ok (.istore_n 2, 1) := by decide +kernel
theorem dX10_start_33 : decode cX10_start 33 = .ok (.ldc 140, 2) := by decide +kernel
theorem dX10_start_35 : decode cX10_start 35 = .ok (.istore_n 3, 1) := by decide +kernel
theorem dX10_start_36 : decode cX10_start 36 = .ok (.iconst (-1), 1) := by decide +kernel
theorem dX10_start_37 : decode cX10_start 37 = .ok (.istore 4, 2) := by decide +kernel
theorem dX10_start_39 : decode cX10_start 39 = .ok (.bipush (-9), 2) := by decide +kernel
theorem dX10_start_41 : decode cX10_start 41 = .ok (.istore 5, 2) := by decide +kernel
theorem dX10_start_104 : decode cX10_start 104 = .ok (.aload_n 0, 1) := by decide +kernel
theorem dX10_start_105 : decode cX10_start 105 = .ok (.getfield 9, 3) := by decide +kernel
theorem dX10_start_108 : decode cX10_start 108 = .ok (.bipush 10, 2) := by decide +kernel
theorem dX10_start_110 : decode cX10_start 110 = .ok (.iload_n 1, 1) := by decide +kernel
theorem dX10_start_111 : decode cX10_start 111 = .ok (.iadd, 1) := by decide +kernel
theorem dX10_start_112 : decode cX10_start 112 = .ok (.iload_n 2, 1) := by decide +kernel
theorem dX10_start_113 : decode cX10_start 113 = .ok (.iastore, 1) := by decide +kernel
theorem dX10_start_114 : decode cX10_start 114 = .ok (.iload_n 3, 1) := by decide +kernel
theorem dX10_start_115 : decode cX10_start 115 = .ok (.ireturn, 1) := by decide +kernel
theorem dX10_start_20 : decode cX10_start 20 = .ok (.bipush (-5), 2) := by decide +kernel
theorem dX10_start_22 : decode cX10_start 22 = .ok (.ireturn, 1) := by decide +kernel
theorem dX10_start_8 : decode cX10_start 8 = .ok (.ldc 140, 2) := by decide +kernel
theorem dX10_start_10 : decode cX10_start 10 = .ok (.ireturn, 1) := by decide +kernel
theorem dX10_judge_0 : decode cX10_judge 0 = .ok (.aload_n 0, 1) := by decide +kernel
theorem dX10_judge_1 : decode cX10_judge 1 = .ok (.iload_n 1, 1) := by decide +kernel
theorem dX10_judge_2 : decode cX10_judge 2 = .ok (.invokevirtual 285, 3) := by decide +kernel
theorem dX10_judge_5 : decode cX10_judge 5 = .ok (.iconst (-1), 1) := by decide +kernel
theorem dX10_judge_6 : decode cX10_judge 6 = .ok (.if_icmp .eq 11, 3) := by decide +kernel
theorem dX10_judge_17 : decode cX10_judge 17 = .ok (.iconst (-1), 1) := by decide +kernel
theorem dX10_judge_18 : decode cX10_judge 18 = .ok (.ireturn, 1) := by decide +kernel
theorem dX10_judge_9 : decode cX10_judge 9 = .ok (.aload_n 0, 1) := by decide +kernel
theorem dX10_judge_10 : decode cX10_judge 10 = .ok (.iload_n 2, 1) := by decide +kernel
theorem dX10_judge_11 : decode cX10_judge 11 = .ok (.invokevirtual 133, 3) := by decide +kernel
theorem dX10_judge_14 : decode cX10_judge 14 = .ok (.ifCond .ne 5, 3) := by decide +kernel
theorem dX10_judge_19 : decode cX10_judge 19 = .ok (.aload_n 0, 1) := by decide +kernel
theorem dX10_judge_20 : decode cX10_judge 20 = .ok (.iload_n 1, 1) := by decide +kernel
theorem dX10_judge_21 : decode cX10_judge 21 = .ok (.invokevirtual 285, 3) := by decide +kernel
theorem dX10_judge_24 : decode cX10_judge 24 = .ok (.ifCond .ge 11, 3) := by decide +kernel
theorem dX10_judge_35 : decode cX10_judge 35 = .ok (.aload_n 0, 1) := by decide +kernel
theorem dX10_judge_36 : decode cX10_judge 36 = .ok (.iload_n 1, 1) := by decide +kernel
theorem dX10_judge_37 : decode cX10_judge 37 = .ok (.iload_n 2, 1) := by decide +kernel
theorem dX10_judge_38 : decode cX10_judge 38 = .ok (.invokevirtual 290, 3) := by decide +kernel
theorem dX10_judge_41 : decode cX10_judge 41 = .ok (.ireturn, 1) := by decide +kernel
theorem dX10_judge_27 : decode cX10_judge 27 = .ok (.aload_n 0, 1) := by decide +kernel
theorem dX10_judge_28 : decode cX10_judge 28 = .ok (.iload_n 1, 1) := by decide +kernel
theorem dX10_judge_29 : decode cX10_judge 29 = .ok (.invokevirtual 285, 3) := by decide +kernel
theorem dX10_judge_32 : decode cX10_judge 32 = .ok (.goto 9, 3) := by decide +kernel
theorem dX10_begun_0 : decode cX10_begun 0 = .ok (.aload_n 0, 1) := by decide +kernel
theorem dX10_begun_1 : decode cX10_begun 1 = .ok (.iload_n 1, 1) := by decide +kernel
theorem dX10_begun_2 : decode cX10_begun 2 = .ok (.invokevirtual 285, 3) := by decide +kernel
theorem dX10_begun_5 : decode cX10_begun 5 = .ok (.ifCond .lt 21, 3) := by decide +kernel
theorem dX10_begun_26 : decode cX10_begun 26 = .ok (.ldc 140, 2) := by decide +kernel
theorem dX10_begun_28 : decode cX10_begun 28 = .ok (.ireturn, 1) := by decide +kernel
theorem dX10_begun_8 : decode cX10_begun 8 = .ok (.aload_n 0, 1) := by decide +kernel
theorem dX10_begun_9 : decode cX10_begun 9 = .ok (.iload_n 2, 1) := by decide +kernel
theorem dX10_begun_10 : decode cX10_begun 10 = .ok (.invokevirtual 133, 3) := by decide +kernel
theorem dX10_begun_13 : decode cX10_begun 13 = .ok (.ifCond .eq 13, 3) := by decide +kernel
theorem dX10_begun_16 : decode cX10_begun 16 = .ok (.iload_n 3, 1) := by decide +kernel
theorem dX10_begun_17 : decode cX10_begun 17 = .ok (.i2l, 1) := by decide +kernel
theorem dX10_begun_18 : decode cX10_begun 18 = .ok (.lconst 0, 1) := by decide +kernel
theorem dX10_begun_19 : decode cX10_begun 19 = .ok (.lconst 1, 1) := by decide +kernel
theorem dX10_begun_20 : decode cX10_begun 20 = .ok (.invokestatic 101, 3) := by decide +kernel
theorem dX10_begun_23 : decode cX10_begun 23 = .ok (.ifCond .ne 6, 3) := by decide +kernel
theorem dX10_begun_29 : decode cX10_begun 29 = .ok (.aload_n 0, 1) := by decide +kernel
theorem dX10_begun_30 : decode cX10_begun 30 = .ok (.getfield 9, 3) := by decide +kernel
theorem dX10_begun_33 : decode cX10_begun 33 = .ok (.bipush 10, 2) := by decide +kernel
theorem dX10_begun_35 : decode cX10_begun 35 = .ok (.iload_n 2, 1) := by decide +kernel
theorem dX10_begun_36 : decode cX10_begun 36 = .ok (.iadd, 1) := by decide +kernel
theorem dX10_begun_37 : decode cX10_begun 37 = .ok (.iaload, 1) := by decide +kernel
theorem dX10_begun_38 : decode cX10_begun 38 = .ok (.istore 4, 2) := by decide +kernel
theorem dX10_begun_40 : decode cX10_begun 40 = .ok (.aload_n 0, 1) := by decide +kernel
theorem dX10_begun_41 : decode cX10_begun 41 = .ok (.getfield 25, 3) := by decide +kernel
theorem dX10_begun_44 : decode cX10_begun 44 = .ok (.iload_n 2, 1) := by decide +kernel
theorem dX10_begun_45 : decode cX10_begun 45 = .ok (.iaload, 1) := by decide +kernel
theorem dX10_begun_46 : decode cX10_begun 46 = .ok (.ifCond .le 8, 3) := by decide +kernel
theorem dX10_begun_54 : decode cX10_begun 54 = .ok (.iconst 0, 1) := by decide +kernel
theorem dX10_begun_55 : decode cX10_begun 55 = .ok (.istore 5, 2) := by decide +kernel
theorem dX10_begun_57 : decode cX10_begun 57 = .ok (.iconst 0, 1) := by decide +kernel
theorem dX10_begun_58 : decode cX10_begun 58 = .ok (.istore 6, 2) := by decide +kernel
theorem dX10_begun_60 : decode cX10_begun 60 = .ok (.bipush (-2), 2) := by decide +kernel
theorem dX10_begun_62 : decode cX10_begun 62 = .ok (.istore 7, 2) := by decide +kernel
theorem dX10_begun_64 : decode cX10_begun 64 = .ok (.iload 5, 2) := by decide +kernel
theorem dX10_begun_66 : decode cX10_begun 66 = .ok (.ineg, 1) := by decide +kernel
theorem dX10_begun_67 : decode cX10_begun 67 = .ok (.istore 8, 2) := by decide +kernel
theorem dX10_begun_121 : decode cX10_begun 121 = .ok (.aload_n 0, 1) := by decide +kernel
theorem dX10_begun_122 : decode cX10_begun 122 = .ok (.getfield 9, 3) := by decide +kernel
theorem dX10_begun_125 : decode cX10_begun 125 = .ok (.bipush 10, 2) := by decide +kernel
theorem dX10_begun_127 : decode cX10_begun 127 = .ok (.iload_n 2, 1) := by decide +kernel
theorem dX10_begun_128 : decode cX10_begun 128 = .ok (.iadd, 1) := by decide +kernel
theorem dX10_begun_129 : decode cX10_begun 129 = .ok (.iload 4, 2) := by decide +kernel
theorem dX10_begun_131 : decode cX10_begun 131 = .ok (.iastore, 1) := by decide +kernel
theorem dX10_begun_132 : decode cX10_begun 132 = .ok (.iload_n 3, 1) := by decide +kernel
theorem dX10_begun_133 : decode cX10_begun 133 = .ok (.ifCond .ne 8, 3) := by decide +kernel
theorem dX10_begun_141 : decode cX10_begun 141 = .ok (.iload 7, 2) := by decide +kernel
theorem dX10_begun_143 : decode cX10_begun 143 = .ok (.ireturn, 1) := by decide +kernel
theorem dX10_begun_136 : decode cX10_begun 136 = .ok (.iload 6, 2) := by decide +kernel
theorem dX10_begun_138 : decode cX10_begun 138 = .ok (.goto 5, 3) := by decide +kernel
theorem dX10_begun_49 : decode cX10_begun 49 = .ok (.bipush 9, 2) := by decide +kernel
theorem dX10_begun_51 : decode cX10_begun 51 = .ok (.goto 4, 3) := by decide +kernel
theorem dX10_go_0 : decode cX10_go 0 = .ok (.iload_n 1, 1) := by decide +kernel
theorem dX10_go_1 : decode cX10_go 1 = .ok (.i2l, 1) := by decide +kernel
theorem dX10_go_2 : decode cX10_go 2 = .ok (.lconst 1, 1) := by decide +kernel
theorem dX10_go_3 : decode cX10_go 3 = .ok (.ldc2_w 244, 3) := by decide +kernel
theorem dX10_go_6 : decode cX10_go 6 = .ok (.invokestatic 101, 3) := by decide +kernel
theorem dX10_go_9 : decode cX10_go 9 = .ok (.ifCond .ne 5, 3) := by decide +kernel
theorem dX10_go_14 : decode cX10_go 14 = .ok (.aload_n 0, 1) := by decide +kernel
theorem dX10_go_15 : decode cX10_go 15 = .ok (.invokevirtual 246, 3) := by decide +kernel
theorem dX10_go_18 : decode cX10_go 18 = .ok (.istore_n 2, 1) := by decide +kernel
theorem dX10_go_19 : decode cX10_go 19 = .ok (.aload_n 0, 1) := by decide +kernel
theorem dX10_go_20 : decode cX10_go 20 = .ok (.iload_n 2, 1) := by decide +kernel
theorem dX10_go_21 : decode cX10_go 21 = .ok (.invokevirtual 249, 3) := by decide +kernel
theorem dX10_go_24 : decode cX10_go 24 = .ok (.aload_n 0, 1) := by decide +kernel
theorem dX10_go_25 : decode cX10_go 25 = .ok (.iconst 0, 1) := by decide +kernel
theorem dX10_go_26 : decode cX10_go 26 = .ok (.putfield 237, 3) := by decide +kernel
theorem dX10_go_29 : decode cX10_go 29 = .ok (.iconst 0, 1) := by decide +kernel
theorem dX10_go_30 : decode cX10_go 30 = .ok (.istore_n 3, 1) := by decide +kernel
theorem dX10_go_92 : decode cX10_go 92 = .ok (.aload_n 0, 1) := by decide +kernel
theorem dX10_go_93 : decode cX10_go 93 = .ok (.dup, 1) := by decide +kernel
theorem dX10_go_94 : decode cX10_go 94 = .ok (.getfield 258, 3) := by decide +kernel
theorem dX10_go_97 : decode cX10_go 97 = .ok (.aload_n 0, 1) := by decide +kernel
theorem dX10_go_98 : decode cX10_go 98 = .ok (.getfield 237, 3) := by decide +kernel
theorem dX10_go_101 : decode cX10_go 101 = .ok (.iadd, 1) := by decide +kernel
theorem dX10_go_102 : decode cX10_go 102 = .ok (.putfield 258, 3) := by decide +kernel
theorem dX10_go_105 : decode cX10_go 105 = .ok (.iconst 0, 1) := by decide +kernel
theorem dX10_go_106 : decode cX10_go 106 = .ok (.istore_n 3, 1) := by decide +kernel
theorem dX10_go_160 : decode cX10_go 160 = .ok (.aload_n 0, 1) := by decide +kernel
theorem dX10_go_161 : decode cX10_go 161 = .ok (.invokevirtual 246, 3) := by decide +kernel
theorem dX10_go_164 : decode cX10_go 164 = .ok (.invokestatic 261, 3) := by decide +kernel
theorem dX10_go_167 : decode cX10_go 167 = .ok (.ireturn, 1) := by decide +kernel
theorem dX10_go_12 : decode cX10_go 12 = .ok (.iconst (-1), 1) := by decide +kernel
theorem dX10_go_13 : decode cX10_go 13 = .ok (.ireturn, 1) := by decide +kernel
set_option maxRecDepth 100000 in
set_option maxHeartbeats 4000000 in
theorem g_X10_hoop (sh : Int32) {l : Launch} {G : xG} {M : xM} {J : xJ} (hI : InvR M) : x_M l G fX10_hoop 2 0 0 [.ref (62), .int (sh)] x_SH M J (qKI WAD M J (fun r M2 => InvR M2)) := by
  refine xb_of pX10 (Nat.le_of_ble_eq_true rfl) rfl ?_
  obtain ⟨⟨hn, h_hn, e_hn, hw⟩, hbt, ⟨un, wn, h_uw, h_wn, e_un, e_wn⟩, hch, ⟨n, h_n, e_n⟩, htx, ⟨b, h_b, e_b⟩, hkd, ⟨ra, h_ra, e_ra⟩, hsl, ⟨ic, h_ic, e_ic⟩, hS⟩ := hI
  refine xr_iload_n dX10_hoop_0 1 rfl ?_
  refine xr_if_lt (tgt := 23) dX10_hoop_1 rfl (fun c1 => ?_) (fun c1 => ?_)
  · refine xr_iconst (v := -1) dX10_hoop_23 rfl ?_
    exact xr_iret dX10_hoop_24 rfl rfl (⟨_, rfl, rfl, rfl, Ke.rf, ⟨⟨hn, by omega, e_hn, (fun kw hkw => by rw [show M 63 (5 + kw) = M 63 (5 + kw) from rfl]; exact hw kw hkw)⟩, (by rw [show M 63 16 = M 63 16 from rfl]; exact hbt), ⟨un, wn, by omega, by omega, e_un, e_wn⟩, (fun kk hkk => by rw [show M 64 kk = M 64 kk from rfl, show M 65 kk = M 65 kk from rfl, show M 66 kk = M 66 kk from rfl]; exact hch kk hkk), ⟨n, by omega, e_n⟩, (by rw [show M 62 13 = M 62 13 from rfl]; exact htx), ⟨b, by omega, e_b⟩, (fun j hj => by obtain ⟨q, hq, eq⟩ := hkd j hj; exact ⟨q, hq, (show M 81 j = M 81 j from rfl).trans eq⟩), ⟨ra, by omega, e_ra⟩, (fun j hj => by rw [show M 83 j = M 83 j from rfl, show M 84 j = M 84 j from rfl]; exact hsl j hj), ⟨ic, by omega, e_ic⟩, (fun j hj => by obtain ⟨q, hq, eq⟩ := hS j hj; exact ⟨q, hq, (show M 75 j = M 75 j from rfl).trans eq⟩)⟩⟩)
  · refine xr_iload_n dX10_hoop_4 1 rfl ?_
    refine xr_bipush (v := 10) dX10_hoop_5 rfl ?_
    refine xr_idiv dX10_hoop_7 (by decide) ?_
    refine xr_i2l dX10_hoop_8 ?_
    refine xr_iload_n dX10_hoop_9 1 rfl ?_
    refine xr_bipush (v := 10) dX10_hoop_10 rfl ?_
    refine xr_irem dX10_hoop_12 (by decide) ?_
    refine xr_i2l dX10_hoop_13 ?_
    refine xr_ldc2 coX10_116 dX10_hoop_14 ?_
    refine xr_callS (As := [.long (((sh / 10)).toInt64), .long (((sh - sh / 10 * 10)).toInt64), .long (4)]) (rest := []) mlX10_118 (g_X10_isOne (((sh / 10)).toInt64) (((sh - sh / 10 * 10)).toInt64) 4) dX10_hoop_17 rfl rfl (Nat.le_of_ble_eq_true rfl) (by decide) ⟨by decide, by decide⟩ (fun v s2 M9 J2 hq => ?_)
    obtain ⟨r3, rfl, rfl, rfl, rfl, hx2⟩ := hq
    try dsimp only [Option.toList, List.cons_append, List.nil_append]
    refine xr_if_ne (tgt := 25) dX10_hoop_20 rfl (fun c4 => ?_) (fun c4 => ?_)
    · refine xr_aload_n dX10_hoop_25 0 rfl ?_
      refine xb_get (v := nI (hn)) flX10_109 dX10_hoop_26 s_62 rfl e_hn ?_
      refine xr_iconst (v := 5) dX10_hoop_29 rfl ?_
      refine xr_icmp_ne (tgt := 36) dX10_hoop_30 rfl (fun c5 => ?_) (fun c5 => ?_)
      · have nc5 : ¬ (hn = 5) := fun q => c5 ((nI_eq (a := hn) (b := 5) (by omega) (by omega)).mpr q)
        have h5 : hn < 5 := by
          have h6 : hn ≠ 5 := fun q => c5 (by rw [q]; rfl)
          omega
        refine xr_aload_n dX10_hoop_36 0 rfl ?_
        refine xr_iload_n dX10_hoop_37 1 rfl ?_
        refine xr_bipush (v := 10) dX10_hoop_38 rfl ?_
        refine xr_idiv dX10_hoop_40 (by decide) ?_
        refine xr_iload_n dX10_hoop_41 1 rfl ?_
        refine xr_bipush (v := 10) dX10_hoop_42 rfl ?_
        refine xr_irem dX10_hoop_44 (by decide) ?_
        refine xr_iconst (v := 4) dX10_hoop_45 rfl ?_
        refine xr_callV (As := [.int ((sh / 10)), .int ((sh - sh / 10 * 10)), .int (4)]) (rest := []) mlX10_121 (g_X10_adds (sh / 10) (sh - sh / 10 * 10) 4 (by omega) e_hn (sx_n0 (hx2.2 (Or.resolve_left hx2.1 c4))) (fun kw hkw => by rw [show M 63 (5 + kw) = M 63 (5 + kw) from rfl]; exact hw kw hkw) (by rw [show M 63 16 = M 63 16 from rfl]; exact hbt)) dX10_hoop_46 s_62 rfl rfl (Nat.le_of_ble_eq_true rfl) (by decide) ⟨by decide, by decide⟩ (fun v s2 M7 J2 hq => ?_)
        obtain ⟨rfl, rfl, rfl, k8, hx6⟩ := hq
        try dsimp only [Option.toList, List.cons_append, List.nil_append]
        refine xr_aload_n dX10_hoop_49 0 rfl ?_
        refine xb_get (v := nI (hn + 1)) flX10_109 dX10_hoop_50 s_62 rfl hx6.1 ?_
        refine xr_iconst (v := 1) dX10_hoop_53 rfl ?_
        refine xr_isub dX10_hoop_54 ?_
        refine xb_top (y := nI hn) (nI_pred hn) ?_
        exact xr_iret dX10_hoop_55 rfl rfl (⟨_, rfl, rfl, rfl, (Ke.tr (fun _ _ h => h) Ke.rf k8), ⟨⟨hn + 1, by omega, hx6.1, hx6.2.1⟩, hx6.2.2, ⟨un, wn, by omega, by omega, (Eq.trans (k8 62 5 (by decide)) e_un), (Eq.trans (k8 62 4 (by decide)) e_wn)⟩, (fun kk hkk => by rw [show M7 64 kk = M 64 kk from (Eq.trans (k8 64 kk (by unfold WAD; omega)) rfl), show M7 65 kk = M 65 kk from (Eq.trans (k8 65 kk (by unfold WAD; omega)) rfl), show M7 66 kk = M 66 kk from (Eq.trans (k8 66 kk (by unfold WAD; omega)) rfl)]; exact hch kk hkk), ⟨n, by omega, (Eq.trans (k8 62 11 (by decide)) e_n)⟩, (by rw [show M7 62 13 = M 62 13 from (Eq.trans (k8 62 13 (by unfold WAD; omega)) rfl)]; exact htx), ⟨b, by omega, (Eq.trans (k8 62 36 (by decide)) e_b)⟩, (fun j hj => by obtain ⟨q, hq, eq⟩ := hkd j hj; exact ⟨q, hq, (show M7 81 j = M 81 j from (Eq.trans (k8 81 j (by unfold WAD; omega)) rfl)).trans eq⟩), ⟨ra, by omega, (Eq.trans (k8 62 39 (by decide)) e_ra)⟩, (fun j hj => by rw [show M7 83 j = M 83 j from (Eq.trans (k8 83 j (by unfold WAD; omega)) rfl), show M7 84 j = M 84 j from (Eq.trans (k8 84 j (by unfold WAD; omega)) rfl)]; exact hsl j hj), ⟨ic, by omega, (Eq.trans (k8 62 34 (by decide)) e_ic)⟩, (fun j hj => by obtain ⟨q, hq, eq⟩ := hS j hj; exact ⟨q, hq, (show M7 75 j = M 75 j from (Eq.trans (k8 75 j (by unfold WAD; omega)) rfl)).trans eq⟩)⟩⟩)
      · have nc5 : hn = 5 := (nI_eq (a := hn) (b := 5) (by omega) (by omega)).mp c5
        refine xr_bipush (v := -3) dX10_hoop_33 rfl ?_
        exact xr_iret dX10_hoop_35 rfl rfl (⟨_, rfl, rfl, rfl, Ke.rf, ⟨⟨hn, by omega, e_hn, (fun kw hkw => by rw [show M 63 (5 + kw) = M 63 (5 + kw) from rfl]; exact hw kw hkw)⟩, (by rw [show M 63 16 = M 63 16 from rfl]; exact hbt), ⟨un, wn, by omega, by omega, e_un, e_wn⟩, (fun kk hkk => by rw [show M 64 kk = M 64 kk from rfl, show M 65 kk = M 65 kk from rfl, show M 66 kk = M 66 kk from rfl]; exact hch kk hkk), ⟨n, by omega, e_n⟩, (by rw [show M 62 13 = M 62 13 from rfl]; exact htx), ⟨b, by omega, e_b⟩, (fun j hj => by obtain ⟨q, hq, eq⟩ := hkd j hj; exact ⟨q, hq, (show M 81 j = M 81 j from rfl).trans eq⟩), ⟨ra, by omega, e_ra⟩, (fun j hj => by rw [show M 83 j = M 83 j from rfl, show M 84 j = M 84 j from rfl]; exact hsl j hj), ⟨ic, by omega, e_ic⟩, (fun j hj => by obtain ⟨q, hq, eq⟩ := hS j hj; exact ⟨q, hq, (show M 75 j = M 75 j from rfl).trans eq⟩)⟩⟩)
    · refine xr_iconst (v := -1) dX10_hoop_23 rfl ?_
      exact xr_iret dX10_hoop_24 rfl rfl (⟨_, rfl, rfl, rfl, Ke.rf, ⟨⟨hn, by omega, e_hn, (fun kw hkw => by rw [show M 63 (5 + kw) = M 63 (5 + kw) from rfl]; exact hw kw hkw)⟩, (by rw [show M 63 16 = M 63 16 from rfl]; exact hbt), ⟨un, wn, by omega, by omega, e_un, e_wn⟩, (fun kk hkk => by rw [show M 64 kk = M 64 kk from rfl, show M 65 kk = M 65 kk from rfl, show M 66 kk = M 66 kk from rfl]; exact hch kk hkk), ⟨n, by omega, e_n⟩, (by rw [show M 62 13 = M 62 13 from rfl]; exact htx), ⟨b, by omega, e_b⟩, (fun j hj => by obtain ⟨q, hq, eq⟩ := hkd j hj; exact ⟨q, hq, (show M 81 j = M 81 j from rfl).trans eq⟩), ⟨ra, by omega, e_ra⟩, (fun j hj => by rw [show M 83 j = M 83 j from rfl, show M 84 j = M 84 j from rfl]; exact hsl j hj), ⟨ic, by omega, e_ic⟩, (fun j hj => by obtain ⟨q, hq, eq⟩ := hS j hj; exact ⟨q, hq, (show M 75 j = M 75 j from rfl).trans eq⟩)⟩⟩)
set_option maxRecDepth 100000 in
set_option maxHeartbeats 4000000 in
theorem g_X10_feed (le : Int32) {l : Launch} {G : xG} {M : xM} {J : xJ} (hI : InvR M) : x_M l G fX10_feed 1 0 0 [.ref (62), .int (le)] x_SH M J (qKI WFE M J (fun r M2 => InvR M2)) := by
  refine xb_of pX10 (Nat.le_of_ble_eq_true rfl) rfl ?_
  obtain ⟨⟨hn, h_hn, e_hn, hw⟩, hbt, ⟨un, wn, h_uw, h_wn, e_un, e_wn⟩, hch, ⟨n, h_n, e_n⟩, htx, ⟨b, h_b, e_b⟩, hkd, ⟨ra, h_ra, e_ra⟩, hsl, ⟨ic, h_ic, e_ic⟩, hS⟩ := hI
  refine xr_iload_n dX10_feed_0 1 rfl ?_
  refine xr_i2l dX10_feed_1 ?_
  refine xr_lconst (v := 0) dX10_feed_2 rfl ?_
  refine xr_ldc2 coX10_160 dX10_feed_3 ?_
  refine xb_cS (As := [.long ((le).toInt64), .long (0), .long (255)]) (rest := []) mlX10_101 (c_within32 (le) (0) (255) (by decide) (by decide)) dX10_feed_6 rfl rfl (Nat.le_of_ble_eq_true rfl) (by decide) (by decide) ?_
  refine xb_bne (tgt := 14) dX10_feed_9 rfl (fun c1 => ?_) (fun c1 => ?_)
  · refine xr_aload_n dX10_feed_14 0 rfl ?_
    refine xb_get (v := nI (n)) flX10_162 dX10_feed_15 s_62 rfl e_n ?_
    refine xr_bipush (v := 120) dX10_feed_18 rfl ?_
    refine xr_icmp_ne (tgt := 26) dX10_feed_20 rfl (fun c2 => ?_) (fun c2 => ?_)
    · have nc2 : ¬ (n = 120) := fun q => c2 ((nI_eq (a := n) (b := 120) (by omega) (by omega)).mpr q)
      have h12 : n < 120 := by
        have h6 : n ≠ 120 := fun q => c2 (by rw [q]; rfl)
        omega
      refine xr_aload_n dX10_feed_26 0 rfl ?_
      refine xr_getR flX10_28 dX10_feed_27 s_62 rfl ?_
      refine xr_aload_n dX10_feed_30 0 rfl ?_
      refine xb_get (v := nI (n)) flX10_162 dX10_feed_31 s_62 rfl e_n ?_
      refine xr_iload_n dX10_feed_34 1 rfl ?_
      refine xb_iast (j := n) dX10_feed_35 s_69 (by omega) (by decide) ?_
      refine xr_aload_n dX10_feed_36 0 rfl ?_
      refine xr_dup dX10_feed_37 rfl ?_
      refine xb_get (v := nI (n)) flX10_162 dX10_feed_38 s_62 rfl (Eq.trans (congrFun (x_up_n _ _ _ (by decide)) _) e_n) ?_
      refine xr_iconst (v := 1) dX10_feed_41 rfl ?_
      refine xr_iadd dX10_feed_42 ?_
      refine xb_top (y := nI (n + 1)) (nI_add (n) (1)) ?_
      refine xr_putI fpX10_162 dX10_feed_43 s_62 rfl rfl rfl ?_
      refine xr_aload_n dX10_feed_46 0 rfl ?_
      refine xb_get (v := nI (n + 1)) flX10_162 dX10_feed_47 s_62 rfl (x_up_s _ _ _ _) ?_
      exact xr_iret dX10_feed_50 rfl rfl (⟨_, rfl, rfl, rfl, (Ke.up (by decide) (Ke.up (by unfold WFE; omega) Ke.rf)), ⟨⟨hn, by omega, (Eq.trans (x_up_k _ _ _ (by decide)) (Eq.trans (congrFun (x_up_n _ _ _ (by decide)) _) e_hn)), (fun kw hkw => by rw [show (x_up (x_up M 69 n le) 62 11 (nI (n + 1))) 63 (5 + kw) = M 63 (5 + kw) from (Eq.trans (congrFun (x_up_n _ _ _ (by omega)) _) (Eq.trans (congrFun (x_up_n _ _ _ (by omega)) _) rfl))]; exact hw kw hkw)⟩, (by rw [show (x_up (x_up M 69 n le) 62 11 (nI (n + 1))) 63 16 = M 63 16 from (Eq.trans (congrFun (x_up_n _ _ _ (by omega)) _) (Eq.trans (congrFun (x_up_n _ _ _ (by omega)) _) rfl))]; exact hbt), ⟨un, wn, by omega, by omega, (Eq.trans (x_up_k _ _ _ (by decide)) (Eq.trans (congrFun (x_up_n _ _ _ (by decide)) _) e_un)), (Eq.trans (x_up_k _ _ _ (by decide)) (Eq.trans (congrFun (x_up_n _ _ _ (by decide)) _) e_wn))⟩, (fun kk hkk => by rw [show (x_up (x_up M 69 n le) 62 11 (nI (n + 1))) 64 kk = M 64 kk from (Eq.trans (congrFun (x_up_n _ _ _ (by omega)) _) (Eq.trans (congrFun (x_up_n _ _ _ (by omega)) _) rfl)), show (x_up (x_up M 69 n le) 62 11 (nI (n + 1))) 65 kk = M 65 kk from (Eq.trans (congrFun (x_up_n _ _ _ (by omega)) _) (Eq.trans (congrFun (x_up_n _ _ _ (by omega)) _) rfl)), show (x_up (x_up M 69 n le) 62 11 (nI (n + 1))) 66 kk = M 66 kk from (Eq.trans (congrFun (x_up_n _ _ _ (by omega)) _) (Eq.trans (congrFun (x_up_n _ _ _ (by omega)) _) rfl))]; exact hch kk hkk), ⟨n + 1, by omega, (x_up_s _ _ _ _)⟩, (by rw [show (x_up (x_up M 69 n le) 62 11 (nI (n + 1))) 62 13 = M 62 13 from (Eq.trans (x_up_k _ _ _ (by omega)) (Eq.trans (congrFun (x_up_n _ _ _ (by omega)) _) rfl))]; exact htx), ⟨b, by omega, (Eq.trans (x_up_k _ _ _ (by decide)) (Eq.trans (congrFun (x_up_n _ _ _ (by decide)) _) e_b))⟩, (fun j hj => by obtain ⟨q, hq, eq⟩ := hkd j hj; exact ⟨q, hq, (show (x_up (x_up M 69 n le) 62 11 (nI (n + 1))) 81 j = M 81 j from (Eq.trans (congrFun (x_up_n _ _ _ (by omega)) _) (Eq.trans (congrFun (x_up_n _ _ _ (by omega)) _) rfl))).trans eq⟩), ⟨ra, by omega, (Eq.trans (x_up_k _ _ _ (by decide)) (Eq.trans (congrFun (x_up_n _ _ _ (by decide)) _) e_ra))⟩, (fun j hj => by rw [show (x_up (x_up M 69 n le) 62 11 (nI (n + 1))) 83 j = M 83 j from (Eq.trans (congrFun (x_up_n _ _ _ (by omega)) _) (Eq.trans (congrFun (x_up_n _ _ _ (by omega)) _) rfl)), show (x_up (x_up M 69 n le) 62 11 (nI (n + 1))) 84 j = M 84 j from (Eq.trans (congrFun (x_up_n _ _ _ (by omega)) _) (Eq.trans (congrFun (x_up_n _ _ _ (by omega)) _) rfl))]; exact hsl j hj), ⟨ic, by omega, (Eq.trans (x_up_k _ _ _ (by decide)) (Eq.trans (congrFun (x_up_n _ _ _ (by decide)) _) e_ic))⟩, (fun j hj => by obtain ⟨q, hq, eq⟩ := hS j hj; exact ⟨q, hq, (show (x_up (x_up M 69 n le) 62 11 (nI (n + 1))) 75 j = M 75 j from (Eq.trans (congrFun (x_up_n _ _ _ (by omega)) _) (Eq.trans (congrFun (x_up_n _ _ _ (by omega)) _) rfl))).trans eq⟩)⟩⟩)
    · have nc2 : n = 120 := (nI_eq (a := n) (b := 120) (by omega) (by omega)).mp c2
      refine xr_bipush (v := -3) dX10_feed_23 rfl ?_
      exact xr_iret dX10_feed_25 rfl rfl (⟨_, rfl, rfl, rfl, Ke.rf, ⟨⟨hn, by omega, e_hn, (fun kw hkw => by rw [show M 63 (5 + kw) = M 63 (5 + kw) from rfl]; exact hw kw hkw)⟩, (by rw [show M 63 16 = M 63 16 from rfl]; exact hbt), ⟨un, wn, by omega, by omega, e_un, e_wn⟩, (fun kk hkk => by rw [show M 64 kk = M 64 kk from rfl, show M 65 kk = M 65 kk from rfl, show M 66 kk = M 66 kk from rfl]; exact hch kk hkk), ⟨n, by omega, e_n⟩, (by rw [show M 62 13 = M 62 13 from rfl]; exact htx), ⟨b, by omega, e_b⟩, (fun j hj => by obtain ⟨q, hq, eq⟩ := hkd j hj; exact ⟨q, hq, (show M 81 j = M 81 j from rfl).trans eq⟩), ⟨ra, by omega, e_ra⟩, (fun j hj => by rw [show M 83 j = M 83 j from rfl, show M 84 j = M 84 j from rfl]; exact hsl j hj), ⟨ic, by omega, e_ic⟩, (fun j hj => by obtain ⟨q, hq, eq⟩ := hS j hj; exact ⟨q, hq, (show M 75 j = M 75 j from rfl).trans eq⟩)⟩⟩)
  · refine xr_iconst (v := -1) dX10_feed_12 rfl ?_
    exact xr_iret dX10_feed_13 rfl rfl (⟨_, rfl, rfl, rfl, Ke.rf, ⟨⟨hn, by omega, e_hn, (fun kw hkw => by rw [show M 63 (5 + kw) = M 63 (5 + kw) from rfl]; exact hw kw hkw)⟩, (by rw [show M 63 16 = M 63 16 from rfl]; exact hbt), ⟨un, wn, by omega, by omega, e_un, e_wn⟩, (fun kk hkk => by rw [show M 64 kk = M 64 kk from rfl, show M 65 kk = M 65 kk from rfl, show M 66 kk = M 66 kk from rfl]; exact hch kk hkk), ⟨n, by omega, e_n⟩, (by rw [show M 62 13 = M 62 13 from rfl]; exact htx), ⟨b, by omega, e_b⟩, (fun j hj => by obtain ⟨q, hq, eq⟩ := hkd j hj; exact ⟨q, hq, (show M 81 j = M 81 j from rfl).trans eq⟩), ⟨ra, by omega, e_ra⟩, (fun j hj => by rw [show M 83 j = M 83 j from rfl, show M 84 j = M 84 j from rfl]; exact hsl j hj), ⟨ic, by omega, e_ic⟩, (fun j hj => by obtain ⟨q, hq, eq⟩ := hS j hj; exact ⟨q, hq, (show M 75 j = M 75 j from rfl).trans eq⟩)⟩⟩)
set_option maxRecDepth 100000 in
set_option maxHeartbeats 4000000 in
theorem g_X10_law {l : Launch} {G : xG} {M : xM} {J : xJ} (hI : InvR M) : x_M l G fX10_law 59 0 0 [.ref (62)] x_SH M J (qKI WLT M J (fun r M2 => InvR M2)) := by
  refine xb_of pX10 (Nat.le_of_ble_eq_true rfl) rfl ?_
  obtain ⟨⟨hn, h_hn, e_hn, hw⟩, hbt, ⟨un, wn, h_uw, h_wn, e_un, e_wn⟩, hch, ⟨n, h_n, e_n⟩, htx, ⟨b, h_b, e_b⟩, hkd, ⟨ra, h_ra, e_ra⟩, hsl, ⟨ic, h_ic, e_ic⟩, hS⟩ := hI
  refine xr_aload_n dX10_law_0 0 rfl ?_
  refine xr_iconst (v := -1) dX10_law_1 rfl ?_
  refine xr_aload_n dX10_law_2 0 rfl ?_
  refine xb_get (v := nI (n)) flX10_162 dX10_law_3 s_62 rfl e_n ?_
  refine xr_callV (As := [.int ((-1)), .int (nI (n))]) (rest := []) mlX10_211 (g_X10_workOut (E := n) (Or.inl rfl) (by omega)) dX10_law_6 s_62 rfl rfl (Nat.le_of_ble_eq_true rfl) (by decide) ⟨by decide, by decide⟩ (fun v s2 M1 J2 hq => ?_)
  obtain ⟨r3, rfl, rfl, rfl, k2, _⟩ := hq
  try dsimp only [Option.toList, List.cons_append, List.nil_append]
  refine xr_istore_n (ls2 := [(1, .int (r3)), (0, .ref (62))]) dX10_law_9 (by decide) rfl ?_
  refine xr_aload_n dX10_law_10 1 rfl ?_
  refine xb_get (v := nI (n)) flX10_162 dX10_law_11 s_62 rfl (Eq.trans (k2 62 11 (by decide)) e_n) ?_
  refine xr_istore_n (ls2 := [(2, .int (nI (n))), (1, .int (r3)), (0, .ref (62))]) dX10_law_14 (by decide) rfl ?_
  refine xr_aload_n dX10_law_15 2 rfl ?_
  refine xr_iconst (v := 0) dX10_law_16 rfl ?_
  refine xr_putI fpX10_162 dX10_law_17 s_62 rfl rfl rfl ?_
  refine xr_aload_n dX10_law_20 2 rfl ?_
  refine xb_get (v := (x_up M1 62 11 0) 62 17) flX10_174 dX10_law_21 s_62 rfl rfl ?_
  refine xr_if_lt (tgt := 35) dX10_law_24 rfl (fun c4 => ?_) (fun c4 => ?_)
  · refine xr_iconst (v := 0) dX10_law_35 rfl ?_
    refine xr_istore_n (ls2 := [(3, .int (0)), (2, .int (nI (n))), (1, .int (r3)), (0, .ref (62))]) dX10_law_36 (by decide) rfl ?_
    refine xb_ls (ls2 := [(3, .int (nI (0))), (2, .int (nI (n))), (1, .int (r3)), (0, .ref (62))]) [0, 1, 2, 3] rfl ?_
    refine rlw_l (by omega) (fun M5 k6 => ?_) (n - 0) 0 (x_up M1 62 11 0) (by omega) Ke.rf
    refine xr_aload_n dX10_law_60 1 rfl ?_
    refine xr_iload_n dX10_law_61 0 rfl ?_
    refine xr_putI fpX10_88 dX10_law_62 s_62 rfl rfl rfl ?_
    refine xr_iconst (v := 1) dX10_law_65 rfl ?_
    exact xr_iret dX10_law_66 rfl rfl (⟨_, rfl, rfl, rfl, (Ke.up (by decide) (Ke.tr (fun pp kk hh => by unfold W70 at hh; unfold WLT; omega) (Ke.up (by decide) (Ke.tr (fun pp kk hh => by unfold WPW at hh; unfold WLT; omega) Ke.rf k2)) k6)), ⟨⟨hn, by omega, (Eq.trans (x_up_k _ _ _ (by decide)) (Eq.trans (k6 62 6 (by decide)) (Eq.trans (x_up_k _ _ _ (by decide)) (Eq.trans (k2 62 6 (by decide)) e_hn)))), (fun kw hkw => by rw [show (x_up M5 62 13 (nI (n))) 63 (5 + kw) = M 63 (5 + kw) from (Eq.trans (congrFun (x_up_n _ _ _ (by omega)) _) (Eq.trans (k6 63 (5 + kw) (by unfold W70; omega)) (Eq.trans (congrFun (x_up_n _ _ _ (by omega)) _) (Eq.trans (k2 63 (5 + kw) (by unfold WPW; omega)) rfl))))]; exact hw kw hkw)⟩, (by rw [show (x_up M5 62 13 (nI (n))) 63 16 = M 63 16 from (Eq.trans (congrFun (x_up_n _ _ _ (by omega)) _) (Eq.trans (k6 63 16 (by unfold W70; omega)) (Eq.trans (congrFun (x_up_n _ _ _ (by omega)) _) (Eq.trans (k2 63 16 (by unfold WPW; omega)) rfl))))]; exact hbt), ⟨un, wn, by omega, by omega, (Eq.trans (x_up_k _ _ _ (by decide)) (Eq.trans (k6 62 5 (by decide)) (Eq.trans (x_up_k _ _ _ (by decide)) (Eq.trans (k2 62 5 (by decide)) e_un)))), (Eq.trans (x_up_k _ _ _ (by decide)) (Eq.trans (k6 62 4 (by decide)) (Eq.trans (x_up_k _ _ _ (by decide)) (Eq.trans (k2 62 4 (by decide)) e_wn))))⟩, (fun kk hkk => by rw [show (x_up M5 62 13 (nI (n))) 64 kk = M 64 kk from (Eq.trans (congrFun (x_up_n _ _ _ (by omega)) _) (Eq.trans (k6 64 kk (by unfold W70; omega)) (Eq.trans (congrFun (x_up_n _ _ _ (by omega)) _) (Eq.trans (k2 64 kk (by unfold WPW; omega)) rfl)))), show (x_up M5 62 13 (nI (n))) 65 kk = M 65 kk from (Eq.trans (congrFun (x_up_n _ _ _ (by omega)) _) (Eq.trans (k6 65 kk (by unfold W70; omega)) (Eq.trans (congrFun (x_up_n _ _ _ (by omega)) _) (Eq.trans (k2 65 kk (by unfold WPW; omega)) rfl)))), show (x_up M5 62 13 (nI (n))) 66 kk = M 66 kk from (Eq.trans (congrFun (x_up_n _ _ _ (by omega)) _) (Eq.trans (k6 66 kk (by unfold W70; omega)) (Eq.trans (congrFun (x_up_n _ _ _ (by omega)) _) (Eq.trans (k2 66 kk (by unfold WPW; omega)) rfl))))]; exact hch kk hkk), ⟨0, by omega, (Eq.trans (x_up_k _ _ _ (by decide)) (Eq.trans (k6 62 11 (by decide)) (x_up_s _ _ _ _)))⟩, (Or.inr ⟨n, h_n, (x_up_s _ _ _ _)⟩), ⟨b, by omega, (Eq.trans (x_up_k _ _ _ (by decide)) (Eq.trans (k6 62 36 (by decide)) (Eq.trans (x_up_k _ _ _ (by decide)) (Eq.trans (k2 62 36 (by decide)) e_b))))⟩, (fun j hj => by obtain ⟨q, hq, eq⟩ := hkd j hj; exact ⟨q, hq, (show (x_up M5 62 13 (nI (n))) 81 j = M 81 j from (Eq.trans (congrFun (x_up_n _ _ _ (by omega)) _) (Eq.trans (k6 81 j (by unfold W70; omega)) (Eq.trans (congrFun (x_up_n _ _ _ (by omega)) _) (Eq.trans (k2 81 j (by unfold WPW; omega)) rfl))))).trans eq⟩), ⟨ra, by omega, (Eq.trans (x_up_k _ _ _ (by decide)) (Eq.trans (k6 62 39 (by decide)) (Eq.trans (x_up_k _ _ _ (by decide)) (Eq.trans (k2 62 39 (by decide)) e_ra))))⟩, (fun j hj => by rw [show (x_up M5 62 13 (nI (n))) 83 j = M 83 j from (Eq.trans (congrFun (x_up_n _ _ _ (by omega)) _) (Eq.trans (k6 83 j (by unfold W70; omega)) (Eq.trans (congrFun (x_up_n _ _ _ (by omega)) _) (Eq.trans (k2 83 j (by unfold WPW; omega)) rfl)))), show (x_up M5 62 13 (nI (n))) 84 j = M 84 j from (Eq.trans (congrFun (x_up_n _ _ _ (by omega)) _) (Eq.trans (k6 84 j (by unfold W70; omega)) (Eq.trans (congrFun (x_up_n _ _ _ (by omega)) _) (Eq.trans (k2 84 j (by unfold WPW; omega)) rfl))))]; exact hsl j hj), ⟨ic, by omega, (Eq.trans (x_up_k _ _ _ (by decide)) (Eq.trans (k6 62 34 (by decide)) (Eq.trans (x_up_k _ _ _ (by decide)) (Eq.trans (k2 62 34 (by decide)) e_ic))))⟩, (fun j hj => by obtain ⟨q, hq, eq⟩ := hS j hj; exact ⟨q, hq, (show (x_up M5 62 13 (nI (n))) 75 j = M 75 j from (Eq.trans (congrFun (x_up_n _ _ _ (by omega)) _) (Eq.trans (k6 75 j (by unfold W70; omega)) (Eq.trans (congrFun (x_up_n _ _ _ (by omega)) _) (Eq.trans (k2 75 j (by unfold WPW; omega)) rfl))))).trans eq⟩)⟩⟩)
  · refine xr_bipush (v := -100) dX10_law_27 rfl ?_
    refine xr_aload_n dX10_law_29 2 rfl ?_
    refine xb_get (v := (x_up M1 62 11 0) 62 17) flX10_174 dX10_law_30 s_62 rfl rfl ?_
    refine xr_isub dX10_law_33 ?_
    exact xr_iret dX10_law_34 rfl rfl (⟨_, rfl, rfl, rfl, (Ke.up (by decide) (Ke.tr (fun pp kk hh => by unfold WPW at hh; unfold WLT; omega) Ke.rf k2)), ⟨⟨hn, by omega, (Eq.trans (x_up_k _ _ _ (by decide)) (Eq.trans (k2 62 6 (by decide)) e_hn)), (fun kw hkw => by rw [show (x_up M1 62 11 0) 63 (5 + kw) = M 63 (5 + kw) from (Eq.trans (congrFun (x_up_n _ _ _ (by omega)) _) (Eq.trans (k2 63 (5 + kw) (by unfold WPW; omega)) rfl))]; exact hw kw hkw)⟩, (by rw [show (x_up M1 62 11 0) 63 16 = M 63 16 from (Eq.trans (congrFun (x_up_n _ _ _ (by omega)) _) (Eq.trans (k2 63 16 (by unfold WPW; omega)) rfl))]; exact hbt), ⟨un, wn, by omega, by omega, (Eq.trans (x_up_k _ _ _ (by decide)) (Eq.trans (k2 62 5 (by decide)) e_un)), (Eq.trans (x_up_k _ _ _ (by decide)) (Eq.trans (k2 62 4 (by decide)) e_wn))⟩, (fun kk hkk => by rw [show (x_up M1 62 11 0) 64 kk = M 64 kk from (Eq.trans (congrFun (x_up_n _ _ _ (by omega)) _) (Eq.trans (k2 64 kk (by unfold WPW; omega)) rfl)), show (x_up M1 62 11 0) 65 kk = M 65 kk from (Eq.trans (congrFun (x_up_n _ _ _ (by omega)) _) (Eq.trans (k2 65 kk (by unfold WPW; omega)) rfl)), show (x_up M1 62 11 0) 66 kk = M 66 kk from (Eq.trans (congrFun (x_up_n _ _ _ (by omega)) _) (Eq.trans (k2 66 kk (by unfold WPW; omega)) rfl))]; exact hch kk hkk), ⟨0, by omega, (x_up_s _ _ _ _)⟩, (by rw [show (x_up M1 62 11 0) 62 13 = M 62 13 from (Eq.trans (x_up_k _ _ _ (by omega)) (Eq.trans (k2 62 13 (by unfold WPW; omega)) rfl))]; exact htx), ⟨b, by omega, (Eq.trans (x_up_k _ _ _ (by decide)) (Eq.trans (k2 62 36 (by decide)) e_b))⟩, (fun j hj => by obtain ⟨q, hq, eq⟩ := hkd j hj; exact ⟨q, hq, (show (x_up M1 62 11 0) 81 j = M 81 j from (Eq.trans (congrFun (x_up_n _ _ _ (by omega)) _) (Eq.trans (k2 81 j (by unfold WPW; omega)) rfl))).trans eq⟩), ⟨ra, by omega, (Eq.trans (x_up_k _ _ _ (by decide)) (Eq.trans (k2 62 39 (by decide)) e_ra))⟩, (fun j hj => by rw [show (x_up M1 62 11 0) 83 j = M 83 j from (Eq.trans (congrFun (x_up_n _ _ _ (by omega)) _) (Eq.trans (k2 83 j (by unfold WPW; omega)) rfl)), show (x_up M1 62 11 0) 84 j = M 84 j from (Eq.trans (congrFun (x_up_n _ _ _ (by omega)) _) (Eq.trans (k2 84 j (by unfold WPW; omega)) rfl))]; exact hsl j hj), ⟨ic, by omega, (Eq.trans (x_up_k _ _ _ (by decide)) (Eq.trans (k2 62 34 (by decide)) e_ic))⟩, (fun j hj => by obtain ⟨q, hq, eq⟩ := hS j hj; exact ⟨q, hq, (show (x_up M1 62 11 0) 75 j = M 75 j from (Eq.trans (congrFun (x_up_n _ _ _ (by omega)) _) (Eq.trans (k2 75 j (by unfold WPW; omega)) rfl))).trans eq⟩)⟩⟩)
set_option maxRecDepth 100000 in
set_option maxHeartbeats 4000000 in
theorem g_X10_led (w : Int32) {l : Launch} {G : xG} {M : xM} {J : xJ} (hI : InvR M) : x_M l G fX10_led 0 0 0 [.ref (62), .int (w)] x_SH M J (qPI M J (fun r => True)) := by
  refine xb_of pX10 (Nat.le_of_ble_eq_true rfl) rfl ?_
  obtain ⟨⟨hn, h_hn, e_hn, hw⟩, hbt, ⟨un, wn, h_uw, h_wn, e_un, e_wn⟩, hch, ⟨n, h_n, e_n⟩, htx, ⟨b, h_b, e_b⟩, hkd, ⟨ra, h_ra, e_ra⟩, hsl, ⟨ic, h_ic, e_ic⟩, hS⟩ := hI
  refine xr_iload_n dX10_led_0 1 rfl ?_
  refine xr_if_ne (tgt := 11) dX10_led_1 rfl (fun c1 => ?_) (fun c1 => ?_)
  · refine xr_iload_n dX10_led_11 1 rfl ?_
    refine xr_iconst (v := 1) dX10_led_12 rfl ?_
    refine xr_icmp_ne (tgt := 23) dX10_led_13 rfl (fun c2 => ?_) (fun c2 => ?_)
    · refine xr_iconst (v := -1) dX10_led_23 rfl ?_
      exact xr_iret dX10_led_24 rfl rfl (⟨_, rfl, rfl, rfl, rfl, trivial⟩)
    · refine xr_aload_n dX10_led_16 0 rfl ?_
      refine xb_get (v := M 62 25) flX10_46 dX10_led_17 s_62 rfl rfl ?_
      refine xr_goto (tgt := 24) dX10_led_20 rfl ?_
      exact xr_iret dX10_led_24 rfl rfl (⟨_, rfl, rfl, rfl, rfl, trivial⟩)
  · refine xr_aload_n dX10_led_4 0 rfl ?_
    refine xb_get (v := M 62 24) flX10_258 dX10_led_5 s_62 rfl rfl ?_
    refine xr_goto (tgt := 24) dX10_led_8 rfl ?_
    exact xr_iret dX10_led_24 rfl rfl (⟨_, rfl, rfl, rfl, rfl, trivial⟩)
set_option maxRecDepth 100000 in
set_option maxHeartbeats 4000000 in
theorem g_X10_lift (h : Int32) {l : Launch} {G : xG} {M : xM} {J : xJ} (hI : InvR M) : x_M l G fX10_lift 2 0 0 [.ref (62), .int (h)] x_SH M J (qKI WLI M J (fun r M2 => InvR M2)) := by
  refine xb_of pX10 (Nat.le_of_ble_eq_true rfl) rfl ?_
  obtain ⟨⟨hn, h_hn, e_hn, hw⟩, hbt, ⟨un, wn, h_uw, h_wn, e_un, e_wn⟩, hch, ⟨n, h_n, e_n⟩, htx, ⟨b, h_b, e_b⟩, hkd, ⟨ra, h_ra, e_ra⟩, hsl, ⟨ic, h_ic, e_ic⟩, hS⟩ := hI
  refine xr_aload_n dX10_lift_0 0 rfl ?_
  refine xr_iload_n dX10_lift_1 1 rfl ?_
  refine xb_cV (As := [.int (h)]) (rest := []) mlX10_133 (c_X10_isHoop h (by omega) e_hn) dX10_lift_2 s_62 rfl rfl (Nat.le_of_ble_eq_true rfl) (by decide) (by decide) ?_
  refine xb_bne (tgt := 10) dX10_lift_5 rfl (fun c1 => ?_) (fun c1 => ?_)
  · obtain ⟨h_, hh_, rfl⟩ := x_nat (N := hn) (by omega) rfl c1
    refine xr_aload_n dX10_lift_10 0 rfl ?_
    refine xr_getR flX10_25 dX10_lift_11 s_62 rfl ?_
    refine xr_iload_n dX10_lift_14 1 rfl ?_
    refine xb_iald (j := h_) (v := M 68 h_) dX10_lift_15 s_68 (by omega) (by decide) rfl ?_
    refine xr_if_le (tgt := 22) dX10_lift_16 rfl (fun c2 => ?_) (fun c2 => ?_)
    · refine xr_aload_n dX10_lift_22 0 rfl ?_
      refine xr_getR flX10_25 dX10_lift_23 s_62 rfl ?_
      refine xr_iload_n dX10_lift_26 1 rfl ?_
      refine xr_bipush (v := 20) dX10_lift_27 rfl ?_
      refine xb_iast (j := h_) dX10_lift_29 s_68 (by omega) (by decide) ?_
      refine xr_aload_n dX10_lift_30 0 rfl ?_
      refine xr_getR flX10_22 dX10_lift_31 s_62 rfl ?_
      refine xr_iload_n dX10_lift_34 1 rfl ?_
      refine xr_iconst (v := 0) dX10_lift_35 rfl ?_
      refine xb_iast (j := h_) dX10_lift_36 s_67 (by omega) (by decide) ?_
      refine xr_aload_n dX10_lift_37 0 rfl ?_
      refine xr_getR flX10_9 dX10_lift_38 s_62 rfl ?_
      refine xr_bipush (v := 10) dX10_lift_41 rfl ?_
      refine xr_iload_n dX10_lift_43 1 rfl ?_
      refine xr_iadd dX10_lift_44 ?_
      refine xb_top (y := nI (10 + h_)) (nI_add (10) (h_)) ?_
      refine xr_iconst (v := 4) dX10_lift_45 rfl ?_
      refine xb_iast (j := 10 + h_) dX10_lift_46 s_63 (by omega) (by decide) ?_
      refine xr_iload_n dX10_lift_47 1 rfl ?_
      exact xr_iret dX10_lift_48 rfl rfl (⟨_, rfl, rfl, rfl, (Ke.up (by unfold WLI; omega) (Ke.up (by unfold WLI; omega) (Ke.up (by unfold WLI; omega) Ke.rf))), ⟨⟨hn, by omega, (Eq.trans (congrFun (x_up_n _ _ _ (by decide)) _) (Eq.trans (congrFun (x_up_n _ _ _ (by decide)) _) (Eq.trans (congrFun (x_up_n _ _ _ (by decide)) _) e_hn))), (fun kw hkw => by rw [show (x_up (x_up (x_up M 68 h_ 20) 67 h_ 0) 63 (10 + h_) 4) 63 (5 + kw) = M 63 (5 + kw) from (Eq.trans (x_up_k _ _ _ (by omega)) (Eq.trans (congrFun (x_up_n _ _ _ (by omega)) _) (Eq.trans (congrFun (x_up_n _ _ _ (by omega)) _) rfl)))]; exact hw kw hkw)⟩, (by rw [show (x_up (x_up (x_up M 68 h_ 20) 67 h_ 0) 63 (10 + h_) 4) 63 16 = M 63 16 from (Eq.trans (x_up_k _ _ _ (by omega)) (Eq.trans (congrFun (x_up_n _ _ _ (by omega)) _) (Eq.trans (congrFun (x_up_n _ _ _ (by omega)) _) rfl)))]; exact hbt), ⟨un, wn, by omega, by omega, (Eq.trans (congrFun (x_up_n _ _ _ (by decide)) _) (Eq.trans (congrFun (x_up_n _ _ _ (by decide)) _) (Eq.trans (congrFun (x_up_n _ _ _ (by decide)) _) e_un))), (Eq.trans (congrFun (x_up_n _ _ _ (by decide)) _) (Eq.trans (congrFun (x_up_n _ _ _ (by decide)) _) (Eq.trans (congrFun (x_up_n _ _ _ (by decide)) _) e_wn)))⟩, (fun kk hkk => by rw [show (x_up (x_up (x_up M 68 h_ 20) 67 h_ 0) 63 (10 + h_) 4) 64 kk = M 64 kk from (Eq.trans (congrFun (x_up_n _ _ _ (by omega)) _) (Eq.trans (congrFun (x_up_n _ _ _ (by omega)) _) (Eq.trans (congrFun (x_up_n _ _ _ (by omega)) _) rfl))), show (x_up (x_up (x_up M 68 h_ 20) 67 h_ 0) 63 (10 + h_) 4) 65 kk = M 65 kk from (Eq.trans (congrFun (x_up_n _ _ _ (by omega)) _) (Eq.trans (congrFun (x_up_n _ _ _ (by omega)) _) (Eq.trans (congrFun (x_up_n _ _ _ (by omega)) _) rfl))), show (x_up (x_up (x_up M 68 h_ 20) 67 h_ 0) 63 (10 + h_) 4) 66 kk = M 66 kk from (Eq.trans (congrFun (x_up_n _ _ _ (by omega)) _) (Eq.trans (congrFun (x_up_n _ _ _ (by omega)) _) (Eq.trans (congrFun (x_up_n _ _ _ (by omega)) _) rfl)))]; exact hch kk hkk), ⟨n, by omega, (Eq.trans (congrFun (x_up_n _ _ _ (by decide)) _) (Eq.trans (congrFun (x_up_n _ _ _ (by decide)) _) (Eq.trans (congrFun (x_up_n _ _ _ (by decide)) _) e_n)))⟩, (by rw [show (x_up (x_up (x_up M 68 h_ 20) 67 h_ 0) 63 (10 + h_) 4) 62 13 = M 62 13 from (Eq.trans (congrFun (x_up_n _ _ _ (by omega)) _) (Eq.trans (congrFun (x_up_n _ _ _ (by omega)) _) (Eq.trans (congrFun (x_up_n _ _ _ (by omega)) _) rfl)))]; exact htx), ⟨b, by omega, (Eq.trans (congrFun (x_up_n _ _ _ (by decide)) _) (Eq.trans (congrFun (x_up_n _ _ _ (by decide)) _) (Eq.trans (congrFun (x_up_n _ _ _ (by decide)) _) e_b)))⟩, (fun j hj => by obtain ⟨q, hq, eq⟩ := hkd j hj; exact ⟨q, hq, (show (x_up (x_up (x_up M 68 h_ 20) 67 h_ 0) 63 (10 + h_) 4) 81 j = M 81 j from (Eq.trans (congrFun (x_up_n _ _ _ (by omega)) _) (Eq.trans (congrFun (x_up_n _ _ _ (by omega)) _) (Eq.trans (congrFun (x_up_n _ _ _ (by omega)) _) rfl)))).trans eq⟩), ⟨ra, by omega, (Eq.trans (congrFun (x_up_n _ _ _ (by decide)) _) (Eq.trans (congrFun (x_up_n _ _ _ (by decide)) _) (Eq.trans (congrFun (x_up_n _ _ _ (by decide)) _) e_ra)))⟩, (fun j hj => by rw [show (x_up (x_up (x_up M 68 h_ 20) 67 h_ 0) 63 (10 + h_) 4) 83 j = M 83 j from (Eq.trans (congrFun (x_up_n _ _ _ (by omega)) _) (Eq.trans (congrFun (x_up_n _ _ _ (by omega)) _) (Eq.trans (congrFun (x_up_n _ _ _ (by omega)) _) rfl))), show (x_up (x_up (x_up M 68 h_ 20) 67 h_ 0) 63 (10 + h_) 4) 84 j = M 84 j from (Eq.trans (congrFun (x_up_n _ _ _ (by omega)) _) (Eq.trans (congrFun (x_up_n _ _ _ (by omega)) _) (Eq.trans (congrFun (x_up_n _ _ _ (by omega)) _) rfl)))]; exact hsl j hj), ⟨ic, by omega, (Eq.trans (congrFun (x_up_n _ _ _ (by decide)) _) (Eq.trans (congrFun (x_up_n _ _ _ (by decide)) _) (Eq.trans (congrFun (x_up_n _ _ _ (by decide)) _) e_ic)))⟩, (fun j hj => by obtain ⟨q, hq, eq⟩ := hS j hj; exact ⟨q, hq, (show (x_up (x_up (x_up M 68 h_ 20) 67 h_ 0) 63 (10 + h_) 4) 75 j = M 75 j from (Eq.trans (congrFun (x_up_n _ _ _ (by omega)) _) (Eq.trans (congrFun (x_up_n _ _ _ (by omega)) _) (Eq.trans (congrFun (x_up_n _ _ _ (by omega)) _) rfl)))).trans eq⟩)⟩⟩)
    · refine xr_bipush (v := -5) dX10_lift_19 rfl ?_
      exact xr_iret dX10_lift_21 rfl rfl (⟨_, rfl, rfl, rfl, Ke.rf, ⟨⟨hn, by omega, e_hn, (fun kw hkw => by rw [show M 63 (5 + kw) = M 63 (5 + kw) from rfl]; exact hw kw hkw)⟩, (by rw [show M 63 16 = M 63 16 from rfl]; exact hbt), ⟨un, wn, by omega, by omega, e_un, e_wn⟩, (fun kk hkk => by rw [show M 64 kk = M 64 kk from rfl, show M 65 kk = M 65 kk from rfl, show M 66 kk = M 66 kk from rfl]; exact hch kk hkk), ⟨n, by omega, e_n⟩, (by rw [show M 62 13 = M 62 13 from rfl]; exact htx), ⟨b, by omega, e_b⟩, (fun j hj => by obtain ⟨q, hq, eq⟩ := hkd j hj; exact ⟨q, hq, (show M 81 j = M 81 j from rfl).trans eq⟩), ⟨ra, by omega, e_ra⟩, (fun j hj => by rw [show M 83 j = M 83 j from rfl, show M 84 j = M 84 j from rfl]; exact hsl j hj), ⟨ic, by omega, e_ic⟩, (fun j hj => by obtain ⟨q, hq, eq⟩ := hS j hj; exact ⟨q, hq, (show M 75 j = M 75 j from rfl).trans eq⟩)⟩⟩)
  · refine xr_iconst (v := -1) dX10_lift_8 rfl ?_
    exact xr_iret dX10_lift_9 rfl rfl (⟨_, rfl, rfl, rfl, Ke.rf, ⟨⟨hn, by omega, e_hn, (fun kw hkw => by rw [show M 63 (5 + kw) = M 63 (5 + kw) from rfl]; exact hw kw hkw)⟩, (by rw [show M 63 16 = M 63 16 from rfl]; exact hbt), ⟨un, wn, by omega, by omega, e_un, e_wn⟩, (fun kk hkk => by rw [show M 64 kk = M 64 kk from rfl, show M 65 kk = M 65 kk from rfl, show M 66 kk = M 66 kk from rfl]; exact hch kk hkk), ⟨n, by omega, e_n⟩, (by rw [show M 62 13 = M 62 13 from rfl]; exact htx), ⟨b, by omega, e_b⟩, (fun j hj => by obtain ⟨q, hq, eq⟩ := hkd j hj; exact ⟨q, hq, (show M 81 j = M 81 j from rfl).trans eq⟩), ⟨ra, by omega, e_ra⟩, (fun j hj => by rw [show M 83 j = M 83 j from rfl, show M 84 j = M 84 j from rfl]; exact hsl j hj), ⟨ic, by omega, e_ic⟩, (fun j hj => by obtain ⟨q, hq, eq⟩ := hS j hj; exact ⟨q, hq, (show M 75 j = M 75 j from rfl).trans eq⟩)⟩⟩)
set_option maxRecDepth 100000 in
set_option maxHeartbeats 4000000 in
theorem g_X10_then (h kk w : Int32) {l : Launch} {G : xG} {M : xM} {J : xJ} (hI : InvR M) : x_M l G fX10_then 62 0 0 [.ref (62), .int (h), .int (kk), .int (w)] x_SH M J (qKI WR1 M J (fun r M2 => InvR M2)) := by
  refine xb_of pX10 (Nat.le_of_ble_eq_true rfl) rfl ?_
  obtain ⟨⟨hn, h_hn, e_hn, hw⟩, hbt, ⟨un, wn, h_uw, h_wn, e_un, e_wn⟩, hch, ⟨n, h_n, e_n⟩, htx, ⟨b, h_b, e_b⟩, hkd, ⟨ra, h_ra, e_ra⟩, hsl, ⟨ic, h_ic, e_ic⟩, hS⟩ := hI
  refine xr_aload_n dX10_then_0 0 rfl ?_
  refine xr_iload_n dX10_then_1 1 rfl ?_
  refine xb_cV (As := [.int (h)]) (rest := []) mlX10_133 (c_X10_isHoop h (by omega) e_hn) dX10_then_2 s_62 rfl rfl (Nat.le_of_ble_eq_true rfl) (by decide) (by decide) ?_
  refine xb_beq (tgt := 32) dX10_then_5 rfl (fun c1 => ?_) (fun c1 => ?_)
  · refine xr_ldc coX10_140 dX10_then_32 ?_
    exact xr_iret dX10_then_34 rfl rfl (⟨_, rfl, rfl, rfl, Ke.rf, ⟨⟨hn, by omega, e_hn, (fun kw hkw => by rw [show M 63 (5 + kw) = M 63 (5 + kw) from rfl]; exact hw kw hkw)⟩, (by rw [show M 63 16 = M 63 16 from rfl]; exact hbt), ⟨un, wn, by omega, by omega, e_un, e_wn⟩, (fun kk hkk => by rw [show M 64 kk = M 64 kk from rfl, show M 65 kk = M 65 kk from rfl, show M 66 kk = M 66 kk from rfl]; exact hch kk hkk), ⟨n, by omega, e_n⟩, (by rw [show M 62 13 = M 62 13 from rfl]; exact htx), ⟨b, by omega, e_b⟩, (fun j hj => by obtain ⟨q, hq, eq⟩ := hkd j hj; exact ⟨q, hq, (show M 81 j = M 81 j from rfl).trans eq⟩), ⟨ra, by omega, e_ra⟩, (fun j hj => by rw [show M 83 j = M 83 j from rfl, show M 84 j = M 84 j from rfl]; exact hsl j hj), ⟨ic, by omega, e_ic⟩, (fun j hj => by obtain ⟨q, hq, eq⟩ := hS j hj; exact ⟨q, hq, (show M 75 j = M 75 j from rfl).trans eq⟩)⟩⟩)
  · obtain ⟨h_, hh_, rfl⟩ := x_nat (N := hn) (by omega) rfl c1
    refine xr_iload_n dX10_then_8 2 rfl ?_
    refine xr_i2l dX10_then_9 ?_
    refine xr_lconst (v := 0) dX10_then_10 rfl ?_
    refine xr_ldc2 coX10_244 dX10_then_11 ?_
    refine xb_cS (As := [.long ((kk).toInt64), .long (0), .long (200)]) (rest := []) mlX10_101 (c_within32 (kk) (0) (200) (by decide) (by decide)) dX10_then_14 rfl rfl (Nat.le_of_ble_eq_true rfl) (by decide) (by decide) ?_
    refine xb_beq (tgt := 32) dX10_then_17 rfl (fun c2 => ?_) (fun c2 => ?_)
    · refine xr_ldc coX10_140 dX10_then_32 ?_
      exact xr_iret dX10_then_34 rfl rfl (⟨_, rfl, rfl, rfl, Ke.rf, ⟨⟨hn, by omega, e_hn, (fun kw hkw => by rw [show M 63 (5 + kw) = M 63 (5 + kw) from rfl]; exact hw kw hkw)⟩, (by rw [show M 63 16 = M 63 16 from rfl]; exact hbt), ⟨un, wn, by omega, by omega, e_un, e_wn⟩, (fun kk hkk => by rw [show M 64 kk = M 64 kk from rfl, show M 65 kk = M 65 kk from rfl, show M 66 kk = M 66 kk from rfl]; exact hch kk hkk), ⟨n, by omega, e_n⟩, (by rw [show M 62 13 = M 62 13 from rfl]; exact htx), ⟨b, by omega, e_b⟩, (fun j hj => by obtain ⟨q, hq, eq⟩ := hkd j hj; exact ⟨q, hq, (show M 81 j = M 81 j from rfl).trans eq⟩), ⟨ra, by omega, e_ra⟩, (fun j hj => by rw [show M 83 j = M 83 j from rfl, show M 84 j = M 84 j from rfl]; exact hsl j hj), ⟨ic, by omega, e_ic⟩, (fun j hj => by obtain ⟨q, hq, eq⟩ := hS j hj; exact ⟨q, hq, (show M 75 j = M 75 j from rfl).trans eq⟩)⟩⟩)
    · refine xr_iload_n dX10_then_20 3 rfl ?_
      refine xr_i2l dX10_then_21 ?_
      refine xr_lconst (v := 0) dX10_then_22 rfl ?_
      refine xr_ldc2 coX10_131 dX10_then_23 ?_
      refine xb_cS (As := [.long ((w).toInt64), .long (0), .long (2)]) (rest := []) mlX10_101 (c_within32 (w) (0) (2) (by decide) (by decide)) dX10_then_26 rfl rfl (Nat.le_of_ble_eq_true rfl) (by decide) (by decide) ?_
      refine xb_bne (tgt := 35) dX10_then_29 rfl (fun c3 => ?_) (fun c3 => ?_)
      · obtain ⟨K, hK, rfl⟩ := x_natle (v := kk) (N := 200) (K := 200) (by decide) (by decide) ⟨by grind, c2.2⟩
        refine xr_aload_n dX10_then_35 0 rfl ?_
        refine xr_aload_n dX10_then_36 0 rfl ?_
        refine xr_callV (As := []) (rest := [.ref (62)]) mlX10_246 (g_X10_upNow h_hn e_hn (fun kw hkw => by rw [show M 63 (5 + kw) = M 63 (5 + kw) from rfl]; exact hw kw hkw) (by rw [show M 63 16 = M 63 16 from rfl]; exact hbt) (by rw [show M 62 13 = M 62 13 from rfl]; exact htx)) dX10_then_37 s_62 rfl rfl (Nat.le_of_ble_eq_true rfl) (by decide) ⟨by decide, by decide⟩ (fun v s2 M9 J2 hq => ?_)
        obtain ⟨r4, rfl, rfl, rfl, rfl, _⟩ := hq
        try dsimp only [Option.toList, List.cons_append, List.nil_append]
        refine xr_callV (As := [.int (r4)]) (rest := []) mlX10_249 (g_X10_begins1 r4 h_hn e_hn (fun kw hkw => by rw [show M 63 (5 + kw) = M 63 (5 + kw) from rfl]; exact hw kw hkw) (by rw [show M 63 16 = M 63 16 from rfl]; exact hbt) (by rw [show M 62 13 = M 62 13 from rfl]; exact htx)) dX10_then_40 s_62 rfl rfl (Nat.le_of_ble_eq_true rfl) (by decide) ⟨by decide, by decide⟩ (fun v s2 M5 J2 hq => ?_)
        obtain ⟨rfl, rfl, rfl, k6, _⟩ := hq
        try dsimp only [Option.toList, List.cons_append, List.nil_append]
        refine xr_iconst (v := 0) dX10_then_43 rfl ?_
        refine xr_istore (ls2 := [(4, .int (0)), (0, .ref (62)), (1, .int (nI (h_))), (2, .int (nI (K))), (3, .int (w))]) dX10_then_44 (by decide) rfl ?_
        refine xb_ls (ls2 := [(4, .int (nI (0))), (3, .int (w)), (2, .int (nI (K))), (1, .int (nI (h_))), (0, .ref (62))]) [0, 4, 3, 2, 1] rfl ?_
        refine th_l (by omega) (by omega) h_hn (Eq.trans (k6 62 6 (by decide)) e_hn) (fun kw hkw => by rw [show M5 63 (5 + kw) = M 63 (5 + kw) from (Eq.trans (k6 63 (5 + kw) (by unfold WR1; omega)) rfl)]; exact hw kw hkw) (by rw [show M5 63 16 = M 63 16 from (Eq.trans (k6 63 16 (by unfold WR1; omega)) rfl)]; exact hbt) (by rw [show M5 62 13 = M 62 13 from (Eq.trans (k6 62 13 (by unfold WR1; omega)) rfl)]; exact htx) (fun M7 k8 => ?_) (K - 0) 0 M5 (by omega) Ke.rf
        refine xr_iload_n dX10_then_69 0 rfl ?_
        refine xr_if_ne (tgt := 82) dX10_then_70 rfl (fun c9 => ?_) (fun c9 => ?_)
        · refine xr_iload_n dX10_then_82 0 rfl ?_
          refine xr_iconst (v := 1) dX10_then_83 rfl ?_
          refine xr_icmp_ne (tgt := 96) dX10_then_84 rfl (fun c10 => ?_) (fun c10 => ?_)
          · refine xr_aload_n dX10_then_96 3 rfl ?_
            refine xr_getR flX10_43 dX10_then_97 s_62 rfl ?_
            refine xr_iload_n dX10_then_100 2 rfl ?_
            refine xb_iald (j := h_) (v := M7 74 h_) dX10_then_101 s_74 (by omega) (by decide) rfl ?_
            exact xr_iret dX10_then_102 rfl rfl (⟨_, rfl, rfl, rfl, (Ke.tr (fun _ _ h => h) (Ke.tr (fun _ _ h => h) Ke.rf k6) k8), ⟨⟨hn, by omega, (Eq.trans (k8 62 6 (by decide)) (Eq.trans (k6 62 6 (by decide)) e_hn)), (fun kw hkw => by rw [show M7 63 (5 + kw) = M 63 (5 + kw) from (Eq.trans (k8 63 (5 + kw) (by unfold WR1; omega)) (Eq.trans (k6 63 (5 + kw) (by unfold WR1; omega)) rfl))]; exact hw kw hkw)⟩, (by rw [show M7 63 16 = M 63 16 from (Eq.trans (k8 63 16 (by unfold WR1; omega)) (Eq.trans (k6 63 16 (by unfold WR1; omega)) rfl))]; exact hbt), ⟨un, wn, by omega, by omega, (Eq.trans (k8 62 5 (by decide)) (Eq.trans (k6 62 5 (by decide)) e_un)), (Eq.trans (k8 62 4 (by decide)) (Eq.trans (k6 62 4 (by decide)) e_wn))⟩, (fun kk hkk => by rw [show M7 64 kk = M 64 kk from (Eq.trans (k8 64 kk (by unfold WR1; omega)) (Eq.trans (k6 64 kk (by unfold WR1; omega)) rfl)), show M7 65 kk = M 65 kk from (Eq.trans (k8 65 kk (by unfold WR1; omega)) (Eq.trans (k6 65 kk (by unfold WR1; omega)) rfl)), show M7 66 kk = M 66 kk from (Eq.trans (k8 66 kk (by unfold WR1; omega)) (Eq.trans (k6 66 kk (by unfold WR1; omega)) rfl))]; exact hch kk hkk), ⟨n, by omega, (Eq.trans (k8 62 11 (by decide)) (Eq.trans (k6 62 11 (by decide)) e_n))⟩, (by rw [show M7 62 13 = M 62 13 from (Eq.trans (k8 62 13 (by unfold WR1; omega)) (Eq.trans (k6 62 13 (by unfold WR1; omega)) rfl))]; exact htx), ⟨b, by omega, (Eq.trans (k8 62 36 (by decide)) (Eq.trans (k6 62 36 (by decide)) e_b))⟩, (fun j hj => by obtain ⟨q, hq, eq⟩ := hkd j hj; exact ⟨q, hq, (show M7 81 j = M 81 j from (Eq.trans (k8 81 j (by unfold WR1; omega)) (Eq.trans (k6 81 j (by unfold WR1; omega)) rfl))).trans eq⟩), ⟨ra, by omega, (Eq.trans (k8 62 39 (by decide)) (Eq.trans (k6 62 39 (by decide)) e_ra))⟩, (fun j hj => by rw [show M7 83 j = M 83 j from (Eq.trans (k8 83 j (by unfold WR1; omega)) (Eq.trans (k6 83 j (by unfold WR1; omega)) rfl)), show M7 84 j = M 84 j from (Eq.trans (k8 84 j (by unfold WR1; omega)) (Eq.trans (k6 84 j (by unfold WR1; omega)) rfl))]; exact hsl j hj), ⟨ic, by omega, (Eq.trans (k8 62 34 (by decide)) (Eq.trans (k6 62 34 (by decide)) e_ic))⟩, (fun j hj => by obtain ⟨q, hq, eq⟩ := hS j hj; exact ⟨q, hq, (show M7 75 j = M 75 j from (Eq.trans (k8 75 j (by unfold WR1; omega)) (Eq.trans (k6 75 j (by unfold WR1; omega)) rfl))).trans eq⟩)⟩⟩)
          · refine xr_aload_n dX10_then_87 3 rfl ?_
            refine xr_getR flX10_40 dX10_then_88 s_62 rfl ?_
            refine xr_iload_n dX10_then_91 2 rfl ?_
            refine xb_iald (j := h_) (v := M7 73 h_) dX10_then_92 s_73 (by omega) (by decide) rfl ?_
            refine xr_goto (tgt := 102) dX10_then_93 rfl ?_
            exact xr_iret dX10_then_102 rfl rfl (⟨_, rfl, rfl, rfl, (Ke.tr (fun _ _ h => h) (Ke.tr (fun _ _ h => h) Ke.rf k6) k8), ⟨⟨hn, by omega, (Eq.trans (k8 62 6 (by decide)) (Eq.trans (k6 62 6 (by decide)) e_hn)), (fun kw hkw => by rw [show M7 63 (5 + kw) = M 63 (5 + kw) from (Eq.trans (k8 63 (5 + kw) (by unfold WR1; omega)) (Eq.trans (k6 63 (5 + kw) (by unfold WR1; omega)) rfl))]; exact hw kw hkw)⟩, (by rw [show M7 63 16 = M 63 16 from (Eq.trans (k8 63 16 (by unfold WR1; omega)) (Eq.trans (k6 63 16 (by unfold WR1; omega)) rfl))]; exact hbt), ⟨un, wn, by omega, by omega, (Eq.trans (k8 62 5 (by decide)) (Eq.trans (k6 62 5 (by decide)) e_un)), (Eq.trans (k8 62 4 (by decide)) (Eq.trans (k6 62 4 (by decide)) e_wn))⟩, (fun kk hkk => by rw [show M7 64 kk = M 64 kk from (Eq.trans (k8 64 kk (by unfold WR1; omega)) (Eq.trans (k6 64 kk (by unfold WR1; omega)) rfl)), show M7 65 kk = M 65 kk from (Eq.trans (k8 65 kk (by unfold WR1; omega)) (Eq.trans (k6 65 kk (by unfold WR1; omega)) rfl)), show M7 66 kk = M 66 kk from (Eq.trans (k8 66 kk (by unfold WR1; omega)) (Eq.trans (k6 66 kk (by unfold WR1; omega)) rfl))]; exact hch kk hkk), ⟨n, by omega, (Eq.trans (k8 62 11 (by decide)) (Eq.trans (k6 62 11 (by decide)) e_n))⟩, (by rw [show M7 62 13 = M 62 13 from (Eq.trans (k8 62 13 (by unfold WR1; omega)) (Eq.trans (k6 62 13 (by unfold WR1; omega)) rfl))]; exact htx), ⟨b, by omega, (Eq.trans (k8 62 36 (by decide)) (Eq.trans (k6 62 36 (by decide)) e_b))⟩, (fun j hj => by obtain ⟨q, hq, eq⟩ := hkd j hj; exact ⟨q, hq, (show M7 81 j = M 81 j from (Eq.trans (k8 81 j (by unfold WR1; omega)) (Eq.trans (k6 81 j (by unfold WR1; omega)) rfl))).trans eq⟩), ⟨ra, by omega, (Eq.trans (k8 62 39 (by decide)) (Eq.trans (k6 62 39 (by decide)) e_ra))⟩, (fun j hj => by rw [show M7 83 j = M 83 j from (Eq.trans (k8 83 j (by unfold WR1; omega)) (Eq.trans (k6 83 j (by unfold WR1; omega)) rfl)), show M7 84 j = M 84 j from (Eq.trans (k8 84 j (by unfold WR1; omega)) (Eq.trans (k6 84 j (by unfold WR1; omega)) rfl))]; exact hsl j hj), ⟨ic, by omega, (Eq.trans (k8 62 34 (by decide)) (Eq.trans (k6 62 34 (by decide)) e_ic))⟩, (fun j hj => by obtain ⟨q, hq, eq⟩ := hS j hj; exact ⟨q, hq, (show M7 75 j = M 75 j from (Eq.trans (k8 75 j (by unfold WR1; omega)) (Eq.trans (k6 75 j (by unfold WR1; omega)) rfl))).trans eq⟩)⟩⟩)
        · refine xr_aload_n dX10_then_73 3 rfl ?_
          refine xr_getR flX10_37 dX10_then_74 s_62 rfl ?_
          refine xr_iload_n dX10_then_77 2 rfl ?_
          refine xb_iald (j := h_) (v := M7 72 h_) dX10_then_78 s_72 (by omega) (by decide) rfl ?_
          refine xr_goto (tgt := 102) dX10_then_79 rfl ?_
          exact xr_iret dX10_then_102 rfl rfl (⟨_, rfl, rfl, rfl, (Ke.tr (fun _ _ h => h) (Ke.tr (fun _ _ h => h) Ke.rf k6) k8), ⟨⟨hn, by omega, (Eq.trans (k8 62 6 (by decide)) (Eq.trans (k6 62 6 (by decide)) e_hn)), (fun kw hkw => by rw [show M7 63 (5 + kw) = M 63 (5 + kw) from (Eq.trans (k8 63 (5 + kw) (by unfold WR1; omega)) (Eq.trans (k6 63 (5 + kw) (by unfold WR1; omega)) rfl))]; exact hw kw hkw)⟩, (by rw [show M7 63 16 = M 63 16 from (Eq.trans (k8 63 16 (by unfold WR1; omega)) (Eq.trans (k6 63 16 (by unfold WR1; omega)) rfl))]; exact hbt), ⟨un, wn, by omega, by omega, (Eq.trans (k8 62 5 (by decide)) (Eq.trans (k6 62 5 (by decide)) e_un)), (Eq.trans (k8 62 4 (by decide)) (Eq.trans (k6 62 4 (by decide)) e_wn))⟩, (fun kk hkk => by rw [show M7 64 kk = M 64 kk from (Eq.trans (k8 64 kk (by unfold WR1; omega)) (Eq.trans (k6 64 kk (by unfold WR1; omega)) rfl)), show M7 65 kk = M 65 kk from (Eq.trans (k8 65 kk (by unfold WR1; omega)) (Eq.trans (k6 65 kk (by unfold WR1; omega)) rfl)), show M7 66 kk = M 66 kk from (Eq.trans (k8 66 kk (by unfold WR1; omega)) (Eq.trans (k6 66 kk (by unfold WR1; omega)) rfl))]; exact hch kk hkk), ⟨n, by omega, (Eq.trans (k8 62 11 (by decide)) (Eq.trans (k6 62 11 (by decide)) e_n))⟩, (by rw [show M7 62 13 = M 62 13 from (Eq.trans (k8 62 13 (by unfold WR1; omega)) (Eq.trans (k6 62 13 (by unfold WR1; omega)) rfl))]; exact htx), ⟨b, by omega, (Eq.trans (k8 62 36 (by decide)) (Eq.trans (k6 62 36 (by decide)) e_b))⟩, (fun j hj => by obtain ⟨q, hq, eq⟩ := hkd j hj; exact ⟨q, hq, (show M7 81 j = M 81 j from (Eq.trans (k8 81 j (by unfold WR1; omega)) (Eq.trans (k6 81 j (by unfold WR1; omega)) rfl))).trans eq⟩), ⟨ra, by omega, (Eq.trans (k8 62 39 (by decide)) (Eq.trans (k6 62 39 (by decide)) e_ra))⟩, (fun j hj => by rw [show M7 83 j = M 83 j from (Eq.trans (k8 83 j (by unfold WR1; omega)) (Eq.trans (k6 83 j (by unfold WR1; omega)) rfl)), show M7 84 j = M 84 j from (Eq.trans (k8 84 j (by unfold WR1; omega)) (Eq.trans (k6 84 j (by unfold WR1; omega)) rfl))]; exact hsl j hj), ⟨ic, by omega, (Eq.trans (k8 62 34 (by decide)) (Eq.trans (k6 62 34 (by decide)) e_ic))⟩, (fun j hj => by obtain ⟨q, hq, eq⟩ := hS j hj; exact ⟨q, hq, (show M7 75 j = M 75 j from (Eq.trans (k8 75 j (by unfold WR1; omega)) (Eq.trans (k6 75 j (by unfold WR1; omega)) rfl))).trans eq⟩)⟩⟩)
      · refine xr_ldc coX10_140 dX10_then_32 ?_
        exact xr_iret dX10_then_34 rfl rfl (⟨_, rfl, rfl, rfl, Ke.rf, ⟨⟨hn, by omega, e_hn, (fun kw hkw => by rw [show M 63 (5 + kw) = M 63 (5 + kw) from rfl]; exact hw kw hkw)⟩, (by rw [show M 63 16 = M 63 16 from rfl]; exact hbt), ⟨un, wn, by omega, by omega, e_un, e_wn⟩, (fun kk hkk => by rw [show M 64 kk = M 64 kk from rfl, show M 65 kk = M 65 kk from rfl, show M 66 kk = M 66 kk from rfl]; exact hch kk hkk), ⟨n, by omega, e_n⟩, (by rw [show M 62 13 = M 62 13 from rfl]; exact htx), ⟨b, by omega, e_b⟩, (fun j hj => by obtain ⟨q, hq, eq⟩ := hkd j hj; exact ⟨q, hq, (show M 81 j = M 81 j from rfl).trans eq⟩), ⟨ra, by omega, e_ra⟩, (fun j hj => by rw [show M 83 j = M 83 j from rfl, show M 84 j = M 84 j from rfl]; exact hsl j hj), ⟨ic, by omega, e_ic⟩, (fun j hj => by obtain ⟨q, hq, eq⟩ := hS j hj; exact ⟨q, hq, (show M 75 j = M 75 j from rfl).trans eq⟩)⟩⟩)
set_option maxRecDepth 100000 in
set_option maxHeartbeats 4000000 in
theorem g_X10_falls (h : Int32) {l : Launch} {G : xG} {M : xM} {J : xJ} (hI : InvR M) : x_M l G fX10_falls 63 0 0 [.ref (62), .int (h)] x_SH M J (qKI WR1 M J (fun r M2 => InvR M2)) := by
  refine xb_of pX10 (Nat.le_of_ble_eq_true rfl) rfl ?_
  obtain ⟨⟨hn, h_hn, e_hn, hw⟩, hbt, ⟨un, wn, h_uw, h_wn, e_un, e_wn⟩, hch, ⟨n, h_n, e_n⟩, htx, ⟨b, h_b, e_b⟩, hkd, ⟨ra, h_ra, e_ra⟩, hsl, ⟨ic, h_ic, e_ic⟩, hS⟩ := hI
  refine xr_aload_n dX10_falls_0 0 rfl ?_
  refine xr_iload_n dX10_falls_1 1 rfl ?_
  refine xb_cV (As := [.int (h)]) (rest := []) mlX10_133 (c_X10_isHoop h (by omega) e_hn) dX10_falls_2 s_62 rfl rfl (Nat.le_of_ble_eq_true rfl) (by decide) (by decide) ?_
  refine xb_bne (tgt := 10) dX10_falls_5 rfl (fun c1 => ?_) (fun c1 => ?_)
  · obtain ⟨h_, hh_, rfl⟩ := x_nat (N := hn) (by omega) rfl c1
    refine xr_aload_n dX10_falls_10 0 rfl ?_
    refine xr_iload_n dX10_falls_11 1 rfl ?_
    refine xr_callV (As := [.int (nI (h_))]) (rest := []) mlX10_264 (g_X10_fallOf (h := h_) (by omega) h_hn e_hn (fun kw hkw => by rw [show M 63 (5 + kw) = M 63 (5 + kw) from rfl]; exact hw kw hkw) (by rw [show M 63 16 = M 63 16 from rfl]; exact hbt) (by rw [show M 62 13 = M 62 13 from rfl]; exact htx)) dX10_falls_12 s_62 rfl rfl (Nat.le_of_ble_eq_true rfl) (by decide) ⟨by decide, by decide⟩ (fun v s2 M2 J2 hq => ?_)
    obtain ⟨r4, rfl, rfl, rfl, k3, _⟩ := hq
    try dsimp only [Option.toList, List.cons_append, List.nil_append]
    refine xr_istore_n (ls2 := [(2, .int (r4)), (0, .ref (62)), (1, .int (nI (h_)))]) dX10_falls_15 (by decide) rfl ?_
    refine xr_iload_n dX10_falls_16 0 rfl ?_
    refine xr_sipush (v := 201) dX10_falls_17 rfl ?_
    refine xr_icmp_ne (tgt := 28) dX10_falls_20 rfl (fun c5 => ?_) (fun c5 => ?_)
    · refine xr_iload_n dX10_falls_28 0 rfl ?_
      exact xr_iret dX10_falls_29 rfl rfl (⟨_, rfl, rfl, rfl, (Ke.tr (fun _ _ h => h) Ke.rf k3), ⟨⟨hn, by omega, (Eq.trans (k3 62 6 (by decide)) e_hn), (fun kw hkw => by rw [show M2 63 (5 + kw) = M 63 (5 + kw) from (Eq.trans (k3 63 (5 + kw) (by unfold WR1; omega)) rfl)]; exact hw kw hkw)⟩, (by rw [show M2 63 16 = M 63 16 from (Eq.trans (k3 63 16 (by unfold WR1; omega)) rfl)]; exact hbt), ⟨un, wn, by omega, by omega, (Eq.trans (k3 62 5 (by decide)) e_un), (Eq.trans (k3 62 4 (by decide)) e_wn)⟩, (fun kk hkk => by rw [show M2 64 kk = M 64 kk from (Eq.trans (k3 64 kk (by unfold WR1; omega)) rfl), show M2 65 kk = M 65 kk from (Eq.trans (k3 65 kk (by unfold WR1; omega)) rfl), show M2 66 kk = M 66 kk from (Eq.trans (k3 66 kk (by unfold WR1; omega)) rfl)]; exact hch kk hkk), ⟨n, by omega, (Eq.trans (k3 62 11 (by decide)) e_n)⟩, (by rw [show M2 62 13 = M 62 13 from (Eq.trans (k3 62 13 (by unfold WR1; omega)) rfl)]; exact htx), ⟨b, by omega, (Eq.trans (k3 62 36 (by decide)) e_b)⟩, (fun j hj => by obtain ⟨q, hq, eq⟩ := hkd j hj; exact ⟨q, hq, (show M2 81 j = M 81 j from (Eq.trans (k3 81 j (by unfold WR1; omega)) rfl)).trans eq⟩), ⟨ra, by omega, (Eq.trans (k3 62 39 (by decide)) e_ra)⟩, (fun j hj => by rw [show M2 83 j = M 83 j from (Eq.trans (k3 83 j (by unfold WR1; omega)) rfl), show M2 84 j = M 84 j from (Eq.trans (k3 84 j (by unfold WR1; omega)) rfl)]; exact hsl j hj), ⟨ic, by omega, (Eq.trans (k3 62 34 (by decide)) e_ic)⟩, (fun j hj => by obtain ⟨q, hq, eq⟩ := hS j hj; exact ⟨q, hq, (show M2 75 j = M 75 j from (Eq.trans (k3 75 j (by unfold WR1; omega)) rfl)).trans eq⟩)⟩⟩)
    · refine xr_bipush (v := -2) dX10_falls_23 rfl ?_
      refine xr_goto (tgt := 29) dX10_falls_25 rfl ?_
      exact xr_iret dX10_falls_29 rfl rfl (⟨_, rfl, rfl, rfl, (Ke.tr (fun _ _ h => h) Ke.rf k3), ⟨⟨hn, by omega, (Eq.trans (k3 62 6 (by decide)) e_hn), (fun kw hkw => by rw [show M2 63 (5 + kw) = M 63 (5 + kw) from (Eq.trans (k3 63 (5 + kw) (by unfold WR1; omega)) rfl)]; exact hw kw hkw)⟩, (by rw [show M2 63 16 = M 63 16 from (Eq.trans (k3 63 16 (by unfold WR1; omega)) rfl)]; exact hbt), ⟨un, wn, by omega, by omega, (Eq.trans (k3 62 5 (by decide)) e_un), (Eq.trans (k3 62 4 (by decide)) e_wn)⟩, (fun kk hkk => by rw [show M2 64 kk = M 64 kk from (Eq.trans (k3 64 kk (by unfold WR1; omega)) rfl), show M2 65 kk = M 65 kk from (Eq.trans (k3 65 kk (by unfold WR1; omega)) rfl), show M2 66 kk = M 66 kk from (Eq.trans (k3 66 kk (by unfold WR1; omega)) rfl)]; exact hch kk hkk), ⟨n, by omega, (Eq.trans (k3 62 11 (by decide)) e_n)⟩, (by rw [show M2 62 13 = M 62 13 from (Eq.trans (k3 62 13 (by unfold WR1; omega)) rfl)]; exact htx), ⟨b, by omega, (Eq.trans (k3 62 36 (by decide)) e_b)⟩, (fun j hj => by obtain ⟨q, hq, eq⟩ := hkd j hj; exact ⟨q, hq, (show M2 81 j = M 81 j from (Eq.trans (k3 81 j (by unfold WR1; omega)) rfl)).trans eq⟩), ⟨ra, by omega, (Eq.trans (k3 62 39 (by decide)) e_ra)⟩, (fun j hj => by rw [show M2 83 j = M 83 j from (Eq.trans (k3 83 j (by unfold WR1; omega)) rfl), show M2 84 j = M 84 j from (Eq.trans (k3 84 j (by unfold WR1; omega)) rfl)]; exact hsl j hj), ⟨ic, by omega, (Eq.trans (k3 62 34 (by decide)) e_ic)⟩, (fun j hj => by obtain ⟨q, hq, eq⟩ := hS j hj; exact ⟨q, hq, (show M2 75 j = M 75 j from (Eq.trans (k3 75 j (by unfold WR1; omega)) rfl)).trans eq⟩)⟩⟩)
  · refine xr_iconst (v := -1) dX10_falls_8 rfl ?_
    exact xr_iret dX10_falls_9 rfl rfl (⟨_, rfl, rfl, rfl, Ke.rf, ⟨⟨hn, by omega, e_hn, (fun kw hkw => by rw [show M 63 (5 + kw) = M 63 (5 + kw) from rfl]; exact hw kw hkw)⟩, (by rw [show M 63 16 = M 63 16 from rfl]; exact hbt), ⟨un, wn, by omega, by omega, e_un, e_wn⟩, (fun kk hkk => by rw [show M 64 kk = M 64 kk from rfl, show M 65 kk = M 65 kk from rfl, show M 66 kk = M 66 kk from rfl]; exact hch kk hkk), ⟨n, by omega, e_n⟩, (by rw [show M 62 13 = M 62 13 from rfl]; exact htx), ⟨b, by omega, e_b⟩, (fun j hj => by obtain ⟨q, hq, eq⟩ := hkd j hj; exact ⟨q, hq, (show M 81 j = M 81 j from rfl).trans eq⟩), ⟨ra, by omega, e_ra⟩, (fun j hj => by rw [show M 83 j = M 83 j from rfl, show M 84 j = M 84 j from rfl]; exact hsl j hj), ⟨ic, by omega, e_ic⟩, (fun j hj => by obtain ⟨q, hq, eq⟩ := hS j hj; exact ⟨q, hq, (show M 75 j = M 75 j from rfl).trans eq⟩)⟩⟩)
set_option maxRecDepth 100000 in
set_option maxHeartbeats 4000000 in
theorem g_X10_lasts {l : Launch} {G : xG} {M : xM} {J : xJ} (hI : InvR M) : x_M l G fX10_lasts 63 0 0 [.ref (62)] x_SH M J (qKI WR1 M J (fun r M2 => InvR M2)) := by
  refine xb_of pX10 (Nat.le_of_ble_eq_true rfl) rfl ?_
  obtain ⟨⟨hn, h_hn, e_hn, hw⟩, hbt, ⟨un, wn, h_uw, h_wn, e_un, e_wn⟩, hch, ⟨n, h_n, e_n⟩, htx, ⟨b, h_b, e_b⟩, hkd, ⟨ra, h_ra, e_ra⟩, hsl, ⟨ic, h_ic, e_ic⟩, hS⟩ := hI
  refine xr_aload_n dX10_lasts_0 0 rfl ?_
  refine xr_aload_n dX10_lasts_1 0 rfl ?_
  refine xr_callV (As := []) (rest := [.ref (62)]) mlX10_246 (g_X10_upNow h_hn e_hn (fun kw hkw => by rw [show M 63 (5 + kw) = M 63 (5 + kw) from rfl]; exact hw kw hkw) (by rw [show M 63 16 = M 63 16 from rfl]; exact hbt) (by rw [show M 62 13 = M 62 13 from rfl]; exact htx)) dX10_lasts_2 s_62 rfl rfl (Nat.le_of_ble_eq_true rfl) (by decide) ⟨by decide, by decide⟩ (fun v s2 M9 J2 hq => ?_)
  obtain ⟨r1, rfl, rfl, rfl, rfl, _⟩ := hq
  try dsimp only [Option.toList, List.cons_append, List.nil_append]
  refine xr_callV (As := [.int (r1)]) (rest := []) mlX10_267 (g_X10_lastsOf r1 h_hn e_hn (fun kw hkw => by rw [show M 63 (5 + kw) = M 63 (5 + kw) from rfl]; exact hw kw hkw) (by rw [show M 63 16 = M 63 16 from rfl]; exact hbt) (by rw [show M 62 13 = M 62 13 from rfl]; exact htx)) dX10_lasts_5 s_62 rfl rfl (Nat.le_of_ble_eq_true rfl) (by decide) ⟨by decide, by decide⟩ (fun v s2 M2 J2 hq => ?_)
  obtain ⟨r4, rfl, rfl, rfl, k3, _⟩ := hq
  try dsimp only [Option.toList, List.cons_append, List.nil_append]
  exact xr_iret dX10_lasts_8 rfl rfl (⟨_, rfl, rfl, rfl, (Ke.tr (fun _ _ h => h) Ke.rf k3), ⟨⟨hn, by omega, (Eq.trans (k3 62 6 (by decide)) e_hn), (fun kw hkw => by rw [show M2 63 (5 + kw) = M 63 (5 + kw) from (Eq.trans (k3 63 (5 + kw) (by unfold WR1; omega)) rfl)]; exact hw kw hkw)⟩, (by rw [show M2 63 16 = M 63 16 from (Eq.trans (k3 63 16 (by unfold WR1; omega)) rfl)]; exact hbt), ⟨un, wn, by omega, by omega, (Eq.trans (k3 62 5 (by decide)) e_un), (Eq.trans (k3 62 4 (by decide)) e_wn)⟩, (fun kk hkk => by rw [show M2 64 kk = M 64 kk from (Eq.trans (k3 64 kk (by unfold WR1; omega)) rfl), show M2 65 kk = M 65 kk from (Eq.trans (k3 65 kk (by unfold WR1; omega)) rfl), show M2 66 kk = M 66 kk from (Eq.trans (k3 66 kk (by unfold WR1; omega)) rfl)]; exact hch kk hkk), ⟨n, by omega, (Eq.trans (k3 62 11 (by decide)) e_n)⟩, (by rw [show M2 62 13 = M 62 13 from (Eq.trans (k3 62 13 (by unfold WR1; omega)) rfl)]; exact htx), ⟨b, by omega, (Eq.trans (k3 62 36 (by decide)) e_b)⟩, (fun j hj => by obtain ⟨q, hq, eq⟩ := hkd j hj; exact ⟨q, hq, (show M2 81 j = M 81 j from (Eq.trans (k3 81 j (by unfold WR1; omega)) rfl)).trans eq⟩), ⟨ra, by omega, (Eq.trans (k3 62 39 (by decide)) e_ra)⟩, (fun j hj => by rw [show M2 83 j = M 83 j from (Eq.trans (k3 83 j (by unfold WR1; omega)) rfl), show M2 84 j = M 84 j from (Eq.trans (k3 84 j (by unfold WR1; omega)) rfl)]; exact hsl j hj), ⟨ic, by omega, (Eq.trans (k3 62 34 (by decide)) e_ic)⟩, (fun j hj => by obtain ⟨q, hq, eq⟩ := hS j hj; exact ⟨q, hq, (show M2 75 j = M 75 j from (Eq.trans (k3 75 j (by unfold WR1; omega)) rfl)).trans eq⟩)⟩⟩)
set_option maxRecDepth 100000 in
set_option maxHeartbeats 4000000 in
theorem g_X10_mistake (m w : Int32) {l : Launch} {G : xG} {M : xM} {J : xJ} (hI : InvR M) : x_M l G fX10_mistake 63 0 0 [.ref (62), .int (m), .int (w)] x_SH M J (qKI WR1 M J (fun r M2 => InvR M2)) := by
  refine xb_of pX10 (Nat.le_of_ble_eq_true rfl) rfl ?_
  obtain ⟨⟨hn, h_hn, e_hn, hw⟩, hbt, ⟨un, wn, h_uw, h_wn, e_un, e_wn⟩, hch, ⟨n, h_n, e_n⟩, htx, ⟨b, h_b, e_b⟩, hkd, ⟨ra, h_ra, e_ra⟩, hsl, ⟨ic, h_ic, e_ic⟩, hS⟩ := hI
  refine xr_iload_n dX10_mistake_0 1 rfl ?_
  refine xr_i2l dX10_mistake_1 ?_
  refine xr_lconst (v := 0) dX10_mistake_2 rfl ?_
  refine xr_ldc2 coX10_276 dX10_mistake_3 ?_
  refine xb_cS (As := [.long ((m).toInt64), .long (0), .long (40)]) (rest := []) mlX10_101 (c_within32 (m) (0) (40) (by decide) (by decide)) dX10_mistake_6 rfl rfl (Nat.le_of_ble_eq_true rfl) (by decide) (by decide) ?_
  refine xb_beq (tgt := 22) dX10_mistake_9 rfl (fun c1 => ?_) (fun c1 => ?_)
  · refine xr_iconst (v := -1) dX10_mistake_22 rfl ?_
    exact xr_iret dX10_mistake_23 rfl rfl (⟨_, rfl, rfl, rfl, Ke.rf, ⟨⟨hn, by omega, e_hn, (fun kw hkw => by rw [show M 63 (5 + kw) = M 63 (5 + kw) from rfl]; exact hw kw hkw)⟩, (by rw [show M 63 16 = M 63 16 from rfl]; exact hbt), ⟨un, wn, by omega, by omega, e_un, e_wn⟩, (fun kk hkk => by rw [show M 64 kk = M 64 kk from rfl, show M 65 kk = M 65 kk from rfl, show M 66 kk = M 66 kk from rfl]; exact hch kk hkk), ⟨n, by omega, e_n⟩, (by rw [show M 62 13 = M 62 13 from rfl]; exact htx), ⟨b, by omega, e_b⟩, (fun j hj => by obtain ⟨q, hq, eq⟩ := hkd j hj; exact ⟨q, hq, (show M 81 j = M 81 j from rfl).trans eq⟩), ⟨ra, by omega, e_ra⟩, (fun j hj => by rw [show M 83 j = M 83 j from rfl, show M 84 j = M 84 j from rfl]; exact hsl j hj), ⟨ic, by omega, e_ic⟩, (fun j hj => by obtain ⟨q, hq, eq⟩ := hS j hj; exact ⟨q, hq, (show M 75 j = M 75 j from rfl).trans eq⟩)⟩⟩)
  · refine xr_iload_n dX10_mistake_12 2 rfl ?_
    refine xr_i2l dX10_mistake_13 ?_
    refine xr_lconst (v := 0) dX10_mistake_14 rfl ?_
    refine xr_lconst (v := 1) dX10_mistake_15 rfl ?_
    refine xb_cS (As := [.long ((w).toInt64), .long (0), .long (1)]) (rest := []) mlX10_101 (c_within32 (w) (0) (1) (by decide) (by decide)) dX10_mistake_16 rfl rfl (Nat.le_of_ble_eq_true rfl) (by decide) (by decide) ?_
    refine xb_bne (tgt := 24) dX10_mistake_19 rfl (fun c2 => ?_) (fun c2 => ?_)
    · refine xr_aload_n dX10_mistake_24 0 rfl ?_
      refine xr_iload_n dX10_mistake_25 1 rfl ?_
      refine xr_callV (As := [.int (m)]) (rest := []) mlX10_278 (g_X10_mistaken m h_hn e_hn (fun kw hkw => by rw [show M 63 (5 + kw) = M 63 (5 + kw) from rfl]; exact hw kw hkw) (by rw [show M 63 16 = M 63 16 from rfl]; exact hbt) (by rw [show M 62 13 = M 62 13 from rfl]; exact htx)) dX10_mistake_26 s_62 rfl rfl (Nat.le_of_ble_eq_true rfl) (by decide) ⟨by decide, by decide⟩ (fun v s2 M3 J2 hq => ?_)
      obtain ⟨r5, rfl, rfl, rfl, k4, _⟩ := hq
      try dsimp only [Option.toList, List.cons_append, List.nil_append]
      refine xr_istore_n (ls2 := [(3, .int (r5)), (0, .ref (62)), (1, .int (m)), (2, .int (w))]) dX10_mistake_29 (by decide) rfl ?_
      refine xr_iload_n dX10_mistake_30 3 rfl ?_
      refine xr_if_ne (tgt := 38) dX10_mistake_31 rfl (fun c6 => ?_) (fun c6 => ?_)
      · refine xr_aload_n dX10_mistake_38 1 rfl ?_
        refine xb_get (v := M3 62 26) flX10_273 dX10_mistake_39 s_62 rfl rfl ?_
        exact xr_iret dX10_mistake_42 rfl rfl (⟨_, rfl, rfl, rfl, (Ke.tr (fun _ _ h => h) Ke.rf k4), ⟨⟨hn, by omega, (Eq.trans (k4 62 6 (by decide)) e_hn), (fun kw hkw => by rw [show M3 63 (5 + kw) = M 63 (5 + kw) from (Eq.trans (k4 63 (5 + kw) (by unfold WR1; omega)) rfl)]; exact hw kw hkw)⟩, (by rw [show M3 63 16 = M 63 16 from (Eq.trans (k4 63 16 (by unfold WR1; omega)) rfl)]; exact hbt), ⟨un, wn, by omega, by omega, (Eq.trans (k4 62 5 (by decide)) e_un), (Eq.trans (k4 62 4 (by decide)) e_wn)⟩, (fun kk hkk => by rw [show M3 64 kk = M 64 kk from (Eq.trans (k4 64 kk (by unfold WR1; omega)) rfl), show M3 65 kk = M 65 kk from (Eq.trans (k4 65 kk (by unfold WR1; omega)) rfl), show M3 66 kk = M 66 kk from (Eq.trans (k4 66 kk (by unfold WR1; omega)) rfl)]; exact hch kk hkk), ⟨n, by omega, (Eq.trans (k4 62 11 (by decide)) e_n)⟩, (by rw [show M3 62 13 = M 62 13 from (Eq.trans (k4 62 13 (by unfold WR1; omega)) rfl)]; exact htx), ⟨b, by omega, (Eq.trans (k4 62 36 (by decide)) e_b)⟩, (fun j hj => by obtain ⟨q, hq, eq⟩ := hkd j hj; exact ⟨q, hq, (show M3 81 j = M 81 j from (Eq.trans (k4 81 j (by unfold WR1; omega)) rfl)).trans eq⟩), ⟨ra, by omega, (Eq.trans (k4 62 39 (by decide)) e_ra)⟩, (fun j hj => by rw [show M3 83 j = M 83 j from (Eq.trans (k4 83 j (by unfold WR1; omega)) rfl), show M3 84 j = M 84 j from (Eq.trans (k4 84 j (by unfold WR1; omega)) rfl)]; exact hsl j hj), ⟨ic, by omega, (Eq.trans (k4 62 34 (by decide)) e_ic)⟩, (fun j hj => by obtain ⟨q, hq, eq⟩ := hS j hj; exact ⟨q, hq, (show M3 75 j = M 75 j from (Eq.trans (k4 75 j (by unfold WR1; omega)) rfl)).trans eq⟩)⟩⟩)
      · refine xr_iload_n dX10_mistake_34 0 rfl ?_
        refine xr_goto (tgt := 42) dX10_mistake_35 rfl ?_
        exact xr_iret dX10_mistake_42 rfl rfl (⟨_, rfl, rfl, rfl, (Ke.tr (fun _ _ h => h) Ke.rf k4), ⟨⟨hn, by omega, (Eq.trans (k4 62 6 (by decide)) e_hn), (fun kw hkw => by rw [show M3 63 (5 + kw) = M 63 (5 + kw) from (Eq.trans (k4 63 (5 + kw) (by unfold WR1; omega)) rfl)]; exact hw kw hkw)⟩, (by rw [show M3 63 16 = M 63 16 from (Eq.trans (k4 63 16 (by unfold WR1; omega)) rfl)]; exact hbt), ⟨un, wn, by omega, by omega, (Eq.trans (k4 62 5 (by decide)) e_un), (Eq.trans (k4 62 4 (by decide)) e_wn)⟩, (fun kk hkk => by rw [show M3 64 kk = M 64 kk from (Eq.trans (k4 64 kk (by unfold WR1; omega)) rfl), show M3 65 kk = M 65 kk from (Eq.trans (k4 65 kk (by unfold WR1; omega)) rfl), show M3 66 kk = M 66 kk from (Eq.trans (k4 66 kk (by unfold WR1; omega)) rfl)]; exact hch kk hkk), ⟨n, by omega, (Eq.trans (k4 62 11 (by decide)) e_n)⟩, (by rw [show M3 62 13 = M 62 13 from (Eq.trans (k4 62 13 (by unfold WR1; omega)) rfl)]; exact htx), ⟨b, by omega, (Eq.trans (k4 62 36 (by decide)) e_b)⟩, (fun j hj => by obtain ⟨q, hq, eq⟩ := hkd j hj; exact ⟨q, hq, (show M3 81 j = M 81 j from (Eq.trans (k4 81 j (by unfold WR1; omega)) rfl)).trans eq⟩), ⟨ra, by omega, (Eq.trans (k4 62 39 (by decide)) e_ra)⟩, (fun j hj => by rw [show M3 83 j = M 83 j from (Eq.trans (k4 83 j (by unfold WR1; omega)) rfl), show M3 84 j = M 84 j from (Eq.trans (k4 84 j (by unfold WR1; omega)) rfl)]; exact hsl j hj), ⟨ic, by omega, (Eq.trans (k4 62 34 (by decide)) e_ic)⟩, (fun j hj => by obtain ⟨q, hq, eq⟩ := hS j hj; exact ⟨q, hq, (show M3 75 j = M 75 j from (Eq.trans (k4 75 j (by unfold WR1; omega)) rfl)).trans eq⟩)⟩⟩)
    · refine xr_iconst (v := -1) dX10_mistake_22 rfl ?_
      exact xr_iret dX10_mistake_23 rfl rfl (⟨_, rfl, rfl, rfl, Ke.rf, ⟨⟨hn, by omega, e_hn, (fun kw hkw => by rw [show M 63 (5 + kw) = M 63 (5 + kw) from rfl]; exact hw kw hkw)⟩, (by rw [show M 63 16 = M 63 16 from rfl]; exact hbt), ⟨un, wn, by omega, by omega, e_un, e_wn⟩, (fun kk hkk => by rw [show M 64 kk = M 64 kk from rfl, show M 65 kk = M 65 kk from rfl, show M 66 kk = M 66 kk from rfl]; exact hch kk hkk), ⟨n, by omega, e_n⟩, (by rw [show M 62 13 = M 62 13 from rfl]; exact htx), ⟨b, by omega, e_b⟩, (fun j hj => by obtain ⟨q, hq, eq⟩ := hkd j hj; exact ⟨q, hq, (show M 81 j = M 81 j from rfl).trans eq⟩), ⟨ra, by omega, e_ra⟩, (fun j hj => by rw [show M 83 j = M 83 j from rfl, show M 84 j = M 84 j from rfl]; exact hsl j hj), ⟨ic, by omega, e_ic⟩, (fun j hj => by obtain ⟨q, hq, eq⟩ := hS j hj; exact ⟨q, hq, (show M 75 j = M 75 j from rfl).trans eq⟩)⟩⟩)
set_option maxRecDepth 100000 in
set_option maxHeartbeats 4000000 in
theorem g_X10_rescue (h fp : Int32) {l : Launch} {G : xG} {M : xM} {J : xJ} (hI : InvR M) : x_M l G fX10_rescue 63 0 0 [.ref (62), .int (h), .int (fp)] x_SH M J (qKI WR1 M J (fun r M2 => InvR M2)) := by
  refine xb_of pX10 (Nat.le_of_ble_eq_true rfl) rfl ?_
  obtain ⟨⟨hn, h_hn, e_hn, hw⟩, hbt, ⟨un, wn, h_uw, h_wn, e_un, e_wn⟩, hch, ⟨n, h_n, e_n⟩, htx, ⟨b, h_b, e_b⟩, hkd, ⟨ra, h_ra, e_ra⟩, hsl, ⟨ic, h_ic, e_ic⟩, hS⟩ := hI
  refine xr_aload_n dX10_rescue_0 0 rfl ?_
  refine xr_iload_n dX10_rescue_1 1 rfl ?_
  refine xb_cV (As := [.int (h)]) (rest := []) mlX10_133 (c_X10_isHoop h (by omega) e_hn) dX10_rescue_2 s_62 rfl rfl (Nat.le_of_ble_eq_true rfl) (by decide) (by decide) ?_
  refine xb_beq (tgt := 36) dX10_rescue_5 rfl (fun c1 => ?_) (fun c1 => ?_)
  · refine xr_iconst (v := -1) dX10_rescue_36 rfl ?_
    exact xr_iret dX10_rescue_37 rfl rfl (⟨_, rfl, rfl, rfl, Ke.rf, ⟨⟨hn, by omega, e_hn, (fun kw hkw => by rw [show M 63 (5 + kw) = M 63 (5 + kw) from rfl]; exact hw kw hkw)⟩, (by rw [show M 63 16 = M 63 16 from rfl]; exact hbt), ⟨un, wn, by omega, by omega, e_un, e_wn⟩, (fun kk hkk => by rw [show M 64 kk = M 64 kk from rfl, show M 65 kk = M 65 kk from rfl, show M 66 kk = M 66 kk from rfl]; exact hch kk hkk), ⟨n, by omega, e_n⟩, (by rw [show M 62 13 = M 62 13 from rfl]; exact htx), ⟨b, by omega, e_b⟩, (fun j hj => by obtain ⟨q, hq, eq⟩ := hkd j hj; exact ⟨q, hq, (show M 81 j = M 81 j from rfl).trans eq⟩), ⟨ra, by omega, e_ra⟩, (fun j hj => by rw [show M 83 j = M 83 j from rfl, show M 84 j = M 84 j from rfl]; exact hsl j hj), ⟨ic, by omega, e_ic⟩, (fun j hj => by obtain ⟨q, hq, eq⟩ := hS j hj; exact ⟨q, hq, (show M 75 j = M 75 j from rfl).trans eq⟩)⟩⟩)
  · obtain ⟨h_, hh_, rfl⟩ := x_nat (N := hn) (by omega) rfl c1
    refine xr_iload_n dX10_rescue_8 2 rfl ?_
    refine xr_if_lt (tgt := 36) dX10_rescue_9 rfl (fun c2 => ?_) (fun c2 => ?_)
    · refine xr_iconst (v := -1) dX10_rescue_36 rfl ?_
      exact xr_iret dX10_rescue_37 rfl rfl (⟨_, rfl, rfl, rfl, Ke.rf, ⟨⟨hn, by omega, e_hn, (fun kw hkw => by rw [show M 63 (5 + kw) = M 63 (5 + kw) from rfl]; exact hw kw hkw)⟩, (by rw [show M 63 16 = M 63 16 from rfl]; exact hbt), ⟨un, wn, by omega, by omega, e_un, e_wn⟩, (fun kk hkk => by rw [show M 64 kk = M 64 kk from rfl, show M 65 kk = M 65 kk from rfl, show M 66 kk = M 66 kk from rfl]; exact hch kk hkk), ⟨n, by omega, e_n⟩, (by rw [show M 62 13 = M 62 13 from rfl]; exact htx), ⟨b, by omega, e_b⟩, (fun j hj => by obtain ⟨q, hq, eq⟩ := hkd j hj; exact ⟨q, hq, (show M 81 j = M 81 j from rfl).trans eq⟩), ⟨ra, by omega, e_ra⟩, (fun j hj => by rw [show M 83 j = M 83 j from rfl, show M 84 j = M 84 j from rfl]; exact hsl j hj), ⟨ic, by omega, e_ic⟩, (fun j hj => by obtain ⟨q, hq, eq⟩ := hS j hj; exact ⟨q, hq, (show M 75 j = M 75 j from rfl).trans eq⟩)⟩⟩)
    · refine xr_iload_n dX10_rescue_12 2 rfl ?_
      refine xr_bipush (v := 100) dX10_rescue_13 rfl ?_
      refine xr_idiv dX10_rescue_15 (by decide) ?_
      refine xr_i2l dX10_rescue_16 ?_
      refine xr_lconst (v := 1) dX10_rescue_17 rfl ?_
      refine xr_ldc2 coX10_129 dX10_rescue_18 ?_
      refine xb_cS (As := [.long (((fp / 100)).toInt64), .long (1), .long (5)]) (rest := []) mlX10_101 (c_within32 ((fp / 100)) (1) (5) (by decide) (by decide)) dX10_rescue_21 rfl rfl (Nat.le_of_ble_eq_true rfl) (by decide) (by decide) ?_
      refine xb_beq (tgt := 36) dX10_rescue_24 rfl (fun c3 => ?_) (fun c3 => ?_)
      · refine xr_iconst (v := -1) dX10_rescue_36 rfl ?_
        exact xr_iret dX10_rescue_37 rfl rfl (⟨_, rfl, rfl, rfl, Ke.rf, ⟨⟨hn, by omega, e_hn, (fun kw hkw => by rw [show M 63 (5 + kw) = M 63 (5 + kw) from rfl]; exact hw kw hkw)⟩, (by rw [show M 63 16 = M 63 16 from rfl]; exact hbt), ⟨un, wn, by omega, by omega, e_un, e_wn⟩, (fun kk hkk => by rw [show M 64 kk = M 64 kk from rfl, show M 65 kk = M 65 kk from rfl, show M 66 kk = M 66 kk from rfl]; exact hch kk hkk), ⟨n, by omega, e_n⟩, (by rw [show M 62 13 = M 62 13 from rfl]; exact htx), ⟨b, by omega, e_b⟩, (fun j hj => by obtain ⟨q, hq, eq⟩ := hkd j hj; exact ⟨q, hq, (show M 81 j = M 81 j from rfl).trans eq⟩), ⟨ra, by omega, e_ra⟩, (fun j hj => by rw [show M 83 j = M 83 j from rfl, show M 84 j = M 84 j from rfl]; exact hsl j hj), ⟨ic, by omega, e_ic⟩, (fun j hj => by obtain ⟨q, hq, eq⟩ := hS j hj; exact ⟨q, hq, (show M 75 j = M 75 j from rfl).trans eq⟩)⟩⟩)
      · refine xr_iload_n dX10_rescue_27 2 rfl ?_
        refine xr_bipush (v := 100) dX10_rescue_28 rfl ?_
        refine xr_irem dX10_rescue_30 (by decide) ?_
        refine xr_bipush (v := 24) dX10_rescue_31 rfl ?_
        refine xr_icmp_lt (tgt := 38) dX10_rescue_33 rfl (fun c4 => ?_) (fun c4 => ?_)
        · refine xr_aload_n dX10_rescue_38 0 rfl ?_
          refine xr_iload_n dX10_rescue_39 1 rfl ?_
          refine xr_callV (As := [.int (nI (h_))]) (rest := []) mlX10_264 (g_X10_fallOf (h := h_) (by omega) h_hn e_hn (fun kw hkw => by rw [show M 63 (5 + kw) = M 63 (5 + kw) from rfl]; exact hw kw hkw) (by rw [show M 63 16 = M 63 16 from rfl]; exact hbt) (by rw [show M 62 13 = M 62 13 from rfl]; exact htx)) dX10_rescue_40 s_62 rfl rfl (Nat.le_of_ble_eq_true rfl) (by decide) ⟨by decide, by decide⟩ (fun v s2 M5 J2 hq => ?_)
          obtain ⟨r7, rfl, rfl, rfl, k6, _⟩ := hq
          try dsimp only [Option.toList, List.cons_append, List.nil_append]
          refine xr_istore_n (ls2 := [(3, .int (r7)), (0, .ref (62)), (1, .int (nI (h_))), (2, .int (fp))]) dX10_rescue_43 (by decide) rfl ?_
          refine xr_iload_n dX10_rescue_44 0 rfl ?_
          refine xr_if_eq (tgt := 55) dX10_rescue_45 rfl (fun c8 => ?_) (fun c8 => ?_)
          · refine xr_bipush (v := -5) dX10_rescue_55 rfl ?_
            exact xr_iret dX10_rescue_57 rfl rfl (⟨_, rfl, rfl, rfl, (Ke.tr (fun _ _ h => h) Ke.rf k6), ⟨⟨hn, by omega, (Eq.trans (k6 62 6 (by decide)) e_hn), (fun kw hkw => by rw [show M5 63 (5 + kw) = M 63 (5 + kw) from (Eq.trans (k6 63 (5 + kw) (by unfold WR1; omega)) rfl)]; exact hw kw hkw)⟩, (by rw [show M5 63 16 = M 63 16 from (Eq.trans (k6 63 16 (by unfold WR1; omega)) rfl)]; exact hbt), ⟨un, wn, by omega, by omega, (Eq.trans (k6 62 5 (by decide)) e_un), (Eq.trans (k6 62 4 (by decide)) e_wn)⟩, (fun kk hkk => by rw [show M5 64 kk = M 64 kk from (Eq.trans (k6 64 kk (by unfold WR1; omega)) rfl), show M5 65 kk = M 65 kk from (Eq.trans (k6 65 kk (by unfold WR1; omega)) rfl), show M5 66 kk = M 66 kk from (Eq.trans (k6 66 kk (by unfold WR1; omega)) rfl)]; exact hch kk hkk), ⟨n, by omega, (Eq.trans (k6 62 11 (by decide)) e_n)⟩, (by rw [show M5 62 13 = M 62 13 from (Eq.trans (k6 62 13 (by unfold WR1; omega)) rfl)]; exact htx), ⟨b, by omega, (Eq.trans (k6 62 36 (by decide)) e_b)⟩, (fun j hj => by obtain ⟨q, hq, eq⟩ := hkd j hj; exact ⟨q, hq, (show M5 81 j = M 81 j from (Eq.trans (k6 81 j (by unfold WR1; omega)) rfl)).trans eq⟩), ⟨ra, by omega, (Eq.trans (k6 62 39 (by decide)) e_ra)⟩, (fun j hj => by rw [show M5 83 j = M 83 j from (Eq.trans (k6 83 j (by unfold WR1; omega)) rfl), show M5 84 j = M 84 j from (Eq.trans (k6 84 j (by unfold WR1; omega)) rfl)]; exact hsl j hj), ⟨ic, by omega, (Eq.trans (k6 62 34 (by decide)) e_ic)⟩, (fun j hj => by obtain ⟨q, hq, eq⟩ := hS j hj; exact ⟨q, hq, (show M5 75 j = M 75 j from (Eq.trans (k6 75 j (by unfold WR1; omega)) rfl)).trans eq⟩)⟩⟩)
          · refine xr_iload_n dX10_rescue_48 0 rfl ?_
            refine xr_sipush (v := 201) dX10_rescue_49 rfl ?_
            refine xr_icmp_ne (tgt := 58) dX10_rescue_52 rfl (fun c9 => ?_) (fun c9 => ?_)
            · refine xr_iconst (v := 0) dX10_rescue_58 rfl ?_
              refine xr_istore (ls2 := [(4, .int (0)), (3, .int (r7)), (0, .ref (62)), (1, .int (nI (h_))), (2, .int (fp))]) dX10_rescue_59 (by decide) rfl ?_
              refine xb_ls (ls2 := [(4, .int (nI (0))), (3, .int (r7)), (2, .int (fp)), (1, .int (nI (h_))), (0, .ref (62))]) [0, 1, 4, 3, 2] rfl ?_
              refine rr_l (by omega) h_hn (Eq.trans (k6 62 6 (by decide)) e_hn) (fun kw hkw => by rw [show M5 63 (5 + kw) = M 63 (5 + kw) from (Eq.trans (k6 63 (5 + kw) (by unfold WR1; omega)) rfl)]; exact hw kw hkw) (by rw [show M5 63 16 = M 63 16 from (Eq.trans (k6 63 16 (by unfold WR1; omega)) rfl)]; exact hbt) (by rw [show M5 62 13 = M 62 13 from (Eq.trans (k6 62 13 (by unfold WR1; omega)) rfl)]; exact htx) (fun M10 k11 => ?_) (fun r M2 hk => ⟨_, rfl, rfl, rfl, Ke.tr (fun _ _ h => h) (Ke.tr (fun _ _ h => h) Ke.rf k6) hk, ⟨⟨hn, by omega, (Eq.trans (hk 62 6 (by decide)) (Eq.trans (k6 62 6 (by decide)) e_hn)), (fun kw hkw => by rw [show M2 63 (5 + kw) = M 63 (5 + kw) from (Eq.trans (hk 63 (5 + kw) (by unfold WR1; omega)) (Eq.trans (k6 63 (5 + kw) (by unfold WR1; omega)) rfl))]; exact hw kw hkw)⟩, (by rw [show M2 63 16 = M 63 16 from (Eq.trans (hk 63 16 (by unfold WR1; omega)) (Eq.trans (k6 63 16 (by unfold WR1; omega)) rfl))]; exact hbt), ⟨un, wn, by omega, by omega, (Eq.trans (hk 62 5 (by decide)) (Eq.trans (k6 62 5 (by decide)) e_un)), (Eq.trans (hk 62 4 (by decide)) (Eq.trans (k6 62 4 (by decide)) e_wn))⟩, (fun kk hkk => by rw [show M2 64 kk = M 64 kk from (Eq.trans (hk 64 kk (by unfold WR1; omega)) (Eq.trans (k6 64 kk (by unfold WR1; omega)) rfl)), show M2 65 kk = M 65 kk from (Eq.trans (hk 65 kk (by unfold WR1; omega)) (Eq.trans (k6 65 kk (by unfold WR1; omega)) rfl)), show M2 66 kk = M 66 kk from (Eq.trans (hk 66 kk (by unfold WR1; omega)) (Eq.trans (k6 66 kk (by unfold WR1; omega)) rfl))]; exact hch kk hkk), ⟨n, by omega, (Eq.trans (hk 62 11 (by decide)) (Eq.trans (k6 62 11 (by decide)) e_n))⟩, (by rw [show M2 62 13 = M 62 13 from (Eq.trans (hk 62 13 (by unfold WR1; omega)) (Eq.trans (k6 62 13 (by unfold WR1; omega)) rfl))]; exact htx), ⟨b, by omega, (Eq.trans (hk 62 36 (by decide)) (Eq.trans (k6 62 36 (by decide)) e_b))⟩, (fun j hj => by obtain ⟨q, hq, eq⟩ := hkd j hj; exact ⟨q, hq, (show M2 81 j = M 81 j from (Eq.trans (hk 81 j (by unfold WR1; omega)) (Eq.trans (k6 81 j (by unfold WR1; omega)) rfl))).trans eq⟩), ⟨ra, by omega, (Eq.trans (hk 62 39 (by decide)) (Eq.trans (k6 62 39 (by decide)) e_ra))⟩, (fun j hj => by rw [show M2 83 j = M 83 j from (Eq.trans (hk 83 j (by unfold WR1; omega)) (Eq.trans (k6 83 j (by unfold WR1; omega)) rfl)), show M2 84 j = M 84 j from (Eq.trans (hk 84 j (by unfold WR1; omega)) (Eq.trans (k6 84 j (by unfold WR1; omega)) rfl))]; exact hsl j hj), ⟨ic, by omega, (Eq.trans (hk 62 34 (by decide)) (Eq.trans (k6 62 34 (by decide)) e_ic))⟩, (fun j hj => by obtain ⟨q, hq, eq⟩ := hS j hj; exact ⟨q, hq, (show M2 75 j = M 75 j from (Eq.trans (hk 75 j (by unfold WR1; omega)) (Eq.trans (k6 75 j (by unfold WR1; omega)) rfl))).trans eq⟩)⟩⟩) (100 - 0) 0 M5 (by omega) Ke.rf
              refine xr_bipush (v := -2) dX10_rescue_96 rfl ?_
              exact xr_iret dX10_rescue_98 rfl rfl (⟨_, rfl, rfl, rfl, (Ke.tr (fun _ _ h => h) (Ke.tr (fun _ _ h => h) Ke.rf k6) k11), ⟨⟨hn, by omega, (Eq.trans (k11 62 6 (by decide)) (Eq.trans (k6 62 6 (by decide)) e_hn)), (fun kw hkw => by rw [show M10 63 (5 + kw) = M 63 (5 + kw) from (Eq.trans (k11 63 (5 + kw) (by unfold WR1; omega)) (Eq.trans (k6 63 (5 + kw) (by unfold WR1; omega)) rfl))]; exact hw kw hkw)⟩, (by rw [show M10 63 16 = M 63 16 from (Eq.trans (k11 63 16 (by unfold WR1; omega)) (Eq.trans (k6 63 16 (by unfold WR1; omega)) rfl))]; exact hbt), ⟨un, wn, by omega, by omega, (Eq.trans (k11 62 5 (by decide)) (Eq.trans (k6 62 5 (by decide)) e_un)), (Eq.trans (k11 62 4 (by decide)) (Eq.trans (k6 62 4 (by decide)) e_wn))⟩, (fun kk hkk => by rw [show M10 64 kk = M 64 kk from (Eq.trans (k11 64 kk (by unfold WR1; omega)) (Eq.trans (k6 64 kk (by unfold WR1; omega)) rfl)), show M10 65 kk = M 65 kk from (Eq.trans (k11 65 kk (by unfold WR1; omega)) (Eq.trans (k6 65 kk (by unfold WR1; omega)) rfl)), show M10 66 kk = M 66 kk from (Eq.trans (k11 66 kk (by unfold WR1; omega)) (Eq.trans (k6 66 kk (by unfold WR1; omega)) rfl))]; exact hch kk hkk), ⟨n, by omega, (Eq.trans (k11 62 11 (by decide)) (Eq.trans (k6 62 11 (by decide)) e_n))⟩, (by rw [show M10 62 13 = M 62 13 from (Eq.trans (k11 62 13 (by unfold WR1; omega)) (Eq.trans (k6 62 13 (by unfold WR1; omega)) rfl))]; exact htx), ⟨b, by omega, (Eq.trans (k11 62 36 (by decide)) (Eq.trans (k6 62 36 (by decide)) e_b))⟩, (fun j hj => by obtain ⟨q, hq, eq⟩ := hkd j hj; exact ⟨q, hq, (show M10 81 j = M 81 j from (Eq.trans (k11 81 j (by unfold WR1; omega)) (Eq.trans (k6 81 j (by unfold WR1; omega)) rfl))).trans eq⟩), ⟨ra, by omega, (Eq.trans (k11 62 39 (by decide)) (Eq.trans (k6 62 39 (by decide)) e_ra))⟩, (fun j hj => by rw [show M10 83 j = M 83 j from (Eq.trans (k11 83 j (by unfold WR1; omega)) (Eq.trans (k6 83 j (by unfold WR1; omega)) rfl)), show M10 84 j = M 84 j from (Eq.trans (k11 84 j (by unfold WR1; omega)) (Eq.trans (k6 84 j (by unfold WR1; omega)) rfl))]; exact hsl j hj), ⟨ic, by omega, (Eq.trans (k11 62 34 (by decide)) (Eq.trans (k6 62 34 (by decide)) e_ic))⟩, (fun j hj => by obtain ⟨q, hq, eq⟩ := hS j hj; exact ⟨q, hq, (show M10 75 j = M 75 j from (Eq.trans (k11 75 j (by unfold WR1; omega)) (Eq.trans (k6 75 j (by unfold WR1; omega)) rfl))).trans eq⟩)⟩⟩)
            · refine xr_bipush (v := -5) dX10_rescue_55 rfl ?_
              exact xr_iret dX10_rescue_57 rfl rfl (⟨_, rfl, rfl, rfl, (Ke.tr (fun _ _ h => h) Ke.rf k6), ⟨⟨hn, by omega, (Eq.trans (k6 62 6 (by decide)) e_hn), (fun kw hkw => by rw [show M5 63 (5 + kw) = M 63 (5 + kw) from (Eq.trans (k6 63 (5 + kw) (by unfold WR1; omega)) rfl)]; exact hw kw hkw)⟩, (by rw [show M5 63 16 = M 63 16 from (Eq.trans (k6 63 16 (by unfold WR1; omega)) rfl)]; exact hbt), ⟨un, wn, by omega, by omega, (Eq.trans (k6 62 5 (by decide)) e_un), (Eq.trans (k6 62 4 (by decide)) e_wn)⟩, (fun kk hkk => by rw [show M5 64 kk = M 64 kk from (Eq.trans (k6 64 kk (by unfold WR1; omega)) rfl), show M5 65 kk = M 65 kk from (Eq.trans (k6 65 kk (by unfold WR1; omega)) rfl), show M5 66 kk = M 66 kk from (Eq.trans (k6 66 kk (by unfold WR1; omega)) rfl)]; exact hch kk hkk), ⟨n, by omega, (Eq.trans (k6 62 11 (by decide)) e_n)⟩, (by rw [show M5 62 13 = M 62 13 from (Eq.trans (k6 62 13 (by unfold WR1; omega)) rfl)]; exact htx), ⟨b, by omega, (Eq.trans (k6 62 36 (by decide)) e_b)⟩, (fun j hj => by obtain ⟨q, hq, eq⟩ := hkd j hj; exact ⟨q, hq, (show M5 81 j = M 81 j from (Eq.trans (k6 81 j (by unfold WR1; omega)) rfl)).trans eq⟩), ⟨ra, by omega, (Eq.trans (k6 62 39 (by decide)) e_ra)⟩, (fun j hj => by rw [show M5 83 j = M 83 j from (Eq.trans (k6 83 j (by unfold WR1; omega)) rfl), show M5 84 j = M 84 j from (Eq.trans (k6 84 j (by unfold WR1; omega)) rfl)]; exact hsl j hj), ⟨ic, by omega, (Eq.trans (k6 62 34 (by decide)) e_ic)⟩, (fun j hj => by obtain ⟨q, hq, eq⟩ := hS j hj; exact ⟨q, hq, (show M5 75 j = M 75 j from (Eq.trans (k6 75 j (by unfold WR1; omega)) rfl)).trans eq⟩)⟩⟩)
        · refine xr_iconst (v := -1) dX10_rescue_36 rfl ?_
          exact xr_iret dX10_rescue_37 rfl rfl (⟨_, rfl, rfl, rfl, Ke.rf, ⟨⟨hn, by omega, e_hn, (fun kw hkw => by rw [show M 63 (5 + kw) = M 63 (5 + kw) from rfl]; exact hw kw hkw)⟩, (by rw [show M 63 16 = M 63 16 from rfl]; exact hbt), ⟨un, wn, by omega, by omega, e_un, e_wn⟩, (fun kk hkk => by rw [show M 64 kk = M 64 kk from rfl, show M 65 kk = M 65 kk from rfl, show M 66 kk = M 66 kk from rfl]; exact hch kk hkk), ⟨n, by omega, e_n⟩, (by rw [show M 62 13 = M 62 13 from rfl]; exact htx), ⟨b, by omega, e_b⟩, (fun j hj => by obtain ⟨q, hq, eq⟩ := hkd j hj; exact ⟨q, hq, (show M 81 j = M 81 j from rfl).trans eq⟩), ⟨ra, by omega, e_ra⟩, (fun j hj => by rw [show M 83 j = M 83 j from rfl, show M 84 j = M 84 j from rfl]; exact hsl j hj), ⟨ic, by omega, e_ic⟩, (fun j hj => by obtain ⟨q, hq, eq⟩ := hS j hj; exact ⟨q, hq, (show M 75 j = M 75 j from rfl).trans eq⟩)⟩⟩)
set_option maxRecDepth 100000 in
set_option maxHeartbeats 4000000 in
theorem g_X10_beatFor (w : Int32) {l : Launch} {G : xG} {M : xM} {J : xJ} (hI : InvR M) : x_M l G fX10_beatFor 64 0 0 [.ref (62), .int (w)] x_SH M J (qKI WRB M J (fun r M2 => InvR M2)) := by
  refine xb_of pX10 (Nat.le_of_ble_eq_true rfl) rfl ?_
  obtain ⟨⟨hn, h_hn, e_hn, hw⟩, hbt, ⟨un, wn, h_uw, h_wn, e_un, e_wn⟩, hch, ⟨n, h_n, e_n⟩, htx, ⟨b, h_b, e_b⟩, hkd, ⟨ra, h_ra, e_ra⟩, hsl, ⟨ic, h_ic, e_ic⟩, hS⟩ := hI
  refine xr_iload_n dX10_beatFor_0 1 rfl ?_
  refine xr_i2l dX10_beatFor_1 ?_
  refine xr_lconst (v := 0) dX10_beatFor_2 rfl ?_
  refine xr_lconst (v := 1) dX10_beatFor_3 rfl ?_
  refine xb_cS (As := [.long ((w).toInt64), .long (0), .long (1)]) (rest := []) mlX10_101 (c_within32 (w) (0) (1) (by decide) (by decide)) dX10_beatFor_4 rfl rfl (Nat.le_of_ble_eq_true rfl) (by decide) (by decide) ?_
  refine xb_bne (tgt := 12) dX10_beatFor_7 rfl (fun c1 => ?_) (fun c1 => ?_)
  · refine xr_aload_n dX10_beatFor_12 0 rfl ?_
    refine xr_getR flX10_9 dX10_beatFor_13 s_62 rfl ?_
    refine xr_bipush (v := 16) dX10_beatFor_16 rfl ?_
    refine xb_iald (j := 16) (v := (M 63 16)) dX10_beatFor_18 s_63 (by decide) (by decide) rfl ?_
    refine xr_istore_n (ls2 := [(2, .int ((M 63 16))), (0, .ref (62)), (1, .int (w))]) dX10_beatFor_19 (by decide) rfl ?_
    refine xr_aload_n dX10_beatFor_20 1 rfl ?_
    refine xr_getR flX10_9 dX10_beatFor_21 s_62 rfl ?_
    refine xr_bipush (v := 17) dX10_beatFor_24 rfl ?_
    refine xb_iald (j := 17) (v := M 63 17) dX10_beatFor_26 s_63 (by decide) (by decide) rfl ?_
    refine xr_istore_n (ls2 := [(3, .int (M 63 17)), (2, .int ((M 63 16))), (0, .ref (62)), (1, .int (w))]) dX10_beatFor_27 (by decide) rfl ?_
    refine xr_iconst (v := 0) dX10_beatFor_28 rfl ?_
    refine xr_istore (ls2 := [(4, .int (0)), (3, .int (M 63 17)), (2, .int ((M 63 16))), (0, .ref (62)), (1, .int (w))]) dX10_beatFor_29 (by decide) rfl ?_
    refine xr_iconst (v := -1) dX10_beatFor_31 rfl ?_
    refine xr_istore (ls2 := [(5, .int ((-1))), (4, .int (0)), (3, .int (M 63 17)), (2, .int ((M 63 16))), (0, .ref (62)), (1, .int (w))]) dX10_beatFor_32 (by decide) rfl ?_
    refine xr_iconst (v := 2) dX10_beatFor_34 rfl ?_
    refine xr_istore (ls2 := [(6, .int (2)), (5, .int ((-1))), (4, .int (0)), (3, .int (M 63 17)), (2, .int ((M 63 16))), (0, .ref (62)), (1, .int (w))]) dX10_beatFor_35 (by decide) rfl ?_
    refine xb_ls (ls2 := [(6, .int (nI (2))), (5, .int ((-1))), (4, .int (0)), (3, .int (M 63 17)), (2, .int ((M 63 16))), (1, .int (w)), (0, .ref (62))]) [0, 1, 2, 3, 4, 6, 5] rfl ?_
    refine rbo_l h_hn e_hn (fun kw hkw => by rw [show M 63 (5 + kw) = M 63 (5 + kw) from rfl]; exact hw kw hkw) (by rw [show M 63 16 = M 63 16 from rfl]; exact hbt) (by rw [show M 62 13 = M 62 13 from rfl]; exact htx) (fun q2 q3 M4 k5 hE => ?_) (25 - 2) 2 (-1) 0 M (by omega) Ke.rf ⟨by omega, hbt⟩
    refine xr_aload_n dX10_beatFor_128 5 rfl ?_
    refine xr_getR flX10_9 dX10_beatFor_129 s_62 rfl ?_
    refine xr_bipush (v := 16) dX10_beatFor_132 rfl ?_
    refine xr_iload_n dX10_beatFor_134 3 rfl ?_
    refine xb_iast (j := 16) dX10_beatFor_135 s_63 (by decide) (by decide) ?_
    refine xr_aload_n dX10_beatFor_136 5 rfl ?_
    refine xr_getR flX10_9 dX10_beatFor_137 s_62 rfl ?_
    refine xr_bipush (v := 17) dX10_beatFor_140 rfl ?_
    refine xr_iload_n dX10_beatFor_142 2 rfl ?_
    refine xb_iast (j := 17) dX10_beatFor_143 s_63 (by decide) (by decide) ?_
    refine xr_iload_n dX10_beatFor_144 4 rfl ?_
    refine xr_if_ne (tgt := 153) dX10_beatFor_145 rfl (fun c6 => ?_) (fun c6 => ?_)
    · refine xr_iload dX10_beatFor_153 0 rfl ?_
      exact xr_iret dX10_beatFor_155 rfl rfl (⟨_, rfl, rfl, rfl, (Ke.up (by decide) (Ke.up (by decide) (Ke.tr (fun _ _ h => h) Ke.rf k5))), ⟨⟨hn, by omega, (Eq.trans (congrFun (x_up_n _ _ _ (by decide)) _) (Eq.trans (congrFun (x_up_n _ _ _ (by decide)) _) (Eq.trans (k5 62 6 (by decide)) e_hn))), (fun kw hkw => by rw [show (x_up (x_up M4 63 16 (M 63 16)) 63 17 (M 63 17)) 63 (5 + kw) = M 63 (5 + kw) from (Eq.trans (x_up_k _ _ _ (by omega)) (Eq.trans (x_up_k _ _ _ (by omega)) (Eq.trans (k5 63 (5 + kw) (by unfold WRB; omega)) rfl)))]; exact hw kw hkw)⟩, (by rw [(Eq.trans (x_up_k _ _ _ (by decide)) (x_up_s _ _ _ _))]; exact hbt), ⟨un, wn, by omega, by omega, (Eq.trans (congrFun (x_up_n _ _ _ (by decide)) _) (Eq.trans (congrFun (x_up_n _ _ _ (by decide)) _) (Eq.trans (k5 62 5 (by decide)) e_un))), (Eq.trans (congrFun (x_up_n _ _ _ (by decide)) _) (Eq.trans (congrFun (x_up_n _ _ _ (by decide)) _) (Eq.trans (k5 62 4 (by decide)) e_wn)))⟩, (fun kk hkk => by rw [show (x_up (x_up M4 63 16 (M 63 16)) 63 17 (M 63 17)) 64 kk = M 64 kk from (Eq.trans (congrFun (x_up_n _ _ _ (by omega)) _) (Eq.trans (congrFun (x_up_n _ _ _ (by omega)) _) (Eq.trans (k5 64 kk (by unfold WRB; omega)) rfl))), show (x_up (x_up M4 63 16 (M 63 16)) 63 17 (M 63 17)) 65 kk = M 65 kk from (Eq.trans (congrFun (x_up_n _ _ _ (by omega)) _) (Eq.trans (congrFun (x_up_n _ _ _ (by omega)) _) (Eq.trans (k5 65 kk (by unfold WRB; omega)) rfl))), show (x_up (x_up M4 63 16 (M 63 16)) 63 17 (M 63 17)) 66 kk = M 66 kk from (Eq.trans (congrFun (x_up_n _ _ _ (by omega)) _) (Eq.trans (congrFun (x_up_n _ _ _ (by omega)) _) (Eq.trans (k5 66 kk (by unfold WRB; omega)) rfl)))]; exact hch kk hkk), ⟨n, by omega, (Eq.trans (congrFun (x_up_n _ _ _ (by decide)) _) (Eq.trans (congrFun (x_up_n _ _ _ (by decide)) _) (Eq.trans (k5 62 11 (by decide)) e_n)))⟩, (by rw [show (x_up (x_up M4 63 16 (M 63 16)) 63 17 (M 63 17)) 62 13 = M 62 13 from (Eq.trans (congrFun (x_up_n _ _ _ (by omega)) _) (Eq.trans (congrFun (x_up_n _ _ _ (by omega)) _) (Eq.trans (k5 62 13 (by unfold WRB; omega)) rfl)))]; exact htx), ⟨b, by omega, (Eq.trans (congrFun (x_up_n _ _ _ (by decide)) _) (Eq.trans (congrFun (x_up_n _ _ _ (by decide)) _) (Eq.trans (k5 62 36 (by decide)) e_b)))⟩, (fun j hj => by obtain ⟨q, hq, eq⟩ := hkd j hj; exact ⟨q, hq, (show (x_up (x_up M4 63 16 (M 63 16)) 63 17 (M 63 17)) 81 j = M 81 j from (Eq.trans (congrFun (x_up_n _ _ _ (by omega)) _) (Eq.trans (congrFun (x_up_n _ _ _ (by omega)) _) (Eq.trans (k5 81 j (by unfold WRB; omega)) rfl)))).trans eq⟩), ⟨ra, by omega, (Eq.trans (congrFun (x_up_n _ _ _ (by decide)) _) (Eq.trans (congrFun (x_up_n _ _ _ (by decide)) _) (Eq.trans (k5 62 39 (by decide)) e_ra)))⟩, (fun j hj => by rw [show (x_up (x_up M4 63 16 (M 63 16)) 63 17 (M 63 17)) 83 j = M 83 j from (Eq.trans (congrFun (x_up_n _ _ _ (by omega)) _) (Eq.trans (congrFun (x_up_n _ _ _ (by omega)) _) (Eq.trans (k5 83 j (by unfold WRB; omega)) rfl))), show (x_up (x_up M4 63 16 (M 63 16)) 63 17 (M 63 17)) 84 j = M 84 j from (Eq.trans (congrFun (x_up_n _ _ _ (by omega)) _) (Eq.trans (congrFun (x_up_n _ _ _ (by omega)) _) (Eq.trans (k5 84 j (by unfold WRB; omega)) rfl)))]; exact hsl j hj), ⟨ic, by omega, (Eq.trans (congrFun (x_up_n _ _ _ (by decide)) _) (Eq.trans (congrFun (x_up_n _ _ _ (by decide)) _) (Eq.trans (k5 62 34 (by decide)) e_ic)))⟩, (fun j hj => by obtain ⟨q, hq, eq⟩ := hS j hj; exact ⟨q, hq, (show (x_up (x_up M4 63 16 (M 63 16)) 63 17 (M 63 17)) 75 j = M 75 j from (Eq.trans (congrFun (x_up_n _ _ _ (by omega)) _) (Eq.trans (congrFun (x_up_n _ _ _ (by omega)) _) (Eq.trans (k5 75 j (by unfold WRB; omega)) rfl)))).trans eq⟩)⟩⟩)
    · refine xr_iload dX10_beatFor_148 1 rfl ?_
      refine xr_goto (tgt := 155) dX10_beatFor_150 rfl ?_
      exact xr_iret dX10_beatFor_155 rfl rfl (⟨_, rfl, rfl, rfl, (Ke.up (by decide) (Ke.up (by decide) (Ke.tr (fun _ _ h => h) Ke.rf k5))), ⟨⟨hn, by omega, (Eq.trans (congrFun (x_up_n _ _ _ (by decide)) _) (Eq.trans (congrFun (x_up_n _ _ _ (by decide)) _) (Eq.trans (k5 62 6 (by decide)) e_hn))), (fun kw hkw => by rw [show (x_up (x_up M4 63 16 (M 63 16)) 63 17 (M 63 17)) 63 (5 + kw) = M 63 (5 + kw) from (Eq.trans (x_up_k _ _ _ (by omega)) (Eq.trans (x_up_k _ _ _ (by omega)) (Eq.trans (k5 63 (5 + kw) (by unfold WRB; omega)) rfl)))]; exact hw kw hkw)⟩, (by rw [(Eq.trans (x_up_k _ _ _ (by decide)) (x_up_s _ _ _ _))]; exact hbt), ⟨un, wn, by omega, by omega, (Eq.trans (congrFun (x_up_n _ _ _ (by decide)) _) (Eq.trans (congrFun (x_up_n _ _ _ (by decide)) _) (Eq.trans (k5 62 5 (by decide)) e_un))), (Eq.trans (congrFun (x_up_n _ _ _ (by decide)) _) (Eq.trans (congrFun (x_up_n _ _ _ (by decide)) _) (Eq.trans (k5 62 4 (by decide)) e_wn)))⟩, (fun kk hkk => by rw [show (x_up (x_up M4 63 16 (M 63 16)) 63 17 (M 63 17)) 64 kk = M 64 kk from (Eq.trans (congrFun (x_up_n _ _ _ (by omega)) _) (Eq.trans (congrFun (x_up_n _ _ _ (by omega)) _) (Eq.trans (k5 64 kk (by unfold WRB; omega)) rfl))), show (x_up (x_up M4 63 16 (M 63 16)) 63 17 (M 63 17)) 65 kk = M 65 kk from (Eq.trans (congrFun (x_up_n _ _ _ (by omega)) _) (Eq.trans (congrFun (x_up_n _ _ _ (by omega)) _) (Eq.trans (k5 65 kk (by unfold WRB; omega)) rfl))), show (x_up (x_up M4 63 16 (M 63 16)) 63 17 (M 63 17)) 66 kk = M 66 kk from (Eq.trans (congrFun (x_up_n _ _ _ (by omega)) _) (Eq.trans (congrFun (x_up_n _ _ _ (by omega)) _) (Eq.trans (k5 66 kk (by unfold WRB; omega)) rfl)))]; exact hch kk hkk), ⟨n, by omega, (Eq.trans (congrFun (x_up_n _ _ _ (by decide)) _) (Eq.trans (congrFun (x_up_n _ _ _ (by decide)) _) (Eq.trans (k5 62 11 (by decide)) e_n)))⟩, (by rw [show (x_up (x_up M4 63 16 (M 63 16)) 63 17 (M 63 17)) 62 13 = M 62 13 from (Eq.trans (congrFun (x_up_n _ _ _ (by omega)) _) (Eq.trans (congrFun (x_up_n _ _ _ (by omega)) _) (Eq.trans (k5 62 13 (by unfold WRB; omega)) rfl)))]; exact htx), ⟨b, by omega, (Eq.trans (congrFun (x_up_n _ _ _ (by decide)) _) (Eq.trans (congrFun (x_up_n _ _ _ (by decide)) _) (Eq.trans (k5 62 36 (by decide)) e_b)))⟩, (fun j hj => by obtain ⟨q, hq, eq⟩ := hkd j hj; exact ⟨q, hq, (show (x_up (x_up M4 63 16 (M 63 16)) 63 17 (M 63 17)) 81 j = M 81 j from (Eq.trans (congrFun (x_up_n _ _ _ (by omega)) _) (Eq.trans (congrFun (x_up_n _ _ _ (by omega)) _) (Eq.trans (k5 81 j (by unfold WRB; omega)) rfl)))).trans eq⟩), ⟨ra, by omega, (Eq.trans (congrFun (x_up_n _ _ _ (by decide)) _) (Eq.trans (congrFun (x_up_n _ _ _ (by decide)) _) (Eq.trans (k5 62 39 (by decide)) e_ra)))⟩, (fun j hj => by rw [show (x_up (x_up M4 63 16 (M 63 16)) 63 17 (M 63 17)) 83 j = M 83 j from (Eq.trans (congrFun (x_up_n _ _ _ (by omega)) _) (Eq.trans (congrFun (x_up_n _ _ _ (by omega)) _) (Eq.trans (k5 83 j (by unfold WRB; omega)) rfl))), show (x_up (x_up M4 63 16 (M 63 16)) 63 17 (M 63 17)) 84 j = M 84 j from (Eq.trans (congrFun (x_up_n _ _ _ (by omega)) _) (Eq.trans (congrFun (x_up_n _ _ _ (by omega)) _) (Eq.trans (k5 84 j (by unfold WRB; omega)) rfl)))]; exact hsl j hj), ⟨ic, by omega, (Eq.trans (congrFun (x_up_n _ _ _ (by decide)) _) (Eq.trans (congrFun (x_up_n _ _ _ (by decide)) _) (Eq.trans (k5 62 34 (by decide)) e_ic)))⟩, (fun j hj => by obtain ⟨q, hq, eq⟩ := hS j hj; exact ⟨q, hq, (show (x_up (x_up M4 63 16 (M 63 16)) 63 17 (M 63 17)) 75 j = M 75 j from (Eq.trans (congrFun (x_up_n _ _ _ (by omega)) _) (Eq.trans (congrFun (x_up_n _ _ _ (by omega)) _) (Eq.trans (k5 75 j (by unfold WRB; omega)) rfl)))).trans eq⟩)⟩⟩)
  · refine xr_iconst (v := -1) dX10_beatFor_10 rfl ?_
    exact xr_iret dX10_beatFor_11 rfl rfl (⟨_, rfl, rfl, rfl, Ke.rf, ⟨⟨hn, by omega, e_hn, (fun kw hkw => by rw [show M 63 (5 + kw) = M 63 (5 + kw) from rfl]; exact hw kw hkw)⟩, (by rw [show M 63 16 = M 63 16 from rfl]; exact hbt), ⟨un, wn, by omega, by omega, e_un, e_wn⟩, (fun kk hkk => by rw [show M 64 kk = M 64 kk from rfl, show M 65 kk = M 65 kk from rfl, show M 66 kk = M 66 kk from rfl]; exact hch kk hkk), ⟨n, by omega, e_n⟩, (by rw [show M 62 13 = M 62 13 from rfl]; exact htx), ⟨b, by omega, e_b⟩, (fun j hj => by obtain ⟨q, hq, eq⟩ := hkd j hj; exact ⟨q, hq, (show M 81 j = M 81 j from rfl).trans eq⟩), ⟨ra, by omega, e_ra⟩, (fun j hj => by rw [show M 83 j = M 83 j from rfl, show M 84 j = M 84 j from rfl]; exact hsl j hj), ⟨ic, by omega, e_ic⟩, (fun j hj => by obtain ⟨q, hq, eq⟩ := hS j hj; exact ⟨q, hq, (show M 75 j = M 75 j from rfl).trans eq⟩)⟩⟩)
set_option maxRecDepth 100000 in
set_option maxHeartbeats 4000000 in
theorem g_X10_leastPush (nn : Int32) {l : Launch} {G : xG} {M : xM} {J : xJ} (hI : InvR M) : x_M l G fX10_leastPush 64 0 0 [.ref (62), .int (nn)] x_SH M J (qKI WRL M J (fun r M2 => InvR M2)) := by
  refine xb_of pX10 (Nat.le_of_ble_eq_true rfl) rfl ?_
  obtain ⟨⟨hn, h_hn, e_hn, hw⟩, hbt, ⟨un, wn, h_uw, h_wn, e_un, e_wn⟩, hch, ⟨n, h_n, e_n⟩, htx, ⟨b, h_b, e_b⟩, hkd, ⟨ra, h_ra, e_ra⟩, hsl, ⟨ic, h_ic, e_ic⟩, hS⟩ := hI
  refine xr_iload_n dX10_leastPush_0 1 rfl ?_
  refine xr_i2l dX10_leastPush_1 ?_
  refine xr_lconst (v := 1) dX10_leastPush_2 rfl ?_
  refine xr_ldc2 coX10_244 dX10_leastPush_3 ?_
  refine xb_cS (As := [.long ((nn).toInt64), .long (1), .long (200)]) (rest := []) mlX10_101 (c_within32 (nn) (1) (200) (by decide) (by decide)) dX10_leastPush_6 rfl rfl (Nat.le_of_ble_eq_true rfl) (by decide) (by decide) ?_
  refine xb_bne (tgt := 14) dX10_leastPush_9 rfl (fun c1 => ?_) (fun c1 => ?_)
  · refine xr_aload_n dX10_leastPush_14 0 rfl ?_
    refine xr_getR flX10_9 dX10_leastPush_15 s_62 rfl ?_
    refine xr_bipush (v := 18) dX10_leastPush_18 rfl ?_
    refine xb_iald (j := 18) (v := M 63 18) dX10_leastPush_20 s_63 (by decide) (by decide) rfl ?_
    refine xr_istore_n (ls2 := [(2, .int (M 63 18)), (0, .ref (62)), (1, .int (nn))]) dX10_leastPush_21 (by decide) rfl ?_
    refine xr_bipush (v := -2) dX10_leastPush_22 rfl ?_
    refine xr_istore_n (ls2 := [(3, .int ((-2))), (2, .int (M 63 18)), (0, .ref (62)), (1, .int (nn))]) dX10_leastPush_24 (by decide) rfl ?_
    refine xr_iconst (v := 5) dX10_leastPush_25 rfl ?_
    refine xr_istore (ls2 := [(4, .int (5)), (3, .int ((-2))), (2, .int (M 63 18)), (0, .ref (62)), (1, .int (nn))]) dX10_leastPush_26 (by decide) rfl ?_
    refine xb_ls (ls2 := [(4, .int (5)), (3, .int ((-2))), (2, .int (M 63 18)), (1, .int (nn)), (0, .ref (62))]) [0, 1, 2, 4, 3] rfl ?_
    refine rlp_l h_hn e_hn (fun kw hkw => by rw [show M 63 (5 + kw) = M 63 (5 + kw) from rfl]; exact hw kw hkw) (by rw [show M 63 16 = M 63 16 from rfl]; exact hbt) (by rw [show M 62 13 = M 62 13 from rfl]; exact htx) (fun q2 M3 k4 => ?_) 6 0 (-2) M (by omega) Ke.rf
    refine xr_aload_n dX10_leastPush_63 2 rfl ?_
    refine xr_getR flX10_9 dX10_leastPush_64 s_62 rfl ?_
    refine xr_bipush (v := 18) dX10_leastPush_67 rfl ?_
    refine xr_iload_n dX10_leastPush_69 1 rfl ?_
    refine xb_iast (j := 18) dX10_leastPush_70 s_63 (by decide) (by decide) ?_
    refine xr_iload_n dX10_leastPush_71 0 rfl ?_
    exact xr_iret dX10_leastPush_72 rfl rfl (⟨_, rfl, rfl, rfl, (Ke.up (by decide) (Ke.tr (fun _ _ h => h) Ke.rf k4)), ⟨⟨hn, by omega, (Eq.trans (congrFun (x_up_n _ _ _ (by decide)) _) (Eq.trans (k4 62 6 (by decide)) e_hn)), (fun kw hkw => by rw [show (x_up M3 63 18 (M 63 18)) 63 (5 + kw) = M 63 (5 + kw) from (Eq.trans (x_up_k _ _ _ (by omega)) (Eq.trans (k4 63 (5 + kw) (by unfold WRL; omega)) rfl))]; exact hw kw hkw)⟩, (by rw [show (x_up M3 63 18 (M 63 18)) 63 16 = M 63 16 from (Eq.trans (x_up_k _ _ _ (by omega)) (Eq.trans (k4 63 16 (by unfold WRL; omega)) rfl))]; exact hbt), ⟨un, wn, by omega, by omega, (Eq.trans (congrFun (x_up_n _ _ _ (by decide)) _) (Eq.trans (k4 62 5 (by decide)) e_un)), (Eq.trans (congrFun (x_up_n _ _ _ (by decide)) _) (Eq.trans (k4 62 4 (by decide)) e_wn))⟩, (fun kk hkk => by rw [show (x_up M3 63 18 (M 63 18)) 64 kk = M 64 kk from (Eq.trans (congrFun (x_up_n _ _ _ (by omega)) _) (Eq.trans (k4 64 kk (by unfold WRL; omega)) rfl)), show (x_up M3 63 18 (M 63 18)) 65 kk = M 65 kk from (Eq.trans (congrFun (x_up_n _ _ _ (by omega)) _) (Eq.trans (k4 65 kk (by unfold WRL; omega)) rfl)), show (x_up M3 63 18 (M 63 18)) 66 kk = M 66 kk from (Eq.trans (congrFun (x_up_n _ _ _ (by omega)) _) (Eq.trans (k4 66 kk (by unfold WRL; omega)) rfl))]; exact hch kk hkk), ⟨n, by omega, (Eq.trans (congrFun (x_up_n _ _ _ (by decide)) _) (Eq.trans (k4 62 11 (by decide)) e_n))⟩, (by rw [show (x_up M3 63 18 (M 63 18)) 62 13 = M 62 13 from (Eq.trans (congrFun (x_up_n _ _ _ (by omega)) _) (Eq.trans (k4 62 13 (by unfold WRL; omega)) rfl))]; exact htx), ⟨b, by omega, (Eq.trans (congrFun (x_up_n _ _ _ (by decide)) _) (Eq.trans (k4 62 36 (by decide)) e_b))⟩, (fun j hj => by obtain ⟨q, hq, eq⟩ := hkd j hj; exact ⟨q, hq, (show (x_up M3 63 18 (M 63 18)) 81 j = M 81 j from (Eq.trans (congrFun (x_up_n _ _ _ (by omega)) _) (Eq.trans (k4 81 j (by unfold WRL; omega)) rfl))).trans eq⟩), ⟨ra, by omega, (Eq.trans (congrFun (x_up_n _ _ _ (by decide)) _) (Eq.trans (k4 62 39 (by decide)) e_ra))⟩, (fun j hj => by rw [show (x_up M3 63 18 (M 63 18)) 83 j = M 83 j from (Eq.trans (congrFun (x_up_n _ _ _ (by omega)) _) (Eq.trans (k4 83 j (by unfold WRL; omega)) rfl)), show (x_up M3 63 18 (M 63 18)) 84 j = M 84 j from (Eq.trans (congrFun (x_up_n _ _ _ (by omega)) _) (Eq.trans (k4 84 j (by unfold WRL; omega)) rfl))]; exact hsl j hj), ⟨ic, by omega, (Eq.trans (congrFun (x_up_n _ _ _ (by decide)) _) (Eq.trans (k4 62 34 (by decide)) e_ic))⟩, (fun j hj => by obtain ⟨q, hq, eq⟩ := hS j hj; exact ⟨q, hq, (show (x_up M3 63 18 (M 63 18)) 75 j = M 75 j from (Eq.trans (congrFun (x_up_n _ _ _ (by omega)) _) (Eq.trans (k4 75 j (by unfold WRL; omega)) rfl))).trans eq⟩)⟩⟩)
  · refine xr_iconst (v := -1) dX10_leastPush_12 rfl ?_
    exact xr_iret dX10_leastPush_13 rfl rfl (⟨_, rfl, rfl, rfl, Ke.rf, ⟨⟨hn, by omega, e_hn, (fun kw hkw => by rw [show M 63 (5 + kw) = M 63 (5 + kw) from rfl]; exact hw kw hkw)⟩, (by rw [show M 63 16 = M 63 16 from rfl]; exact hbt), ⟨un, wn, by omega, by omega, e_un, e_wn⟩, (fun kk hkk => by rw [show M 64 kk = M 64 kk from rfl, show M 65 kk = M 65 kk from rfl, show M 66 kk = M 66 kk from rfl]; exact hch kk hkk), ⟨n, by omega, e_n⟩, (by rw [show M 62 13 = M 62 13 from rfl]; exact htx), ⟨b, by omega, e_b⟩, (fun j hj => by obtain ⟨q, hq, eq⟩ := hkd j hj; exact ⟨q, hq, (show M 81 j = M 81 j from rfl).trans eq⟩), ⟨ra, by omega, e_ra⟩, (fun j hj => by rw [show M 83 j = M 83 j from rfl, show M 84 j = M 84 j from rfl]; exact hsl j hj), ⟨ic, by omega, e_ic⟩, (fun j hj => by obtain ⟨q, hq, eq⟩ := hS j hj; exact ⟨q, hq, (show M 75 j = M 75 j from rfl).trans eq⟩)⟩⟩)
set_option maxRecDepth 100000 in
set_option maxHeartbeats 4000000 in
theorem g_X10_held (nn : Int32) {l : Launch} {G : xG} {M : xM} {J : xJ} (hI : InvR M) : x_M l G fX10_held 63 0 0 [.ref (62), .int (nn)] x_SH M J (qKI WR1 M J (fun r M2 => InvR M2)) := by
  refine xb_of pX10 (Nat.le_of_ble_eq_true rfl) rfl ?_
  obtain ⟨⟨hn, h_hn, e_hn, hw⟩, hbt, ⟨un, wn, h_uw, h_wn, e_un, e_wn⟩, hch, ⟨n, h_n, e_n⟩, htx, ⟨b, h_b, e_b⟩, hkd, ⟨ra, h_ra, e_ra⟩, hsl, ⟨ic, h_ic, e_ic⟩, hS⟩ := hI
  refine xr_iload_n dX10_held_0 1 rfl ?_
  refine xr_i2l dX10_held_1 ?_
  refine xr_lconst (v := 1) dX10_held_2 rfl ?_
  refine xr_ldc2 coX10_244 dX10_held_3 ?_
  refine xb_cS (As := [.long ((nn).toInt64), .long (1), .long (200)]) (rest := []) mlX10_101 (c_within32 (nn) (1) (200) (by decide) (by decide)) dX10_held_6 rfl rfl (Nat.le_of_ble_eq_true rfl) (by decide) (by decide) ?_
  refine xb_bne (tgt := 14) dX10_held_9 rfl (fun c1 => ?_) (fun c1 => ?_)
  · refine xr_aload_n dX10_held_14 0 rfl ?_
    refine xr_callV (As := []) (rest := []) mlX10_246 (g_X10_upNow h_hn e_hn (fun kw hkw => by rw [show M 63 (5 + kw) = M 63 (5 + kw) from rfl]; exact hw kw hkw) (by rw [show M 63 16 = M 63 16 from rfl]; exact hbt) (by rw [show M 62 13 = M 62 13 from rfl]; exact htx)) dX10_held_15 s_62 rfl rfl (Nat.le_of_ble_eq_true rfl) (by decide) ⟨by decide, by decide⟩ (fun v s2 M9 J2 hq => ?_)
    obtain ⟨r2, rfl, rfl, rfl, rfl, _⟩ := hq
    try dsimp only [Option.toList, List.cons_append, List.nil_append]
    refine xr_istore_n (ls2 := [(2, .int (r2)), (0, .ref (62)), (1, .int (nn))]) dX10_held_18 (by decide) rfl ?_
    refine xr_iconst (v := 0) dX10_held_19 rfl ?_
    refine xr_istore_n (ls2 := [(3, .int (0)), (2, .int (r2)), (0, .ref (62)), (1, .int (nn))]) dX10_held_20 (by decide) rfl ?_
    refine xr_iconst (v := 1) dX10_held_21 rfl ?_
    refine xr_istore (ls2 := [(4, .int (1)), (3, .int (0)), (2, .int (r2)), (0, .ref (62)), (1, .int (nn))]) dX10_held_22 (by decide) rfl ?_
    refine xb_ls (ls2 := [(4, .int (nI (1))), (3, .int (0)), (2, .int (r2)), (1, .int (nn)), (0, .ref (62))]) [0, 1, 2, 4, 3] rfl ?_
    obtain ⟨P, hP⟩ : ∃ P : Nat, P = 2 ^ hn := ⟨_, rfl⟩
    have hP2 := sx_p2 h_hn hP
    refine rhd_l h_hn e_hn (fun kw hkw => by rw [show M 63 (5 + kw) = M 63 (5 + kw) from rfl]; exact hw kw hkw) (by rw [show M 63 16 = M 63 16 from rfl]; exact hbt) (by rw [show M 62 13 = M 62 13 from rfl]; exact htx) hP hP2.1 (fun r M2 hk => ⟨_, rfl, rfl, rfl, hk, ?_⟩) (P - 1) 1 _ M (by omega) Ke.rf
    exact ⟨⟨hn, by omega, (Eq.trans (hk 62 6 (by decide)) e_hn), (fun kw hkw => by rw [show M2 63 (5 + kw) = M 63 (5 + kw) from (Eq.trans (hk 63 (5 + kw) (by unfold WR1; omega)) rfl)]; exact hw kw hkw)⟩, (by rw [show M2 63 16 = M 63 16 from (Eq.trans (hk 63 16 (by unfold WR1; omega)) rfl)]; exact hbt), ⟨un, wn, by omega, by omega, (Eq.trans (hk 62 5 (by decide)) e_un), (Eq.trans (hk 62 4 (by decide)) e_wn)⟩, (fun kk hkk => by rw [show M2 64 kk = M 64 kk from (Eq.trans (hk 64 kk (by unfold WR1; omega)) rfl), show M2 65 kk = M 65 kk from (Eq.trans (hk 65 kk (by unfold WR1; omega)) rfl), show M2 66 kk = M 66 kk from (Eq.trans (hk 66 kk (by unfold WR1; omega)) rfl)]; exact hch kk hkk), ⟨n, by omega, (Eq.trans (hk 62 11 (by decide)) e_n)⟩, (by rw [show M2 62 13 = M 62 13 from (Eq.trans (hk 62 13 (by unfold WR1; omega)) rfl)]; exact htx), ⟨b, by omega, (Eq.trans (hk 62 36 (by decide)) e_b)⟩, (fun j hj => by obtain ⟨q, hq, eq⟩ := hkd j hj; exact ⟨q, hq, (show M2 81 j = M 81 j from (Eq.trans (hk 81 j (by unfold WR1; omega)) rfl)).trans eq⟩), ⟨ra, by omega, (Eq.trans (hk 62 39 (by decide)) e_ra)⟩, (fun j hj => by rw [show M2 83 j = M 83 j from (Eq.trans (hk 83 j (by unfold WR1; omega)) rfl), show M2 84 j = M 84 j from (Eq.trans (hk 84 j (by unfold WR1; omega)) rfl)]; exact hsl j hj), ⟨ic, by omega, (Eq.trans (hk 62 34 (by decide)) e_ic)⟩, (fun j hj => by obtain ⟨q, hq, eq⟩ := hS j hj; exact ⟨q, hq, (show M2 75 j = M 75 j from (Eq.trans (hk 75 j (by unfold WR1; omega)) rfl)).trans eq⟩)⟩
  · refine xr_iconst (v := -1) dX10_held_12 rfl ?_
    exact xr_iret dX10_held_13 rfl rfl (⟨_, rfl, rfl, rfl, Ke.rf, ⟨⟨hn, by omega, e_hn, (fun kw hkw => by rw [show M 63 (5 + kw) = M 63 (5 + kw) from rfl]; exact hw kw hkw)⟩, (by rw [show M 63 16 = M 63 16 from rfl]; exact hbt), ⟨un, wn, by omega, by omega, e_un, e_wn⟩, (fun kk hkk => by rw [show M 64 kk = M 64 kk from rfl, show M 65 kk = M 65 kk from rfl, show M 66 kk = M 66 kk from rfl]; exact hch kk hkk), ⟨n, by omega, e_n⟩, (by rw [show M 62 13 = M 62 13 from rfl]; exact htx), ⟨b, by omega, e_b⟩, (fun j hj => by obtain ⟨q, hq, eq⟩ := hkd j hj; exact ⟨q, hq, (show M 81 j = M 81 j from rfl).trans eq⟩), ⟨ra, by omega, e_ra⟩, (fun j hj => by rw [show M 83 j = M 83 j from rfl, show M 84 j = M 84 j from rfl]; exact hsl j hj), ⟨ic, by omega, e_ic⟩, (fun j hj => by obtain ⟨q, hq, eq⟩ := hS j hj; exact ⟨q, hq, (show M 75 j = M 75 j from rfl).trans eq⟩)⟩⟩)
set_option maxRecDepth 100000 in
set_option maxHeartbeats 4000000 in
theorem g_X10_start (h : Int32) {l : Launch} {G : xG} {M : xM} {J : xJ} (hI : InvR M) : x_M l G fX10_start 63 0 0 [.ref (62), .int (h)] x_SH M J (qKI WRS M J (fun r M2 => InvR M2)) := by
  refine xb_of pX10 (Nat.le_of_ble_eq_true rfl) rfl ?_
  obtain ⟨⟨hn, h_hn, e_hn, hw⟩, hbt, ⟨un, wn, h_uw, h_wn, e_un, e_wn⟩, hch, ⟨n, h_n, e_n⟩, htx, ⟨b, h_b, e_b⟩, hkd, ⟨ra, h_ra, e_ra⟩, hsl, ⟨ic, h_ic, e_ic⟩, hS⟩ := hI
  refine xr_aload_n dX10_start_0 0 rfl ?_
  refine xr_iload_n dX10_start_1 1 rfl ?_
  refine xb_cV (As := [.int (h)]) (rest := []) mlX10_133 (c_X10_isHoop h (by omega) e_hn) dX10_start_2 s_62 rfl rfl (Nat.le_of_ble_eq_true rfl) (by decide) (by decide) ?_
  refine xb_bne (tgt := 11) dX10_start_5 rfl (fun c1 => ?_) (fun c1 => ?_)
  · obtain ⟨h_, hh_, rfl⟩ := x_nat (N := hn) (by omega) rfl c1
    refine xr_aload_n dX10_start_11 0 rfl ?_
    refine xr_getR flX10_25 dX10_start_12 s_62 rfl ?_
    refine xr_iload_n dX10_start_15 1 rfl ?_
    refine xb_iald (j := h_) (v := M 68 h_) dX10_start_16 s_68 (by omega) (by decide) rfl ?_
    refine xr_if_ne (tgt := 23) dX10_start_17 rfl (fun c2 => ?_) (fun c2 => ?_)
    · refine xr_aload_n dX10_start_23 0 rfl ?_
      refine xr_getR flX10_9 dX10_start_24 s_62 rfl ?_
      refine xr_bipush (v := 10) dX10_start_27 rfl ?_
      refine xr_iload_n dX10_start_29 1 rfl ?_
      refine xr_iadd dX10_start_30 ?_
      refine xb_top (y := nI (10 + h_)) (nI_add (10) (h_)) ?_
      refine xb_iald (j := 10 + h_) (v := M 63 (10 + h_)) dX10_start_31 s_63 (by omega) (by decide) rfl ?_
      refine xr_istore_n (ls2 := [(2, .int (M 63 (10 + h_))), (0, .ref (62)), (1, .int (nI (h_)))]) dX10_start_32 (by decide) rfl ?_
      refine xr_ldc coX10_140 dX10_start_33 ?_
      refine xr_istore_n (ls2 := [(3, .int ((-2000000000))), (2, .int (M 63 (10 + h_))), (0, .ref (62)), (1, .int (nI (h_)))]) dX10_start_35 (by decide) rfl ?_
      refine xr_iconst (v := -1) dX10_start_36 rfl ?_
      refine xr_istore (ls2 := [(4, .int ((-1))), (3, .int ((-2000000000))), (2, .int (M 63 (10 + h_))), (0, .ref (62)), (1, .int (nI (h_)))]) dX10_start_37 (by decide) rfl ?_
      refine xr_bipush (v := -9) dX10_start_39 rfl ?_
      refine xr_istore (ls2 := [(5, .int ((-9))), (4, .int ((-1))), (3, .int ((-2000000000))), (2, .int (M 63 (10 + h_))), (0, .ref (62)), (1, .int (nI (h_)))]) dX10_start_41 (by decide) rfl ?_
      refine xb_ls (ls2 := [(5, .int ((-9))), (4, .int ((-1))), (3, .int ((-2000000000))), (2, .int (M 63 (10 + h_))), (1, .int (nI (h_))), (0, .ref (62))]) [0, 1, 2, 3, 5, 4] rfl ?_
      refine rst_l (by omega) h_hn e_hn (fun kw hkw => by rw [show M 63 (5 + kw) = M 63 (5 + kw) from rfl]; exact hw kw hkw) (by rw [show M 63 16 = M 63 16 from rfl]; exact hbt) (by rw [show M 62 13 = M 62 13 from rfl]; exact htx) (fun q3 q4 M5 k6 => ?_) 19 0 (-1) (-2000000000) M (by omega) Ke.rf
      refine xr_aload_n dX10_start_104 3 rfl ?_
      refine xr_getR flX10_9 dX10_start_105 s_62 rfl ?_
      refine xr_bipush (v := 10) dX10_start_108 rfl ?_
      refine xr_iload_n dX10_start_110 2 rfl ?_
      refine xr_iadd dX10_start_111 ?_
      refine xb_top (y := nI (10 + h_)) (nI_add (10) (h_)) ?_
      refine xr_iload_n dX10_start_112 1 rfl ?_
      refine xb_iast (j := 10 + h_) dX10_start_113 s_63 (by omega) (by decide) ?_
      refine xr_iload_n dX10_start_114 0 rfl ?_
      exact xr_iret dX10_start_115 rfl rfl (⟨_, rfl, rfl, rfl, (Ke.up (by unfold WRS; omega) (Ke.tr (fun _ _ h => h) Ke.rf k6)), ⟨⟨hn, by omega, (Eq.trans (congrFun (x_up_n _ _ _ (by decide)) _) (Eq.trans (k6 62 6 (by decide)) e_hn)), (fun kw hkw => by rw [show (x_up M5 63 (10 + h_) (M 63 (10 + h_))) 63 (5 + kw) = M 63 (5 + kw) from (Eq.trans (x_up_k _ _ _ (by omega)) (Eq.trans (k6 63 (5 + kw) (by unfold WRS; omega)) rfl))]; exact hw kw hkw)⟩, (by rw [show (x_up M5 63 (10 + h_) (M 63 (10 + h_))) 63 16 = M 63 16 from (Eq.trans (x_up_k _ _ _ (by omega)) (Eq.trans (k6 63 16 (by unfold WRS; omega)) rfl))]; exact hbt), ⟨un, wn, by omega, by omega, (Eq.trans (congrFun (x_up_n _ _ _ (by decide)) _) (Eq.trans (k6 62 5 (by decide)) e_un)), (Eq.trans (congrFun (x_up_n _ _ _ (by decide)) _) (Eq.trans (k6 62 4 (by decide)) e_wn))⟩, (fun kk hkk => by rw [show (x_up M5 63 (10 + h_) (M 63 (10 + h_))) 64 kk = M 64 kk from (Eq.trans (congrFun (x_up_n _ _ _ (by omega)) _) (Eq.trans (k6 64 kk (by unfold WRS; omega)) rfl)), show (x_up M5 63 (10 + h_) (M 63 (10 + h_))) 65 kk = M 65 kk from (Eq.trans (congrFun (x_up_n _ _ _ (by omega)) _) (Eq.trans (k6 65 kk (by unfold WRS; omega)) rfl)), show (x_up M5 63 (10 + h_) (M 63 (10 + h_))) 66 kk = M 66 kk from (Eq.trans (congrFun (x_up_n _ _ _ (by omega)) _) (Eq.trans (k6 66 kk (by unfold WRS; omega)) rfl))]; exact hch kk hkk), ⟨n, by omega, (Eq.trans (congrFun (x_up_n _ _ _ (by decide)) _) (Eq.trans (k6 62 11 (by decide)) e_n))⟩, (by rw [show (x_up M5 63 (10 + h_) (M 63 (10 + h_))) 62 13 = M 62 13 from (Eq.trans (congrFun (x_up_n _ _ _ (by omega)) _) (Eq.trans (k6 62 13 (by unfold WRS; omega)) rfl))]; exact htx), ⟨b, by omega, (Eq.trans (congrFun (x_up_n _ _ _ (by decide)) _) (Eq.trans (k6 62 36 (by decide)) e_b))⟩, (fun j hj => by obtain ⟨q, hq, eq⟩ := hkd j hj; exact ⟨q, hq, (show (x_up M5 63 (10 + h_) (M 63 (10 + h_))) 81 j = M 81 j from (Eq.trans (congrFun (x_up_n _ _ _ (by omega)) _) (Eq.trans (k6 81 j (by unfold WRS; omega)) rfl))).trans eq⟩), ⟨ra, by omega, (Eq.trans (congrFun (x_up_n _ _ _ (by decide)) _) (Eq.trans (k6 62 39 (by decide)) e_ra))⟩, (fun j hj => by rw [show (x_up M5 63 (10 + h_) (M 63 (10 + h_))) 83 j = M 83 j from (Eq.trans (congrFun (x_up_n _ _ _ (by omega)) _) (Eq.trans (k6 83 j (by unfold WRS; omega)) rfl)), show (x_up M5 63 (10 + h_) (M 63 (10 + h_))) 84 j = M 84 j from (Eq.trans (congrFun (x_up_n _ _ _ (by omega)) _) (Eq.trans (k6 84 j (by unfold WRS; omega)) rfl))]; exact hsl j hj), ⟨ic, by omega, (Eq.trans (congrFun (x_up_n _ _ _ (by decide)) _) (Eq.trans (k6 62 34 (by decide)) e_ic))⟩, (fun j hj => by obtain ⟨q, hq, eq⟩ := hS j hj; exact ⟨q, hq, (show (x_up M5 63 (10 + h_) (M 63 (10 + h_))) 75 j = M 75 j from (Eq.trans (congrFun (x_up_n _ _ _ (by omega)) _) (Eq.trans (k6 75 j (by unfold WRS; omega)) rfl))).trans eq⟩)⟩⟩)
    · refine xr_bipush (v := -5) dX10_start_20 rfl ?_
      exact xr_iret dX10_start_22 rfl rfl (⟨_, rfl, rfl, rfl, Ke.rf, ⟨⟨hn, by omega, e_hn, (fun kw hkw => by rw [show M 63 (5 + kw) = M 63 (5 + kw) from rfl]; exact hw kw hkw)⟩, (by rw [show M 63 16 = M 63 16 from rfl]; exact hbt), ⟨un, wn, by omega, by omega, e_un, e_wn⟩, (fun kk hkk => by rw [show M 64 kk = M 64 kk from rfl, show M 65 kk = M 65 kk from rfl, show M 66 kk = M 66 kk from rfl]; exact hch kk hkk), ⟨n, by omega, e_n⟩, (by rw [show M 62 13 = M 62 13 from rfl]; exact htx), ⟨b, by omega, e_b⟩, (fun j hj => by obtain ⟨q, hq, eq⟩ := hkd j hj; exact ⟨q, hq, (show M 81 j = M 81 j from rfl).trans eq⟩), ⟨ra, by omega, e_ra⟩, (fun j hj => by rw [show M 83 j = M 83 j from rfl, show M 84 j = M 84 j from rfl]; exact hsl j hj), ⟨ic, by omega, e_ic⟩, (fun j hj => by obtain ⟨q, hq, eq⟩ := hS j hj; exact ⟨q, hq, (show M 75 j = M 75 j from rfl).trans eq⟩)⟩⟩)
  · refine xr_ldc coX10_140 dX10_start_8 ?_
    exact xr_iret dX10_start_10 rfl rfl (⟨_, rfl, rfl, rfl, Ke.rf, ⟨⟨hn, by omega, e_hn, (fun kw hkw => by rw [show M 63 (5 + kw) = M 63 (5 + kw) from rfl]; exact hw kw hkw)⟩, (by rw [show M 63 16 = M 63 16 from rfl]; exact hbt), ⟨un, wn, by omega, by omega, e_un, e_wn⟩, (fun kk hkk => by rw [show M 64 kk = M 64 kk from rfl, show M 65 kk = M 65 kk from rfl, show M 66 kk = M 66 kk from rfl]; exact hch kk hkk), ⟨n, by omega, e_n⟩, (by rw [show M 62 13 = M 62 13 from rfl]; exact htx), ⟨b, by omega, e_b⟩, (fun j hj => by obtain ⟨q, hq, eq⟩ := hkd j hj; exact ⟨q, hq, (show M 81 j = M 81 j from rfl).trans eq⟩), ⟨ra, by omega, e_ra⟩, (fun j hj => by rw [show M 83 j = M 83 j from rfl, show M 84 j = M 84 j from rfl]; exact hsl j hj), ⟨ic, by omega, e_ic⟩, (fun j hj => by obtain ⟨q, hq, eq⟩ := hS j hj; exact ⟨q, hq, (show M 75 j = M 75 j from rfl).trans eq⟩)⟩⟩)
set_option maxRecDepth 100000 in
set_option maxHeartbeats 4000000 in
theorem g_X10_judge (sh h : Int32) {l : Launch} {G : xG} {M : xM} {J : xJ} (hI : InvR M) : x_M l G fX10_judge 63 0 0 [.ref (62), .int (sh), .int (h)] x_SH M J (qKI WR1 M J (fun r M2 => InvR M2)) := by
  refine xb_of pX10 (Nat.le_of_ble_eq_true rfl) rfl ?_
  obtain ⟨⟨hn, h_hn, e_hn, hw⟩, hbt, ⟨un, wn, h_uw, h_wn, e_un, e_wn⟩, hch, ⟨n, h_n, e_n⟩, htx, ⟨b, h_b, e_b⟩, hkd, ⟨ra, h_ra, e_ra⟩, hsl, ⟨ic, h_ic, e_ic⟩, hS⟩ := hI
  refine xr_aload_n dX10_judge_0 0 rfl ?_
  refine xr_iload_n dX10_judge_1 1 rfl ?_
  refine xr_callV (As := [.int (sh)]) (rest := []) mlX10_285 (g_X10_rowIs sh) dX10_judge_2 s_62 rfl rfl (Nat.le_of_ble_eq_true rfl) (by decide) ⟨by decide, by decide⟩ (fun v s2 M9 J2 hq => ?_)
  obtain ⟨r2, rfl, rfl, rfl, rfl, hx1⟩ := hq
  try dsimp only [Option.toList, List.cons_append, List.nil_append]
  refine xr_iconst (v := -1) dX10_judge_5 rfl ?_
  refine xr_icmp_eq (tgt := 17) dX10_judge_6 rfl (fun c3 => ?_) (fun c3 => ?_)
  · refine xr_iconst (v := -1) dX10_judge_17 rfl ?_
    exact xr_iret dX10_judge_18 rfl rfl (⟨_, rfl, rfl, rfl, Ke.rf, ⟨⟨hn, by omega, e_hn, (fun kw hkw => by rw [show M 63 (5 + kw) = M 63 (5 + kw) from rfl]; exact hw kw hkw)⟩, (by rw [show M 63 16 = M 63 16 from rfl]; exact hbt), ⟨un, wn, by omega, by omega, e_un, e_wn⟩, (fun kk hkk => by rw [show M 64 kk = M 64 kk from rfl, show M 65 kk = M 65 kk from rfl, show M 66 kk = M 66 kk from rfl]; exact hch kk hkk), ⟨n, by omega, e_n⟩, (by rw [show M 62 13 = M 62 13 from rfl]; exact htx), ⟨b, by omega, e_b⟩, (fun j hj => by obtain ⟨q, hq, eq⟩ := hkd j hj; exact ⟨q, hq, (show M 81 j = M 81 j from rfl).trans eq⟩), ⟨ra, by omega, e_ra⟩, (fun j hj => by rw [show M 83 j = M 83 j from rfl, show M 84 j = M 84 j from rfl]; exact hsl j hj), ⟨ic, by omega, e_ic⟩, (fun j hj => by obtain ⟨q, hq, eq⟩ := hS j hj; exact ⟨q, hq, (show M 75 j = M 75 j from rfl).trans eq⟩)⟩⟩)
  · refine xr_aload_n dX10_judge_9 0 rfl ?_
    refine xr_iload_n dX10_judge_10 2 rfl ?_
    refine xb_cV (As := [.int (h)]) (rest := []) mlX10_133 (c_X10_isHoop h (by omega) e_hn) dX10_judge_11 s_62 rfl rfl (Nat.le_of_ble_eq_true rfl) (by decide) (by decide) ?_
    refine xb_bne (tgt := 19) dX10_judge_14 rfl (fun c4 => ?_) (fun c4 => ?_)
    · obtain ⟨h_, hh_, rfl⟩ := x_nat (N := hn) (by omega) rfl c4
      refine xr_aload_n dX10_judge_19 0 rfl ?_
      refine xr_iload_n dX10_judge_20 1 rfl ?_
      refine xr_callV (As := [.int (sh)]) (rest := []) mlX10_285 (g_X10_rowIs sh) dX10_judge_21 s_62 rfl rfl (Nat.le_of_ble_eq_true rfl) (by decide) ⟨by decide, by decide⟩ (fun v s2 M9 J2 hq => ?_)
      obtain ⟨r6, rfl, rfl, rfl, rfl, hx5⟩ := hq
      try dsimp only [Option.toList, List.cons_append, List.nil_append]
      refine xr_if_ge (tgt := 35) dX10_judge_24 rfl (fun c7 => ?_) (fun c7 => ?_)
      · obtain ⟨d_, hd_, rfl⟩ := x_natle (v := sh) (N := 5) (K := 5) (by decide) (by decide) (Or.resolve_left hx5 (by grind))
        obtain ⟨hd83, nm, hnm, e_nm⟩ := hsl d_ (by omega)
        refine xr_aload_n dX10_judge_35 0 rfl ?_
        refine xr_iload_n dX10_judge_36 1 rfl ?_
        refine xr_iload_n dX10_judge_37 2 rfl ?_
        refine xr_callV (As := [.int (nI (d_)), .int (nI (h_))]) (rest := []) mlX10_290 (g_X10_firstFalse (h := h_) (d := d_) (nm := nm) (by omega) (by omega) (by omega) h_hn e_hn (fun kw hkw => by rw [show M 63 (5 + kw) = M 63 (5 + kw) from rfl]; exact hw kw hkw) (by rw [show M 63 16 = M 63 16 from rfl]; exact hbt) (by rw [show M 62 13 = M 62 13 from rfl]; exact htx) e_nm) dX10_judge_38 s_62 rfl rfl (Nat.le_of_ble_eq_true rfl) (by decide) ⟨by decide, by decide⟩ (fun v s2 M8 J2 hq => ?_)
        obtain ⟨r10, rfl, rfl, rfl, k9, _⟩ := hq
        try dsimp only [Option.toList, List.cons_append, List.nil_append]
        exact xr_iret dX10_judge_41 rfl rfl (⟨_, rfl, rfl, rfl, (Ke.tr (fun _ _ h => h) Ke.rf k9), ⟨⟨hn, by omega, (Eq.trans (k9 62 6 (by decide)) e_hn), (fun kw hkw => by rw [show M8 63 (5 + kw) = M 63 (5 + kw) from (Eq.trans (k9 63 (5 + kw) (by unfold WR1; omega)) rfl)]; exact hw kw hkw)⟩, (by rw [show M8 63 16 = M 63 16 from (Eq.trans (k9 63 16 (by unfold WR1; omega)) rfl)]; exact hbt), ⟨un, wn, by omega, by omega, (Eq.trans (k9 62 5 (by decide)) e_un), (Eq.trans (k9 62 4 (by decide)) e_wn)⟩, (fun kk hkk => by rw [show M8 64 kk = M 64 kk from (Eq.trans (k9 64 kk (by unfold WR1; omega)) rfl), show M8 65 kk = M 65 kk from (Eq.trans (k9 65 kk (by unfold WR1; omega)) rfl), show M8 66 kk = M 66 kk from (Eq.trans (k9 66 kk (by unfold WR1; omega)) rfl)]; exact hch kk hkk), ⟨n, by omega, (Eq.trans (k9 62 11 (by decide)) e_n)⟩, (by rw [show M8 62 13 = M 62 13 from (Eq.trans (k9 62 13 (by unfold WR1; omega)) rfl)]; exact htx), ⟨b, by omega, (Eq.trans (k9 62 36 (by decide)) e_b)⟩, (fun j hj => by obtain ⟨q, hq, eq⟩ := hkd j hj; exact ⟨q, hq, (show M8 81 j = M 81 j from (Eq.trans (k9 81 j (by unfold WR1; omega)) rfl)).trans eq⟩), ⟨ra, by omega, (Eq.trans (k9 62 39 (by decide)) e_ra)⟩, (fun j hj => by rw [show M8 83 j = M 83 j from (Eq.trans (k9 83 j (by unfold WR1; omega)) rfl), show M8 84 j = M 84 j from (Eq.trans (k9 84 j (by unfold WR1; omega)) rfl)]; exact hsl j hj), ⟨ic, by omega, (Eq.trans (k9 62 34 (by decide)) e_ic)⟩, (fun j hj => by obtain ⟨q, hq, eq⟩ := hS j hj; exact ⟨q, hq, (show M8 75 j = M 75 j from (Eq.trans (k9 75 j (by unfold WR1; omega)) rfl)).trans eq⟩)⟩⟩)
      · refine xr_aload_n dX10_judge_27 0 rfl ?_
        refine xr_iload_n dX10_judge_28 1 rfl ?_
        refine xr_callV (As := [.int (sh)]) (rest := []) mlX10_285 (g_X10_rowIs sh) dX10_judge_29 s_62 rfl rfl (Nat.le_of_ble_eq_true rfl) (by decide) ⟨by decide, by decide⟩ (fun v s2 M9 J2 hq => ?_)
        obtain ⟨r12, rfl, rfl, rfl, rfl, hx11⟩ := hq
        try dsimp only [Option.toList, List.cons_append, List.nil_append]
        refine xr_goto (tgt := 41) dX10_judge_32 rfl ?_
        exact xr_iret dX10_judge_41 rfl rfl (⟨_, rfl, rfl, rfl, Ke.rf, ⟨⟨hn, by omega, e_hn, (fun kw hkw => by rw [show M 63 (5 + kw) = M 63 (5 + kw) from rfl]; exact hw kw hkw)⟩, (by rw [show M 63 16 = M 63 16 from rfl]; exact hbt), ⟨un, wn, by omega, by omega, e_un, e_wn⟩, (fun kk hkk => by rw [show M 64 kk = M 64 kk from rfl, show M 65 kk = M 65 kk from rfl, show M 66 kk = M 66 kk from rfl]; exact hch kk hkk), ⟨n, by omega, e_n⟩, (by rw [show M 62 13 = M 62 13 from rfl]; exact htx), ⟨b, by omega, e_b⟩, (fun j hj => by obtain ⟨q, hq, eq⟩ := hkd j hj; exact ⟨q, hq, (show M 81 j = M 81 j from rfl).trans eq⟩), ⟨ra, by omega, e_ra⟩, (fun j hj => by rw [show M 83 j = M 83 j from rfl, show M 84 j = M 84 j from rfl]; exact hsl j hj), ⟨ic, by omega, e_ic⟩, (fun j hj => by obtain ⟨q, hq, eq⟩ := hS j hj; exact ⟨q, hq, (show M 75 j = M 75 j from rfl).trans eq⟩)⟩⟩)
    · refine xr_iconst (v := -1) dX10_judge_17 rfl ?_
      exact xr_iret dX10_judge_18 rfl rfl (⟨_, rfl, rfl, rfl, Ke.rf, ⟨⟨hn, by omega, e_hn, (fun kw hkw => by rw [show M 63 (5 + kw) = M 63 (5 + kw) from rfl]; exact hw kw hkw)⟩, (by rw [show M 63 16 = M 63 16 from rfl]; exact hbt), ⟨un, wn, by omega, by omega, e_un, e_wn⟩, (fun kk hkk => by rw [show M 64 kk = M 64 kk from rfl, show M 65 kk = M 65 kk from rfl, show M 66 kk = M 66 kk from rfl]; exact hch kk hkk), ⟨n, by omega, e_n⟩, (by rw [show M 62 13 = M 62 13 from rfl]; exact htx), ⟨b, by omega, e_b⟩, (fun j hj => by obtain ⟨q, hq, eq⟩ := hkd j hj; exact ⟨q, hq, (show M 81 j = M 81 j from rfl).trans eq⟩), ⟨ra, by omega, e_ra⟩, (fun j hj => by rw [show M 83 j = M 83 j from rfl, show M 84 j = M 84 j from rfl]; exact hsl j hj), ⟨ic, by omega, e_ic⟩, (fun j hj => by obtain ⟨q, hq, eq⟩ := hS j hj; exact ⟨q, hq, (show M 75 j = M 75 j from rfl).trans eq⟩)⟩⟩)
set_option maxRecDepth 100000 in
set_option maxHeartbeats 4000000 in
theorem g_X10_begun (sh h w : Int32) {l : Launch} {G : xG} {M : xM} {J : xJ} (hI : InvR M) : x_M l G fX10_begun 63 0 0 [.ref (62), .int (sh), .int (h), .int (w)] x_SH M J (qKI WRS M J (fun r M2 => InvR M2)) := by
  refine xb_of pX10 (Nat.le_of_ble_eq_true rfl) rfl ?_
  obtain ⟨⟨hn, h_hn, e_hn, hw⟩, hbt, ⟨un, wn, h_uw, h_wn, e_un, e_wn⟩, hch, ⟨n, h_n, e_n⟩, htx, ⟨b, h_b, e_b⟩, hkd, ⟨ra, h_ra, e_ra⟩, hsl, ⟨ic, h_ic, e_ic⟩, hS⟩ := hI
  refine xr_aload_n dX10_begun_0 0 rfl ?_
  refine xr_iload_n dX10_begun_1 1 rfl ?_
  refine xr_callV (As := [.int (sh)]) (rest := []) mlX10_285 (g_X10_rowIs sh) dX10_begun_2 s_62 rfl rfl (Nat.le_of_ble_eq_true rfl) (by decide) ⟨by decide, by decide⟩ (fun v s2 M9 J2 hq => ?_)
  obtain ⟨r2, rfl, rfl, rfl, rfl, hx1⟩ := hq
  try dsimp only [Option.toList, List.cons_append, List.nil_append]
  refine xr_if_lt (tgt := 26) dX10_begun_5 rfl (fun c3 => ?_) (fun c3 => ?_)
  · refine xr_ldc coX10_140 dX10_begun_26 ?_
    exact xr_iret dX10_begun_28 rfl rfl (⟨_, rfl, rfl, rfl, Ke.rf, ⟨⟨hn, by omega, e_hn, (fun kw hkw => by rw [show M 63 (5 + kw) = M 63 (5 + kw) from rfl]; exact hw kw hkw)⟩, (by rw [show M 63 16 = M 63 16 from rfl]; exact hbt), ⟨un, wn, by omega, by omega, e_un, e_wn⟩, (fun kk hkk => by rw [show M 64 kk = M 64 kk from rfl, show M 65 kk = M 65 kk from rfl, show M 66 kk = M 66 kk from rfl]; exact hch kk hkk), ⟨n, by omega, e_n⟩, (by rw [show M 62 13 = M 62 13 from rfl]; exact htx), ⟨b, by omega, e_b⟩, (fun j hj => by obtain ⟨q, hq, eq⟩ := hkd j hj; exact ⟨q, hq, (show M 81 j = M 81 j from rfl).trans eq⟩), ⟨ra, by omega, e_ra⟩, (fun j hj => by rw [show M 83 j = M 83 j from rfl, show M 84 j = M 84 j from rfl]; exact hsl j hj), ⟨ic, by omega, e_ic⟩, (fun j hj => by obtain ⟨q, hq, eq⟩ := hS j hj; exact ⟨q, hq, (show M 75 j = M 75 j from rfl).trans eq⟩)⟩⟩)
  · refine xr_aload_n dX10_begun_8 0 rfl ?_
    refine xr_iload_n dX10_begun_9 2 rfl ?_
    refine xb_cV (As := [.int (h)]) (rest := []) mlX10_133 (c_X10_isHoop h (by omega) e_hn) dX10_begun_10 s_62 rfl rfl (Nat.le_of_ble_eq_true rfl) (by decide) (by decide) ?_
    refine xb_beq (tgt := 26) dX10_begun_13 rfl (fun c4 => ?_) (fun c4 => ?_)
    · refine xr_ldc coX10_140 dX10_begun_26 ?_
      exact xr_iret dX10_begun_28 rfl rfl (⟨_, rfl, rfl, rfl, Ke.rf, ⟨⟨hn, by omega, e_hn, (fun kw hkw => by rw [show M 63 (5 + kw) = M 63 (5 + kw) from rfl]; exact hw kw hkw)⟩, (by rw [show M 63 16 = M 63 16 from rfl]; exact hbt), ⟨un, wn, by omega, by omega, e_un, e_wn⟩, (fun kk hkk => by rw [show M 64 kk = M 64 kk from rfl, show M 65 kk = M 65 kk from rfl, show M 66 kk = M 66 kk from rfl]; exact hch kk hkk), ⟨n, by omega, e_n⟩, (by rw [show M 62 13 = M 62 13 from rfl]; exact htx), ⟨b, by omega, e_b⟩, (fun j hj => by obtain ⟨q, hq, eq⟩ := hkd j hj; exact ⟨q, hq, (show M 81 j = M 81 j from rfl).trans eq⟩), ⟨ra, by omega, e_ra⟩, (fun j hj => by rw [show M 83 j = M 83 j from rfl, show M 84 j = M 84 j from rfl]; exact hsl j hj), ⟨ic, by omega, e_ic⟩, (fun j hj => by obtain ⟨q, hq, eq⟩ := hS j hj; exact ⟨q, hq, (show M 75 j = M 75 j from rfl).trans eq⟩)⟩⟩)
    · obtain ⟨h_, hh_, rfl⟩ := x_nat (N := hn) (by omega) rfl c4
      refine xr_iload_n dX10_begun_16 3 rfl ?_
      refine xr_i2l dX10_begun_17 ?_
      refine xr_lconst (v := 0) dX10_begun_18 rfl ?_
      refine xr_lconst (v := 1) dX10_begun_19 rfl ?_
      refine xb_cS (As := [.long ((w).toInt64), .long (0), .long (1)]) (rest := []) mlX10_101 (c_within32 (w) (0) (1) (by decide) (by decide)) dX10_begun_20 rfl rfl (Nat.le_of_ble_eq_true rfl) (by decide) (by decide) ?_
      refine xb_bne (tgt := 29) dX10_begun_23 rfl (fun c5 => ?_) (fun c5 => ?_)
      · obtain ⟨d_, hd_, rfl⟩ := x_natle (v := sh) (N := 5) (K := 5) (by decide) (by decide) (Or.resolve_left hx1 (by grind))
        obtain ⟨hd83, nm, hnm, e_nm⟩ := hsl d_ (by omega)
        refine xr_aload_n dX10_begun_29 0 rfl ?_
        refine xr_getR flX10_9 dX10_begun_30 s_62 rfl ?_
        refine xr_bipush (v := 10) dX10_begun_33 rfl ?_
        refine xr_iload_n dX10_begun_35 2 rfl ?_
        refine xr_iadd dX10_begun_36 ?_
        refine xb_top (y := nI (10 + h_)) (nI_add (10) (h_)) ?_
        refine xb_iald (j := 10 + h_) (v := M 63 (10 + h_)) dX10_begun_37 s_63 (by omega) (by decide) rfl ?_
        refine xr_istore (ls2 := [(4, .int (M 63 (10 + h_))), (0, .ref (62)), (1, .int (nI (d_))), (2, .int (nI (h_))), (3, .int (w))]) dX10_begun_38 (by decide) rfl ?_
        refine xr_aload_n dX10_begun_40 1 rfl ?_
        refine xr_getR flX10_25 dX10_begun_41 s_62 rfl ?_
        refine xr_iload_n dX10_begun_44 3 rfl ?_
        refine xb_iald (j := h_) (v := M 68 h_) dX10_begun_45 s_68 (by omega) (by decide) rfl ?_
        refine xr_if_le (tgt := 54) dX10_begun_46 rfl (fun c6 => ?_) (fun c6 => ?_)
        · refine xr_iconst (v := 0) dX10_begun_54 rfl ?_
          refine xr_istore (ls2 := [(5, .int (0)), (4, .int (M 63 (10 + h_))), (0, .ref (62)), (1, .int (nI (d_))), (2, .int (nI (h_))), (3, .int (w))]) dX10_begun_55 (by decide) rfl ?_
          refine xr_iconst (v := 0) dX10_begun_57 rfl ?_
          refine xr_istore (ls2 := [(6, .int (0)), (5, .int (0)), (4, .int (M 63 (10 + h_))), (0, .ref (62)), (1, .int (nI (d_))), (2, .int (nI (h_))), (3, .int (w))]) dX10_begun_58 (by decide) rfl ?_
          refine xr_bipush (v := -2) dX10_begun_60 rfl ?_
          refine xr_istore (ls2 := [(7, .int ((-2))), (6, .int (0)), (5, .int (0)), (4, .int (M 63 (10 + h_))), (0, .ref (62)), (1, .int (nI (d_))), (2, .int (nI (h_))), (3, .int (w))]) dX10_begun_62 (by decide) rfl ?_
          refine xr_iload dX10_begun_64 2 rfl ?_
          refine xr_ineg dX10_begun_66 ?_
          refine xb_top (y := 0) (by decide) ?_
          refine xr_istore (ls2 := [(8, .int (0)), (7, .int ((-2))), (6, .int (0)), (5, .int (0)), (4, .int (M 63 (10 + h_))), (0, .ref (62)), (1, .int (nI (d_))), (2, .int (nI (h_))), (3, .int (w))]) dX10_begun_67 (by decide) rfl ?_
          refine xr_iload dX10_begun_69 0 rfl ?_
          refine xr_iload dX10_begun_71 3 rfl ?_
          refine xr_icmp_gt (tgt := 121) dX10_begun_73 rfl (fun c => absurd c (by decide)) (fun _ => ?_)
          refine xr_aload_n dX10_begun_76 5 rfl ?_
          refine xr_getR flX10_9 dX10_begun_77 s_62 rfl ?_
          refine xr_bipush (v := 10) dX10_begun_80 rfl ?_
          refine xr_iload_n dX10_begun_82 7 rfl ?_
          refine xr_iadd dX10_begun_83 ?_
          refine xb_top (y := nI (10 + h_)) (nI_add (10) (h_)) ?_
          refine xr_iload dX10_begun_84 0 rfl ?_
          refine xb_iast (j := 10 + h_) dX10_begun_86 s_63 (by omega) (by decide) ?_
          refine xr_aload_n dX10_begun_87 5 rfl ?_
          refine xr_iload_n dX10_begun_88 6 rfl ?_
          refine xr_iload_n dX10_begun_89 7 rfl ?_
          refine xr_callV (As := [.int (nI (d_)), .int (nI (h_))]) (rest := []) mlX10_290 (g_X10_firstFalse (h := h_) (d := d_) (nm := nm) (by omega) (by omega) (by omega) h_hn (Eq.trans (congrFun (x_up_n _ _ _ (by decide)) _) e_hn) (fun kw hkw => by rw [show (x_up M 63 (10 + h_) 0) 63 (5 + kw) = M 63 (5 + kw) from (Eq.trans (x_up_k _ _ _ (by omega)) rfl)]; exact hw kw hkw) (by rw [show (x_up M 63 (10 + h_) 0) 63 16 = M 63 16 from (Eq.trans (x_up_k _ _ _ (by omega)) rfl)]; exact hbt) (by rw [show (x_up M 63 (10 + h_) 0) 62 13 = M 62 13 from (Eq.trans (congrFun (x_up_n _ _ _ (by omega)) _) rfl)]; exact htx) (Eq.trans (congrFun (x_up_n _ _ _ (by decide)) _) e_nm)) dX10_begun_90 s_62 rfl rfl (Nat.le_of_ble_eq_true rfl) (by decide) ⟨by decide, by decide⟩ (fun v s2 M7 J2 hq => ?_)
          obtain ⟨r9, rfl, rfl, rfl, k8, _⟩ := hq
          try dsimp only [Option.toList, List.cons_append, List.nil_append]
          refine xr_bipush (v := -2) dX10_begun_93 rfl ?_
          refine xr_icmp_ne (tgt := 115) dX10_begun_95 rfl (fun c10 => ?_) (fun c10 => ?_)
          · refine xr_iinc (v := 1) (ls2 := [(8, .int (1)), (7, .int ((-2))), (6, .int (0)), (5, .int (0)), (4, .int (M 63 (10 + h_))), (0, .ref (62)), (1, .int (nI (d_))), (2, .int (nI (h_))), (3, .int (w))]) dX10_begun_115 0 rfl rfl (by decide) rfl ?_
            refine xr_goto (tgt := 69) dX10_begun_118 rfl ?_
            refine xr_iload dX10_begun_69 0 rfl ?_
            refine xr_iload dX10_begun_71 3 rfl ?_
            refine xr_icmp_gt (tgt := 121) dX10_begun_73 rfl (fun _ => ?_) (fun c => absurd (by decide) c)
            refine xr_aload_n dX10_begun_121 5 rfl ?_
            refine xr_getR flX10_9 dX10_begun_122 s_62 rfl ?_
            refine xr_bipush (v := 10) dX10_begun_125 rfl ?_
            refine xr_iload_n dX10_begun_127 7 rfl ?_
            refine xr_iadd dX10_begun_128 ?_
            refine xb_top (y := nI (10 + h_)) (nI_add (10) (h_)) ?_
            refine xr_iload dX10_begun_129 4 rfl ?_
            refine xb_iast (j := 10 + h_) dX10_begun_131 s_63 (by omega) (by decide) ?_
            refine xr_iload_n dX10_begun_132 8 rfl ?_
            refine xr_if_ne (tgt := 141) dX10_begun_133 rfl (fun c11 => ?_) (fun c11 => ?_)
            · refine xr_iload dX10_begun_141 1 rfl ?_
              exact xr_iret dX10_begun_143 rfl rfl (⟨_, rfl, rfl, rfl, (Ke.up (by unfold WRS; omega) (Ke.tr (fun pp kk hh => by unfold WR1 at hh; unfold WRS; omega) (Ke.up (by unfold WRS; omega) Ke.rf) k8)), ⟨⟨hn, by omega, (Eq.trans (congrFun (x_up_n _ _ _ (by decide)) _) (Eq.trans (k8 62 6 (by decide)) (Eq.trans (congrFun (x_up_n _ _ _ (by decide)) _) e_hn))), (fun kw hkw => by rw [show (x_up M7 63 (10 + h_) (M 63 (10 + h_))) 63 (5 + kw) = M 63 (5 + kw) from (Eq.trans (x_up_k _ _ _ (by omega)) (Eq.trans (k8 63 (5 + kw) (by unfold WR1; omega)) (Eq.trans (x_up_k _ _ _ (by omega)) rfl)))]; exact hw kw hkw)⟩, (by rw [show (x_up M7 63 (10 + h_) (M 63 (10 + h_))) 63 16 = M 63 16 from (Eq.trans (x_up_k _ _ _ (by omega)) (Eq.trans (k8 63 16 (by unfold WR1; omega)) (Eq.trans (x_up_k _ _ _ (by omega)) rfl)))]; exact hbt), ⟨un, wn, by omega, by omega, (Eq.trans (congrFun (x_up_n _ _ _ (by decide)) _) (Eq.trans (k8 62 5 (by decide)) (Eq.trans (congrFun (x_up_n _ _ _ (by decide)) _) e_un))), (Eq.trans (congrFun (x_up_n _ _ _ (by decide)) _) (Eq.trans (k8 62 4 (by decide)) (Eq.trans (congrFun (x_up_n _ _ _ (by decide)) _) e_wn)))⟩, (fun kk hkk => by rw [show (x_up M7 63 (10 + h_) (M 63 (10 + h_))) 64 kk = M 64 kk from (Eq.trans (congrFun (x_up_n _ _ _ (by omega)) _) (Eq.trans (k8 64 kk (by unfold WR1; omega)) (Eq.trans (congrFun (x_up_n _ _ _ (by omega)) _) rfl))), show (x_up M7 63 (10 + h_) (M 63 (10 + h_))) 65 kk = M 65 kk from (Eq.trans (congrFun (x_up_n _ _ _ (by omega)) _) (Eq.trans (k8 65 kk (by unfold WR1; omega)) (Eq.trans (congrFun (x_up_n _ _ _ (by omega)) _) rfl))), show (x_up M7 63 (10 + h_) (M 63 (10 + h_))) 66 kk = M 66 kk from (Eq.trans (congrFun (x_up_n _ _ _ (by omega)) _) (Eq.trans (k8 66 kk (by unfold WR1; omega)) (Eq.trans (congrFun (x_up_n _ _ _ (by omega)) _) rfl)))]; exact hch kk hkk), ⟨n, by omega, (Eq.trans (congrFun (x_up_n _ _ _ (by decide)) _) (Eq.trans (k8 62 11 (by decide)) (Eq.trans (congrFun (x_up_n _ _ _ (by decide)) _) e_n)))⟩, (by rw [show (x_up M7 63 (10 + h_) (M 63 (10 + h_))) 62 13 = M 62 13 from (Eq.trans (congrFun (x_up_n _ _ _ (by omega)) _) (Eq.trans (k8 62 13 (by unfold WR1; omega)) (Eq.trans (congrFun (x_up_n _ _ _ (by omega)) _) rfl)))]; exact htx), ⟨b, by omega, (Eq.trans (congrFun (x_up_n _ _ _ (by decide)) _) (Eq.trans (k8 62 36 (by decide)) (Eq.trans (congrFun (x_up_n _ _ _ (by decide)) _) e_b)))⟩, (fun j hj => by obtain ⟨q, hq, eq⟩ := hkd j hj; exact ⟨q, hq, (show (x_up M7 63 (10 + h_) (M 63 (10 + h_))) 81 j = M 81 j from (Eq.trans (congrFun (x_up_n _ _ _ (by omega)) _) (Eq.trans (k8 81 j (by unfold WR1; omega)) (Eq.trans (congrFun (x_up_n _ _ _ (by omega)) _) rfl)))).trans eq⟩), ⟨ra, by omega, (Eq.trans (congrFun (x_up_n _ _ _ (by decide)) _) (Eq.trans (k8 62 39 (by decide)) (Eq.trans (congrFun (x_up_n _ _ _ (by decide)) _) e_ra)))⟩, (fun j hj => by rw [show (x_up M7 63 (10 + h_) (M 63 (10 + h_))) 83 j = M 83 j from (Eq.trans (congrFun (x_up_n _ _ _ (by omega)) _) (Eq.trans (k8 83 j (by unfold WR1; omega)) (Eq.trans (congrFun (x_up_n _ _ _ (by omega)) _) rfl))), show (x_up M7 63 (10 + h_) (M 63 (10 + h_))) 84 j = M 84 j from (Eq.trans (congrFun (x_up_n _ _ _ (by omega)) _) (Eq.trans (k8 84 j (by unfold WR1; omega)) (Eq.trans (congrFun (x_up_n _ _ _ (by omega)) _) rfl)))]; exact hsl j hj), ⟨ic, by omega, (Eq.trans (congrFun (x_up_n _ _ _ (by decide)) _) (Eq.trans (k8 62 34 (by decide)) (Eq.trans (congrFun (x_up_n _ _ _ (by decide)) _) e_ic)))⟩, (fun j hj => by obtain ⟨q, hq, eq⟩ := hS j hj; exact ⟨q, hq, (show (x_up M7 63 (10 + h_) (M 63 (10 + h_))) 75 j = M 75 j from (Eq.trans (congrFun (x_up_n _ _ _ (by omega)) _) (Eq.trans (k8 75 j (by unfold WR1; omega)) (Eq.trans (congrFun (x_up_n _ _ _ (by omega)) _) rfl)))).trans eq⟩)⟩⟩)
            · refine xr_iload dX10_begun_136 2 rfl ?_
              refine xr_goto (tgt := 143) dX10_begun_138 rfl ?_
              exact xr_iret dX10_begun_143 rfl rfl (⟨_, rfl, rfl, rfl, (Ke.up (by unfold WRS; omega) (Ke.tr (fun pp kk hh => by unfold WR1 at hh; unfold WRS; omega) (Ke.up (by unfold WRS; omega) Ke.rf) k8)), ⟨⟨hn, by omega, (Eq.trans (congrFun (x_up_n _ _ _ (by decide)) _) (Eq.trans (k8 62 6 (by decide)) (Eq.trans (congrFun (x_up_n _ _ _ (by decide)) _) e_hn))), (fun kw hkw => by rw [show (x_up M7 63 (10 + h_) (M 63 (10 + h_))) 63 (5 + kw) = M 63 (5 + kw) from (Eq.trans (x_up_k _ _ _ (by omega)) (Eq.trans (k8 63 (5 + kw) (by unfold WR1; omega)) (Eq.trans (x_up_k _ _ _ (by omega)) rfl)))]; exact hw kw hkw)⟩, (by rw [show (x_up M7 63 (10 + h_) (M 63 (10 + h_))) 63 16 = M 63 16 from (Eq.trans (x_up_k _ _ _ (by omega)) (Eq.trans (k8 63 16 (by unfold WR1; omega)) (Eq.trans (x_up_k _ _ _ (by omega)) rfl)))]; exact hbt), ⟨un, wn, by omega, by omega, (Eq.trans (congrFun (x_up_n _ _ _ (by decide)) _) (Eq.trans (k8 62 5 (by decide)) (Eq.trans (congrFun (x_up_n _ _ _ (by decide)) _) e_un))), (Eq.trans (congrFun (x_up_n _ _ _ (by decide)) _) (Eq.trans (k8 62 4 (by decide)) (Eq.trans (congrFun (x_up_n _ _ _ (by decide)) _) e_wn)))⟩, (fun kk hkk => by rw [show (x_up M7 63 (10 + h_) (M 63 (10 + h_))) 64 kk = M 64 kk from (Eq.trans (congrFun (x_up_n _ _ _ (by omega)) _) (Eq.trans (k8 64 kk (by unfold WR1; omega)) (Eq.trans (congrFun (x_up_n _ _ _ (by omega)) _) rfl))), show (x_up M7 63 (10 + h_) (M 63 (10 + h_))) 65 kk = M 65 kk from (Eq.trans (congrFun (x_up_n _ _ _ (by omega)) _) (Eq.trans (k8 65 kk (by unfold WR1; omega)) (Eq.trans (congrFun (x_up_n _ _ _ (by omega)) _) rfl))), show (x_up M7 63 (10 + h_) (M 63 (10 + h_))) 66 kk = M 66 kk from (Eq.trans (congrFun (x_up_n _ _ _ (by omega)) _) (Eq.trans (k8 66 kk (by unfold WR1; omega)) (Eq.trans (congrFun (x_up_n _ _ _ (by omega)) _) rfl)))]; exact hch kk hkk), ⟨n, by omega, (Eq.trans (congrFun (x_up_n _ _ _ (by decide)) _) (Eq.trans (k8 62 11 (by decide)) (Eq.trans (congrFun (x_up_n _ _ _ (by decide)) _) e_n)))⟩, (by rw [show (x_up M7 63 (10 + h_) (M 63 (10 + h_))) 62 13 = M 62 13 from (Eq.trans (congrFun (x_up_n _ _ _ (by omega)) _) (Eq.trans (k8 62 13 (by unfold WR1; omega)) (Eq.trans (congrFun (x_up_n _ _ _ (by omega)) _) rfl)))]; exact htx), ⟨b, by omega, (Eq.trans (congrFun (x_up_n _ _ _ (by decide)) _) (Eq.trans (k8 62 36 (by decide)) (Eq.trans (congrFun (x_up_n _ _ _ (by decide)) _) e_b)))⟩, (fun j hj => by obtain ⟨q, hq, eq⟩ := hkd j hj; exact ⟨q, hq, (show (x_up M7 63 (10 + h_) (M 63 (10 + h_))) 81 j = M 81 j from (Eq.trans (congrFun (x_up_n _ _ _ (by omega)) _) (Eq.trans (k8 81 j (by unfold WR1; omega)) (Eq.trans (congrFun (x_up_n _ _ _ (by omega)) _) rfl)))).trans eq⟩), ⟨ra, by omega, (Eq.trans (congrFun (x_up_n _ _ _ (by decide)) _) (Eq.trans (k8 62 39 (by decide)) (Eq.trans (congrFun (x_up_n _ _ _ (by decide)) _) e_ra)))⟩, (fun j hj => by rw [show (x_up M7 63 (10 + h_) (M 63 (10 + h_))) 83 j = M 83 j from (Eq.trans (congrFun (x_up_n _ _ _ (by omega)) _) (Eq.trans (k8 83 j (by unfold WR1; omega)) (Eq.trans (congrFun (x_up_n _ _ _ (by omega)) _) rfl))), show (x_up M7 63 (10 + h_) (M 63 (10 + h_))) 84 j = M 84 j from (Eq.trans (congrFun (x_up_n _ _ _ (by omega)) _) (Eq.trans (k8 84 j (by unfold WR1; omega)) (Eq.trans (congrFun (x_up_n _ _ _ (by omega)) _) rfl)))]; exact hsl j hj), ⟨ic, by omega, (Eq.trans (congrFun (x_up_n _ _ _ (by decide)) _) (Eq.trans (k8 62 34 (by decide)) (Eq.trans (congrFun (x_up_n _ _ _ (by decide)) _) e_ic)))⟩, (fun j hj => by obtain ⟨q, hq, eq⟩ := hS j hj; exact ⟨q, hq, (show (x_up M7 63 (10 + h_) (M 63 (10 + h_))) 75 j = M 75 j from (Eq.trans (congrFun (x_up_n _ _ _ (by omega)) _) (Eq.trans (k8 75 j (by unfold WR1; omega)) (Eq.trans (congrFun (x_up_n _ _ _ (by omega)) _) rfl)))).trans eq⟩)⟩⟩)
          · refine xr_iload dX10_begun_98 2 rfl ?_
            refine xr_if_ne (tgt := 108) dX10_begun_100 rfl (fun c => absurd (by decide) c) (fun _ => ?_)
            refine xr_iload dX10_begun_103 0 rfl ?_
            refine xr_goto (tgt := 110) dX10_begun_105 rfl ?_
            refine xr_istore (ls2 := [(7, .int (0)), (8, .int (0)), (6, .int (0)), (5, .int (0)), (4, .int (M 63 (10 + h_))), (0, .ref (62)), (1, .int (nI (d_))), (2, .int (nI (h_))), (3, .int (w))]) dX10_begun_110 (by decide) rfl ?_
            refine xr_iinc (v := 1) (ls2 := [(6, .int (1)), (7, .int (0)), (8, .int (0)), (5, .int (0)), (4, .int (M 63 (10 + h_))), (0, .ref (62)), (1, .int (nI (d_))), (2, .int (nI (h_))), (3, .int (w))]) dX10_begun_112 2 rfl rfl (by decide) rfl ?_
            refine xr_iinc (v := 1) (ls2 := [(8, .int (1)), (6, .int (1)), (7, .int (0)), (5, .int (0)), (4, .int (M 63 (10 + h_))), (0, .ref (62)), (1, .int (nI (d_))), (2, .int (nI (h_))), (3, .int (w))]) dX10_begun_115 2 rfl rfl (by decide) rfl ?_
            refine xr_goto (tgt := 69) dX10_begun_118 rfl ?_
            refine xr_iload dX10_begun_69 0 rfl ?_
            refine xr_iload dX10_begun_71 3 rfl ?_
            refine xr_icmp_gt (tgt := 121) dX10_begun_73 rfl (fun _ => ?_) (fun c => absurd (by decide) c)
            refine xr_aload_n dX10_begun_121 5 rfl ?_
            refine xr_getR flX10_9 dX10_begun_122 s_62 rfl ?_
            refine xr_bipush (v := 10) dX10_begun_125 rfl ?_
            refine xr_iload_n dX10_begun_127 7 rfl ?_
            refine xr_iadd dX10_begun_128 ?_
            refine xb_top (y := nI (10 + h_)) (nI_add (10) (h_)) ?_
            refine xr_iload dX10_begun_129 4 rfl ?_
            refine xb_iast (j := 10 + h_) dX10_begun_131 s_63 (by omega) (by decide) ?_
            refine xr_iload_n dX10_begun_132 8 rfl ?_
            refine xr_if_ne (tgt := 141) dX10_begun_133 rfl (fun c12 => ?_) (fun c12 => ?_)
            · refine xr_iload dX10_begun_141 2 rfl ?_
              exact xr_iret dX10_begun_143 rfl rfl (⟨_, rfl, rfl, rfl, (Ke.up (by unfold WRS; omega) (Ke.tr (fun pp kk hh => by unfold WR1 at hh; unfold WRS; omega) (Ke.up (by unfold WRS; omega) Ke.rf) k8)), ⟨⟨hn, by omega, (Eq.trans (congrFun (x_up_n _ _ _ (by decide)) _) (Eq.trans (k8 62 6 (by decide)) (Eq.trans (congrFun (x_up_n _ _ _ (by decide)) _) e_hn))), (fun kw hkw => by rw [show (x_up M7 63 (10 + h_) (M 63 (10 + h_))) 63 (5 + kw) = M 63 (5 + kw) from (Eq.trans (x_up_k _ _ _ (by omega)) (Eq.trans (k8 63 (5 + kw) (by unfold WR1; omega)) (Eq.trans (x_up_k _ _ _ (by omega)) rfl)))]; exact hw kw hkw)⟩, (by rw [show (x_up M7 63 (10 + h_) (M 63 (10 + h_))) 63 16 = M 63 16 from (Eq.trans (x_up_k _ _ _ (by omega)) (Eq.trans (k8 63 16 (by unfold WR1; omega)) (Eq.trans (x_up_k _ _ _ (by omega)) rfl)))]; exact hbt), ⟨un, wn, by omega, by omega, (Eq.trans (congrFun (x_up_n _ _ _ (by decide)) _) (Eq.trans (k8 62 5 (by decide)) (Eq.trans (congrFun (x_up_n _ _ _ (by decide)) _) e_un))), (Eq.trans (congrFun (x_up_n _ _ _ (by decide)) _) (Eq.trans (k8 62 4 (by decide)) (Eq.trans (congrFun (x_up_n _ _ _ (by decide)) _) e_wn)))⟩, (fun kk hkk => by rw [show (x_up M7 63 (10 + h_) (M 63 (10 + h_))) 64 kk = M 64 kk from (Eq.trans (congrFun (x_up_n _ _ _ (by omega)) _) (Eq.trans (k8 64 kk (by unfold WR1; omega)) (Eq.trans (congrFun (x_up_n _ _ _ (by omega)) _) rfl))), show (x_up M7 63 (10 + h_) (M 63 (10 + h_))) 65 kk = M 65 kk from (Eq.trans (congrFun (x_up_n _ _ _ (by omega)) _) (Eq.trans (k8 65 kk (by unfold WR1; omega)) (Eq.trans (congrFun (x_up_n _ _ _ (by omega)) _) rfl))), show (x_up M7 63 (10 + h_) (M 63 (10 + h_))) 66 kk = M 66 kk from (Eq.trans (congrFun (x_up_n _ _ _ (by omega)) _) (Eq.trans (k8 66 kk (by unfold WR1; omega)) (Eq.trans (congrFun (x_up_n _ _ _ (by omega)) _) rfl)))]; exact hch kk hkk), ⟨n, by omega, (Eq.trans (congrFun (x_up_n _ _ _ (by decide)) _) (Eq.trans (k8 62 11 (by decide)) (Eq.trans (congrFun (x_up_n _ _ _ (by decide)) _) e_n)))⟩, (by rw [show (x_up M7 63 (10 + h_) (M 63 (10 + h_))) 62 13 = M 62 13 from (Eq.trans (congrFun (x_up_n _ _ _ (by omega)) _) (Eq.trans (k8 62 13 (by unfold WR1; omega)) (Eq.trans (congrFun (x_up_n _ _ _ (by omega)) _) rfl)))]; exact htx), ⟨b, by omega, (Eq.trans (congrFun (x_up_n _ _ _ (by decide)) _) (Eq.trans (k8 62 36 (by decide)) (Eq.trans (congrFun (x_up_n _ _ _ (by decide)) _) e_b)))⟩, (fun j hj => by obtain ⟨q, hq, eq⟩ := hkd j hj; exact ⟨q, hq, (show (x_up M7 63 (10 + h_) (M 63 (10 + h_))) 81 j = M 81 j from (Eq.trans (congrFun (x_up_n _ _ _ (by omega)) _) (Eq.trans (k8 81 j (by unfold WR1; omega)) (Eq.trans (congrFun (x_up_n _ _ _ (by omega)) _) rfl)))).trans eq⟩), ⟨ra, by omega, (Eq.trans (congrFun (x_up_n _ _ _ (by decide)) _) (Eq.trans (k8 62 39 (by decide)) (Eq.trans (congrFun (x_up_n _ _ _ (by decide)) _) e_ra)))⟩, (fun j hj => by rw [show (x_up M7 63 (10 + h_) (M 63 (10 + h_))) 83 j = M 83 j from (Eq.trans (congrFun (x_up_n _ _ _ (by omega)) _) (Eq.trans (k8 83 j (by unfold WR1; omega)) (Eq.trans (congrFun (x_up_n _ _ _ (by omega)) _) rfl))), show (x_up M7 63 (10 + h_) (M 63 (10 + h_))) 84 j = M 84 j from (Eq.trans (congrFun (x_up_n _ _ _ (by omega)) _) (Eq.trans (k8 84 j (by unfold WR1; omega)) (Eq.trans (congrFun (x_up_n _ _ _ (by omega)) _) rfl)))]; exact hsl j hj), ⟨ic, by omega, (Eq.trans (congrFun (x_up_n _ _ _ (by decide)) _) (Eq.trans (k8 62 34 (by decide)) (Eq.trans (congrFun (x_up_n _ _ _ (by decide)) _) e_ic)))⟩, (fun j hj => by obtain ⟨q, hq, eq⟩ := hS j hj; exact ⟨q, hq, (show (x_up M7 63 (10 + h_) (M 63 (10 + h_))) 75 j = M 75 j from (Eq.trans (congrFun (x_up_n _ _ _ (by omega)) _) (Eq.trans (k8 75 j (by unfold WR1; omega)) (Eq.trans (congrFun (x_up_n _ _ _ (by omega)) _) rfl)))).trans eq⟩)⟩⟩)
            · refine xr_iload dX10_begun_136 1 rfl ?_
              refine xr_goto (tgt := 143) dX10_begun_138 rfl ?_
              exact xr_iret dX10_begun_143 rfl rfl (⟨_, rfl, rfl, rfl, (Ke.up (by unfold WRS; omega) (Ke.tr (fun pp kk hh => by unfold WR1 at hh; unfold WRS; omega) (Ke.up (by unfold WRS; omega) Ke.rf) k8)), ⟨⟨hn, by omega, (Eq.trans (congrFun (x_up_n _ _ _ (by decide)) _) (Eq.trans (k8 62 6 (by decide)) (Eq.trans (congrFun (x_up_n _ _ _ (by decide)) _) e_hn))), (fun kw hkw => by rw [show (x_up M7 63 (10 + h_) (M 63 (10 + h_))) 63 (5 + kw) = M 63 (5 + kw) from (Eq.trans (x_up_k _ _ _ (by omega)) (Eq.trans (k8 63 (5 + kw) (by unfold WR1; omega)) (Eq.trans (x_up_k _ _ _ (by omega)) rfl)))]; exact hw kw hkw)⟩, (by rw [show (x_up M7 63 (10 + h_) (M 63 (10 + h_))) 63 16 = M 63 16 from (Eq.trans (x_up_k _ _ _ (by omega)) (Eq.trans (k8 63 16 (by unfold WR1; omega)) (Eq.trans (x_up_k _ _ _ (by omega)) rfl)))]; exact hbt), ⟨un, wn, by omega, by omega, (Eq.trans (congrFun (x_up_n _ _ _ (by decide)) _) (Eq.trans (k8 62 5 (by decide)) (Eq.trans (congrFun (x_up_n _ _ _ (by decide)) _) e_un))), (Eq.trans (congrFun (x_up_n _ _ _ (by decide)) _) (Eq.trans (k8 62 4 (by decide)) (Eq.trans (congrFun (x_up_n _ _ _ (by decide)) _) e_wn)))⟩, (fun kk hkk => by rw [show (x_up M7 63 (10 + h_) (M 63 (10 + h_))) 64 kk = M 64 kk from (Eq.trans (congrFun (x_up_n _ _ _ (by omega)) _) (Eq.trans (k8 64 kk (by unfold WR1; omega)) (Eq.trans (congrFun (x_up_n _ _ _ (by omega)) _) rfl))), show (x_up M7 63 (10 + h_) (M 63 (10 + h_))) 65 kk = M 65 kk from (Eq.trans (congrFun (x_up_n _ _ _ (by omega)) _) (Eq.trans (k8 65 kk (by unfold WR1; omega)) (Eq.trans (congrFun (x_up_n _ _ _ (by omega)) _) rfl))), show (x_up M7 63 (10 + h_) (M 63 (10 + h_))) 66 kk = M 66 kk from (Eq.trans (congrFun (x_up_n _ _ _ (by omega)) _) (Eq.trans (k8 66 kk (by unfold WR1; omega)) (Eq.trans (congrFun (x_up_n _ _ _ (by omega)) _) rfl)))]; exact hch kk hkk), ⟨n, by omega, (Eq.trans (congrFun (x_up_n _ _ _ (by decide)) _) (Eq.trans (k8 62 11 (by decide)) (Eq.trans (congrFun (x_up_n _ _ _ (by decide)) _) e_n)))⟩, (by rw [show (x_up M7 63 (10 + h_) (M 63 (10 + h_))) 62 13 = M 62 13 from (Eq.trans (congrFun (x_up_n _ _ _ (by omega)) _) (Eq.trans (k8 62 13 (by unfold WR1; omega)) (Eq.trans (congrFun (x_up_n _ _ _ (by omega)) _) rfl)))]; exact htx), ⟨b, by omega, (Eq.trans (congrFun (x_up_n _ _ _ (by decide)) _) (Eq.trans (k8 62 36 (by decide)) (Eq.trans (congrFun (x_up_n _ _ _ (by decide)) _) e_b)))⟩, (fun j hj => by obtain ⟨q, hq, eq⟩ := hkd j hj; exact ⟨q, hq, (show (x_up M7 63 (10 + h_) (M 63 (10 + h_))) 81 j = M 81 j from (Eq.trans (congrFun (x_up_n _ _ _ (by omega)) _) (Eq.trans (k8 81 j (by unfold WR1; omega)) (Eq.trans (congrFun (x_up_n _ _ _ (by omega)) _) rfl)))).trans eq⟩), ⟨ra, by omega, (Eq.trans (congrFun (x_up_n _ _ _ (by decide)) _) (Eq.trans (k8 62 39 (by decide)) (Eq.trans (congrFun (x_up_n _ _ _ (by decide)) _) e_ra)))⟩, (fun j hj => by rw [show (x_up M7 63 (10 + h_) (M 63 (10 + h_))) 83 j = M 83 j from (Eq.trans (congrFun (x_up_n _ _ _ (by omega)) _) (Eq.trans (k8 83 j (by unfold WR1; omega)) (Eq.trans (congrFun (x_up_n _ _ _ (by omega)) _) rfl))), show (x_up M7 63 (10 + h_) (M 63 (10 + h_))) 84 j = M 84 j from (Eq.trans (congrFun (x_up_n _ _ _ (by omega)) _) (Eq.trans (k8 84 j (by unfold WR1; omega)) (Eq.trans (congrFun (x_up_n _ _ _ (by omega)) _) rfl)))]; exact hsl j hj), ⟨ic, by omega, (Eq.trans (congrFun (x_up_n _ _ _ (by decide)) _) (Eq.trans (k8 62 34 (by decide)) (Eq.trans (congrFun (x_up_n _ _ _ (by decide)) _) e_ic)))⟩, (fun j hj => by obtain ⟨q, hq, eq⟩ := hS j hj; exact ⟨q, hq, (show (x_up M7 63 (10 + h_) (M 63 (10 + h_))) 75 j = M 75 j from (Eq.trans (congrFun (x_up_n _ _ _ (by omega)) _) (Eq.trans (k8 75 j (by unfold WR1; omega)) (Eq.trans (congrFun (x_up_n _ _ _ (by omega)) _) rfl)))).trans eq⟩)⟩⟩)
        · refine xr_bipush (v := 9) dX10_begun_49 rfl ?_
          refine xr_goto (tgt := 55) dX10_begun_51 rfl ?_
          refine xr_istore (ls2 := [(5, .int (9)), (4, .int (M 63 (10 + h_))), (0, .ref (62)), (1, .int (nI (d_))), (2, .int (nI (h_))), (3, .int (w))]) dX10_begun_55 (by decide) rfl ?_
          refine xr_iconst (v := 0) dX10_begun_57 rfl ?_
          refine xr_istore (ls2 := [(6, .int (0)), (5, .int (9)), (4, .int (M 63 (10 + h_))), (0, .ref (62)), (1, .int (nI (d_))), (2, .int (nI (h_))), (3, .int (w))]) dX10_begun_58 (by decide) rfl ?_
          refine xr_bipush (v := -2) dX10_begun_60 rfl ?_
          refine xr_istore (ls2 := [(7, .int ((-2))), (6, .int (0)), (5, .int (9)), (4, .int (M 63 (10 + h_))), (0, .ref (62)), (1, .int (nI (d_))), (2, .int (nI (h_))), (3, .int (w))]) dX10_begun_62 (by decide) rfl ?_
          refine xr_iload dX10_begun_64 2 rfl ?_
          refine xr_ineg dX10_begun_66 ?_
          refine xb_top (y := (-9)) (by decide) ?_
          refine xr_istore (ls2 := [(8, .int ((-9))), (7, .int ((-2))), (6, .int (0)), (5, .int (9)), (4, .int (M 63 (10 + h_))), (0, .ref (62)), (1, .int (nI (d_))), (2, .int (nI (h_))), (3, .int (w))]) dX10_begun_67 (by decide) rfl ?_
          refine xb_ls (ls2 := [(8, .int ((-9))), (7, .int ((-2))), (6, .int (0)), (5, .int (9)), (4, .int (M 63 (10 + h_))), (3, .int (w)), (2, .int (nI (h_))), (1, .int (nI (d_))), (0, .ref (62))]) [0, 1, 2, 3, 4, 8, 7, 6, 5] rfl ?_
          refine rbg_l (by omega) (by omega) hnm hnm h_hn e_hn (fun kw hkw => by rw [show M 63 (5 + kw) = M 63 (5 + kw) from rfl]; exact hw kw hkw) (by rw [show M 63 16 = M 63 16 from rfl]; exact hbt) (by rw [show M 62 13 = M 62 13 from rfl]; exact htx) e_nm (fun q13 q14 M15 k16 => ?_) 19 0 (-2) 0 M (by omega) Ke.rf
          refine xr_aload_n dX10_begun_121 5 rfl ?_
          refine xr_getR flX10_9 dX10_begun_122 s_62 rfl ?_
          refine xr_bipush (v := 10) dX10_begun_125 rfl ?_
          refine xr_iload_n dX10_begun_127 4 rfl ?_
          refine xr_iadd dX10_begun_128 ?_
          refine xb_top (y := nI (10 + h_)) (nI_add (10) (h_)) ?_
          refine xr_iload dX10_begun_129 2 rfl ?_
          refine xb_iast (j := 10 + h_) dX10_begun_131 s_63 (by omega) (by decide) ?_
          refine xr_iload_n dX10_begun_132 3 rfl ?_
          refine xr_if_ne (tgt := 141) dX10_begun_133 rfl (fun c17 => ?_) (fun c17 => ?_)
          · refine xr_iload dX10_begun_141 0 rfl ?_
            exact xr_iret dX10_begun_143 rfl rfl (⟨_, rfl, rfl, rfl, (Ke.up (by unfold WRS; omega) (Ke.tr (fun _ _ h => h) Ke.rf k16)), ⟨⟨hn, by omega, (Eq.trans (congrFun (x_up_n _ _ _ (by decide)) _) (Eq.trans (k16 62 6 (by decide)) e_hn)), (fun kw hkw => by rw [show (x_up M15 63 (10 + h_) (M 63 (10 + h_))) 63 (5 + kw) = M 63 (5 + kw) from (Eq.trans (x_up_k _ _ _ (by omega)) (Eq.trans (k16 63 (5 + kw) (by unfold WRS; omega)) rfl))]; exact hw kw hkw)⟩, (by rw [show (x_up M15 63 (10 + h_) (M 63 (10 + h_))) 63 16 = M 63 16 from (Eq.trans (x_up_k _ _ _ (by omega)) (Eq.trans (k16 63 16 (by unfold WRS; omega)) rfl))]; exact hbt), ⟨un, wn, by omega, by omega, (Eq.trans (congrFun (x_up_n _ _ _ (by decide)) _) (Eq.trans (k16 62 5 (by decide)) e_un)), (Eq.trans (congrFun (x_up_n _ _ _ (by decide)) _) (Eq.trans (k16 62 4 (by decide)) e_wn))⟩, (fun kk hkk => by rw [show (x_up M15 63 (10 + h_) (M 63 (10 + h_))) 64 kk = M 64 kk from (Eq.trans (congrFun (x_up_n _ _ _ (by omega)) _) (Eq.trans (k16 64 kk (by unfold WRS; omega)) rfl)), show (x_up M15 63 (10 + h_) (M 63 (10 + h_))) 65 kk = M 65 kk from (Eq.trans (congrFun (x_up_n _ _ _ (by omega)) _) (Eq.trans (k16 65 kk (by unfold WRS; omega)) rfl)), show (x_up M15 63 (10 + h_) (M 63 (10 + h_))) 66 kk = M 66 kk from (Eq.trans (congrFun (x_up_n _ _ _ (by omega)) _) (Eq.trans (k16 66 kk (by unfold WRS; omega)) rfl))]; exact hch kk hkk), ⟨n, by omega, (Eq.trans (congrFun (x_up_n _ _ _ (by decide)) _) (Eq.trans (k16 62 11 (by decide)) e_n))⟩, (by rw [show (x_up M15 63 (10 + h_) (M 63 (10 + h_))) 62 13 = M 62 13 from (Eq.trans (congrFun (x_up_n _ _ _ (by omega)) _) (Eq.trans (k16 62 13 (by unfold WRS; omega)) rfl))]; exact htx), ⟨b, by omega, (Eq.trans (congrFun (x_up_n _ _ _ (by decide)) _) (Eq.trans (k16 62 36 (by decide)) e_b))⟩, (fun j hj => by obtain ⟨q, hq, eq⟩ := hkd j hj; exact ⟨q, hq, (show (x_up M15 63 (10 + h_) (M 63 (10 + h_))) 81 j = M 81 j from (Eq.trans (congrFun (x_up_n _ _ _ (by omega)) _) (Eq.trans (k16 81 j (by unfold WRS; omega)) rfl))).trans eq⟩), ⟨ra, by omega, (Eq.trans (congrFun (x_up_n _ _ _ (by decide)) _) (Eq.trans (k16 62 39 (by decide)) e_ra))⟩, (fun j hj => by rw [show (x_up M15 63 (10 + h_) (M 63 (10 + h_))) 83 j = M 83 j from (Eq.trans (congrFun (x_up_n _ _ _ (by omega)) _) (Eq.trans (k16 83 j (by unfold WRS; omega)) rfl)), show (x_up M15 63 (10 + h_) (M 63 (10 + h_))) 84 j = M 84 j from (Eq.trans (congrFun (x_up_n _ _ _ (by omega)) _) (Eq.trans (k16 84 j (by unfold WRS; omega)) rfl))]; exact hsl j hj), ⟨ic, by omega, (Eq.trans (congrFun (x_up_n _ _ _ (by decide)) _) (Eq.trans (k16 62 34 (by decide)) e_ic))⟩, (fun j hj => by obtain ⟨q, hq, eq⟩ := hS j hj; exact ⟨q, hq, (show (x_up M15 63 (10 + h_) (M 63 (10 + h_))) 75 j = M 75 j from (Eq.trans (congrFun (x_up_n _ _ _ (by omega)) _) (Eq.trans (k16 75 j (by unfold WRS; omega)) rfl))).trans eq⟩)⟩⟩)
          · refine xr_iload dX10_begun_136 1 rfl ?_
            refine xr_goto (tgt := 143) dX10_begun_138 rfl ?_
            exact xr_iret dX10_begun_143 rfl rfl (⟨_, rfl, rfl, rfl, (Ke.up (by unfold WRS; omega) (Ke.tr (fun _ _ h => h) Ke.rf k16)), ⟨⟨hn, by omega, (Eq.trans (congrFun (x_up_n _ _ _ (by decide)) _) (Eq.trans (k16 62 6 (by decide)) e_hn)), (fun kw hkw => by rw [show (x_up M15 63 (10 + h_) (M 63 (10 + h_))) 63 (5 + kw) = M 63 (5 + kw) from (Eq.trans (x_up_k _ _ _ (by omega)) (Eq.trans (k16 63 (5 + kw) (by unfold WRS; omega)) rfl))]; exact hw kw hkw)⟩, (by rw [show (x_up M15 63 (10 + h_) (M 63 (10 + h_))) 63 16 = M 63 16 from (Eq.trans (x_up_k _ _ _ (by omega)) (Eq.trans (k16 63 16 (by unfold WRS; omega)) rfl))]; exact hbt), ⟨un, wn, by omega, by omega, (Eq.trans (congrFun (x_up_n _ _ _ (by decide)) _) (Eq.trans (k16 62 5 (by decide)) e_un)), (Eq.trans (congrFun (x_up_n _ _ _ (by decide)) _) (Eq.trans (k16 62 4 (by decide)) e_wn))⟩, (fun kk hkk => by rw [show (x_up M15 63 (10 + h_) (M 63 (10 + h_))) 64 kk = M 64 kk from (Eq.trans (congrFun (x_up_n _ _ _ (by omega)) _) (Eq.trans (k16 64 kk (by unfold WRS; omega)) rfl)), show (x_up M15 63 (10 + h_) (M 63 (10 + h_))) 65 kk = M 65 kk from (Eq.trans (congrFun (x_up_n _ _ _ (by omega)) _) (Eq.trans (k16 65 kk (by unfold WRS; omega)) rfl)), show (x_up M15 63 (10 + h_) (M 63 (10 + h_))) 66 kk = M 66 kk from (Eq.trans (congrFun (x_up_n _ _ _ (by omega)) _) (Eq.trans (k16 66 kk (by unfold WRS; omega)) rfl))]; exact hch kk hkk), ⟨n, by omega, (Eq.trans (congrFun (x_up_n _ _ _ (by decide)) _) (Eq.trans (k16 62 11 (by decide)) e_n))⟩, (by rw [show (x_up M15 63 (10 + h_) (M 63 (10 + h_))) 62 13 = M 62 13 from (Eq.trans (congrFun (x_up_n _ _ _ (by omega)) _) (Eq.trans (k16 62 13 (by unfold WRS; omega)) rfl))]; exact htx), ⟨b, by omega, (Eq.trans (congrFun (x_up_n _ _ _ (by decide)) _) (Eq.trans (k16 62 36 (by decide)) e_b))⟩, (fun j hj => by obtain ⟨q, hq, eq⟩ := hkd j hj; exact ⟨q, hq, (show (x_up M15 63 (10 + h_) (M 63 (10 + h_))) 81 j = M 81 j from (Eq.trans (congrFun (x_up_n _ _ _ (by omega)) _) (Eq.trans (k16 81 j (by unfold WRS; omega)) rfl))).trans eq⟩), ⟨ra, by omega, (Eq.trans (congrFun (x_up_n _ _ _ (by decide)) _) (Eq.trans (k16 62 39 (by decide)) e_ra))⟩, (fun j hj => by rw [show (x_up M15 63 (10 + h_) (M 63 (10 + h_))) 83 j = M 83 j from (Eq.trans (congrFun (x_up_n _ _ _ (by omega)) _) (Eq.trans (k16 83 j (by unfold WRS; omega)) rfl)), show (x_up M15 63 (10 + h_) (M 63 (10 + h_))) 84 j = M 84 j from (Eq.trans (congrFun (x_up_n _ _ _ (by omega)) _) (Eq.trans (k16 84 j (by unfold WRS; omega)) rfl))]; exact hsl j hj), ⟨ic, by omega, (Eq.trans (congrFun (x_up_n _ _ _ (by decide)) _) (Eq.trans (k16 62 34 (by decide)) e_ic))⟩, (fun j hj => by obtain ⟨q, hq, eq⟩ := hS j hj; exact ⟨q, hq, (show (x_up M15 63 (10 + h_) (M 63 (10 + h_))) 75 j = M 75 j from (Eq.trans (congrFun (x_up_n _ _ _ (by omega)) _) (Eq.trans (k16 75 j (by unfold WRS; omega)) rfl))).trans eq⟩)⟩⟩)
      · refine xr_ldc coX10_140 dX10_begun_26 ?_
        exact xr_iret dX10_begun_28 rfl rfl (⟨_, rfl, rfl, rfl, Ke.rf, ⟨⟨hn, by omega, e_hn, (fun kw hkw => by rw [show M 63 (5 + kw) = M 63 (5 + kw) from rfl]; exact hw kw hkw)⟩, (by rw [show M 63 16 = M 63 16 from rfl]; exact hbt), ⟨un, wn, by omega, by omega, e_un, e_wn⟩, (fun kk hkk => by rw [show M 64 kk = M 64 kk from rfl, show M 65 kk = M 65 kk from rfl, show M 66 kk = M 66 kk from rfl]; exact hch kk hkk), ⟨n, by omega, e_n⟩, (by rw [show M 62 13 = M 62 13 from rfl]; exact htx), ⟨b, by omega, e_b⟩, (fun j hj => by obtain ⟨q, hq, eq⟩ := hkd j hj; exact ⟨q, hq, (show M 81 j = M 81 j from rfl).trans eq⟩), ⟨ra, by omega, e_ra⟩, (fun j hj => by rw [show M 83 j = M 83 j from rfl, show M 84 j = M 84 j from rfl]; exact hsl j hj), ⟨ic, by omega, e_ic⟩, (fun j hj => by obtain ⟨q, hq, eq⟩ := hS j hj; exact ⟨q, hq, (show M 75 j = M 75 j from rfl).trans eq⟩)⟩⟩)
set_option maxRecDepth 100000 in
set_option maxHeartbeats 4000000 in
theorem g_X10_go (nn : Int32) {l : Launch} {G : xG} {M : xM} {J : xJ} (hI : InvR M) : x_M l G fX10_go 62 0 0 [.ref (62), .int (nn)] x_SH M J (qKI WRG M J (fun r M2 => InvR M2)) := by
  refine xb_of pX10 (Nat.le_of_ble_eq_true rfl) rfl ?_
  obtain ⟨⟨hn, h_hn, e_hn, hw⟩, hbt, ⟨un, wn, h_uw, h_wn, e_un, e_wn⟩, hch, ⟨n, h_n, e_n⟩, htx, ⟨b, h_b, e_b⟩, hkd, ⟨ra, h_ra, e_ra⟩, hsl, ⟨ic, h_ic, e_ic⟩, hS⟩ := hI
  refine xr_iload_n dX10_go_0 1 rfl ?_
  refine xr_i2l dX10_go_1 ?_
  refine xr_lconst (v := 1) dX10_go_2 rfl ?_
  refine xr_ldc2 coX10_244 dX10_go_3 ?_
  refine xb_cS (As := [.long ((nn).toInt64), .long (1), .long (200)]) (rest := []) mlX10_101 (c_within32 (nn) (1) (200) (by decide) (by decide)) dX10_go_6 rfl rfl (Nat.le_of_ble_eq_true rfl) (by decide) (by decide) ?_
  refine xb_bne (tgt := 14) dX10_go_9 rfl (fun c1 => ?_) (fun c1 => ?_)
  · obtain ⟨N, hN, rfl⟩ := x_natle (v := nn) (N := 200) (K := 200) (by decide) (by decide) ⟨by grind, c1.2⟩
    refine xr_aload_n dX10_go_14 0 rfl ?_
    refine xr_callV (As := []) (rest := []) mlX10_246 (g_X10_upNow h_hn e_hn (fun kw hkw => by rw [show M 63 (5 + kw) = M 63 (5 + kw) from rfl]; exact hw kw hkw) (by rw [show M 63 16 = M 63 16 from rfl]; exact hbt) (by rw [show M 62 13 = M 62 13 from rfl]; exact htx)) dX10_go_15 s_62 rfl rfl (Nat.le_of_ble_eq_true rfl) (by decide) ⟨by decide, by decide⟩ (fun v s2 M9 J2 hq => ?_)
    obtain ⟨r2, rfl, rfl, rfl, rfl, _⟩ := hq
    try dsimp only [Option.toList, List.cons_append, List.nil_append]
    refine xr_istore_n (ls2 := [(2, .int (r2)), (0, .ref (62)), (1, .int (nI (N)))]) dX10_go_18 (by decide) rfl ?_
    refine xr_aload_n dX10_go_19 1 rfl ?_
    refine xr_iload_n dX10_go_20 0 rfl ?_
    refine xr_callV (As := [.int (r2)]) (rest := []) mlX10_249 (g_X10_begins1 r2 h_hn e_hn (fun kw hkw => by rw [show M 63 (5 + kw) = M 63 (5 + kw) from rfl]; exact hw kw hkw) (by rw [show M 63 16 = M 63 16 from rfl]; exact hbt) (by rw [show M 62 13 = M 62 13 from rfl]; exact htx)) dX10_go_21 s_62 rfl rfl (Nat.le_of_ble_eq_true rfl) (by decide) ⟨by decide, by decide⟩ (fun v s2 M3 J2 hq => ?_)
    obtain ⟨rfl, rfl, rfl, k4, _⟩ := hq
    try dsimp only [Option.toList, List.cons_append, List.nil_append]
    refine xr_aload_n dX10_go_24 1 rfl ?_
    refine xr_iconst (v := 0) dX10_go_25 rfl ?_
    refine xr_putI fpX10_237 dX10_go_26 s_62 rfl rfl rfl ?_
    refine xr_iconst (v := 0) dX10_go_29 rfl ?_
    refine xr_istore_n (ls2 := [(3, .int (0)), (2, .int (r2)), (0, .ref (62)), (1, .int (nI (N)))]) dX10_go_30 (by decide) rfl ?_
    refine xb_ls (ls2 := [(3, .int (nI (0))), (2, .int (r2)), (1, .int (nI (N))), (0, .ref (62))]) [0, 1, 3, 2] rfl ?_
    refine rgo_l (by omega) h_hn (Eq.trans (x_up_k _ _ _ (by decide)) (Eq.trans (k4 62 6 (by decide)) e_hn)) (fun kw hkw => by rw [show (x_up M3 62 23 0) 63 (5 + kw) = M 63 (5 + kw) from (Eq.trans (congrFun (x_up_n _ _ _ (by omega)) _) (Eq.trans (k4 63 (5 + kw) (by unfold WR1; omega)) rfl))]; exact hw kw hkw) (by rw [show (x_up M3 62 23 0) 63 16 = M 63 16 from (Eq.trans (congrFun (x_up_n _ _ _ (by omega)) _) (Eq.trans (k4 63 16 (by unfold WR1; omega)) rfl))]; exact hbt) (by rw [show (x_up M3 62 23 0) 62 13 = M 62 13 from (Eq.trans (x_up_k _ _ _ (by omega)) (Eq.trans (k4 62 13 (by unfold WR1; omega)) rfl))]; exact htx) (fun M5 k6 => ?_) (N - 0) 0 (x_up M3 62 23 0) (by omega) Ke.rf
    refine xr_aload_n dX10_go_92 2 rfl ?_
    refine xr_dup dX10_go_93 rfl ?_
    refine xb_get (v := M5 62 24) flX10_258 dX10_go_94 s_62 rfl rfl ?_
    refine xr_aload_n dX10_go_97 2 rfl ?_
    refine xb_get (v := M5 62 23) flX10_237 dX10_go_98 s_62 rfl rfl ?_
    refine xr_iadd dX10_go_101 ?_
    refine xr_putI fpX10_258 dX10_go_102 s_62 rfl rfl rfl ?_
    refine xr_iconst (v := 0) dX10_go_105 rfl ?_
    refine xr_istore_n (ls2 := [(3, .int (0)), (2, .int (r2)), (1, .int (nI (N))), (0, .ref (62))]) dX10_go_106 (by decide) rfl ?_
    refine xb_ls (ls2 := [(3, .int (nI (0))), (2, .int (r2)), (1, .int (nI (N))), (0, .ref (62))]) [0, 1, 2, 3] rfl ?_
    refine rg2_l h_hn (Eq.trans (x_up_k _ _ _ (by decide)) (Eq.trans (k6 62 6 (by decide)) (Eq.trans (x_up_k _ _ _ (by decide)) (Eq.trans (k4 62 6 (by decide)) e_hn)))) (fun kw hkw => by rw [show (x_up M5 62 24 ((M5 62 24) + (M5 62 23))) 63 (5 + kw) = M 63 (5 + kw) from (Eq.trans (congrFun (x_up_n _ _ _ (by omega)) _) (Eq.trans (k6 63 (5 + kw) (by unfold WRG; omega)) (Eq.trans (congrFun (x_up_n _ _ _ (by omega)) _) (Eq.trans (k4 63 (5 + kw) (by unfold WR1; omega)) rfl))))]; exact hw kw hkw) (by rw [show (x_up M5 62 24 ((M5 62 24) + (M5 62 23))) 63 16 = M 63 16 from (Eq.trans (congrFun (x_up_n _ _ _ (by omega)) _) (Eq.trans (k6 63 16 (by unfold WRG; omega)) (Eq.trans (congrFun (x_up_n _ _ _ (by omega)) _) (Eq.trans (k4 63 16 (by unfold WR1; omega)) rfl))))]; exact hbt) (by rw [show (x_up M5 62 24 ((M5 62 24) + (M5 62 23))) 62 13 = M 62 13 from (Eq.trans (x_up_k _ _ _ (by omega)) (Eq.trans (k6 62 13 (by unfold WRG; omega)) (Eq.trans (x_up_k _ _ _ (by omega)) (Eq.trans (k4 62 13 (by unfold WR1; omega)) rfl))))]; exact htx) (fun M7 k8 => ?_) (hn - 0) 0 (x_up M5 62 24 ((M5 62 24) + (M5 62 23))) (by omega) Ke.rf
    refine xr_aload_n dX10_go_160 2 rfl ?_
    refine xr_callV (As := []) (rest := []) mlX10_246 (g_X10_upNow h_hn (Eq.trans (k8 62 6 (by decide)) (Eq.trans (x_up_k _ _ _ (by decide)) (Eq.trans (k6 62 6 (by decide)) (Eq.trans (x_up_k _ _ _ (by decide)) (Eq.trans (k4 62 6 (by decide)) e_hn))))) (fun kw hkw => by rw [show M7 63 (5 + kw) = M 63 (5 + kw) from (Eq.trans (k8 63 (5 + kw) (by unfold WRG; omega)) (Eq.trans (congrFun (x_up_n _ _ _ (by omega)) _) (Eq.trans (k6 63 (5 + kw) (by unfold WRG; omega)) (Eq.trans (congrFun (x_up_n _ _ _ (by omega)) _) (Eq.trans (k4 63 (5 + kw) (by unfold WR1; omega)) rfl)))))]; exact hw kw hkw) (by rw [show M7 63 16 = M 63 16 from (Eq.trans (k8 63 16 (by unfold WRG; omega)) (Eq.trans (congrFun (x_up_n _ _ _ (by omega)) _) (Eq.trans (k6 63 16 (by unfold WRG; omega)) (Eq.trans (congrFun (x_up_n _ _ _ (by omega)) _) (Eq.trans (k4 63 16 (by unfold WR1; omega)) rfl)))))]; exact hbt) (by rw [show M7 62 13 = M 62 13 from (Eq.trans (k8 62 13 (by unfold WRG; omega)) (Eq.trans (x_up_k _ _ _ (by omega)) (Eq.trans (k6 62 13 (by unfold WRG; omega)) (Eq.trans (x_up_k _ _ _ (by omega)) (Eq.trans (k4 62 13 (by unfold WR1; omega)) rfl)))))]; exact htx)) dX10_go_161 s_62 rfl rfl (Nat.le_of_ble_eq_true rfl) (by decide) ⟨by decide, by decide⟩ (fun v s2 M9 J2 hq => ?_)
    obtain ⟨r9, rfl, rfl, rfl, rfl, _⟩ := hq
    try dsimp only [Option.toList, List.cons_append, List.nil_append]
    refine xr_callS (As := [.int (r9)]) (rest := []) mlX10_261 (g_X10_bitsOf r9) dX10_go_164 rfl rfl (Nat.le_of_ble_eq_true rfl) (by decide) ⟨by decide, by decide⟩ (fun v s2 M9 J2 hq => ?_)
    obtain ⟨r10, rfl, rfl, rfl, rfl, _⟩ := hq
    try dsimp only [Option.toList, List.cons_append, List.nil_append]
    exact xr_iret dX10_go_167 rfl rfl (⟨_, rfl, rfl, rfl, (Ke.tr (fun _ _ h => h) (Ke.up (by decide) (Ke.tr (fun _ _ h => h) (Ke.up (by decide) (Ke.tr (fun pp kk hh => by unfold WR1 at hh; unfold WRG; omega) Ke.rf k4)) k6)) k8), ⟨⟨hn, by omega, (Eq.trans (k8 62 6 (by decide)) (Eq.trans (x_up_k _ _ _ (by decide)) (Eq.trans (k6 62 6 (by decide)) (Eq.trans (x_up_k _ _ _ (by decide)) (Eq.trans (k4 62 6 (by decide)) e_hn))))), (fun kw hkw => by rw [show M7 63 (5 + kw) = M 63 (5 + kw) from (Eq.trans (k8 63 (5 + kw) (by unfold WRG; omega)) (Eq.trans (congrFun (x_up_n _ _ _ (by omega)) _) (Eq.trans (k6 63 (5 + kw) (by unfold WRG; omega)) (Eq.trans (congrFun (x_up_n _ _ _ (by omega)) _) (Eq.trans (k4 63 (5 + kw) (by unfold WR1; omega)) rfl)))))]; exact hw kw hkw)⟩, (by rw [show M7 63 16 = M 63 16 from (Eq.trans (k8 63 16 (by unfold WRG; omega)) (Eq.trans (congrFun (x_up_n _ _ _ (by omega)) _) (Eq.trans (k6 63 16 (by unfold WRG; omega)) (Eq.trans (congrFun (x_up_n _ _ _ (by omega)) _) (Eq.trans (k4 63 16 (by unfold WR1; omega)) rfl)))))]; exact hbt), ⟨un, wn, by omega, by omega, (Eq.trans (k8 62 5 (by decide)) (Eq.trans (x_up_k _ _ _ (by decide)) (Eq.trans (k6 62 5 (by decide)) (Eq.trans (x_up_k _ _ _ (by decide)) (Eq.trans (k4 62 5 (by decide)) e_un))))), (Eq.trans (k8 62 4 (by decide)) (Eq.trans (x_up_k _ _ _ (by decide)) (Eq.trans (k6 62 4 (by decide)) (Eq.trans (x_up_k _ _ _ (by decide)) (Eq.trans (k4 62 4 (by decide)) e_wn)))))⟩, (fun kk hkk => by rw [show M7 64 kk = M 64 kk from (Eq.trans (k8 64 kk (by unfold WRG; omega)) (Eq.trans (congrFun (x_up_n _ _ _ (by omega)) _) (Eq.trans (k6 64 kk (by unfold WRG; omega)) (Eq.trans (congrFun (x_up_n _ _ _ (by omega)) _) (Eq.trans (k4 64 kk (by unfold WR1; omega)) rfl))))), show M7 65 kk = M 65 kk from (Eq.trans (k8 65 kk (by unfold WRG; omega)) (Eq.trans (congrFun (x_up_n _ _ _ (by omega)) _) (Eq.trans (k6 65 kk (by unfold WRG; omega)) (Eq.trans (congrFun (x_up_n _ _ _ (by omega)) _) (Eq.trans (k4 65 kk (by unfold WR1; omega)) rfl))))), show M7 66 kk = M 66 kk from (Eq.trans (k8 66 kk (by unfold WRG; omega)) (Eq.trans (congrFun (x_up_n _ _ _ (by omega)) _) (Eq.trans (k6 66 kk (by unfold WRG; omega)) (Eq.trans (congrFun (x_up_n _ _ _ (by omega)) _) (Eq.trans (k4 66 kk (by unfold WR1; omega)) rfl)))))]; exact hch kk hkk), ⟨n, by omega, (Eq.trans (k8 62 11 (by decide)) (Eq.trans (x_up_k _ _ _ (by decide)) (Eq.trans (k6 62 11 (by decide)) (Eq.trans (x_up_k _ _ _ (by decide)) (Eq.trans (k4 62 11 (by decide)) e_n)))))⟩, (by rw [show M7 62 13 = M 62 13 from (Eq.trans (k8 62 13 (by unfold WRG; omega)) (Eq.trans (x_up_k _ _ _ (by omega)) (Eq.trans (k6 62 13 (by unfold WRG; omega)) (Eq.trans (x_up_k _ _ _ (by omega)) (Eq.trans (k4 62 13 (by unfold WR1; omega)) rfl)))))]; exact htx), ⟨b, by omega, (Eq.trans (k8 62 36 (by decide)) (Eq.trans (x_up_k _ _ _ (by decide)) (Eq.trans (k6 62 36 (by decide)) (Eq.trans (x_up_k _ _ _ (by decide)) (Eq.trans (k4 62 36 (by decide)) e_b)))))⟩, (fun j hj => by obtain ⟨q, hq, eq⟩ := hkd j hj; exact ⟨q, hq, (show M7 81 j = M 81 j from (Eq.trans (k8 81 j (by unfold WRG; omega)) (Eq.trans (congrFun (x_up_n _ _ _ (by omega)) _) (Eq.trans (k6 81 j (by unfold WRG; omega)) (Eq.trans (congrFun (x_up_n _ _ _ (by omega)) _) (Eq.trans (k4 81 j (by unfold WR1; omega)) rfl)))))).trans eq⟩), ⟨ra, by omega, (Eq.trans (k8 62 39 (by decide)) (Eq.trans (x_up_k _ _ _ (by decide)) (Eq.trans (k6 62 39 (by decide)) (Eq.trans (x_up_k _ _ _ (by decide)) (Eq.trans (k4 62 39 (by decide)) e_ra)))))⟩, (fun j hj => by rw [show M7 83 j = M 83 j from (Eq.trans (k8 83 j (by unfold WRG; omega)) (Eq.trans (congrFun (x_up_n _ _ _ (by omega)) _) (Eq.trans (k6 83 j (by unfold WRG; omega)) (Eq.trans (congrFun (x_up_n _ _ _ (by omega)) _) (Eq.trans (k4 83 j (by unfold WR1; omega)) rfl))))), show M7 84 j = M 84 j from (Eq.trans (k8 84 j (by unfold WRG; omega)) (Eq.trans (congrFun (x_up_n _ _ _ (by omega)) _) (Eq.trans (k6 84 j (by unfold WRG; omega)) (Eq.trans (congrFun (x_up_n _ _ _ (by omega)) _) (Eq.trans (k4 84 j (by unfold WR1; omega)) rfl)))))]; exact hsl j hj), ⟨ic, by omega, (Eq.trans (k8 62 34 (by decide)) (Eq.trans (x_up_k _ _ _ (by decide)) (Eq.trans (k6 62 34 (by decide)) (Eq.trans (x_up_k _ _ _ (by decide)) (Eq.trans (k4 62 34 (by decide)) e_ic)))))⟩, (fun j hj => by obtain ⟨q, hq, eq⟩ := hS j hj; exact ⟨q, hq, (show M7 75 j = M 75 j from (Eq.trans (k8 75 j (by unfold WRG; omega)) (Eq.trans (congrFun (x_up_n _ _ _ (by omega)) _) (Eq.trans (k6 75 j (by unfold WRG; omega)) (Eq.trans (congrFun (x_up_n _ _ _ (by omega)) _) (Eq.trans (k4 75 j (by unfold WR1; omega)) rfl)))))).trans eq⟩)⟩⟩)
  · refine xr_iconst (v := -1) dX10_go_12 rfl ?_
    exact xr_iret dX10_go_13 rfl rfl (⟨_, rfl, rfl, rfl, Ke.rf, ⟨⟨hn, by omega, e_hn, (fun kw hkw => by rw [show M 63 (5 + kw) = M 63 (5 + kw) from rfl]; exact hw kw hkw)⟩, (by rw [show M 63 16 = M 63 16 from rfl]; exact hbt), ⟨un, wn, by omega, by omega, e_un, e_wn⟩, (fun kk hkk => by rw [show M 64 kk = M 64 kk from rfl, show M 65 kk = M 65 kk from rfl, show M 66 kk = M 66 kk from rfl]; exact hch kk hkk), ⟨n, by omega, e_n⟩, (by rw [show M 62 13 = M 62 13 from rfl]; exact htx), ⟨b, by omega, e_b⟩, (fun j hj => by obtain ⟨q, hq, eq⟩ := hkd j hj; exact ⟨q, hq, (show M 81 j = M 81 j from rfl).trans eq⟩), ⟨ra, by omega, e_ra⟩, (fun j hj => by rw [show M 83 j = M 83 j from rfl, show M 84 j = M 84 j from rfl]; exact hsl j hj), ⟨ic, by omega, e_ic⟩, (fun j hj => by obtain ⟨q, hq, eq⟩ := hS j hj; exact ⟨q, hq, (show M 75 j = M 75 j from rfl).trans eq⟩)⟩⟩)
