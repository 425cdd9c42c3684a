/-! OWN DECODE ROWS, by program (wip/whole/gen/names.py) -/
theorem d_B_init_0 : decode b_B_init 0 = .ok (.aload_n 0, 1) := by decide +kernel
theorem d_B_init_1 : decode b_B_init 1 = .ok (.invokespecial 3, 3) := by decide +kernel
theorem d_B_init_4 : decode b_B_init 4 = .ok (.aload_n 0, 1) := by decide +kernel
theorem d_B_init_5 : decode b_B_init 5 = .ok (.sipush 6000, 3) := by decide +kernel
theorem d_B_init_8 : decode b_B_init 8 = .ok (.newarray .byte, 2) := by decide +kernel
theorem d_B_init_10 : decode b_B_init 10 = .ok (.putfield 9, 3) := by decide +kernel
theorem d_B_init_13 : decode b_B_init 13 = .ok (.return_, 1) := by decide +kernel
theorem d_Q_init_0 : decode b_Q_init 0 = .ok (.aload_n 0, 1) := by decide +kernel
theorem d_Q_init_1 : decode b_Q_init 1 = .ok (.invokespecial 3, 3) := by decide +kernel
theorem d_Q_init_4 : decode b_Q_init 4 = .ok (.aload_n 0, 1) := by decide +kernel
theorem d_Q_init_5 : decode b_Q_init 5 = .ok (.sipush 1000, 3) := by decide +kernel
theorem d_Q_init_8 : decode b_Q_init 8 = .ok (.newarray .byte, 2) := by decide +kernel
theorem d_Q_init_10 : decode b_Q_init 10 = .ok (.putfield 9, 3) := by decide +kernel
theorem d_Q_init_13 : decode b_Q_init 13 = .ok (.return_, 1) := by decide +kernel
theorem d_S_init_0 : decode b_S_init 0 = .ok (.aload_n 0, 1) := by decide +kernel
theorem d_S_init_1 : decode b_S_init 1 = .ok (.invokespecial 1, 3) := by decide +kernel
theorem d_S_init_4 : decode b_S_init 4 = .ok (.aload_n 0, 1) := by decide +kernel
theorem d_S_init_5 : decode b_S_init 5 = .ok (.new 7, 3) := by decide +kernel
theorem d_S_init_8 : decode b_S_init 8 = .ok (.dup, 1) := by decide +kernel
theorem d_S_init_9 : decode b_S_init 9 = .ok (.iconst 0, 1) := by decide +kernel
theorem d_S_init_10 : decode b_S_init 10 = .ok (.iload_n 1, 1) := by decide +kernel
theorem d_S_init_11 : decode b_S_init 11 = .ok (.invokespecial 9, 3) := by decide +kernel
theorem d_S_init_14 : decode b_S_init 14 = .ok (.putfield 12, 3) := by decide +kernel
theorem d_S_init_17 : decode b_S_init 17 = .ok (.aload_n 0, 1) := by decide +kernel
theorem d_S_init_18 : decode b_S_init 18 = .ok (.new 7, 3) := by decide +kernel
theorem d_S_init_21 : decode b_S_init 21 = .ok (.dup, 1) := by decide +kernel
theorem d_S_init_22 : decode b_S_init 22 = .ok (.iconst 1, 1) := by decide +kernel
theorem d_S_init_23 : decode b_S_init 23 = .ok (.iload_n 1, 1) := by decide +kernel
theorem d_S_init_24 : decode b_S_init 24 = .ok (.invokespecial 9, 3) := by decide +kernel
theorem d_S_init_27 : decode b_S_init 27 = .ok (.putfield 18, 3) := by decide +kernel
theorem d_S_init_30 : decode b_S_init 30 = .ok (.return_, 1) := by decide +kernel
theorem d_E_init_0 : decode b_E_init 0 = .ok (.aload_n 0, 1) := by decide +kernel
theorem d_E_init_1 : decode b_E_init 1 = .ok (.invokespecial 3, 3) := by decide +kernel
theorem d_E_init_4 : decode b_E_init 4 = .ok (.aload_n 0, 1) := by decide +kernel
theorem d_E_init_5 : decode b_E_init 5 = .ok (.iload_n 1, 1) := by decide +kernel
theorem d_E_init_6 : decode b_E_init 6 = .ok (.putfield 9, 3) := by decide +kernel
theorem d_E_init_9 : decode b_E_init 9 = .ok (.aload_n 0, 1) := by decide +kernel
theorem d_E_init_10 : decode b_E_init 10 = .ok (.iload_n 2, 1) := by decide +kernel
theorem d_E_init_11 : decode b_E_init 11 = .ok (.putfield 15, 3) := by decide +kernel
theorem d_E_init_14 : decode b_E_init 14 = .ok (.aload_n 0, 1) := by decide +kernel
theorem d_E_init_15 : decode b_E_init 15 = .ok (.invokevirtual 18, 3) := by decide +kernel
theorem d_E_init_18 : decode b_E_init 18 = .ok (.return_, 1) := by decide +kernel
theorem d_E_restart_0 : decode b_E_restart 0 = .ok (.aload_n 0, 1) := by decide +kernel
theorem d_E_restart_1 : decode b_E_restart 1 = .ok (.aload_n 0, 1) := by decide +kernel
theorem d_E_restart_2 : decode b_E_restart 2 = .ok (.getfield 15, 3) := by decide +kernel
theorem d_E_restart_5 : decode b_E_restart 5 = .ok (.putfield 21, 3) := by decide +kernel
theorem d_E_restart_8 : decode b_E_restart 8 = .ok (.aload_n 0, 1) := by decide +kernel
theorem d_E_restart_9 : decode b_E_restart 9 = .ok (.iconst 1, 1) := by decide +kernel
theorem d_E_restart_10 : decode b_E_restart 10 = .ok (.putfield 24, 3) := by decide +kernel
theorem d_E_restart_13 : decode b_E_restart 13 = .ok (.aload_n 0, 1) := by decide +kernel
theorem d_E_restart_14 : decode b_E_restart 14 = .ok (.iconst 0, 1) := by decide +kernel
theorem d_E_restart_15 : decode b_E_restart 15 = .ok (.putfield 27, 3) := by decide +kernel
theorem d_E_restart_18 : decode b_E_restart 18 = .ok (.return_, 1) := by decide +kernel
theorem d_Q_drop_0 : decode b_Q_drop 0 = .ok (.iload_n 1, 1) := by decide +kernel
theorem d_Q_drop_1 : decode b_Q_drop 1 = .ok (.aload_n 0, 1) := by decide +kernel
theorem d_Q_drop_2 : decode b_Q_drop 2 = .ok (.getfield 15, 3) := by decide +kernel
theorem d_Q_drop_5 : decode b_Q_drop 5 = .ok (.invokestatic 29, 3) := by decide +kernel
theorem d_Q_drop_8 : decode b_Q_drop 8 = .ok (.istore_n 2, 1) := by decide +kernel
theorem d_Q_drop_9 : decode b_Q_drop 9 = .ok (.aload_n 0, 1) := by decide +kernel
theorem d_Q_drop_10 : decode b_Q_drop 10 = .ok (.aload_n 0, 1) := by decide +kernel
theorem d_Q_drop_11 : decode b_Q_drop 11 = .ok (.iload_n 2, 1) := by decide +kernel
theorem d_Q_drop_12 : decode b_Q_drop 12 = .ok (.invokevirtual 22, 3) := by decide +kernel
theorem d_Q_drop_15 : decode b_Q_drop 15 = .ok (.putfield 19, 3) := by decide +kernel
theorem d_Q_drop_18 : decode b_Q_drop 18 = .ok (.aload_n 0, 1) := by decide +kernel
theorem d_Q_drop_19 : decode b_Q_drop 19 = .ok (.dup, 1) := by decide +kernel
theorem d_Q_drop_20 : decode b_Q_drop 20 = .ok (.getfield 15, 3) := by decide +kernel
theorem d_Q_drop_23 : decode b_Q_drop 23 = .ok (.iload_n 2, 1) := by decide +kernel
theorem d_Q_drop_24 : decode b_Q_drop 24 = .ok (.isub, 1) := by decide +kernel
theorem d_Q_drop_25 : decode b_Q_drop 25 = .ok (.putfield 15, 3) := by decide +kernel
theorem d_Q_drop_28 : decode b_Q_drop 28 = .ok (.return_, 1) := by decide +kernel
theorem d_Q_placeOf_0 : decode b_Q_placeOf 0 = .ok (.aload_n 0, 1) := by decide +kernel
theorem d_Q_placeOf_1 : decode b_Q_placeOf 1 = .ok (.getfield 19, 3) := by decide +kernel
theorem d_Q_placeOf_4 : decode b_Q_placeOf 4 = .ok (.iload_n 1, 1) := by decide +kernel
theorem d_Q_placeOf_5 : decode b_Q_placeOf 5 = .ok (.iadd, 1) := by decide +kernel
theorem d_Q_placeOf_6 : decode b_Q_placeOf 6 = .ok (.istore_n 2, 1) := by decide +kernel
theorem d_Q_placeOf_7 : decode b_Q_placeOf 7 = .ok (.iload_n 2, 1) := by decide +kernel
theorem d_Q_placeOf_8 : decode b_Q_placeOf 8 = .ok (.aload_n 0, 1) := by decide +kernel
theorem d_Q_placeOf_9 : decode b_Q_placeOf 9 = .ok (.getfield 9, 3) := by decide +kernel
theorem d_Q_placeOf_12 : decode b_Q_placeOf 12 = .ok (.arraylength, 1) := by decide +kernel
theorem d_Q_placeOf_13 : decode b_Q_placeOf 13 = .ok (.if_icmp .ge 7, 3) := by decide +kernel
theorem d_Q_placeOf_16 : decode b_Q_placeOf 16 = .ok (.iload_n 2, 1) := by decide +kernel
theorem d_Q_placeOf_17 : decode b_Q_placeOf 17 = .ok (.goto 10, 3) := by decide +kernel
theorem d_Q_placeOf_20 : decode b_Q_placeOf 20 = .ok (.iload_n 2, 1) := by decide +kernel
theorem d_Q_placeOf_21 : decode b_Q_placeOf 21 = .ok (.aload_n 0, 1) := by decide +kernel
theorem d_Q_placeOf_22 : decode b_Q_placeOf 22 = .ok (.getfield 9, 3) := by decide +kernel
theorem d_Q_placeOf_25 : decode b_Q_placeOf 25 = .ok (.arraylength, 1) := by decide +kernel
theorem d_Q_placeOf_26 : decode b_Q_placeOf 26 = .ok (.isub, 1) := by decide +kernel
theorem d_Q_placeOf_27 : decode b_Q_placeOf 27 = .ok (.ireturn, 1) := by decide +kernel
theorem d_S_restart_0 : decode b_S_restart 0 = .ok (.aload_n 0, 1) := by decide +kernel
theorem d_S_restart_1 : decode b_S_restart 1 = .ok (.getfield 12, 3) := by decide +kernel
theorem d_S_restart_4 : decode b_S_restart 4 = .ok (.invokevirtual 37, 3) := by decide +kernel
theorem d_S_restart_7 : decode b_S_restart 7 = .ok (.aload_n 0, 1) := by decide +kernel
theorem d_S_restart_8 : decode b_S_restart 8 = .ok (.getfield 18, 3) := by decide +kernel
theorem d_S_restart_11 : decode b_S_restart 11 = .ok (.invokevirtual 37, 3) := by decide +kernel
theorem d_S_restart_14 : decode b_S_restart 14 = .ok (.aload_n 0, 1) := by decide +kernel
theorem d_S_restart_15 : decode b_S_restart 15 = .ok (.iconst 0, 1) := by decide +kernel
theorem d_S_restart_16 : decode b_S_restart 16 = .ok (.putfield 34, 3) := by decide +kernel
theorem d_S_restart_19 : decode b_S_restart 19 = .ok (.aload_n 0, 1) := by decide +kernel
theorem d_S_restart_20 : decode b_S_restart 20 = .ok (.iconst 0, 1) := by decide +kernel
theorem d_S_restart_21 : decode b_S_restart 21 = .ok (.putfield 27, 3) := by decide +kernel
theorem d_S_restart_24 : decode b_S_restart 24 = .ok (.return_, 1) := by decide +kernel
theorem d_B_hasRoom_0 : decode b_B_hasRoom 0 = .ok (.iload_n 1, 1) := by decide +kernel
theorem d_B_hasRoom_1 : decode b_B_hasRoom 1 = .ok (.aload_n 0, 1) := by decide +kernel
theorem d_B_hasRoom_2 : decode b_B_hasRoom 2 = .ok (.getfield 9, 3) := by decide +kernel
theorem d_B_hasRoom_5 : decode b_B_hasRoom 5 = .ok (.arraylength, 1) := by decide +kernel
theorem d_B_hasRoom_6 : decode b_B_hasRoom 6 = .ok (.aload_n 0, 1) := by decide +kernel
theorem d_B_hasRoom_7 : decode b_B_hasRoom 7 = .ok (.getfield 15, 3) := by decide +kernel
theorem d_B_hasRoom_10 : decode b_B_hasRoom 10 = .ok (.isub, 1) := by decide +kernel
theorem d_B_hasRoom_11 : decode b_B_hasRoom 11 = .ok (.if_icmp .gt 7, 3) := by decide +kernel
theorem d_B_hasRoom_14 : decode b_B_hasRoom 14 = .ok (.iconst 1, 1) := by decide +kernel
theorem d_B_hasRoom_15 : decode b_B_hasRoom 15 = .ok (.goto 4, 3) := by decide +kernel
theorem d_B_hasRoom_18 : decode b_B_hasRoom 18 = .ok (.iconst 0, 1) := by decide +kernel
theorem d_B_hasRoom_19 : decode b_B_hasRoom 19 = .ok (.ireturn, 1) := by decide +kernel
theorem d_B_putSame_0 : decode b_B_putSame 0 = .ok (.iconst 0, 1) := by decide +kernel
theorem d_B_putSame_1 : decode b_B_putSame 1 = .ok (.istore_n 3, 1) := by decide +kernel
theorem d_B_putSame_2 : decode b_B_putSame 2 = .ok (.iload_n 3, 1) := by decide +kernel
theorem d_B_putSame_3 : decode b_B_putSame 3 = .ok (.iload_n 2, 1) := by decide +kernel
theorem d_B_putSame_4 : decode b_B_putSame 4 = .ok (.if_icmp .ge 42, 3) := by decide +kernel
theorem d_B_putSame_7 : decode b_B_putSame 7 = .ok (.aload_n 0, 1) := by decide +kernel
theorem d_B_putSame_8 : decode b_B_putSame 8 = .ok (.getfield 15, 3) := by decide +kernel
theorem d_B_putSame_11 : decode b_B_putSame 11 = .ok (.aload_n 0, 1) := by decide +kernel
theorem d_B_putSame_12 : decode b_B_putSame 12 = .ok (.getfield 9, 3) := by decide +kernel
theorem d_B_putSame_15 : decode b_B_putSame 15 = .ok (.arraylength, 1) := by decide +kernel
theorem d_B_putSame_16 : decode b_B_putSame 16 = .ok (.if_icmp .ge 30, 3) := by decide +kernel
theorem d_B_putSame_19 : decode b_B_putSame 19 = .ok (.aload_n 0, 1) := by decide +kernel
theorem d_B_putSame_20 : decode b_B_putSame 20 = .ok (.getfield 9, 3) := by decide +kernel
theorem d_B_putSame_23 : decode b_B_putSame 23 = .ok (.aload_n 0, 1) := by decide +kernel
theorem d_B_putSame_24 : decode b_B_putSame 24 = .ok (.getfield 15, 3) := by decide +kernel
theorem d_B_putSame_27 : decode b_B_putSame 27 = .ok (.iload_n 1, 1) := by decide +kernel
theorem d_B_putSame_28 : decode b_B_putSame 28 = .ok (.i2b, 1) := by decide +kernel
theorem d_B_putSame_29 : decode b_B_putSame 29 = .ok (.bastore, 1) := by decide +kernel
theorem d_B_putSame_30 : decode b_B_putSame 30 = .ok (.aload_n 0, 1) := by decide +kernel
theorem d_B_putSame_31 : decode b_B_putSame 31 = .ok (.dup, 1) := by decide +kernel
theorem d_B_putSame_32 : decode b_B_putSame 32 = .ok (.getfield 15, 3) := by decide +kernel
theorem d_B_putSame_35 : decode b_B_putSame 35 = .ok (.iconst 1, 1) := by decide +kernel
theorem d_B_putSame_36 : decode b_B_putSame 36 = .ok (.iadd, 1) := by decide +kernel
theorem d_B_putSame_37 : decode b_B_putSame 37 = .ok (.putfield 15, 3) := by decide +kernel
theorem d_B_putSame_40 : decode b_B_putSame 40 = .ok (.iinc 3 1, 3) := by decide +kernel
theorem d_B_putSame_43 : decode b_B_putSame 43 = .ok (.goto (-41), 3) := by decide +kernel
theorem d_B_putSame_46 : decode b_B_putSame 46 = .ok (.return_, 1) := by decide +kernel
theorem d_B_putLow_0 : decode b_B_putLow 0 = .ok (.iload_n 2, 1) := by decide +kernel
theorem d_B_putLow_1 : decode b_B_putLow 1 = .ok (.iconst 1, 1) := by decide +kernel
theorem d_B_putLow_2 : decode b_B_putLow 2 = .ok (.isub, 1) := by decide +kernel
theorem d_B_putLow_3 : decode b_B_putLow 3 = .ok (.istore_n 3, 1) := by decide +kernel
theorem d_B_putLow_4 : decode b_B_putLow 4 = .ok (.iload_n 3, 1) := by decide +kernel
theorem d_B_putLow_5 : decode b_B_putLow 5 = .ok (.ifCond .lt 19, 3) := by decide +kernel
theorem d_B_putLow_8 : decode b_B_putLow 8 = .ok (.aload_n 0, 1) := by decide +kernel
theorem d_B_putLow_9 : decode b_B_putLow 9 = .ok (.iload_n 1, 1) := by decide +kernel
theorem d_B_putLow_10 : decode b_B_putLow 10 = .ok (.iload_n 3, 1) := by decide +kernel
theorem d_B_putLow_11 : decode b_B_putLow 11 = .ok (.ishr, 1) := by decide +kernel
theorem d_B_putLow_12 : decode b_B_putLow 12 = .ok (.iconst 1, 1) := by decide +kernel
theorem d_B_putLow_13 : decode b_B_putLow 13 = .ok (.iand, 1) := by decide +kernel
theorem d_B_putLow_14 : decode b_B_putLow 14 = .ok (.iconst 1, 1) := by decide +kernel
theorem d_B_putLow_15 : decode b_B_putLow 15 = .ok (.invokevirtual 19, 3) := by decide +kernel
theorem d_B_putLow_18 : decode b_B_putLow 18 = .ok (.iinc 3 (-1), 3) := by decide +kernel
theorem d_B_putLow_21 : decode b_B_putLow 21 = .ok (.goto (-17), 3) := by decide +kernel
theorem d_B_putLow_24 : decode b_B_putLow 24 = .ok (.return_, 1) := by decide +kernel
theorem d_S_endRun_0 : decode b_S_endRun 0 = .ok (.aload_n 0, 1) := by decide +kernel
theorem d_S_endRun_1 : decode b_S_endRun 1 = .ok (.iload_n 1, 1) := by decide +kernel
theorem d_S_endRun_2 : decode b_S_endRun 2 = .ok (.invokestatic 21, 3) := by decide +kernel
theorem d_S_endRun_5 : decode b_S_endRun 5 = .ok (.putfield 27, 3) := by decide +kernel
theorem d_S_endRun_8 : decode b_S_endRun 8 = .ok (.aload_n 0, 1) := by decide +kernel
theorem d_S_endRun_9 : decode b_S_endRun 9 = .ok (.iload_n 2, 1) := by decide +kernel
theorem d_S_endRun_10 : decode b_S_endRun 10 = .ok (.ifCond .eq 10, 3) := by decide +kernel
theorem d_S_endRun_13 : decode b_S_endRun 13 = .ok (.iload_n 1, 1) := by decide +kernel
theorem d_S_endRun_14 : decode b_S_endRun 14 = .ok (.invokestatic 31, 3) := by decide +kernel
theorem d_S_endRun_17 : decode b_S_endRun 17 = .ok (.goto 4, 3) := by decide +kernel
theorem d_S_endRun_20 : decode b_S_endRun 20 = .ok (.iload_n 1, 1) := by decide +kernel
theorem d_S_endRun_21 : decode b_S_endRun 21 = .ok (.putfield 34, 3) := by decide +kernel
theorem d_S_endRun_24 : decode b_S_endRun 24 = .ok (.return_, 1) := by decide +kernel
theorem d_S_endsOf_0 : decode b_S_endsOf 0 = .ok (.iload_n 1, 1) := by decide +kernel
theorem d_S_endsOf_1 : decode b_S_endsOf 1 = .ok (.ifCond .ne 10, 3) := by decide +kernel
theorem d_S_endsOf_4 : decode b_S_endsOf 4 = .ok (.aload_n 0, 1) := by decide +kernel
theorem d_S_endsOf_5 : decode b_S_endsOf 5 = .ok (.getfield 12, 3) := by decide +kernel
theorem d_S_endsOf_8 : decode b_S_endsOf 8 = .ok (.goto 7, 3) := by decide +kernel
theorem d_S_endsOf_11 : decode b_S_endsOf 11 = .ok (.aload_n 0, 1) := by decide +kernel
theorem d_S_endsOf_12 : decode b_S_endsOf 12 = .ok (.getfield 18, 3) := by decide +kernel
theorem d_S_endsOf_15 : decode b_S_endsOf 15 = .ok (.areturn, 1) := by decide +kernel
theorem d_E_shift_0 : decode b_E_shift 0 = .ok (.aload_n 0, 1) := by decide +kernel
theorem d_E_shift_1 : decode b_E_shift 1 = .ok (.getfield 9, 3) := by decide +kernel
theorem d_E_shift_4 : decode b_E_shift 4 = .ok (.ifCond .ne 10, 3) := by decide +kernel
theorem d_E_shift_7 : decode b_E_shift 7 = .ok (.aload_n 0, 1) := by decide +kernel
theorem d_E_shift_8 : decode b_E_shift 8 = .ok (.getfield 21, 3) := by decide +kernel
theorem d_E_shift_11 : decode b_E_shift 11 = .ok (.goto 14, 3) := by decide +kernel
theorem d_E_shift_14 : decode b_E_shift 14 = .ok (.aload_n 0, 1) := by decide +kernel
theorem d_E_shift_15 : decode b_E_shift 15 = .ok (.getfield 21, 3) := by decide +kernel
theorem d_E_shift_18 : decode b_E_shift 18 = .ok (.aload_n 0, 1) := by decide +kernel
theorem d_E_shift_19 : decode b_E_shift 19 = .ok (.getfield 24, 3) := by decide +kernel
theorem d_E_shift_22 : decode b_E_shift 22 = .ok (.iconst 2, 1) := by decide +kernel
theorem d_E_shift_23 : decode b_E_shift 23 = .ok (.idiv, 1) := by decide +kernel
theorem d_E_shift_24 : decode b_E_shift 24 = .ok (.iadd, 1) := by decide +kernel
theorem d_E_shift_25 : decode b_E_shift 25 = .ok (.istore_n 1, 1) := by decide +kernel
theorem d_E_shift_26 : decode b_E_shift 26 = .ok (.iconst 0, 1) := by decide +kernel
theorem d_E_shift_27 : decode b_E_shift 27 = .ok (.istore_n 2, 1) := by decide +kernel
theorem d_E_shift_28 : decode b_E_shift 28 = .ok (.iload_n 2, 1) := by decide +kernel
theorem d_E_shift_29 : decode b_E_shift 29 = .ok (.bipush 30, 2) := by decide +kernel
theorem d_E_shift_31 : decode b_E_shift 31 = .ok (.if_icmp .ge 22, 3) := by decide +kernel
theorem d_E_shift_34 : decode b_E_shift 34 = .ok (.aload_n 0, 1) := by decide +kernel
theorem d_E_shift_35 : decode b_E_shift 35 = .ok (.getfield 24, 3) := by decide +kernel
theorem d_E_shift_38 : decode b_E_shift 38 = .ok (.i2l, 1) := by decide +kernel
theorem d_E_shift_39 : decode b_E_shift 39 = .ok (.iload_n 2, 1) := by decide +kernel
theorem d_E_shift_40 : decode b_E_shift 40 = .ok (.lshl, 1) := by decide +kernel
theorem d_E_shift_41 : decode b_E_shift 41 = .ok (.iload_n 1, 1) := by decide +kernel
theorem d_E_shift_42 : decode b_E_shift 42 = .ok (.i2l, 1) := by decide +kernel
theorem d_E_shift_43 : decode b_E_shift 43 = .ok (.lcmp, 1) := by decide +kernel
theorem d_E_shift_44 : decode b_E_shift 44 = .ok (.ifCond .ge 9, 3) := by decide +kernel
theorem d_E_shift_47 : decode b_E_shift 47 = .ok (.iinc 2 1, 3) := by decide +kernel
theorem d_E_shift_50 : decode b_E_shift 50 = .ok (.goto (-22), 3) := by decide +kernel
theorem d_E_shift_53 : decode b_E_shift 53 = .ok (.iload_n 2, 1) := by decide +kernel
theorem d_E_shift_54 : decode b_E_shift 54 = .ok (.ireturn, 1) := by decide +kernel
theorem d_E_numberOf_0 : decode b_E_numberOf 0 = .ok (.iload_n 1, 1) := by decide +kernel
theorem d_E_numberOf_1 : decode b_E_numberOf 1 = .ok (.ifCond .eq 24, 3) := by decide +kernel
theorem d_E_numberOf_4 : decode b_E_numberOf 4 = .ok (.iload_n 1, 1) := by decide +kernel
theorem d_E_numberOf_5 : decode b_E_numberOf 5 = .ok (.ifCond .le 7, 3) := by decide +kernel
theorem d_E_numberOf_8 : decode b_E_numberOf 8 = .ok (.iconst 1, 1) := by decide +kernel
theorem d_E_numberOf_9 : decode b_E_numberOf 9 = .ok (.goto 4, 3) := by decide +kernel
theorem d_E_numberOf_12 : decode b_E_numberOf 12 = .ok (.iconst 0, 1) := by decide +kernel
theorem d_E_numberOf_13 : decode b_E_numberOf 13 = .ok (.aload_n 0, 1) := by decide +kernel
theorem d_E_numberOf_14 : decode b_E_numberOf 14 = .ok (.iload_n 2, 1) := by decide +kernel
theorem d_E_numberOf_15 : decode b_E_numberOf 15 = .ok (.invokevirtual 30, 3) := by decide +kernel
theorem d_E_numberOf_18 : decode b_E_numberOf 18 = .ok (.if_icmp .ne 7, 3) := by decide +kernel
theorem d_E_numberOf_21 : decode b_E_numberOf 21 = .ok (.iconst 1, 1) := by decide +kernel
theorem d_E_numberOf_22 : decode b_E_numberOf 22 = .ok (.goto 4, 3) := by decide +kernel
theorem d_E_numberOf_25 : decode b_E_numberOf 25 = .ok (.iconst 0, 1) := by decide +kernel
theorem d_E_numberOf_26 : decode b_E_numberOf 26 = .ok (.istore_n 3, 1) := by decide +kernel
theorem d_E_numberOf_27 : decode b_E_numberOf 27 = .ok (.iconst 2, 1) := by decide +kernel
theorem d_E_numberOf_28 : decode b_E_numberOf 28 = .ok (.iload_n 1, 1) := by decide +kernel
theorem d_E_numberOf_29 : decode b_E_numberOf 29 = .ok (.invokestatic 34, 3) := by decide +kernel
theorem d_E_numberOf_32 : decode b_E_numberOf 32 = .ok (.imul, 1) := by decide +kernel
theorem d_E_numberOf_33 : decode b_E_numberOf 33 = .ok (.aload_n 0, 1) := by decide +kernel
theorem d_E_numberOf_34 : decode b_E_numberOf 34 = .ok (.getfield 9, 3) := by decide +kernel
theorem d_E_numberOf_37 : decode b_E_numberOf 37 = .ok (.isub, 1) := by decide +kernel
theorem d_E_numberOf_38 : decode b_E_numberOf 38 = .ok (.iload_n 3, 1) := by decide +kernel
theorem d_E_numberOf_39 : decode b_E_numberOf 39 = .ok (.ifCond .eq 7, 3) := by decide +kernel
theorem d_E_numberOf_42 : decode b_E_numberOf 42 = .ok (.iconst 1, 1) := by decide +kernel
theorem d_E_numberOf_43 : decode b_E_numberOf 43 = .ok (.goto 4, 3) := by decide +kernel
theorem d_E_numberOf_46 : decode b_E_numberOf 46 = .ok (.iconst 0, 1) := by decide +kernel
theorem d_E_numberOf_47 : decode b_E_numberOf 47 = .ok (.isub, 1) := by decide +kernel
theorem d_E_numberOf_48 : decode b_E_numberOf 48 = .ok (.ireturn, 1) := by decide +kernel
theorem d_E_flagsPositive_0 : decode b_E_flagsPositive 0 = .ok (.iload_n 1, 1) := by decide +kernel
theorem d_E_flagsPositive_1 : decode b_E_flagsPositive 1 = .ok (.ifCond .ne 20, 3) := by decide +kernel
theorem d_E_flagsPositive_4 : decode b_E_flagsPositive 4 = .ok (.iconst 2, 1) := by decide +kernel
theorem d_E_flagsPositive_5 : decode b_E_flagsPositive 5 = .ok (.aload_n 0, 1) := by decide +kernel
theorem d_E_flagsPositive_6 : decode b_E_flagsPositive 6 = .ok (.getfield 27, 3) := by decide +kernel
theorem d_E_flagsPositive_9 : decode b_E_flagsPositive 9 = .ok (.imul, 1) := by decide +kernel
theorem d_E_flagsPositive_10 : decode b_E_flagsPositive 10 = .ok (.aload_n 0, 1) := by decide +kernel
theorem d_E_flagsPositive_11 : decode b_E_flagsPositive 11 = .ok (.getfield 24, 3) := by decide +kernel
theorem d_E_flagsPositive_14 : decode b_E_flagsPositive 14 = .ok (.if_icmp .ge 7, 3) := by decide +kernel
theorem d_E_flagsPositive_17 : decode b_E_flagsPositive 17 = .ok (.iconst 1, 1) := by decide +kernel
theorem d_E_flagsPositive_18 : decode b_E_flagsPositive 18 = .ok (.goto 4, 3) := by decide +kernel
theorem d_E_flagsPositive_21 : decode b_E_flagsPositive 21 = .ok (.iconst 0, 1) := by decide +kernel
theorem d_E_flagsPositive_22 : decode b_E_flagsPositive 22 = .ok (.ireturn, 1) := by decide +kernel
theorem d_E_learn_0 : decode b_E_learn 0 = .ok (.iload_n 1, 1) := by decide +kernel
theorem d_E_learn_1 : decode b_E_learn 1 = .ok (.ifCond .ge 13, 3) := by decide +kernel
theorem d_E_learn_4 : decode b_E_learn 4 = .ok (.aload_n 0, 1) := by decide +kernel
theorem d_E_learn_5 : decode b_E_learn 5 = .ok (.dup, 1) := by decide +kernel
theorem d_E_learn_6 : decode b_E_learn 6 = .ok (.getfield 27, 3) := by decide +kernel
theorem d_E_learn_9 : decode b_E_learn 9 = .ok (.iconst 1, 1) := by decide +kernel
theorem d_E_learn_10 : decode b_E_learn 10 = .ok (.iadd, 1) := by decide +kernel
theorem d_E_learn_11 : decode b_E_learn 11 = .ok (.putfield 27, 3) := by decide +kernel
theorem d_E_learn_14 : decode b_E_learn 14 = .ok (.aload_n 0, 1) := by decide +kernel
theorem d_E_learn_15 : decode b_E_learn 15 = .ok (.dup, 1) := by decide +kernel
theorem d_E_learn_16 : decode b_E_learn 16 = .ok (.getfield 21, 3) := by decide +kernel
theorem d_E_learn_19 : decode b_E_learn 19 = .ok (.iload_n 2, 1) := by decide +kernel
theorem d_E_learn_20 : decode b_E_learn 20 = .ok (.iconst 1, 1) := by decide +kernel
theorem d_E_learn_21 : decode b_E_learn 21 = .ok (.iadd, 1) := by decide +kernel
theorem d_E_learn_22 : decode b_E_learn 22 = .ok (.aload_n 0, 1) := by decide +kernel
theorem d_E_learn_23 : decode b_E_learn 23 = .ok (.getfield 9, 3) := by decide +kernel
theorem d_E_learn_26 : decode b_E_learn 26 = .ok (.isub, 1) := by decide +kernel
theorem d_E_learn_27 : decode b_E_learn 27 = .ok (.iconst 2, 1) := by decide +kernel
theorem d_E_learn_28 : decode b_E_learn 28 = .ok (.idiv, 1) := by decide +kernel
theorem d_E_learn_29 : decode b_E_learn 29 = .ok (.iadd, 1) := by decide +kernel
theorem d_E_learn_30 : decode b_E_learn 30 = .ok (.putfield 21, 3) := by decide +kernel
theorem d_E_learn_33 : decode b_E_learn 33 = .ok (.aload_n 0, 1) := by decide +kernel
theorem d_E_learn_34 : decode b_E_learn 34 = .ok (.getfield 24, 3) := by decide +kernel
theorem d_E_learn_37 : decode b_E_learn 37 = .ok (.bipush 64, 2) := by decide +kernel
theorem d_E_learn_39 : decode b_E_learn 39 = .ok (.if_icmp .ne 33, 3) := by decide +kernel
theorem d_E_learn_42 : decode b_E_learn 42 = .ok (.aload_n 0, 1) := by decide +kernel
theorem d_E_learn_43 : decode b_E_learn 43 = .ok (.dup, 1) := by decide +kernel
theorem d_E_learn_44 : decode b_E_learn 44 = .ok (.getfield 21, 3) := by decide +kernel
theorem d_E_learn_47 : decode b_E_learn 47 = .ok (.iconst 2, 1) := by decide +kernel
theorem d_E_learn_48 : decode b_E_learn 48 = .ok (.idiv, 1) := by decide +kernel
theorem d_E_learn_49 : decode b_E_learn 49 = .ok (.putfield 21, 3) := by decide +kernel
theorem d_E_learn_52 : decode b_E_learn 52 = .ok (.aload_n 0, 1) := by decide +kernel
theorem d_E_learn_53 : decode b_E_learn 53 = .ok (.dup, 1) := by decide +kernel
theorem d_E_learn_54 : decode b_E_learn 54 = .ok (.getfield 24, 3) := by decide +kernel
theorem d_E_learn_57 : decode b_E_learn 57 = .ok (.iconst 2, 1) := by decide +kernel
theorem d_E_learn_58 : decode b_E_learn 58 = .ok (.idiv, 1) := by decide +kernel
theorem d_E_learn_59 : decode b_E_learn 59 = .ok (.putfield 24, 3) := by decide +kernel
theorem d_E_learn_62 : decode b_E_learn 62 = .ok (.aload_n 0, 1) := by decide +kernel
theorem d_E_learn_63 : decode b_E_learn 63 = .ok (.dup, 1) := by decide +kernel
theorem d_E_learn_64 : decode b_E_learn 64 = .ok (.getfield 27, 3) := by decide +kernel
theorem d_E_learn_67 : decode b_E_learn 67 = .ok (.iconst 2, 1) := by decide +kernel
theorem d_E_learn_68 : decode b_E_learn 68 = .ok (.idiv, 1) := by decide +kernel
theorem d_E_learn_69 : decode b_E_learn 69 = .ok (.putfield 27, 3) := by decide +kernel
theorem d_E_learn_72 : decode b_E_learn 72 = .ok (.aload_n 0, 1) := by decide +kernel
theorem d_E_learn_73 : decode b_E_learn 73 = .ok (.dup, 1) := by decide +kernel
theorem d_E_learn_74 : decode b_E_learn 74 = .ok (.getfield 24, 3) := by decide +kernel
theorem d_E_learn_77 : decode b_E_learn 77 = .ok (.iconst 1, 1) := by decide +kernel
theorem d_E_learn_78 : decode b_E_learn 78 = .ok (.iadd, 1) := by decide +kernel
theorem d_E_learn_79 : decode b_E_learn 79 = .ok (.putfield 24, 3) := by decide +kernel
theorem d_E_learn_82 : decode b_E_learn 82 = .ok (.return_, 1) := by decide +kernel
theorem d_B_get_0 : decode b_B_get 0 = .ok (.iload_n 1, 1) := by decide +kernel
theorem d_B_get_1 : decode b_B_get 1 = .ok (.ifCond .lt 11, 3) := by decide +kernel
theorem d_B_get_4 : decode b_B_get 4 = .ok (.iload_n 1, 1) := by decide +kernel
theorem d_B_get_5 : decode b_B_get 5 = .ok (.aload_n 0, 1) := by decide +kernel
theorem d_B_get_6 : decode b_B_get 6 = .ok (.getfield 15, 3) := by decide +kernel
theorem d_B_get_9 : decode b_B_get 9 = .ok (.if_icmp .lt 7, 3) := by decide +kernel
theorem d_B_get_12 : decode b_B_get 12 = .ok (.iconst 0, 1) := by decide +kernel
theorem d_B_get_13 : decode b_B_get 13 = .ok (.goto 9, 3) := by decide +kernel
theorem d_B_get_16 : decode b_B_get 16 = .ok (.aload_n 0, 1) := by decide +kernel
theorem d_B_get_17 : decode b_B_get 17 = .ok (.getfield 9, 3) := by decide +kernel
theorem d_B_get_20 : decode b_B_get 20 = .ok (.iload_n 1, 1) := by decide +kernel
theorem d_B_get_21 : decode b_B_get 21 = .ok (.baload, 1) := by decide +kernel
theorem d_B_get_22 : decode b_B_get 22 = .ok (.ireturn, 1) := by decide +kernel
theorem d_Q_add_0 : decode b_Q_add 0 = .ok (.aload_n 0, 1) := by decide +kernel
theorem d_Q_add_1 : decode b_Q_add 1 = .ok (.getfield 15, 3) := by decide +kernel
theorem d_Q_add_4 : decode b_Q_add 4 = .ok (.aload_n 0, 1) := by decide +kernel
theorem d_Q_add_5 : decode b_Q_add 5 = .ok (.getfield 9, 3) := by decide +kernel
theorem d_Q_add_8 : decode b_Q_add 8 = .ok (.arraylength, 1) := by decide +kernel
theorem d_Q_add_9 : decode b_Q_add 9 = .ok (.if_icmp .lt 5, 3) := by decide +kernel
theorem d_Q_add_12 : decode b_Q_add 12 = .ok (.iconst 0, 1) := by decide +kernel
theorem d_Q_add_13 : decode b_Q_add 13 = .ok (.ireturn, 1) := by decide +kernel
theorem d_Q_add_14 : decode b_Q_add 14 = .ok (.aload_n 0, 1) := by decide +kernel
theorem d_Q_add_15 : decode b_Q_add 15 = .ok (.getfield 9, 3) := by decide +kernel
theorem d_Q_add_18 : decode b_Q_add 18 = .ok (.aload_n 0, 1) := by decide +kernel
theorem d_Q_add_19 : decode b_Q_add 19 = .ok (.aload_n 0, 1) := by decide +kernel
theorem d_Q_add_20 : decode b_Q_add 20 = .ok (.getfield 15, 3) := by decide +kernel
theorem d_Q_add_23 : decode b_Q_add 23 = .ok (.invokevirtual 22, 3) := by decide +kernel
theorem d_Q_add_26 : decode b_Q_add 26 = .ok (.iload_n 1, 1) := by decide +kernel
theorem d_Q_add_27 : decode b_Q_add 27 = .ok (.i2b, 1) := by decide +kernel
theorem d_Q_add_28 : decode b_Q_add 28 = .ok (.bastore, 1) := by decide +kernel
theorem d_Q_add_29 : decode b_Q_add 29 = .ok (.aload_n 0, 1) := by decide +kernel
theorem d_Q_add_30 : decode b_Q_add 30 = .ok (.dup, 1) := by decide +kernel
theorem d_Q_add_31 : decode b_Q_add 31 = .ok (.getfield 15, 3) := by decide +kernel
theorem d_Q_add_34 : decode b_Q_add 34 = .ok (.iconst 1, 1) := by decide +kernel
theorem d_Q_add_35 : decode b_Q_add 35 = .ok (.iadd, 1) := by decide +kernel
theorem d_Q_add_36 : decode b_Q_add 36 = .ok (.putfield 15, 3) := by decide +kernel
theorem d_Q_add_39 : decode b_Q_add 39 = .ok (.iconst 1, 1) := by decide +kernel
theorem d_Q_add_40 : decode b_Q_add 40 = .ok (.ireturn, 1) := by decide +kernel
theorem d_Q_room_0 : decode b_Q_room 0 = .ok (.aload_n 0, 1) := by decide +kernel
theorem d_Q_room_1 : decode b_Q_room 1 = .ok (.getfield 9, 3) := by decide +kernel
theorem d_Q_room_4 : decode b_Q_room 4 = .ok (.arraylength, 1) := by decide +kernel
theorem d_Q_room_5 : decode b_Q_room 5 = .ok (.aload_n 0, 1) := by decide +kernel
theorem d_Q_room_6 : decode b_Q_room 6 = .ok (.getfield 15, 3) := by decide +kernel
theorem d_Q_room_9 : decode b_Q_room 9 = .ok (.isub, 1) := by decide +kernel
theorem d_Q_room_10 : decode b_Q_room 10 = .ok (.ireturn, 1) := by decide +kernel
theorem d_Q_zerosAhead_0 : decode b_Q_zerosAhead 0 = .ok (.iconst 0, 1) := by decide +kernel
theorem d_Q_zerosAhead_1 : decode b_Q_zerosAhead 1 = .ok (.istore_n 2, 1) := by decide +kernel
theorem d_Q_zerosAhead_2 : decode b_Q_zerosAhead 2 = .ok (.iload_n 2, 1) := by decide +kernel
theorem d_Q_zerosAhead_3 : decode b_Q_zerosAhead 3 = .ok (.iload_n 1, 1) := by decide +kernel
theorem d_Q_zerosAhead_4 : decode b_Q_zerosAhead 4 = .ok (.if_icmp .ge 25, 3) := by decide +kernel
theorem d_Q_zerosAhead_7 : decode b_Q_zerosAhead 7 = .ok (.iload_n 2, 1) := by decide +kernel
theorem d_Q_zerosAhead_8 : decode b_Q_zerosAhead 8 = .ok (.aload_n 0, 1) := by decide +kernel
theorem d_Q_zerosAhead_9 : decode b_Q_zerosAhead 9 = .ok (.getfield 15, 3) := by decide +kernel
theorem d_Q_zerosAhead_12 : decode b_Q_zerosAhead 12 = .ok (.if_icmp .ge 17, 3) := by decide +kernel
theorem d_Q_zerosAhead_15 : decode b_Q_zerosAhead 15 = .ok (.aload_n 0, 1) := by decide +kernel
theorem d_Q_zerosAhead_16 : decode b_Q_zerosAhead 16 = .ok (.iload_n 2, 1) := by decide +kernel
theorem d_Q_zerosAhead_17 : decode b_Q_zerosAhead 17 = .ok (.invokevirtual 26, 3) := by decide +kernel
theorem d_Q_zerosAhead_20 : decode b_Q_zerosAhead 20 = .ok (.ifCond .ne 9, 3) := by decide +kernel
theorem d_Q_zerosAhead_23 : decode b_Q_zerosAhead 23 = .ok (.iinc 2 1, 3) := by decide +kernel
theorem d_Q_zerosAhead_26 : decode b_Q_zerosAhead 26 = .ok (.goto (-24), 3) := by decide +kernel
theorem d_Q_zerosAhead_29 : decode b_Q_zerosAhead 29 = .ok (.iload_n 2, 1) := by decide +kernel
theorem d_Q_zerosAhead_30 : decode b_Q_zerosAhead 30 = .ok (.ireturn, 1) := by decide +kernel
theorem d_Q_look_0 : decode b_Q_look 0 = .ok (.iload_n 1, 1) := by decide +kernel
theorem d_Q_look_1 : decode b_Q_look 1 = .ok (.ifCond .lt 11, 3) := by decide +kernel
theorem d_Q_look_4 : decode b_Q_look 4 = .ok (.iload_n 1, 1) := by decide +kernel
theorem d_Q_look_5 : decode b_Q_look 5 = .ok (.aload_n 0, 1) := by decide +kernel
theorem d_Q_look_6 : decode b_Q_look 6 = .ok (.getfield 15, 3) := by decide +kernel
theorem d_Q_look_9 : decode b_Q_look 9 = .ok (.if_icmp .lt 7, 3) := by decide +kernel
theorem d_Q_look_12 : decode b_Q_look 12 = .ok (.iconst 0, 1) := by decide +kernel
theorem d_Q_look_13 : decode b_Q_look 13 = .ok (.goto 13, 3) := by decide +kernel
theorem d_Q_look_16 : decode b_Q_look 16 = .ok (.aload_n 0, 1) := by decide +kernel
theorem d_Q_look_17 : decode b_Q_look 17 = .ok (.getfield 9, 3) := by decide +kernel
theorem d_Q_look_20 : decode b_Q_look 20 = .ok (.aload_n 0, 1) := by decide +kernel
theorem d_Q_look_21 : decode b_Q_look 21 = .ok (.iload_n 1, 1) := by decide +kernel
theorem d_Q_look_22 : decode b_Q_look 22 = .ok (.invokevirtual 22, 3) := by decide +kernel
theorem d_Q_look_25 : decode b_Q_look 25 = .ok (.baload, 1) := by decide +kernel
theorem d_Q_look_26 : decode b_Q_look 26 = .ok (.ireturn, 1) := by decide +kernel
theorem d_Q_lookNumber_0 : decode b_Q_lookNumber 0 = .ok (.iconst 0, 1) := by decide +kernel
theorem d_Q_lookNumber_1 : decode b_Q_lookNumber 1 = .ok (.istore_n 3, 1) := by decide +kernel
theorem d_Q_lookNumber_2 : decode b_Q_lookNumber 2 = .ok (.iconst 0, 1) := by decide +kernel
theorem d_Q_lookNumber_3 : decode b_Q_lookNumber 3 = .ok (.istore 4, 2) := by decide +kernel
theorem d_Q_lookNumber_5 : decode b_Q_lookNumber 5 = .ok (.iload 4, 2) := by decide +kernel
theorem d_Q_lookNumber_7 : decode b_Q_lookNumber 7 = .ok (.iload_n 2, 1) := by decide +kernel
theorem d_Q_lookNumber_8 : decode b_Q_lookNumber 8 = .ok (.if_icmp .ge 22, 3) := by decide +kernel
theorem d_Q_lookNumber_11 : decode b_Q_lookNumber 11 = .ok (.iconst 2, 1) := by decide +kernel
theorem d_Q_lookNumber_12 : decode b_Q_lookNumber 12 = .ok (.iload_n 3, 1) := by decide +kernel
theorem d_Q_lookNumber_13 : decode b_Q_lookNumber 13 = .ok (.imul, 1) := by decide +kernel
theorem d_Q_lookNumber_14 : decode b_Q_lookNumber 14 = .ok (.aload_n 0, 1) := by decide +kernel
theorem d_Q_lookNumber_15 : decode b_Q_lookNumber 15 = .ok (.iload_n 1, 1) := by decide +kernel
theorem d_Q_lookNumber_16 : decode b_Q_lookNumber 16 = .ok (.iload 4, 2) := by decide +kernel
theorem d_Q_lookNumber_18 : decode b_Q_lookNumber 18 = .ok (.iadd, 1) := by decide +kernel
theorem d_Q_lookNumber_19 : decode b_Q_lookNumber 19 = .ok (.invokevirtual 26, 3) := by decide +kernel
theorem d_Q_lookNumber_22 : decode b_Q_lookNumber 22 = .ok (.iadd, 1) := by decide +kernel
theorem d_Q_lookNumber_23 : decode b_Q_lookNumber 23 = .ok (.istore_n 3, 1) := by decide +kernel
theorem d_Q_lookNumber_24 : decode b_Q_lookNumber 24 = .ok (.iinc 4 1, 3) := by decide +kernel
theorem d_Q_lookNumber_27 : decode b_Q_lookNumber 27 = .ok (.goto (-22), 3) := by decide +kernel
theorem d_Q_lookNumber_30 : decode b_Q_lookNumber 30 = .ok (.iload_n 3, 1) := by decide +kernel
theorem d_Q_lookNumber_31 : decode b_Q_lookNumber 31 = .ok (.ireturn, 1) := by decide +kernel
theorem d_E_errorOf_0 : decode b_E_errorOf 0 = .ok (.iload_n 1, 1) := by decide +kernel
theorem d_E_errorOf_1 : decode b_E_errorOf 1 = .ok (.aload_n 0, 1) := by decide +kernel
theorem d_E_errorOf_2 : decode b_E_errorOf 2 = .ok (.getfield 9, 3) := by decide +kernel
theorem d_E_errorOf_5 : decode b_E_errorOf 5 = .ok (.iadd, 1) := by decide +kernel
theorem d_E_errorOf_6 : decode b_E_errorOf 6 = .ok (.istore_n 3, 1) := by decide +kernel
theorem d_E_errorOf_7 : decode b_E_errorOf 7 = .ok (.iload_n 3, 1) := by decide +kernel
theorem d_E_errorOf_8 : decode b_E_errorOf 8 = .ok (.iconst 2, 1) := by decide +kernel
theorem d_E_errorOf_9 : decode b_E_errorOf 9 = .ok (.irem, 1) := by decide +kernel
theorem d_E_errorOf_10 : decode b_E_errorOf 10 = .ok (.ifCond .eq 7, 3) := by decide +kernel
theorem d_E_errorOf_13 : decode b_E_errorOf 13 = .ok (.iconst 1, 1) := by decide +kernel
theorem d_E_errorOf_14 : decode b_E_errorOf 14 = .ok (.goto 4, 3) := by decide +kernel
theorem d_E_errorOf_17 : decode b_E_errorOf 17 = .ok (.iconst 0, 1) := by decide +kernel
theorem d_E_errorOf_18 : decode b_E_errorOf 18 = .ok (.istore 4, 2) := by decide +kernel
theorem d_E_errorOf_20 : decode b_E_errorOf 20 = .ok (.iload_n 3, 1) := by decide +kernel
theorem d_E_errorOf_21 : decode b_E_errorOf 21 = .ok (.iconst 1, 1) := by decide +kernel
theorem d_E_errorOf_22 : decode b_E_errorOf 22 = .ok (.iadd, 1) := by decide +kernel
theorem d_E_errorOf_23 : decode b_E_errorOf 23 = .ok (.iconst 2, 1) := by decide +kernel
theorem d_E_errorOf_24 : decode b_E_errorOf 24 = .ok (.idiv, 1) := by decide +kernel
theorem d_E_errorOf_25 : decode b_E_errorOf 25 = .ok (.istore 5, 2) := by decide +kernel
theorem d_E_errorOf_27 : decode b_E_errorOf 27 = .ok (.iload 4, 2) := by decide +kernel
theorem d_E_errorOf_29 : decode b_E_errorOf 29 = .ok (.aload_n 0, 1) := by decide +kernel
theorem d_E_errorOf_30 : decode b_E_errorOf 30 = .ok (.iload_n 2, 1) := by decide +kernel
theorem d_E_errorOf_31 : decode b_E_errorOf 31 = .ok (.invokevirtual 30, 3) := by decide +kernel
theorem d_E_errorOf_34 : decode b_E_errorOf 34 = .ok (.if_icmp .ne 8, 3) := by decide +kernel
theorem d_E_errorOf_37 : decode b_E_errorOf 37 = .ok (.iload 5, 2) := by decide +kernel
theorem d_E_errorOf_39 : decode b_E_errorOf 39 = .ok (.goto 6, 3) := by decide +kernel
theorem d_E_errorOf_42 : decode b_E_errorOf 42 = .ok (.iload 5, 2) := by decide +kernel
theorem d_E_errorOf_44 : decode b_E_errorOf 44 = .ok (.ineg, 1) := by decide +kernel
theorem d_E_errorOf_45 : decode b_E_errorOf 45 = .ok (.ireturn, 1) := by decide +kernel
