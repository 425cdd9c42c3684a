/-! OWN DECODE ROWS, by program (wip/whole/gen/names.py) -/
theorem d_L_cell_0 : decode b_L_cell 0 = .ok (.iload_n 1, 1) := by decide +kernel
theorem d_L_cell_1 : decode b_L_cell 1 = .ok (.aload_n 0, 1) := by decide +kernel
theorem d_L_cell_2 : decode b_L_cell 2 = .ok (.arraylength, 1) := by decide +kernel
theorem d_L_cell_3 : decode b_L_cell 3 = .ok (.if_icmp .ge 9, 3) := by decide +kernel
theorem d_L_cell_6 : decode b_L_cell 6 = .ok (.aload_n 0, 1) := by decide +kernel
theorem d_L_cell_7 : decode b_L_cell 7 = .ok (.iload_n 1, 1) := by decide +kernel
theorem d_L_cell_8 : decode b_L_cell 8 = .ok (.iaload, 1) := by decide +kernel
theorem d_L_cell_9 : decode b_L_cell 9 = .ok (.goto 4, 3) := by decide +kernel
theorem d_L_cell_12 : decode b_L_cell 12 = .ok (.iconst 0, 1) := by decide +kernel
theorem d_L_cell_13 : decode b_L_cell 13 = .ok (.ireturn, 1) := by decide +kernel
theorem d_L_code_0 : decode b_L_code 0 = .ok (.aload_n 3, 1) := by decide +kernel
theorem d_L_code_1 : decode b_L_code 1 = .ok (.iconst 0, 1) := by decide +kernel
theorem d_L_code_2 : decode b_L_code 2 = .ok (.aload_n 0, 1) := by decide +kernel
theorem d_L_code_3 : decode b_L_code 3 = .ok (.iload_n 1, 1) := by decide +kernel
theorem d_L_code_4 : decode b_L_code 4 = .ok (.iload_n 2, 1) := by decide +kernel
theorem d_L_code_5 : decode b_L_code 5 = .ok (.invokevirtual 7, 3) := by decide +kernel
theorem d_L_code_8 : decode b_L_code 8 = .ok (.i2l, 1) := by decide +kernel
theorem d_L_code_9 : decode b_L_code 9 = .ok (.lastore, 1) := by decide +kernel
theorem d_L_code_10 : decode b_L_code 10 = .ok (.goto 11, 3) := by decide +kernel
theorem d_L_code_13 : decode b_L_code 13 = .ok (.astore 4, 2) := by decide +kernel
theorem d_L_code_15 : decode b_L_code 15 = .ok (.iconst 1, 1) := by decide +kernel
theorem d_L_code_16 : decode b_L_code 16 = .ok (.ireturn, 1) := by decide +kernel
theorem d_L_code_17 : decode b_L_code 17 = .ok (.astore 4, 2) := by decide +kernel
theorem d_L_code_19 : decode b_L_code 19 = .ok (.iconst 2, 1) := by decide +kernel
theorem d_L_code_20 : decode b_L_code 20 = .ok (.ireturn, 1) := by decide +kernel
theorem d_L_code_21 : decode b_L_code 21 = .ok (.iconst 0, 1) := by decide +kernel
theorem d_L_code_22 : decode b_L_code 22 = .ok (.ireturn, 1) := by decide +kernel
theorem d_L_run_0 : decode b_L_run 0 = .ok (.aload_n 3, 1) := by decide +kernel
theorem d_L_run_1 : decode b_L_run 1 = .ok (.iconst 0, 1) := by decide +kernel
theorem d_L_run_2 : decode b_L_run 2 = .ok (.aload_n 0, 1) := by decide +kernel
theorem d_L_run_3 : decode b_L_run 3 = .ok (.iload_n 1, 1) := by decide +kernel
theorem d_L_run_4 : decode b_L_run 4 = .ok (.iload_n 2, 1) := by decide +kernel
theorem d_L_run_5 : decode b_L_run 5 = .ok (.invokevirtual 17, 3) := by decide +kernel
theorem d_L_run_8 : decode b_L_run 8 = .ok (.i2l, 1) := by decide +kernel
theorem d_L_run_9 : decode b_L_run 9 = .ok (.lastore, 1) := by decide +kernel
theorem d_L_run_10 : decode b_L_run 10 = .ok (.goto 11, 3) := by decide +kernel
theorem d_L_run_13 : decode b_L_run 13 = .ok (.astore 4, 2) := by decide +kernel
theorem d_L_run_15 : decode b_L_run 15 = .ok (.iconst 1, 1) := by decide +kernel
theorem d_L_run_16 : decode b_L_run 16 = .ok (.ireturn, 1) := by decide +kernel
theorem d_L_run_17 : decode b_L_run 17 = .ok (.astore 4, 2) := by decide +kernel
theorem d_L_run_19 : decode b_L_run 19 = .ok (.iconst 2, 1) := by decide +kernel
theorem d_L_run_20 : decode b_L_run 20 = .ok (.ireturn, 1) := by decide +kernel
theorem d_L_run_21 : decode b_L_run 21 = .ok (.iconst 0, 1) := by decide +kernel
theorem d_L_run_22 : decode b_L_run 22 = .ok (.ireturn, 1) := by decide +kernel
theorem d_L_interrupt_0 : decode b_L_interrupt 0 = .ok (.aload_n 3, 1) := by decide +kernel
theorem d_L_interrupt_1 : decode b_L_interrupt 1 = .ok (.iconst 0, 1) := by decide +kernel
theorem d_L_interrupt_2 : decode b_L_interrupt 2 = .ok (.aload_n 0, 1) := by decide +kernel
theorem d_L_interrupt_3 : decode b_L_interrupt 3 = .ok (.iload_n 1, 1) := by decide +kernel
theorem d_L_interrupt_4 : decode b_L_interrupt 4 = .ok (.iload_n 2, 1) := by decide +kernel
theorem d_L_interrupt_5 : decode b_L_interrupt 5 = .ok (.invokevirtual 21, 3) := by decide +kernel
theorem d_L_interrupt_8 : decode b_L_interrupt 8 = .ok (.i2l, 1) := by decide +kernel
theorem d_L_interrupt_9 : decode b_L_interrupt 9 = .ok (.lastore, 1) := by decide +kernel
theorem d_L_interrupt_10 : decode b_L_interrupt 10 = .ok (.goto 15, 3) := by decide +kernel
theorem d_L_interrupt_13 : decode b_L_interrupt 13 = .ok (.astore 4, 2) := by decide +kernel
theorem d_L_interrupt_15 : decode b_L_interrupt 15 = .ok (.iconst 1, 1) := by decide +kernel
theorem d_L_interrupt_16 : decode b_L_interrupt 16 = .ok (.ireturn, 1) := by decide +kernel
theorem d_L_interrupt_17 : decode b_L_interrupt 17 = .ok (.astore 4, 2) := by decide +kernel
theorem d_L_interrupt_19 : decode b_L_interrupt 19 = .ok (.iconst 2, 1) := by decide +kernel
theorem d_L_interrupt_20 : decode b_L_interrupt 20 = .ok (.ireturn, 1) := by decide +kernel
theorem d_L_interrupt_21 : decode b_L_interrupt 21 = .ok (.astore 4, 2) := by decide +kernel
theorem d_L_interrupt_23 : decode b_L_interrupt 23 = .ok (.iconst 3, 1) := by decide +kernel
theorem d_L_interrupt_24 : decode b_L_interrupt 24 = .ok (.ireturn, 1) := by decide +kernel
theorem d_L_interrupt_25 : decode b_L_interrupt 25 = .ok (.iconst 0, 1) := by decide +kernel
theorem d_L_interrupt_26 : decode b_L_interrupt 26 = .ok (.ireturn, 1) := by decide +kernel
theorem d_L_bitAt_0 : decode b_L_bitAt 0 = .ok (.aload_n 2, 1) := by decide +kernel
theorem d_L_bitAt_1 : decode b_L_bitAt 1 = .ok (.iconst 0, 1) := by decide +kernel
theorem d_L_bitAt_2 : decode b_L_bitAt 2 = .ok (.aload_n 0, 1) := by decide +kernel
theorem d_L_bitAt_3 : decode b_L_bitAt 3 = .ok (.iload_n 1, 1) := by decide +kernel
theorem d_L_bitAt_4 : decode b_L_bitAt 4 = .ok (.invokevirtual 26, 3) := by decide +kernel
theorem d_L_bitAt_7 : decode b_L_bitAt 7 = .ok (.i2l, 1) := by decide +kernel
theorem d_L_bitAt_8 : decode b_L_bitAt 8 = .ok (.lastore, 1) := by decide +kernel
theorem d_L_bitAt_9 : decode b_L_bitAt 9 = .ok (.goto 6, 3) := by decide +kernel
theorem d_L_bitAt_12 : decode b_L_bitAt 12 = .ok (.astore_n 3, 1) := by decide +kernel
theorem d_L_bitAt_13 : decode b_L_bitAt 13 = .ok (.iconst 1, 1) := by decide +kernel
theorem d_L_bitAt_14 : decode b_L_bitAt 14 = .ok (.ireturn, 1) := by decide +kernel
theorem d_L_bitAt_15 : decode b_L_bitAt 15 = .ok (.iconst 0, 1) := by decide +kernel
theorem d_L_bitAt_16 : decode b_L_bitAt 16 = .ok (.ireturn, 1) := by decide +kernel
theorem d_L_feed_0 : decode b_L_feed 0 = .ok (.aload_n 2, 1) := by decide +kernel
theorem d_L_feed_1 : decode b_L_feed 1 = .ok (.iconst 0, 1) := by decide +kernel
theorem d_L_feed_2 : decode b_L_feed 2 = .ok (.aload_n 0, 1) := by decide +kernel
theorem d_L_feed_3 : decode b_L_feed 3 = .ok (.iload_n 1, 1) := by decide +kernel
theorem d_L_feed_4 : decode b_L_feed 4 = .ok (.invokevirtual 30, 3) := by decide +kernel
theorem d_L_feed_7 : decode b_L_feed 7 = .ok (.ifCond .eq 7, 3) := by decide +kernel
theorem d_L_feed_10 : decode b_L_feed 10 = .ok (.lconst 1, 1) := by decide +kernel
theorem d_L_feed_11 : decode b_L_feed 11 = .ok (.goto 4, 3) := by decide +kernel
theorem d_L_feed_14 : decode b_L_feed 14 = .ok (.lconst 0, 1) := by decide +kernel
theorem d_L_feed_15 : decode b_L_feed 15 = .ok (.lastore, 1) := by decide +kernel
theorem d_L_feed_16 : decode b_L_feed 16 = .ok (.goto 6, 3) := by decide +kernel
theorem d_L_feed_19 : decode b_L_feed 19 = .ok (.astore_n 3, 1) := by decide +kernel
theorem d_L_feed_20 : decode b_L_feed 20 = .ok (.iconst 1, 1) := by decide +kernel
theorem d_L_feed_21 : decode b_L_feed 21 = .ok (.ireturn, 1) := by decide +kernel
theorem d_L_feed_22 : decode b_L_feed 22 = .ok (.iconst 0, 1) := by decide +kernel
theorem d_L_feed_23 : decode b_L_feed 23 = .ok (.ireturn, 1) := by decide +kernel
theorem d_L_pass_0 : decode b_L_pass 0 = .ok (.aload_n 3, 1) := by decide +kernel
theorem d_L_pass_1 : decode b_L_pass 1 = .ok (.iconst 0, 1) := by decide +kernel
theorem d_L_pass_2 : decode b_L_pass 2 = .ok (.aload_n 0, 1) := by decide +kernel
theorem d_L_pass_3 : decode b_L_pass 3 = .ok (.iload_n 1, 1) := by decide +kernel
theorem d_L_pass_4 : decode b_L_pass 4 = .ok (.iload_n 2, 1) := by decide +kernel
theorem d_L_pass_5 : decode b_L_pass 5 = .ok (.invokevirtual 34, 3) := by decide +kernel
theorem d_L_pass_8 : decode b_L_pass 8 = .ok (.i2l, 1) := by decide +kernel
theorem d_L_pass_9 : decode b_L_pass 9 = .ok (.lastore, 1) := by decide +kernel
theorem d_L_pass_10 : decode b_L_pass 10 = .ok (.goto 11, 3) := by decide +kernel
theorem d_L_pass_13 : decode b_L_pass 13 = .ok (.astore 4, 2) := by decide +kernel
theorem d_L_pass_15 : decode b_L_pass 15 = .ok (.iconst 1, 1) := by decide +kernel
theorem d_L_pass_16 : decode b_L_pass 16 = .ok (.ireturn, 1) := by decide +kernel
theorem d_L_pass_17 : decode b_L_pass 17 = .ok (.astore 4, 2) := by decide +kernel
theorem d_L_pass_19 : decode b_L_pass 19 = .ok (.iconst 2, 1) := by decide +kernel
theorem d_L_pass_20 : decode b_L_pass 20 = .ok (.ireturn, 1) := by decide +kernel
theorem d_L_pass_21 : decode b_L_pass 21 = .ok (.iconst 0, 1) := by decide +kernel
theorem d_L_pass_22 : decode b_L_pass 22 = .ok (.ireturn, 1) := by decide +kernel
theorem d_L_read_0 : decode b_L_read 0 = .ok (.aload_n 2, 1) := by decide +kernel
theorem d_L_read_1 : decode b_L_read 1 = .ok (.iconst 0, 1) := by decide +kernel
theorem d_L_read_2 : decode b_L_read 2 = .ok (.aload_n 0, 1) := by decide +kernel
theorem d_L_read_3 : decode b_L_read 3 = .ok (.iload_n 1, 1) := by decide +kernel
theorem d_L_read_4 : decode b_L_read 4 = .ok (.invokevirtual 37, 3) := by decide +kernel
theorem d_L_read_7 : decode b_L_read 7 = .ok (.i2l, 1) := by decide +kernel
theorem d_L_read_8 : decode b_L_read 8 = .ok (.lastore, 1) := by decide +kernel
theorem d_L_read_9 : decode b_L_read 9 = .ok (.goto 6, 3) := by decide +kernel
theorem d_L_read_12 : decode b_L_read 12 = .ok (.astore_n 3, 1) := by decide +kernel
theorem d_L_read_13 : decode b_L_read 13 = .ok (.iconst 1, 1) := by decide +kernel
theorem d_L_read_14 : decode b_L_read 14 = .ok (.ireturn, 1) := by decide +kernel
theorem d_L_read_15 : decode b_L_read 15 = .ok (.iconst 0, 1) := by decide +kernel
theorem d_L_read_16 : decode b_L_read 16 = .ok (.ireturn, 1) := by decide +kernel
theorem d_L_readRun_0 : decode b_L_readRun 0 = .ok (.aload_n 2, 1) := by decide +kernel
theorem d_L_readRun_1 : decode b_L_readRun 1 = .ok (.iconst 0, 1) := by decide +kernel
theorem d_L_readRun_2 : decode b_L_readRun 2 = .ok (.aload_n 0, 1) := by decide +kernel
theorem d_L_readRun_3 : decode b_L_readRun 3 = .ok (.iload_n 1, 1) := by decide +kernel
theorem d_L_readRun_4 : decode b_L_readRun 4 = .ok (.invokevirtual 40, 3) := by decide +kernel
theorem d_L_readRun_7 : decode b_L_readRun 7 = .ok (.i2l, 1) := by decide +kernel
theorem d_L_readRun_8 : decode b_L_readRun 8 = .ok (.lastore, 1) := by decide +kernel
theorem d_L_readRun_9 : decode b_L_readRun 9 = .ok (.goto 6, 3) := by decide +kernel
theorem d_L_readRun_12 : decode b_L_readRun 12 = .ok (.astore_n 3, 1) := by decide +kernel
theorem d_L_readRun_13 : decode b_L_readRun 13 = .ok (.iconst 1, 1) := by decide +kernel
theorem d_L_readRun_14 : decode b_L_readRun 14 = .ok (.ireturn, 1) := by decide +kernel
theorem d_L_readRun_15 : decode b_L_readRun 15 = .ok (.iconst 0, 1) := by decide +kernel
theorem d_L_readRun_16 : decode b_L_readRun 16 = .ok (.ireturn, 1) := by decide +kernel
theorem d_L_readInterrupt_0 : decode b_L_readInterrupt 0 = .ok (.aload_n 2, 1) := by decide +kernel
theorem d_L_readInterrupt_1 : decode b_L_readInterrupt 1 = .ok (.iconst 0, 1) := by decide +kernel
theorem d_L_readInterrupt_2 : decode b_L_readInterrupt 2 = .ok (.aload_n 0, 1) := by decide +kernel
theorem d_L_readInterrupt_3 : decode b_L_readInterrupt 3 = .ok (.iload_n 1, 1) := by decide +kernel
theorem d_L_readInterrupt_4 : decode b_L_readInterrupt 4 = .ok (.invokevirtual 43, 3) := by decide +kernel
theorem d_L_readInterrupt_7 : decode b_L_readInterrupt 7 = .ok (.i2l, 1) := by decide +kernel
theorem d_L_readInterrupt_8 : decode b_L_readInterrupt 8 = .ok (.lastore, 1) := by decide +kernel
theorem d_L_readInterrupt_9 : decode b_L_readInterrupt 9 = .ok (.goto 6, 3) := by decide +kernel
theorem d_L_readInterrupt_12 : decode b_L_readInterrupt 12 = .ok (.astore_n 3, 1) := by decide +kernel
theorem d_L_readInterrupt_13 : decode b_L_readInterrupt 13 = .ok (.iconst 1, 1) := by decide +kernel
theorem d_L_readInterrupt_14 : decode b_L_readInterrupt 14 = .ok (.ireturn, 1) := by decide +kernel
theorem d_L_readInterrupt_15 : decode b_L_readInterrupt 15 = .ok (.iconst 0, 1) := by decide +kernel
theorem d_L_readInterrupt_16 : decode b_L_readInterrupt 16 = .ok (.ireturn, 1) := by decide +kernel
theorem d_L_map_0 : decode b_L_map 0 = .ok (.aload_n 3, 1) := by decide +kernel
theorem d_L_map_1 : decode b_L_map 1 = .ok (.iconst 0, 1) := by decide +kernel
theorem d_L_map_2 : decode b_L_map 2 = .ok (.aload_n 0, 1) := by decide +kernel
theorem d_L_map_3 : decode b_L_map 3 = .ok (.iload_n 1, 1) := by decide +kernel
theorem d_L_map_4 : decode b_L_map 4 = .ok (.iload_n 2, 1) := by decide +kernel
theorem d_L_map_5 : decode b_L_map 5 = .ok (.invokevirtual 46, 3) := by decide +kernel
theorem d_L_map_8 : decode b_L_map 8 = .ok (.i2l, 1) := by decide +kernel
theorem d_L_map_9 : decode b_L_map 9 = .ok (.lastore, 1) := by decide +kernel
theorem d_L_map_10 : decode b_L_map 10 = .ok (.goto 7, 3) := by decide +kernel
theorem d_L_map_13 : decode b_L_map 13 = .ok (.astore 4, 2) := by decide +kernel
theorem d_L_map_15 : decode b_L_map 15 = .ok (.iconst 1, 1) := by decide +kernel
theorem d_L_map_16 : decode b_L_map 16 = .ok (.ireturn, 1) := by decide +kernel
theorem d_L_map_17 : decode b_L_map 17 = .ok (.iconst 0, 1) := by decide +kernel
theorem d_L_map_18 : decode b_L_map 18 = .ok (.ireturn, 1) := by decide +kernel
theorem d_L_unmap_0 : decode b_L_unmap 0 = .ok (.aload_n 3, 1) := by decide +kernel
theorem d_L_unmap_1 : decode b_L_unmap 1 = .ok (.iconst 0, 1) := by decide +kernel
theorem d_L_unmap_2 : decode b_L_unmap 2 = .ok (.aload_n 0, 1) := by decide +kernel
theorem d_L_unmap_3 : decode b_L_unmap 3 = .ok (.iload_n 1, 1) := by decide +kernel
theorem d_L_unmap_4 : decode b_L_unmap 4 = .ok (.iload_n 2, 1) := by decide +kernel
theorem d_L_unmap_5 : decode b_L_unmap 5 = .ok (.invokevirtual 49, 3) := by decide +kernel
theorem d_L_unmap_8 : decode b_L_unmap 8 = .ok (.i2l, 1) := by decide +kernel
theorem d_L_unmap_9 : decode b_L_unmap 9 = .ok (.lastore, 1) := by decide +kernel
theorem d_L_unmap_10 : decode b_L_unmap 10 = .ok (.goto 7, 3) := by decide +kernel
theorem d_L_unmap_13 : decode b_L_unmap 13 = .ok (.astore 4, 2) := by decide +kernel
theorem d_L_unmap_15 : decode b_L_unmap 15 = .ok (.iconst 1, 1) := by decide +kernel
theorem d_L_unmap_16 : decode b_L_unmap 16 = .ok (.ireturn, 1) := by decide +kernel
theorem d_L_unmap_17 : decode b_L_unmap 17 = .ok (.iconst 0, 1) := by decide +kernel
theorem d_L_unmap_18 : decode b_L_unmap 18 = .ok (.ireturn, 1) := by decide +kernel
theorem d_L_state_0 : decode b_L_state 0 = .ok (.aload 4, 2) := by decide +kernel
theorem d_L_state_2 : decode b_L_state 2 = .ok (.iconst 0, 1) := by decide +kernel
theorem d_L_state_3 : decode b_L_state 3 = .ok (.aload_n 0, 1) := by decide +kernel
theorem d_L_state_4 : decode b_L_state 4 = .ok (.iload_n 1, 1) := by decide +kernel
theorem d_L_state_5 : decode b_L_state 5 = .ok (.iload_n 2, 1) := by decide +kernel
theorem d_L_state_6 : decode b_L_state 6 = .ok (.iload_n 3, 1) := by decide +kernel
theorem d_L_state_7 : decode b_L_state 7 = .ok (.invokevirtual 52, 3) := by decide +kernel
theorem d_L_state_10 : decode b_L_state 10 = .ok (.i2l, 1) := by decide +kernel
theorem d_L_state_11 : decode b_L_state 11 = .ok (.lastore, 1) := by decide +kernel
theorem d_L_state_12 : decode b_L_state 12 = .ok (.goto 11, 3) := by decide +kernel
theorem d_L_state_15 : decode b_L_state 15 = .ok (.astore 5, 2) := by decide +kernel
theorem d_L_state_17 : decode b_L_state 17 = .ok (.iconst 1, 1) := by decide +kernel
theorem d_L_state_18 : decode b_L_state 18 = .ok (.ireturn, 1) := by decide +kernel
theorem d_L_state_19 : decode b_L_state 19 = .ok (.astore 5, 2) := by decide +kernel
theorem d_L_state_21 : decode b_L_state 21 = .ok (.iconst 2, 1) := by decide +kernel
theorem d_L_state_22 : decode b_L_state 22 = .ok (.ireturn, 1) := by decide +kernel
theorem d_L_state_23 : decode b_L_state 23 = .ok (.iconst 0, 1) := by decide +kernel
theorem d_L_state_24 : decode b_L_state 24 = .ok (.ireturn, 1) := by decide +kernel
