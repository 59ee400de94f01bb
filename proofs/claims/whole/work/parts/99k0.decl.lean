theorem dL_draft_0 : decode cL_draft 0 = .ok (.aload_n 2, 1) := by decide +kernel
theorem dL_draft_1 : decode cL_draft 1 = .ok (.iconst 0, 1) := by decide +kernel
theorem dL_draft_2 : decode cL_draft 2 = .ok (.aload_n 0, 1) := by decide +kernel
theorem dL_draft_3 : decode cL_draft 3 = .ok (.iload_n 1, 1) := by decide +kernel
theorem dL_draft_4 : decode cL_draft 4 = .ok (.invokevirtual 7, 3) := by decide +kernel
theorem dL_draft_7 : decode cL_draft 7 = .ok (.i2l, 1) := by decide +kernel
theorem dL_draft_8 : decode cL_draft 8 = .ok (.lastore, 1) := by decide +kernel
theorem dL_draft_9 : decode cL_draft 9 = .ok (.goto 9, 3) := by decide +kernel
theorem dL_draft_12 : decode cL_draft 12 = .ok (.astore_n 3, 1) := by decide +kernel
theorem dL_draft_13 : decode cL_draft 13 = .ok (.iconst 1, 1) := by decide +kernel
theorem dL_draft_14 : decode cL_draft 14 = .ok (.ireturn, 1) := by decide +kernel
theorem dL_draft_15 : decode cL_draft 15 = .ok (.astore_n 3, 1) := by decide +kernel
theorem dL_draft_16 : decode cL_draft 16 = .ok (.iconst 2, 1) := by decide +kernel
theorem dL_draft_17 : decode cL_draft 17 = .ok (.ireturn, 1) := by decide +kernel
theorem dL_draft_18 : decode cL_draft 18 = .ok (.iconst 0, 1) := by decide +kernel
theorem dL_draft_19 : decode cL_draft 19 = .ok (.ireturn, 1) := by decide +kernel
theorem dL_write_0 : decode cL_write 0 = .ok (.aload_n 3, 1) := by decide +kernel
theorem dL_write_1 : decode cL_write 1 = .ok (.iconst 0, 1) := by decide +kernel
theorem dL_write_2 : decode cL_write 2 = .ok (.aload_n 0, 1) := by decide +kernel
theorem dL_write_3 : decode cL_write 3 = .ok (.iload_n 1, 1) := by decide +kernel
theorem dL_write_4 : decode cL_write 4 = .ok (.iload_n 2, 1) := by decide +kernel
theorem dL_write_5 : decode cL_write 5 = .ok (.invokevirtual 17, 3) := by decide +kernel
theorem dL_write_8 : decode cL_write 8 = .ok (.i2l, 1) := by decide +kernel
theorem dL_write_9 : decode cL_write 9 = .ok (.lastore, 1) := by decide +kernel
theorem dL_write_10 : decode cL_write 10 = .ok (.goto 11, 3) := by decide +kernel
theorem dL_write_13 : decode cL_write 13 = .ok (.astore 4, 2) := by decide +kernel
theorem dL_write_15 : decode cL_write 15 = .ok (.iconst 1, 1) := by decide +kernel
theorem dL_write_16 : decode cL_write 16 = .ok (.ireturn, 1) := by decide +kernel
theorem dL_write_17 : decode cL_write 17 = .ok (.astore 4, 2) := by decide +kernel
theorem dL_write_19 : decode cL_write 19 = .ok (.iconst 2, 1) := by decide +kernel
theorem dL_write_20 : decode cL_write 20 = .ok (.ireturn, 1) := by decide +kernel
theorem dL_write_21 : decode cL_write 21 = .ok (.iconst 0, 1) := by decide +kernel
theorem dL_write_22 : decode cL_write 22 = .ok (.ireturn, 1) := by decide +kernel
theorem dL_move_0 : decode cL_move 0 = .ok (.aload 4, 2) := by decide +kernel
theorem dL_move_2 : decode cL_move 2 = .ok (.iconst 0, 1) := by decide +kernel
theorem dL_move_3 : decode cL_move 3 = .ok (.aload_n 0, 1) := by decide +kernel
theorem dL_move_4 : decode cL_move 4 = .ok (.iload_n 1, 1) := by decide +kernel
theorem dL_move_5 : decode cL_move 5 = .ok (.iload_n 2, 1) := by decide +kernel
theorem dL_move_6 : decode cL_move 6 = .ok (.iload_n 3, 1) := by decide +kernel
theorem dL_move_7 : decode cL_move 7 = .ok (.invokevirtual 23, 3) := by decide +kernel
theorem dL_move_10 : decode cL_move 10 = .ok (.i2l, 1) := by decide +kernel
theorem dL_move_11 : decode cL_move 11 = .ok (.lastore, 1) := by decide +kernel
theorem dL_move_12 : decode cL_move 12 = .ok (.goto 11, 3) := by decide +kernel
theorem dL_move_15 : decode cL_move 15 = .ok (.astore 5, 2) := by decide +kernel
theorem dL_move_17 : decode cL_move 17 = .ok (.iconst 1, 1) := by decide +kernel
theorem dL_move_18 : decode cL_move 18 = .ok (.ireturn, 1) := by decide +kernel
theorem dL_move_19 : decode cL_move 19 = .ok (.astore 5, 2) := by decide +kernel
theorem dL_move_21 : decode cL_move 21 = .ok (.iconst 2, 1) := by decide +kernel
theorem dL_move_22 : decode cL_move 22 = .ok (.ireturn, 1) := by decide +kernel
theorem dL_move_23 : decode cL_move 23 = .ok (.iconst 0, 1) := by decide +kernel
theorem dL_move_24 : decode cL_move 24 = .ok (.ireturn, 1) := by decide +kernel
theorem dL_erase_0 : decode cL_erase 0 = .ok (.aload_n 3, 1) := by decide +kernel
theorem dL_erase_1 : decode cL_erase 1 = .ok (.iconst 0, 1) := by decide +kernel
theorem dL_erase_2 : decode cL_erase 2 = .ok (.aload_n 0, 1) := by decide +kernel
theorem dL_erase_3 : decode cL_erase 3 = .ok (.iload_n 1, 1) := by decide +kernel
theorem dL_erase_4 : decode cL_erase 4 = .ok (.iload_n 2, 1) := by decide +kernel
theorem dL_erase_5 : decode cL_erase 5 = .ok (.invokevirtual 27, 3) := by decide +kernel
theorem dL_erase_8 : decode cL_erase 8 = .ok (.i2l, 1) := by decide +kernel
theorem dL_erase_9 : decode cL_erase 9 = .ok (.lastore, 1) := by decide +kernel
theorem dL_erase_10 : decode cL_erase 10 = .ok (.goto 11, 3) := by decide +kernel
theorem dL_erase_13 : decode cL_erase 13 = .ok (.astore 4, 2) := by decide +kernel
theorem dL_erase_15 : decode cL_erase 15 = .ok (.iconst 1, 1) := by decide +kernel
theorem dL_erase_16 : decode cL_erase 16 = .ok (.ireturn, 1) := by decide +kernel
theorem dL_erase_17 : decode cL_erase 17 = .ok (.astore 4, 2) := by decide +kernel
theorem dL_erase_19 : decode cL_erase 19 = .ok (.iconst 2, 1) := by decide +kernel
theorem dL_erase_20 : decode cL_erase 20 = .ok (.ireturn, 1) := by decide +kernel
theorem dL_erase_21 : decode cL_erase 21 = .ok (.iconst 0, 1) := by decide +kernel
theorem dL_erase_22 : decode cL_erase 22 = .ok (.ireturn, 1) := by decide +kernel
theorem dL_late_0 : decode cL_late 0 = .ok (.aload_n 3, 1) := by decide +kernel
theorem dL_late_1 : decode cL_late 1 = .ok (.iconst 0, 1) := by decide +kernel
theorem dL_late_2 : decode cL_late 2 = .ok (.aload_n 0, 1) := by decide +kernel
theorem dL_late_3 : decode cL_late 3 = .ok (.iload_n 1, 1) := by decide +kernel
theorem dL_late_4 : decode cL_late 4 = .ok (.iload_n 2, 1) := by decide +kernel
theorem dL_late_5 : decode cL_late 5 = .ok (.invokevirtual 30, 3) := by decide +kernel
theorem dL_late_8 : decode cL_late 8 = .ok (.i2l, 1) := by decide +kernel
theorem dL_late_9 : decode cL_late 9 = .ok (.lastore, 1) := by decide +kernel
theorem dL_late_10 : decode cL_late 10 = .ok (.goto 11, 3) := by decide +kernel
theorem dL_late_13 : decode cL_late 13 = .ok (.astore 4, 2) := by decide +kernel
theorem dL_late_15 : decode cL_late 15 = .ok (.iconst 1, 1) := by decide +kernel
theorem dL_late_16 : decode cL_late 16 = .ok (.ireturn, 1) := by decide +kernel
theorem dL_late_17 : decode cL_late 17 = .ok (.astore 4, 2) := by decide +kernel
theorem dL_late_19 : decode cL_late 19 = .ok (.iconst 2, 1) := by decide +kernel
theorem dL_late_20 : decode cL_late 20 = .ok (.ireturn, 1) := by decide +kernel
theorem dL_late_21 : decode cL_late 21 = .ok (.iconst 0, 1) := by decide +kernel
theorem dL_late_22 : decode cL_late 22 = .ok (.ireturn, 1) := by decide +kernel
theorem dL_lose_0 : decode cL_lose 0 = .ok (.aload_n 2, 1) := by decide +kernel
theorem dL_lose_1 : decode cL_lose 1 = .ok (.iconst 0, 1) := by decide +kernel
theorem dL_lose_2 : decode cL_lose 2 = .ok (.aload_n 0, 1) := by decide +kernel
theorem dL_lose_3 : decode cL_lose 3 = .ok (.iload_n 1, 1) := by decide +kernel
theorem dL_lose_4 : decode cL_lose 4 = .ok (.invokevirtual 33, 3) := by decide +kernel
theorem dL_lose_7 : decode cL_lose 7 = .ok (.i2l, 1) := by decide +kernel
theorem dL_lose_8 : decode cL_lose 8 = .ok (.lastore, 1) := by decide +kernel
theorem dL_lose_9 : decode cL_lose 9 = .ok (.goto 6, 3) := by decide +kernel
theorem dL_lose_12 : decode cL_lose 12 = .ok (.astore_n 3, 1) := by decide +kernel
theorem dL_lose_13 : decode cL_lose 13 = .ok (.iconst 1, 1) := by decide +kernel
theorem dL_lose_14 : decode cL_lose 14 = .ok (.ireturn, 1) := by decide +kernel
theorem dL_lose_15 : decode cL_lose 15 = .ok (.iconst 0, 1) := by decide +kernel
theorem dL_lose_16 : decode cL_lose 16 = .ok (.ireturn, 1) := by decide +kernel
theorem dL_scan_0 : decode cL_scan 0 = .ok (.aload_n 2, 1) := by decide +kernel
theorem dL_scan_1 : decode cL_scan 1 = .ok (.iconst 0, 1) := by decide +kernel
theorem dL_scan_2 : decode cL_scan 2 = .ok (.aload_n 0, 1) := by decide +kernel
theorem dL_scan_3 : decode cL_scan 3 = .ok (.iload_n 1, 1) := by decide +kernel
theorem dL_scan_4 : decode cL_scan 4 = .ok (.invokevirtual 36, 3) := by decide +kernel
theorem dL_scan_7 : decode cL_scan 7 = .ok (.i2l, 1) := by decide +kernel
theorem dL_scan_8 : decode cL_scan 8 = .ok (.lastore, 1) := by decide +kernel
theorem dL_scan_9 : decode cL_scan 9 = .ok (.goto 6, 3) := by decide +kernel
theorem dL_scan_12 : decode cL_scan 12 = .ok (.astore_n 3, 1) := by decide +kernel
theorem dL_scan_13 : decode cL_scan 13 = .ok (.iconst 1, 1) := by decide +kernel
theorem dL_scan_14 : decode cL_scan 14 = .ok (.ireturn, 1) := by decide +kernel
theorem dL_scan_15 : decode cL_scan 15 = .ok (.iconst 0, 1) := by decide +kernel
theorem dL_scan_16 : decode cL_scan 16 = .ok (.ireturn, 1) := by decide +kernel
theorem dL_room_0 : decode cL_room 0 = .ok (.aload_n 3, 1) := by decide +kernel
theorem dL_room_1 : decode cL_room 1 = .ok (.iconst 0, 1) := by decide +kernel
theorem dL_room_2 : decode cL_room 2 = .ok (.aload_n 0, 1) := by decide +kernel
theorem dL_room_3 : decode cL_room 3 = .ok (.iload_n 1, 1) := by decide +kernel
theorem dL_room_4 : decode cL_room 4 = .ok (.iload_n 2, 1) := by decide +kernel
theorem dL_room_5 : decode cL_room 5 = .ok (.invokevirtual 39, 3) := by decide +kernel
theorem dL_room_8 : decode cL_room 8 = .ok (.i2l, 1) := by decide +kernel
theorem dL_room_9 : decode cL_room 9 = .ok (.lastore, 1) := by decide +kernel
theorem dL_room_10 : decode cL_room 10 = .ok (.goto 11, 3) := by decide +kernel
theorem dL_room_13 : decode cL_room 13 = .ok (.astore 4, 2) := by decide +kernel
theorem dL_room_15 : decode cL_room 15 = .ok (.iconst 1, 1) := by decide +kernel
theorem dL_room_16 : decode cL_room 16 = .ok (.ireturn, 1) := by decide +kernel
theorem dL_room_17 : decode cL_room 17 = .ok (.astore 4, 2) := by decide +kernel
theorem dL_room_19 : decode cL_room 19 = .ok (.iconst 2, 1) := by decide +kernel
theorem dL_room_20 : decode cL_room 20 = .ok (.ireturn, 1) := by decide +kernel
theorem dL_room_21 : decode cL_room 21 = .ok (.iconst 0, 1) := by decide +kernel
theorem dL_room_22 : decode cL_room 22 = .ok (.ireturn, 1) := by decide +kernel
theorem dL_pin_0 : decode cL_pin 0 = .ok (.aload 4, 2) := by decide +kernel
theorem dL_pin_2 : decode cL_pin 2 = .ok (.iconst 0, 1) := by decide +kernel
theorem dL_pin_3 : decode cL_pin 3 = .ok (.aload_n 0, 1) := by decide +kernel
theorem dL_pin_4 : decode cL_pin 4 = .ok (.iload_n 1, 1) := by decide +kernel
theorem dL_pin_5 : decode cL_pin 5 = .ok (.iload_n 2, 1) := by decide +kernel
theorem dL_pin_6 : decode cL_pin 6 = .ok (.iload_n 3, 1) := by decide +kernel
theorem dL_pin_7 : decode cL_pin 7 = .ok (.invokevirtual 42, 3) := by decide +kernel
theorem dL_pin_10 : decode cL_pin 10 = .ok (.ifCond .eq 7, 3) := by decide +kernel
theorem dL_pin_13 : decode cL_pin 13 = .ok (.lconst 1, 1) := by decide +kernel
theorem dL_pin_14 : decode cL_pin 14 = .ok (.goto 4, 3) := by decide +kernel
theorem dL_pin_17 : decode cL_pin 17 = .ok (.lconst 0, 1) := by decide +kernel
theorem dL_pin_18 : decode cL_pin 18 = .ok (.lastore, 1) := by decide +kernel
theorem dL_pin_19 : decode cL_pin 19 = .ok (.goto 7, 3) := by decide +kernel
theorem dL_pin_22 : decode cL_pin 22 = .ok (.astore 5, 2) := by decide +kernel
theorem dL_pin_24 : decode cL_pin 24 = .ok (.iconst 1, 1) := by decide +kernel
theorem dL_pin_25 : decode cL_pin 25 = .ok (.ireturn, 1) := by decide +kernel
theorem dL_pin_26 : decode cL_pin 26 = .ok (.iconst 0, 1) := by decide +kernel
theorem dL_pin_27 : decode cL_pin 27 = .ok (.ireturn, 1) := by decide +kernel
theorem dL_upload_0 : decode cL_upload 0 = .ok (.aload_n 3, 1) := by decide +kernel
theorem dL_upload_1 : decode cL_upload 1 = .ok (.iconst 0, 1) := by decide +kernel
theorem dL_upload_2 : decode cL_upload 2 = .ok (.aload_n 0, 1) := by decide +kernel
theorem dL_upload_3 : decode cL_upload 3 = .ok (.iload_n 1, 1) := by decide +kernel
theorem dL_upload_4 : decode cL_upload 4 = .ok (.iload_n 2, 1) := by decide +kernel
theorem dL_upload_5 : decode cL_upload 5 = .ok (.invokevirtual 46, 3) := by decide +kernel
theorem dL_upload_8 : decode cL_upload 8 = .ok (.i2l, 1) := by decide +kernel
theorem dL_upload_9 : decode cL_upload 9 = .ok (.lastore, 1) := by decide +kernel
theorem dL_upload_10 : decode cL_upload 10 = .ok (.goto 15, 3) := by decide +kernel
theorem dL_upload_13 : decode cL_upload 13 = .ok (.astore 4, 2) := by decide +kernel
theorem dL_upload_15 : decode cL_upload 15 = .ok (.iconst 1, 1) := by decide +kernel
theorem dL_upload_16 : decode cL_upload 16 = .ok (.ireturn, 1) := by decide +kernel
theorem dL_upload_17 : decode cL_upload 17 = .ok (.astore 4, 2) := by decide +kernel
theorem dL_upload_19 : decode cL_upload 19 = .ok (.iconst 2, 1) := by decide +kernel
theorem dL_upload_20 : decode cL_upload 20 = .ok (.ireturn, 1) := by decide +kernel
theorem dL_upload_21 : decode cL_upload 21 = .ok (.astore 4, 2) := by decide +kernel
theorem dL_upload_23 : decode cL_upload 23 = .ok (.iconst 3, 1) := by decide +kernel
theorem dL_upload_24 : decode cL_upload 24 = .ok (.ireturn, 1) := by decide +kernel
theorem dL_upload_25 : decode cL_upload 25 = .ok (.iconst 0, 1) := by decide +kernel
theorem dL_upload_26 : decode cL_upload 26 = .ok (.ireturn, 1) := by decide +kernel
theorem dL_pull_0 : decode cL_pull 0 = .ok (.aload_n 2, 1) := by decide +kernel
theorem dL_pull_1 : decode cL_pull 1 = .ok (.iconst 0, 1) := by decide +kernel
theorem dL_pull_2 : decode cL_pull 2 = .ok (.aload_n 0, 1) := by decide +kernel
theorem dL_pull_3 : decode cL_pull 3 = .ok (.iload_n 1, 1) := by decide +kernel
theorem dL_pull_4 : decode cL_pull 4 = .ok (.invokevirtual 49, 3) := by decide +kernel
theorem dL_pull_7 : decode cL_pull 7 = .ok (.i2l, 1) := by decide +kernel
theorem dL_pull_8 : decode cL_pull 8 = .ok (.lastore, 1) := by decide +kernel
theorem dL_pull_9 : decode cL_pull 9 = .ok (.goto 6, 3) := by decide +kernel
theorem dL_pull_12 : decode cL_pull 12 = .ok (.astore_n 3, 1) := by decide +kernel
theorem dL_pull_13 : decode cL_pull 13 = .ok (.iconst 1, 1) := by decide +kernel
theorem dL_pull_14 : decode cL_pull 14 = .ok (.ireturn, 1) := by decide +kernel
theorem dL_pull_15 : decode cL_pull 15 = .ok (.iconst 0, 1) := by decide +kernel
theorem dL_pull_16 : decode cL_pull 16 = .ok (.ireturn, 1) := by decide +kernel
theorem dL_open_0 : decode cL_open 0 = .ok (.aload_n 3, 1) := by decide +kernel
theorem dL_open_1 : decode cL_open 1 = .ok (.iconst 0, 1) := by decide +kernel
theorem dL_open_2 : decode cL_open 2 = .ok (.aload_n 0, 1) := by decide +kernel
theorem dL_open_3 : decode cL_open 3 = .ok (.iload_n 1, 1) := by decide +kernel
theorem dL_open_4 : decode cL_open 4 = .ok (.iload_n 2, 1) := by decide +kernel
theorem dL_open_5 : decode cL_open 5 = .ok (.invokevirtual 52, 3) := by decide +kernel
theorem dL_open_8 : decode cL_open 8 = .ok (.i2l, 1) := by decide +kernel
theorem dL_open_9 : decode cL_open 9 = .ok (.lastore, 1) := by decide +kernel
theorem dL_open_10 : decode cL_open 10 = .ok (.goto 11, 3) := by decide +kernel
theorem dL_open_13 : decode cL_open 13 = .ok (.astore 4, 2) := by decide +kernel
theorem dL_open_15 : decode cL_open 15 = .ok (.iconst 1, 1) := by decide +kernel
theorem dL_open_16 : decode cL_open 16 = .ok (.ireturn, 1) := by decide +kernel
theorem dL_open_17 : decode cL_open 17 = .ok (.astore 4, 2) := by decide +kernel
theorem dL_open_19 : decode cL_open 19 = .ok (.iconst 2, 1) := by decide +kernel
theorem dL_open_20 : decode cL_open 20 = .ok (.ireturn, 1) := by decide +kernel
theorem dL_open_21 : decode cL_open 21 = .ok (.iconst 0, 1) := by decide +kernel
theorem dL_open_22 : decode cL_open 22 = .ok (.ireturn, 1) := by decide +kernel
theorem dL_lock_0 : decode cL_lock 0 = .ok (.aload 4, 2) := by decide +kernel
theorem dL_lock_2 : decode cL_lock 2 = .ok (.iconst 0, 1) := by decide +kernel
theorem dL_lock_3 : decode cL_lock 3 = .ok (.aload_n 0, 1) := by decide +kernel
theorem dL_lock_4 : decode cL_lock 4 = .ok (.iload_n 1, 1) := by decide +kernel
theorem dL_lock_5 : decode cL_lock 5 = .ok (.iload_n 2, 1) := by decide +kernel
theorem dL_lock_6 : decode cL_lock 6 = .ok (.iload_n 3, 1) := by decide +kernel
theorem dL_lock_7 : decode cL_lock 7 = .ok (.invokevirtual 55, 3) := by decide +kernel
theorem dL_lock_10 : decode cL_lock 10 = .ok (.i2l, 1) := by decide +kernel
theorem dL_lock_11 : decode cL_lock 11 = .ok (.lastore, 1) := by decide +kernel
theorem dL_lock_12 : decode cL_lock 12 = .ok (.goto 15, 3) := by decide +kernel
theorem dL_lock_15 : decode cL_lock 15 = .ok (.astore 5, 2) := by decide +kernel
theorem dL_lock_17 : decode cL_lock 17 = .ok (.iconst 1, 1) := by decide +kernel
theorem dL_lock_18 : decode cL_lock 18 = .ok (.ireturn, 1) := by decide +kernel
theorem dL_lock_19 : decode cL_lock 19 = .ok (.astore 5, 2) := by decide +kernel
theorem dL_lock_21 : decode cL_lock 21 = .ok (.iconst 2, 1) := by decide +kernel
theorem dL_lock_22 : decode cL_lock 22 = .ok (.ireturn, 1) := by decide +kernel
theorem dL_lock_23 : decode cL_lock 23 = .ok (.astore 5, 2) := by decide +kernel
theorem dL_lock_25 : decode cL_lock 25 = .ok (.iconst 3, 1) := by decide +kernel
theorem dL_lock_26 : decode cL_lock 26 = .ok (.ireturn, 1) := by decide +kernel
theorem dL_lock_27 : decode cL_lock 27 = .ok (.iconst 0, 1) := by decide +kernel
theorem dL_lock_28 : decode cL_lock 28 = .ok (.ireturn, 1) := by decide +kernel
theorem dL_breakLock_0 : decode cL_breakLock 0 = .ok (.aload_n 2, 1) := by decide +kernel
theorem dL_breakLock_1 : decode cL_breakLock 1 = .ok (.iconst 0, 1) := by decide +kernel
theorem dL_breakLock_2 : decode cL_breakLock 2 = .ok (.aload_n 0, 1) := by decide +kernel
theorem dL_breakLock_3 : decode cL_breakLock 3 = .ok (.iload_n 1, 1) := by decide +kernel
theorem dL_breakLock_4 : decode cL_breakLock 4 = .ok (.invokevirtual 58, 3) := by decide +kernel
theorem dL_breakLock_7 : decode cL_breakLock 7 = .ok (.i2l, 1) := by decide +kernel
theorem dL_breakLock_8 : decode cL_breakLock 8 = .ok (.lastore, 1) := by decide +kernel
theorem dL_breakLock_9 : decode cL_breakLock 9 = .ok (.goto 9, 3) := by decide +kernel
theorem dL_breakLock_12 : decode cL_breakLock 12 = .ok (.astore_n 3, 1) := by decide +kernel
theorem dL_breakLock_13 : decode cL_breakLock 13 = .ok (.iconst 1, 1) := by decide +kernel
theorem dL_breakLock_14 : decode cL_breakLock 14 = .ok (.ireturn, 1) := by decide +kernel
theorem dL_breakLock_15 : decode cL_breakLock 15 = .ok (.astore_n 3, 1) := by decide +kernel
theorem dL_breakLock_16 : decode cL_breakLock 16 = .ok (.iconst 2, 1) := by decide +kernel
theorem dL_breakLock_17 : decode cL_breakLock 17 = .ok (.ireturn, 1) := by decide +kernel
theorem dL_breakLock_18 : decode cL_breakLock 18 = .ok (.iconst 0, 1) := by decide +kernel
theorem dL_breakLock_19 : decode cL_breakLock 19 = .ok (.ireturn, 1) := by decide +kernel
theorem dL_share_0 : decode cL_share 0 = .ok (.aload_n 0, 1) := by decide +kernel
theorem dL_share_1 : decode cL_share 1 = .ok (.iload_n 1, 1) := by decide +kernel
theorem dL_share_2 : decode cL_share 2 = .ok (.iload_n 2, 1) := by decide +kernel
theorem dL_share_3 : decode cL_share 3 = .ok (.iload_n 3, 1) := by decide +kernel
theorem dL_share_4 : decode cL_share 4 = .ok (.iload 4, 2) := by decide +kernel
theorem dL_share_6 : decode cL_share 6 = .ok (.invokevirtual 61, 3) := by decide +kernel
theorem dL_share_9 : decode cL_share 9 = .ok (.goto 11, 3) := by decide +kernel
theorem dL_share_12 : decode cL_share 12 = .ok (.astore 5, 2) := by decide +kernel
theorem dL_share_14 : decode cL_share 14 = .ok (.iconst 1, 1) := by decide +kernel
theorem dL_share_15 : decode cL_share 15 = .ok (.ireturn, 1) := by decide +kernel
theorem dL_share_16 : decode cL_share 16 = .ok (.astore 5, 2) := by decide +kernel
theorem dL_share_18 : decode cL_share 18 = .ok (.iconst 2, 1) := by decide +kernel
theorem dL_share_19 : decode cL_share 19 = .ok (.ireturn, 1) := by decide +kernel
theorem dL_share_20 : decode cL_share 20 = .ok (.iconst 0, 1) := by decide +kernel
theorem dL_share_21 : decode cL_share 21 = .ok (.ireturn, 1) := by decide +kernel
theorem dL_hold_0 : decode cL_hold 0 = .ok (.aload 4, 2) := by decide +kernel
theorem dL_hold_2 : decode cL_hold 2 = .ok (.iconst 0, 1) := by decide +kernel
theorem dL_hold_3 : decode cL_hold 3 = .ok (.aload_n 0, 1) := by decide +kernel
theorem dL_hold_4 : decode cL_hold 4 = .ok (.iload_n 1, 1) := by decide +kernel
theorem dL_hold_5 : decode cL_hold 5 = .ok (.iload_n 2, 1) := by decide +kernel
theorem dL_hold_6 : decode cL_hold 6 = .ok (.iload_n 3, 1) := by decide +kernel
theorem dL_hold_7 : decode cL_hold 7 = .ok (.invokevirtual 65, 3) := by decide +kernel
theorem dL_hold_10 : decode cL_hold 10 = .ok (.i2l, 1) := by decide +kernel
theorem dL_hold_11 : decode cL_hold 11 = .ok (.lastore, 1) := by decide +kernel
theorem dL_hold_12 : decode cL_hold 12 = .ok (.goto 15, 3) := by decide +kernel
theorem dL_hold_15 : decode cL_hold 15 = .ok (.astore 5, 2) := by decide +kernel
theorem dL_hold_17 : decode cL_hold 17 = .ok (.iconst 1, 1) := by decide +kernel
theorem dL_hold_18 : decode cL_hold 18 = .ok (.ireturn, 1) := by decide +kernel
theorem dL_hold_19 : decode cL_hold 19 = .ok (.astore 5, 2) := by decide +kernel
theorem dL_hold_21 : decode cL_hold 21 = .ok (.iconst 2, 1) := by decide +kernel
theorem dL_hold_22 : decode cL_hold 22 = .ok (.ireturn, 1) := by decide +kernel
theorem dL_hold_23 : decode cL_hold 23 = .ok (.astore 5, 2) := by decide +kernel
theorem dL_hold_25 : decode cL_hold 25 = .ok (.iconst 3, 1) := by decide +kernel
theorem dL_hold_26 : decode cL_hold 26 = .ok (.ireturn, 1) := by decide +kernel
theorem dL_hold_27 : decode cL_hold 27 = .ok (.iconst 0, 1) := by decide +kernel
theorem dL_hold_28 : decode cL_hold 28 = .ok (.ireturn, 1) := by decide +kernel
theorem dL_restore_0 : decode cL_restore 0 = .ok (.aload_n 3, 1) := by decide +kernel
theorem dL_restore_1 : decode cL_restore 1 = .ok (.iconst 0, 1) := by decide +kernel
theorem dL_restore_2 : decode cL_restore 2 = .ok (.aload_n 0, 1) := by decide +kernel
theorem dL_restore_3 : decode cL_restore 3 = .ok (.iload_n 1, 1) := by decide +kernel
theorem dL_restore_4 : decode cL_restore 4 = .ok (.iload_n 2, 1) := by decide +kernel
theorem dL_restore_5 : decode cL_restore 5 = .ok (.invokevirtual 68, 3) := by decide +kernel
theorem dL_restore_8 : decode cL_restore 8 = .ok (.i2l, 1) := by decide +kernel
theorem dL_restore_9 : decode cL_restore 9 = .ok (.lastore, 1) := by decide +kernel
theorem dL_restore_10 : decode cL_restore 10 = .ok (.goto 15, 3) := by decide +kernel
theorem dL_restore_13 : decode cL_restore 13 = .ok (.astore 4, 2) := by decide +kernel
theorem dL_restore_15 : decode cL_restore 15 = .ok (.iconst 1, 1) := by decide +kernel
theorem dL_restore_16 : decode cL_restore 16 = .ok (.ireturn, 1) := by decide +kernel
theorem dL_restore_17 : decode cL_restore 17 = .ok (.astore 4, 2) := by decide +kernel
theorem dL_restore_19 : decode cL_restore 19 = .ok (.iconst 2, 1) := by decide +kernel
theorem dL_restore_20 : decode cL_restore 20 = .ok (.ireturn, 1) := by decide +kernel
theorem dL_restore_21 : decode cL_restore 21 = .ok (.astore 4, 2) := by decide +kernel
theorem dL_restore_23 : decode cL_restore 23 = .ok (.iconst 3, 1) := by decide +kernel
theorem dL_restore_24 : decode cL_restore 24 = .ok (.ireturn, 1) := by decide +kernel
theorem dL_restore_25 : decode cL_restore 25 = .ok (.iconst 0, 1) := by decide +kernel
theorem dL_restore_26 : decode cL_restore 26 = .ok (.ireturn, 1) := by decide +kernel
theorem dL_restoreFolder_0 : decode cL_restoreFolder 0 = .ok (.aload_n 3, 1) := by decide +kernel
theorem dL_restoreFolder_1 : decode cL_restoreFolder 1 = .ok (.iconst 0, 1) := by decide +kernel
theorem dL_restoreFolder_2 : decode cL_restoreFolder 2 = .ok (.aload_n 0, 1) := by decide +kernel
theorem dL_restoreFolder_3 : decode cL_restoreFolder 3 = .ok (.iload_n 1, 1) := by decide +kernel
theorem dL_restoreFolder_4 : decode cL_restoreFolder 4 = .ok (.iload_n 2, 1) := by decide +kernel
theorem dL_restoreFolder_5 : decode cL_restoreFolder 5 = .ok (.invokevirtual 71, 3) := by decide +kernel
theorem dL_restoreFolder_8 : decode cL_restoreFolder 8 = .ok (.i2l, 1) := by decide +kernel
theorem dL_restoreFolder_9 : decode cL_restoreFolder 9 = .ok (.lastore, 1) := by decide +kernel
theorem dL_restoreFolder_10 : decode cL_restoreFolder 10 = .ok (.goto 15, 3) := by decide +kernel
theorem dL_restoreFolder_13 : decode cL_restoreFolder 13 = .ok (.astore 4, 2) := by decide +kernel
theorem dL_restoreFolder_15 : decode cL_restoreFolder 15 = .ok (.iconst 1, 1) := by decide +kernel
theorem dL_restoreFolder_16 : decode cL_restoreFolder 16 = .ok (.ireturn, 1) := by decide +kernel
theorem dL_restoreFolder_17 : decode cL_restoreFolder 17 = .ok (.astore 4, 2) := by decide +kernel
theorem dL_restoreFolder_19 : decode cL_restoreFolder 19 = .ok (.iconst 2, 1) := by decide +kernel
theorem dL_restoreFolder_20 : decode cL_restoreFolder 20 = .ok (.ireturn, 1) := by decide +kernel
theorem dL_restoreFolder_21 : decode cL_restoreFolder 21 = .ok (.astore 4, 2) := by decide +kernel
theorem dL_restoreFolder_23 : decode cL_restoreFolder 23 = .ok (.iconst 3, 1) := by decide +kernel
theorem dL_restoreFolder_24 : decode cL_restoreFolder 24 = .ok (.ireturn, 1) := by decide +kernel
theorem dL_restoreFolder_25 : decode cL_restoreFolder 25 = .ok (.iconst 0, 1) := by decide +kernel
theorem dL_restoreFolder_26 : decode cL_restoreFolder 26 = .ok (.ireturn, 1) := by decide +kernel
theorem dL_damage_0 : decode cL_damage 0 = .ok (.aload_n 2, 1) := by decide +kernel
theorem dL_damage_1 : decode cL_damage 1 = .ok (.iconst 0, 1) := by decide +kernel
theorem dL_damage_2 : decode cL_damage 2 = .ok (.aload_n 0, 1) := by decide +kernel
theorem dL_damage_3 : decode cL_damage 3 = .ok (.iload_n 1, 1) := by decide +kernel
theorem dL_damage_4 : decode cL_damage 4 = .ok (.invokevirtual 74, 3) := by decide +kernel
theorem dL_damage_7 : decode cL_damage 7 = .ok (.i2l, 1) := by decide +kernel
theorem dL_damage_8 : decode cL_damage 8 = .ok (.lastore, 1) := by decide +kernel
theorem dL_damage_9 : decode cL_damage 9 = .ok (.goto 6, 3) := by decide +kernel
theorem dL_damage_12 : decode cL_damage 12 = .ok (.astore_n 3, 1) := by decide +kernel
theorem dL_damage_13 : decode cL_damage 13 = .ok (.iconst 1, 1) := by decide +kernel
theorem dL_damage_14 : decode cL_damage 14 = .ok (.ireturn, 1) := by decide +kernel
theorem dL_damage_15 : decode cL_damage 15 = .ok (.iconst 0, 1) := by decide +kernel
theorem dL_damage_16 : decode cL_damage 16 = .ok (.ireturn, 1) := by decide +kernel
theorem dL_follow_0 : decode cL_follow 0 = .ok (.aload_n 2, 1) := by decide +kernel
theorem dL_follow_1 : decode cL_follow 1 = .ok (.iconst 0, 1) := by decide +kernel
theorem dL_follow_2 : decode cL_follow 2 = .ok (.aload_n 0, 1) := by decide +kernel
theorem dL_follow_3 : decode cL_follow 3 = .ok (.iload_n 1, 1) := by decide +kernel
theorem dL_follow_4 : decode cL_follow 4 = .ok (.invokevirtual 77, 3) := by decide +kernel
theorem dL_follow_7 : decode cL_follow 7 = .ok (.i2l, 1) := by decide +kernel
theorem dL_follow_8 : decode cL_follow 8 = .ok (.lastore, 1) := by decide +kernel
theorem dL_follow_9 : decode cL_follow 9 = .ok (.goto 6, 3) := by decide +kernel
theorem dL_follow_12 : decode cL_follow 12 = .ok (.astore_n 3, 1) := by decide +kernel
theorem dL_follow_13 : decode cL_follow 13 = .ok (.iconst 1, 1) := by decide +kernel
theorem dL_follow_14 : decode cL_follow 14 = .ok (.ireturn, 1) := by decide +kernel
theorem dL_follow_15 : decode cL_follow 15 = .ok (.iconst 0, 1) := by decide +kernel
theorem dL_follow_16 : decode cL_follow 16 = .ok (.ireturn, 1) := by decide +kernel
theorem dL_pass_0 : decode cL_pass 0 = .ok (.aload_n 2, 1) := by decide +kernel
theorem dL_pass_1 : decode cL_pass 1 = .ok (.iconst 0, 1) := by decide +kernel
theorem dL_pass_2 : decode cL_pass 2 = .ok (.aload_n 0, 1) := by decide +kernel
theorem dL_pass_3 : decode cL_pass 3 = .ok (.iload_n 1, 1) := by decide +kernel
theorem dL_pass_4 : decode cL_pass 4 = .ok (.invokevirtual 80, 3) := by decide +kernel
theorem dL_pass_7 : decode cL_pass 7 = .ok (.i2l, 1) := by decide +kernel
theorem dL_pass_8 : decode cL_pass 8 = .ok (.lastore, 1) := by decide +kernel
theorem dL_pass_9 : decode cL_pass 9 = .ok (.goto 9, 3) := by decide +kernel
theorem dL_pass_12 : decode cL_pass 12 = .ok (.astore_n 3, 1) := by decide +kernel
theorem dL_pass_13 : decode cL_pass 13 = .ok (.iconst 1, 1) := by decide +kernel
theorem dL_pass_14 : decode cL_pass 14 = .ok (.ireturn, 1) := by decide +kernel
theorem dL_pass_15 : decode cL_pass 15 = .ok (.astore_n 3, 1) := by decide +kernel
theorem dL_pass_16 : decode cL_pass 16 = .ok (.iconst 2, 1) := by decide +kernel
theorem dL_pass_17 : decode cL_pass 17 = .ok (.ireturn, 1) := by decide +kernel
theorem dL_pass_18 : decode cL_pass 18 = .ok (.iconst 0, 1) := by decide +kernel
theorem dL_pass_19 : decode cL_pass 19 = .ok (.ireturn, 1) := by decide +kernel
theorem dL_stateOf_0 : decode cL_stateOf 0 = .ok (.aload_n 3, 1) := by decide +kernel
theorem dL_stateOf_1 : decode cL_stateOf 1 = .ok (.iconst 0, 1) := by decide +kernel
theorem dL_stateOf_2 : decode cL_stateOf 2 = .ok (.aload_n 0, 1) := by decide +kernel
theorem dL_stateOf_3 : decode cL_stateOf 3 = .ok (.iload_n 1, 1) := by decide +kernel
theorem dL_stateOf_4 : decode cL_stateOf 4 = .ok (.iload_n 2, 1) := by decide +kernel
theorem dL_stateOf_5 : decode cL_stateOf 5 = .ok (.invokevirtual 83, 3) := by decide +kernel
theorem dL_stateOf_8 : decode cL_stateOf 8 = .ok (.i2l, 1) := by decide +kernel
theorem dL_stateOf_9 : decode cL_stateOf 9 = .ok (.lastore, 1) := by decide +kernel
theorem dL_stateOf_10 : decode cL_stateOf 10 = .ok (.goto 7, 3) := by decide +kernel
theorem dL_stateOf_13 : decode cL_stateOf 13 = .ok (.astore 4, 2) := by decide +kernel
theorem dL_stateOf_15 : decode cL_stateOf 15 = .ok (.iconst 1, 1) := by decide +kernel
theorem dL_stateOf_16 : decode cL_stateOf 16 = .ok (.ireturn, 1) := by decide +kernel
theorem dL_stateOf_17 : decode cL_stateOf 17 = .ok (.iconst 0, 1) := by decide +kernel
theorem dL_stateOf_18 : decode cL_stateOf 18 = .ok (.ireturn, 1) := by decide +kernel
theorem dL_folderOf_0 : decode cL_folderOf 0 = .ok (.aload_n 3, 1) := by decide +kernel
theorem dL_folderOf_1 : decode cL_folderOf 1 = .ok (.iconst 0, 1) := by decide +kernel
theorem dL_folderOf_2 : decode cL_folderOf 2 = .ok (.aload_n 0, 1) := by decide +kernel
theorem dL_folderOf_3 : decode cL_folderOf 3 = .ok (.iload_n 1, 1) := by decide +kernel
theorem dL_folderOf_4 : decode cL_folderOf 4 = .ok (.iload_n 2, 1) := by decide +kernel
theorem dL_folderOf_5 : decode cL_folderOf 5 = .ok (.invokevirtual 86, 3) := by decide +kernel
theorem dL_folderOf_8 : decode cL_folderOf 8 = .ok (.i2l, 1) := by decide +kernel
theorem dL_folderOf_9 : decode cL_folderOf 9 = .ok (.lastore, 1) := by decide +kernel
theorem dL_folderOf_10 : decode cL_folderOf 10 = .ok (.goto 7, 3) := by decide +kernel
theorem dL_folderOf_13 : decode cL_folderOf 13 = .ok (.astore 4, 2) := by decide +kernel
theorem dL_folderOf_15 : decode cL_folderOf 15 = .ok (.iconst 1, 1) := by decide +kernel
theorem dL_folderOf_16 : decode cL_folderOf 16 = .ok (.ireturn, 1) := by decide +kernel
theorem dL_folderOf_17 : decode cL_folderOf 17 = .ok (.iconst 0, 1) := by decide +kernel
theorem dL_folderOf_18 : decode cL_folderOf 18 = .ok (.ireturn, 1) := by decide +kernel
theorem dL_numberAt_0 : decode cL_numberAt 0 = .ok (.aload 4, 2) := by decide +kernel
theorem dL_numberAt_2 : decode cL_numberAt 2 = .ok (.iconst 0, 1) := by decide +kernel
theorem dL_numberAt_3 : decode cL_numberAt 3 = .ok (.aload_n 0, 1) := by decide +kernel
theorem dL_numberAt_4 : decode cL_numberAt 4 = .ok (.iload_n 1, 1) := by decide +kernel
theorem dL_numberAt_5 : decode cL_numberAt 5 = .ok (.iload_n 2, 1) := by decide +kernel
theorem dL_numberAt_6 : decode cL_numberAt 6 = .ok (.iload_n 3, 1) := by decide +kernel
theorem dL_numberAt_7 : decode cL_numberAt 7 = .ok (.invokevirtual 89, 3) := by decide +kernel
theorem dL_numberAt_10 : decode cL_numberAt 10 = .ok (.i2l, 1) := by decide +kernel
theorem dL_numberAt_11 : decode cL_numberAt 11 = .ok (.lastore, 1) := by decide +kernel
theorem dL_numberAt_12 : decode cL_numberAt 12 = .ok (.goto 7, 3) := by decide +kernel
theorem dL_numberAt_15 : decode cL_numberAt 15 = .ok (.astore 5, 2) := by decide +kernel
theorem dL_numberAt_17 : decode cL_numberAt 17 = .ok (.iconst 1, 1) := by decide +kernel
theorem dL_numberAt_18 : decode cL_numberAt 18 = .ok (.ireturn, 1) := by decide +kernel
theorem dL_numberAt_19 : decode cL_numberAt 19 = .ok (.iconst 0, 1) := by decide +kernel
theorem dL_numberAt_20 : decode cL_numberAt 20 = .ok (.ireturn, 1) := by decide +kernel
theorem dL_isChanged_0 : decode cL_isChanged 0 = .ok (.aload_n 3, 1) := by decide +kernel
theorem dL_isChanged_1 : decode cL_isChanged 1 = .ok (.iconst 0, 1) := by decide +kernel
theorem dL_isChanged_2 : decode cL_isChanged 2 = .ok (.aload_n 0, 1) := by decide +kernel
theorem dL_isChanged_3 : decode cL_isChanged 3 = .ok (.iload_n 1, 1) := by decide +kernel
theorem dL_isChanged_4 : decode cL_isChanged 4 = .ok (.iload_n 2, 1) := by decide +kernel
theorem dL_isChanged_5 : decode cL_isChanged 5 = .ok (.invokevirtual 92, 3) := by decide +kernel
theorem dL_isChanged_8 : decode cL_isChanged 8 = .ok (.ifCond .eq 7, 3) := by decide +kernel
theorem dL_isChanged_11 : decode cL_isChanged 11 = .ok (.lconst 1, 1) := by decide +kernel
theorem dL_isChanged_12 : decode cL_isChanged 12 = .ok (.goto 4, 3) := by decide +kernel
theorem dL_isChanged_15 : decode cL_isChanged 15 = .ok (.lconst 0, 1) := by decide +kernel
theorem dL_isChanged_16 : decode cL_isChanged 16 = .ok (.lastore, 1) := by decide +kernel
theorem dL_isChanged_17 : decode cL_isChanged 17 = .ok (.goto 7, 3) := by decide +kernel
theorem dL_isChanged_20 : decode cL_isChanged 20 = .ok (.astore 4, 2) := by decide +kernel
theorem dL_isChanged_22 : decode cL_isChanged 22 = .ok (.iconst 1, 1) := by decide +kernel
theorem dL_isChanged_23 : decode cL_isChanged 23 = .ok (.ireturn, 1) := by decide +kernel
theorem dL_isChanged_24 : decode cL_isChanged 24 = .ok (.iconst 0, 1) := by decide +kernel
theorem dL_isChanged_25 : decode cL_isChanged 25 = .ok (.ireturn, 1) := by decide +kernel
theorem dL_seen_0 : decode cL_seen 0 = .ok (.aload_n 3, 1) := by decide +kernel
theorem dL_seen_1 : decode cL_seen 1 = .ok (.iconst 0, 1) := by decide +kernel
theorem dL_seen_2 : decode cL_seen 2 = .ok (.aload_n 0, 1) := by decide +kernel
theorem dL_seen_3 : decode cL_seen 3 = .ok (.iload_n 1, 1) := by decide +kernel
theorem dL_seen_4 : decode cL_seen 4 = .ok (.iload_n 2, 1) := by decide +kernel
theorem dL_seen_5 : decode cL_seen 5 = .ok (.invokevirtual 96, 3) := by decide +kernel
theorem dL_seen_8 : decode cL_seen 8 = .ok (.i2l, 1) := by decide +kernel
theorem dL_seen_9 : decode cL_seen 9 = .ok (.lastore, 1) := by decide +kernel
theorem dL_seen_10 : decode cL_seen 10 = .ok (.goto 7, 3) := by decide +kernel
theorem dL_seen_13 : decode cL_seen 13 = .ok (.astore 4, 2) := by decide +kernel
theorem dL_seen_15 : decode cL_seen 15 = .ok (.iconst 1, 1) := by decide +kernel
theorem dL_seen_16 : decode cL_seen 16 = .ok (.ireturn, 1) := by decide +kernel
theorem dL_seen_17 : decode cL_seen 17 = .ok (.iconst 0, 1) := by decide +kernel
theorem dL_seen_18 : decode cL_seen 18 = .ok (.ireturn, 1) := by decide +kernel
theorem dL_noted_0 : decode cL_noted 0 = .ok (.aload_n 2, 1) := by decide +kernel
theorem dL_noted_1 : decode cL_noted 1 = .ok (.iconst 0, 1) := by decide +kernel
theorem dL_noted_2 : decode cL_noted 2 = .ok (.aload_n 0, 1) := by decide +kernel
theorem dL_noted_3 : decode cL_noted 3 = .ok (.iload_n 1, 1) := by decide +kernel
theorem dL_noted_4 : decode cL_noted 4 = .ok (.invokevirtual 99, 3) := by decide +kernel
theorem dL_noted_7 : decode cL_noted 7 = .ok (.i2l, 1) := by decide +kernel
theorem dL_noted_8 : decode cL_noted 8 = .ok (.lastore, 1) := by decide +kernel
theorem dL_noted_9 : decode cL_noted 9 = .ok (.goto 6, 3) := by decide +kernel
theorem dL_noted_12 : decode cL_noted 12 = .ok (.astore_n 3, 1) := by decide +kernel
theorem dL_noted_13 : decode cL_noted 13 = .ok (.iconst 1, 1) := by decide +kernel
theorem dL_noted_14 : decode cL_noted 14 = .ok (.ireturn, 1) := by decide +kernel
theorem dL_noted_15 : decode cL_noted 15 = .ok (.iconst 0, 1) := by decide +kernel
theorem dL_noted_16 : decode cL_noted 16 = .ok (.ireturn, 1) := by decide +kernel
theorem dL_taken_0 : decode cL_taken 0 = .ok (.aload_n 2, 1) := by decide +kernel
theorem dL_taken_1 : decode cL_taken 1 = .ok (.iconst 0, 1) := by decide +kernel
theorem dL_taken_2 : decode cL_taken 2 = .ok (.aload_n 0, 1) := by decide +kernel
theorem dL_taken_3 : decode cL_taken 3 = .ok (.iload_n 1, 1) := by decide +kernel
theorem dL_taken_4 : decode cL_taken 4 = .ok (.invokevirtual 102, 3) := by decide +kernel
theorem dL_taken_7 : decode cL_taken 7 = .ok (.i2l, 1) := by decide +kernel
theorem dL_taken_8 : decode cL_taken 8 = .ok (.lastore, 1) := by decide +kernel
theorem dL_taken_9 : decode cL_taken 9 = .ok (.goto 6, 3) := by decide +kernel
theorem dL_taken_12 : decode cL_taken 12 = .ok (.astore_n 3, 1) := by decide +kernel
theorem dL_taken_13 : decode cL_taken 13 = .ok (.iconst 1, 1) := by decide +kernel
theorem dL_taken_14 : decode cL_taken 14 = .ok (.ireturn, 1) := by decide +kernel
theorem dL_taken_15 : decode cL_taken 15 = .ok (.iconst 0, 1) := by decide +kernel
theorem dL_taken_16 : decode cL_taken 16 = .ok (.ireturn, 1) := by decide +kernel
theorem dL_version_0 : decode cL_version 0 = .ok (.aload_n 3, 1) := by decide +kernel
theorem dL_version_1 : decode cL_version 1 = .ok (.iconst 0, 1) := by decide +kernel
theorem dL_version_2 : decode cL_version 2 = .ok (.aload_n 0, 1) := by decide +kernel
theorem dL_version_3 : decode cL_version 3 = .ok (.iload_n 1, 1) := by decide +kernel
theorem dL_version_4 : decode cL_version 4 = .ok (.iload_n 2, 1) := by decide +kernel
theorem dL_version_5 : decode cL_version 5 = .ok (.invokevirtual 105, 3) := by decide +kernel
theorem dL_version_8 : decode cL_version 8 = .ok (.i2l, 1) := by decide +kernel
theorem dL_version_9 : decode cL_version 9 = .ok (.lastore, 1) := by decide +kernel
theorem dL_version_10 : decode cL_version 10 = .ok (.goto 11, 3) := by decide +kernel
theorem dL_version_13 : decode cL_version 13 = .ok (.astore 4, 2) := by decide +kernel
theorem dL_version_15 : decode cL_version 15 = .ok (.iconst 1, 1) := by decide +kernel
theorem dL_version_16 : decode cL_version 16 = .ok (.ireturn, 1) := by decide +kernel
theorem dL_version_17 : decode cL_version 17 = .ok (.astore 4, 2) := by decide +kernel
theorem dL_version_19 : decode cL_version 19 = .ok (.iconst 2, 1) := by decide +kernel
theorem dL_version_20 : decode cL_version 20 = .ok (.ireturn, 1) := by decide +kernel
theorem dL_version_21 : decode cL_version 21 = .ok (.iconst 0, 1) := by decide +kernel
theorem dL_version_22 : decode cL_version 22 = .ok (.ireturn, 1) := by decide +kernel
theorem dL_asOf_0 : decode cL_asOf 0 = .ok (.aload_n 3, 1) := by decide +kernel
theorem dL_asOf_1 : decode cL_asOf 1 = .ok (.iconst 0, 1) := by decide +kernel
theorem dL_asOf_2 : decode cL_asOf 2 = .ok (.aload_n 0, 1) := by decide +kernel
theorem dL_asOf_3 : decode cL_asOf 3 = .ok (.iload_n 1, 1) := by decide +kernel
theorem dL_asOf_4 : decode cL_asOf 4 = .ok (.iload_n 2, 1) := by decide +kernel
theorem dL_asOf_5 : decode cL_asOf 5 = .ok (.invokevirtual 108, 3) := by decide +kernel
theorem dL_asOf_8 : decode cL_asOf 8 = .ok (.i2l, 1) := by decide +kernel
theorem dL_asOf_9 : decode cL_asOf 9 = .ok (.lastore, 1) := by decide +kernel
theorem dL_asOf_10 : decode cL_asOf 10 = .ok (.goto 11, 3) := by decide +kernel
theorem dL_asOf_13 : decode cL_asOf 13 = .ok (.astore 4, 2) := by decide +kernel
theorem dL_asOf_15 : decode cL_asOf 15 = .ok (.iconst 1, 1) := by decide +kernel
theorem dL_asOf_16 : decode cL_asOf 16 = .ok (.ireturn, 1) := by decide +kernel
theorem dL_asOf_17 : decode cL_asOf 17 = .ok (.astore 4, 2) := by decide +kernel
theorem dL_asOf_19 : decode cL_asOf 19 = .ok (.iconst 2, 1) := by decide +kernel
theorem dL_asOf_20 : decode cL_asOf 20 = .ok (.ireturn, 1) := by decide +kernel
theorem dL_asOf_21 : decode cL_asOf 21 = .ok (.iconst 0, 1) := by decide +kernel
theorem dL_asOf_22 : decode cL_asOf 22 = .ok (.ireturn, 1) := by decide +kernel
theorem dL_lockOf_0 : decode cL_lockOf 0 = .ok (.aload_n 2, 1) := by decide +kernel
theorem dL_lockOf_1 : decode cL_lockOf 1 = .ok (.iconst 0, 1) := by decide +kernel
theorem dL_lockOf_2 : decode cL_lockOf 2 = .ok (.aload_n 0, 1) := by decide +kernel
theorem dL_lockOf_3 : decode cL_lockOf 3 = .ok (.iload_n 1, 1) := by decide +kernel
theorem dL_lockOf_4 : decode cL_lockOf 4 = .ok (.invokevirtual 111, 3) := by decide +kernel
theorem dL_lockOf_7 : decode cL_lockOf 7 = .ok (.i2l, 1) := by decide +kernel
theorem dL_lockOf_8 : decode cL_lockOf 8 = .ok (.lastore, 1) := by decide +kernel
theorem dL_lockOf_9 : decode cL_lockOf 9 = .ok (.goto 6, 3) := by decide +kernel
theorem dL_lockOf_12 : decode cL_lockOf 12 = .ok (.astore_n 3, 1) := by decide +kernel
theorem dL_lockOf_13 : decode cL_lockOf 13 = .ok (.iconst 1, 1) := by decide +kernel
theorem dL_lockOf_14 : decode cL_lockOf 14 = .ok (.ireturn, 1) := by decide +kernel
theorem dL_lockOf_15 : decode cL_lockOf 15 = .ok (.iconst 0, 1) := by decide +kernel
theorem dL_lockOf_16 : decode cL_lockOf 16 = .ok (.ireturn, 1) := by decide +kernel
theorem dL_right_0 : decode cL_right 0 = .ok (.aload_n 3, 1) := by decide +kernel
theorem dL_right_1 : decode cL_right 1 = .ok (.iconst 0, 1) := by decide +kernel
theorem dL_right_2 : decode cL_right 2 = .ok (.aload_n 0, 1) := by decide +kernel
theorem dL_right_3 : decode cL_right 3 = .ok (.iload_n 1, 1) := by decide +kernel
theorem dL_right_4 : decode cL_right 4 = .ok (.iload_n 2, 1) := by decide +kernel
theorem dL_right_5 : decode cL_right 5 = .ok (.invokevirtual 114, 3) := by decide +kernel
theorem dL_right_8 : decode cL_right 8 = .ok (.i2l, 1) := by decide +kernel
theorem dL_right_9 : decode cL_right 9 = .ok (.lastore, 1) := by decide +kernel
theorem dL_right_10 : decode cL_right 10 = .ok (.goto 7, 3) := by decide +kernel
theorem dL_right_13 : decode cL_right 13 = .ok (.astore 4, 2) := by decide +kernel
theorem dL_right_15 : decode cL_right 15 = .ok (.iconst 1, 1) := by decide +kernel
theorem dL_right_16 : decode cL_right 16 = .ok (.ireturn, 1) := by decide +kernel
theorem dL_right_17 : decode cL_right 17 = .ok (.iconst 0, 1) := by decide +kernel
theorem dL_right_18 : decode cL_right 18 = .ok (.ireturn, 1) := by decide +kernel
theorem dL_count_0 : decode cL_count 0 = .ok (.aload_n 2, 1) := by decide +kernel
theorem dL_count_1 : decode cL_count 1 = .ok (.iconst 0, 1) := by decide +kernel
theorem dL_count_2 : decode cL_count 2 = .ok (.aload_n 0, 1) := by decide +kernel
theorem dL_count_3 : decode cL_count 3 = .ok (.iload_n 1, 1) := by decide +kernel
theorem dL_count_4 : decode cL_count 4 = .ok (.invokevirtual 117, 3) := by decide +kernel
theorem dL_count_7 : decode cL_count 7 = .ok (.i2l, 1) := by decide +kernel
theorem dL_count_8 : decode cL_count 8 = .ok (.lastore, 1) := by decide +kernel
theorem dL_count_9 : decode cL_count 9 = .ok (.goto 6, 3) := by decide +kernel
theorem dL_count_12 : decode cL_count 12 = .ok (.astore_n 3, 1) := by decide +kernel
theorem dL_count_13 : decode cL_count 13 = .ok (.iconst 1, 1) := by decide +kernel
theorem dL_count_14 : decode cL_count 14 = .ok (.ireturn, 1) := by decide +kernel
theorem dL_count_15 : decode cL_count 15 = .ok (.iconst 0, 1) := by decide +kernel
theorem dL_count_16 : decode cL_count 16 = .ok (.ireturn, 1) := by decide +kernel
