theorem dd_Mo_sync_0 : decode bb_Mo_sync 0 = .ok (.iload_n 1, 1) := by decide +kernel
theorem dd_Mo_sync_1 : decode bb_Mo_sync 1 = .ok (.iconst 0, 1) := by decide +kernel
theorem dd_Mo_sync_2 : decode bb_Mo_sync 2 = .ok (.aload_n 0, 1) := by decide +kernel
theorem dd_Mo_sync_3 : decode bb_Mo_sync 3 = .ok (.getfield 173, 3) := by decide +kernel
theorem dd_Mo_sync_6 : decode bb_Mo_sync 6 = .ok (.iconst 1, 1) := by decide +kernel
theorem dd_Mo_sync_7 : decode bb_Mo_sync 7 = .ok (.isub, 1) := by decide +kernel
theorem dd_Mo_sync_8 : decode bb_Mo_sync 8 = .ok (.invokestatic 118, 3) := by decide +kernel
theorem dd_Mo_sync_11 : decode bb_Mo_sync 11 = .ok (.ifCond .eq (7), 3) := by decide +kernel
theorem dd_Mo_sync_14 : decode bb_Mo_sync 14 = .ok (.sipush (-1001), 3) := by decide +kernel
theorem dd_Mo_sync_17 : decode bb_Mo_sync 17 = .ok (.ireturn, 1) := by decide +kernel
theorem dd_Mo_isGood_0 : decode bb_Mo_isGood 0 = .ok (.iload_n 1, 1) := by decide +kernel
theorem dd_Mo_isGood_1 : decode bb_Mo_isGood 1 = .ok (.ifCond .lt (33), 3) := by decide +kernel
theorem dd_Mo_isGood_4 : decode bb_Mo_isGood 4 = .ok (.iload_n 1, 1) := by decide +kernel
theorem dd_Mo_isGood_5 : decode bb_Mo_isGood 5 = .ok (.aload_n 0, 1) := by decide +kernel
theorem dd_Mo_isGood_6 : decode bb_Mo_isGood 6 = .ok (.getfield 112, 3) := by decide +kernel
theorem dd_Mo_isGood_9 : decode bb_Mo_isGood 9 = .ok (.if_icmp .ge (25), 3) := by decide +kernel
theorem dd_Mo_isGood_12 : decode bb_Mo_isGood 12 = .ok (.aload_n 0, 1) := by decide +kernel
theorem dd_Mo_isGood_13 : decode bb_Mo_isGood 13 = .ok (.getfield 180, 3) := by decide +kernel
theorem dd_Mo_isGood_16 : decode bb_Mo_isGood 16 = .ok (.aload_n 0, 1) := by decide +kernel
theorem dd_Mo_isGood_17 : decode bb_Mo_isGood 17 = .ok (.getfield 22, 3) := by decide +kernel
theorem dd_Mo_isGood_20 : decode bb_Mo_isGood 20 = .ok (.iload_n 1, 1) := by decide +kernel
theorem dd_Mo_isGood_21 : decode bb_Mo_isGood 21 = .ok (.iaload, 1) := by decide +kernel
theorem dd_Mo_isGood_22 : decode bb_Mo_isGood 22 = .ok (.aload_n 0, 1) := by decide +kernel
theorem dd_Mo_isGood_23 : decode bb_Mo_isGood 23 = .ok (.getfield 108, 3) := by decide +kernel
theorem dd_Mo_isGood_26 : decode bb_Mo_isGood 26 = .ok (.iadd, 1) := by decide +kernel
theorem dd_Mo_isGood_27 : decode bb_Mo_isGood 27 = .ok (.if_icmp .ge (7), 3) := by decide +kernel
theorem dd_Mo_isGood_30 : decode bb_Mo_isGood 30 = .ok (.iconst 1, 1) := by decide +kernel
theorem dd_Mo_isGood_31 : decode bb_Mo_isGood 31 = .ok (.goto (4), 3) := by decide +kernel
theorem dd_Mo_isGood_34 : decode bb_Mo_isGood 34 = .ok (.iconst 0, 1) := by decide +kernel
theorem dd_Mo_isGood_35 : decode bb_Mo_isGood 35 = .ok (.ireturn, 1) := by decide +kernel
theorem dd_Mo_fetch_0 : decode bb_Mo_fetch 0 = .ok (.iload_n 1, 1) := by decide +kernel
theorem dd_Mo_fetch_1 : decode bb_Mo_fetch 1 = .ok (.iconst 0, 1) := by decide +kernel
theorem dd_Mo_fetch_2 : decode bb_Mo_fetch 2 = .ok (.aload_n 0, 1) := by decide +kernel
theorem dd_Mo_fetch_3 : decode bb_Mo_fetch 3 = .ok (.getfield 173, 3) := by decide +kernel
theorem dd_Mo_fetch_6 : decode bb_Mo_fetch 6 = .ok (.iconst 1, 1) := by decide +kernel
theorem dd_Mo_fetch_7 : decode bb_Mo_fetch 7 = .ok (.isub, 1) := by decide +kernel
theorem dd_Mo_fetch_8 : decode bb_Mo_fetch 8 = .ok (.invokestatic 118, 3) := by decide +kernel
theorem dd_Mo_fetch_11 : decode bb_Mo_fetch 11 = .ok (.ifCond .eq (7), 3) := by decide +kernel
theorem dd_Mo_fetch_14 : decode bb_Mo_fetch 14 = .ok (.sipush (-1001), 3) := by decide +kernel
theorem dd_Mo_fetch_17 : decode bb_Mo_fetch 17 = .ok (.ireturn, 1) := by decide +kernel
theorem dd_Mo_watch_0 : decode bb_Mo_watch 0 = .ok (.iload_n 1, 1) := by decide +kernel
theorem dd_Mo_watch_1 : decode bb_Mo_watch 1 = .ok (.iconst 0, 1) := by decide +kernel
theorem dd_Mo_watch_2 : decode bb_Mo_watch 2 = .ok (.aload_n 0, 1) := by decide +kernel
theorem dd_Mo_watch_3 : decode bb_Mo_watch 3 = .ok (.getfield 173, 3) := by decide +kernel
theorem dd_Mo_watch_6 : decode bb_Mo_watch 6 = .ok (.iconst 1, 1) := by decide +kernel
theorem dd_Mo_watch_7 : decode bb_Mo_watch 7 = .ok (.isub, 1) := by decide +kernel
theorem dd_Mo_watch_8 : decode bb_Mo_watch 8 = .ok (.invokestatic 118, 3) := by decide +kernel
theorem dd_Mo_watch_11 : decode bb_Mo_watch 11 = .ok (.ifCond .eq (7), 3) := by decide +kernel
theorem dd_Mo_watch_14 : decode bb_Mo_watch 14 = .ok (.sipush (-1001), 3) := by decide +kernel
theorem dd_Mo_watch_17 : decode bb_Mo_watch 17 = .ok (.ireturn, 1) := by decide +kernel
theorem dd_Mo_poll_0 : decode bb_Mo_poll 0 = .ok (.iload_n 1, 1) := by decide +kernel
theorem dd_Mo_poll_1 : decode bb_Mo_poll 1 = .ok (.iconst 0, 1) := by decide +kernel
theorem dd_Mo_poll_2 : decode bb_Mo_poll 2 = .ok (.aload_n 0, 1) := by decide +kernel
theorem dd_Mo_poll_3 : decode bb_Mo_poll 3 = .ok (.getfield 226, 3) := by decide +kernel
theorem dd_Mo_poll_6 : decode bb_Mo_poll 6 = .ok (.iconst 1, 1) := by decide +kernel
theorem dd_Mo_poll_7 : decode bb_Mo_poll 7 = .ok (.isub, 1) := by decide +kernel
theorem dd_Mo_poll_8 : decode bb_Mo_poll 8 = .ok (.invokestatic 118, 3) := by decide +kernel
theorem dd_Mo_poll_11 : decode bb_Mo_poll 11 = .ok (.ifCond .eq (7), 3) := by decide +kernel
theorem dd_Mo_poll_14 : decode bb_Mo_poll 14 = .ok (.sipush (-1001), 3) := by decide +kernel
theorem dd_Mo_poll_17 : decode bb_Mo_poll 17 = .ok (.ireturn, 1) := by decide +kernel
