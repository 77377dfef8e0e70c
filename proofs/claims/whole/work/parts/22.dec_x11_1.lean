theorem dX11_isSheet_1 : decode cX11_isSheet 1 = .ok (.ifCond .lt 12, 3) := by decide +kernel
theorem dX11_isSheet_4 : decode cX11_isSheet 4 = .ok (.iload_n 0, 1) := by decide +kernel
theorem dX11_isSheet_5 : decode cX11_isSheet 5 = .ok (.iconst 3, 1) := by decide +kernel
theorem dX11_isSheet_6 : decode cX11_isSheet 6 = .ok (.if_icmp .ge 7, 3) := by decide +kernel
theorem dX11_isSheet_9 : decode cX11_isSheet 9 = .ok (.iconst 1, 1) := by decide +kernel
theorem dX11_isSheet_10 : decode cX11_isSheet 10 = .ok (.goto 4, 3) := by decide +kernel
theorem dX11_isSheet_13 : decode cX11_isSheet 13 = .ok (.iconst 0, 1) := by decide +kernel
theorem dX11_isSheet_14 : decode cX11_isSheet 14 = .ok (.ireturn, 1) := by decide +kernel
theorem dX11_isHolder_0 : decode cX11_isHolder 0 = .ok (.iload_n 0, 1) := by decide +kernel
theorem dX11_isHolder_1 : decode cX11_isHolder 1 = .ok (.ifCond .lt 13, 3) := by decide +kernel
theorem dX11_isHolder_4 : decode cX11_isHolder 4 = .ok (.iload_n 0, 1) := by decide +kernel
theorem dX11_isHolder_5 : decode cX11_isHolder 5 = .ok (.bipush 8, 2) := by decide +kernel
theorem dX11_isHolder_7 : decode cX11_isHolder 7 = .ok (.if_icmp .ge 7, 3) := by decide +kernel
theorem dX11_isHolder_10 : decode cX11_isHolder 10 = .ok (.iconst 1, 1) := by decide +kernel
theorem dX11_isHolder_11 : decode cX11_isHolder 11 = .ok (.goto 4, 3) := by decide +kernel
theorem dX11_isHolder_14 : decode cX11_isHolder 14 = .ok (.iconst 0, 1) := by decide +kernel
theorem dX11_isHolder_15 : decode cX11_isHolder 15 = .ok (.ireturn, 1) := by decide +kernel
theorem dX11_isPerson_0 : decode cX11_isPerson 0 = .ok (.iload_n 1, 1) := by decide +kernel
theorem dX11_isPerson_1 : decode cX11_isPerson 1 = .ok (.ifCond .lt 15, 3) := by decide +kernel
theorem dX11_isPerson_4 : decode cX11_isPerson 4 = .ok (.iload_n 1, 1) := by decide +kernel
theorem dX11_isPerson_5 : decode cX11_isPerson 5 = .ok (.aload_n 0, 1) := by decide +kernel
theorem dX11_isPerson_6 : decode cX11_isPerson 6 = .ok (.getfield 132, 3) := by decide +kernel
theorem dX11_isPerson_9 : decode cX11_isPerson 9 = .ok (.if_icmp .ge 7, 3) := by decide +kernel
theorem dX11_isPerson_12 : decode cX11_isPerson 12 = .ok (.iconst 1, 1) := by decide +kernel
theorem dX11_isPerson_13 : decode cX11_isPerson 13 = .ok (.goto 4, 3) := by decide +kernel
theorem dX11_isPerson_16 : decode cX11_isPerson 16 = .ok (.iconst 0, 1) := by decide +kernel
theorem dX11_isPerson_17 : decode cX11_isPerson 17 = .ok (.ireturn, 1) := by decide +kernel
theorem dX11_isPaper_0 : decode cX11_isPaper 0 = .ok (.iload_n 1, 1) := by decide +kernel
theorem dX11_isPaper_1 : decode cX11_isPaper 1 = .ok (.ifCond .lt 18, 3) := by decide +kernel
theorem dX11_isPaper_4 : decode cX11_isPaper 4 = .ok (.iload_n 1, 1) := by decide +kernel
theorem dX11_isPaper_5 : decode cX11_isPaper 5 = .ok (.aload_n 0, 1) := by decide +kernel
theorem dX11_isPaper_6 : decode cX11_isPaper 6 = .ok (.getfield 25, 3) := by decide +kernel
theorem dX11_isPaper_9 : decode cX11_isPaper 9 = .ok (.invokevirtual 169, 3) := by decide +kernel
theorem dX11_isPaper_12 : decode cX11_isPaper 12 = .ok (.if_icmp .ge 7, 3) := by decide +kernel
theorem dX11_isPaper_15 : decode cX11_isPaper 15 = .ok (.iconst 1, 1) := by decide +kernel
theorem dX11_isPaper_16 : decode cX11_isPaper 16 = .ok (.goto 4, 3) := by decide +kernel
theorem dX11_isPaper_19 : decode cX11_isPaper 19 = .ok (.iconst 0, 1) := by decide +kernel
theorem dX11_isPaper_20 : decode cX11_isPaper 20 = .ok (.ireturn, 1) := by decide +kernel
theorem dX11_isShip_0 : decode cX11_isShip 0 = .ok (.iload_n 1, 1) := by decide +kernel
theorem dX11_isShip_1 : decode cX11_isShip 1 = .ok (.ifCond .lt 18, 3) := by decide +kernel
theorem dX11_isShip_4 : decode cX11_isShip 4 = .ok (.iload_n 1, 1) := by decide +kernel
theorem dX11_isShip_5 : decode cX11_isShip 5 = .ok (.aload_n 0, 1) := by decide +kernel
theorem dX11_isShip_6 : decode cX11_isShip 6 = .ok (.getfield 32, 3) := by decide +kernel
theorem dX11_isShip_9 : decode cX11_isShip 9 = .ok (.invokevirtual 169, 3) := by decide +kernel
theorem dX11_isShip_12 : decode cX11_isShip 12 = .ok (.if_icmp .ge 7, 3) := by decide +kernel
theorem dX11_isShip_15 : decode cX11_isShip 15 = .ok (.iconst 1, 1) := by decide +kernel
theorem dX11_isShip_16 : decode cX11_isShip 16 = .ok (.goto 4, 3) := by decide +kernel
theorem dX11_isShip_19 : decode cX11_isShip 19 = .ok (.iconst 0, 1) := by decide +kernel
theorem dX11_isShip_20 : decode cX11_isShip 20 = .ok (.ireturn, 1) := by decide +kernel
theorem dX11_isVoyage_0 : decode cX11_isVoyage 0 = .ok (.iload_n 1, 1) := by decide +kernel
theorem dX11_isVoyage_1 : decode cX11_isVoyage 1 = .ok (.ifCond .lt 18, 3) := by decide +kernel
theorem dX11_isVoyage_4 : decode cX11_isVoyage 4 = .ok (.iload_n 1, 1) := by decide +kernel
theorem dX11_isVoyage_5 : decode cX11_isVoyage 5 = .ok (.aload_n 0, 1) := by decide +kernel
theorem dX11_isVoyage_6 : decode cX11_isVoyage 6 = .ok (.getfield 38, 3) := by decide +kernel
theorem dX11_isVoyage_9 : decode cX11_isVoyage 9 = .ok (.invokevirtual 169, 3) := by decide +kernel
theorem dX11_isVoyage_12 : decode cX11_isVoyage 12 = .ok (.if_icmp .ge 7, 3) := by decide +kernel
theorem dX11_isVoyage_15 : decode cX11_isVoyage 15 = .ok (.iconst 1, 1) := by decide +kernel
theorem dX11_isVoyage_16 : decode cX11_isVoyage 16 = .ok (.goto 4, 3) := by decide +kernel
theorem dX11_isVoyage_19 : decode cX11_isVoyage 19 = .ok (.iconst 0, 1) := by decide +kernel
theorem dX11_isVoyage_20 : decode cX11_isVoyage 20 = .ok (.ireturn, 1) := by decide +kernel
theorem dX11_isInForce_0 : decode cX11_isInForce 0 = .ok (.iload_n 1, 1) := by decide +kernel
theorem dX11_isInForce_1 : decode cX11_isInForce 1 = .ok (.invokestatic 92, 3) := by decide +kernel
theorem dX11_isInForce_4 : decode cX11_isInForce 4 = .ok (.ifCond .eq 27, 3) := by decide +kernel
theorem dX11_isInForce_7 : decode cX11_isInForce 7 = .ok (.iload_n 2, 1) := by decide +kernel
theorem dX11_isInForce_8 : decode cX11_isInForce 8 = .ok (.ifCond .lt 23, 3) := by decide +kernel
theorem dX11_isInForce_11 : decode cX11_isInForce 11 = .ok (.iload_n 2, 1) := by decide +kernel
theorem dX11_isInForce_12 : decode cX11_isInForce 12 = .ok (.aload_n 0, 1) := by decide +kernel
theorem dX11_isInForce_13 : decode cX11_isInForce 13 = .ok (.getfield 11, 3) := by decide +kernel
theorem dX11_isInForce_16 : decode cX11_isInForce 16 = .ok (.iload_n 1, 1) := by decide +kernel
theorem dX11_isInForce_17 : decode cX11_isInForce 17 = .ok (.aaload, 1) := by decide +kernel
theorem dX11_isInForce_18 : decode cX11_isInForce 18 = .ok (.getfield 237, 3) := by decide +kernel
theorem dX11_isInForce_21 : decode cX11_isInForce 21 = .ok (.invokevirtual 169, 3) := by decide +kernel
theorem dX11_isInForce_24 : decode cX11_isInForce 24 = .ok (.if_icmp .ge 7, 3) := by decide +kernel
theorem dX11_isInForce_27 : decode cX11_isInForce 27 = .ok (.iconst 1, 1) := by decide +kernel
theorem dX11_isInForce_28 : decode cX11_isInForce 28 = .ok (.goto 4, 3) := by decide +kernel
theorem dX11_isInForce_31 : decode cX11_isInForce 31 = .ok (.iconst 0, 1) := by decide +kernel
theorem dX11_isInForce_32 : decode cX11_isInForce 32 = .ok (.ireturn, 1) := by decide +kernel
theorem dX11_billAt_0 : decode cX11_billAt 0 = .ok (.aload_n 0, 1) := by decide +kernel
theorem dX11_billAt_1 : decode cX11_billAt 1 = .ok (.iload_n 1, 1) := by decide +kernel
theorem dX11_billAt_2 : decode cX11_billAt 2 = .ok (.invokevirtual 200, 3) := by decide +kernel
theorem dX11_billAt_5 : decode cX11_billAt 5 = .ok (.ifCond .eq 26, 3) := by decide +kernel
theorem dX11_billAt_8 : decode cX11_billAt 8 = .ok (.aload_n 0, 1) := by decide +kernel
theorem dX11_billAt_9 : decode cX11_billAt 9 = .ok (.getfield 25, 3) := by decide +kernel
theorem dX11_billAt_12 : decode cX11_billAt 12 = .ok (.iload_n 1, 1) := by decide +kernel
theorem dX11_billAt_13 : decode cX11_billAt 13 = .ok (.invokevirtual 206, 3) := by decide +kernel
theorem dX11_billAt_16 : decode cX11_billAt 16 = .ok (.astore_n 3, 1) := by decide +kernel
theorem dX11_billAt_17 : decode cX11_billAt 17 = .ok (.aload_n 3, 1) := by decide +kernel
theorem dX11_billAt_18 : decode cX11_billAt 18 = .ok (.instanceof 346, 3) := by decide +kernel
theorem dX11_billAt_21 : decode cX11_billAt 21 = .ok (.ifCond .eq 10, 3) := by decide +kernel
theorem dX11_billAt_24 : decode cX11_billAt 24 = .ok (.aload_n 3, 1) := by decide +kernel
theorem dX11_billAt_25 : decode cX11_billAt 25 = .ok (.checkcast 346, 3) := by decide +kernel
theorem dX11_billAt_28 : decode cX11_billAt 28 = .ok (.astore_n 2, 1) := by decide +kernel
theorem dX11_billAt_29 : decode cX11_billAt 29 = .ok (.aload_n 2, 1) := by decide +kernel
theorem dX11_billAt_30 : decode cX11_billAt 30 = .ok (.areturn, 1) := by decide +kernel
theorem dX11_billAt_31 : decode cX11_billAt 31 = .ok (.aconst_null, 1) := by decide +kernel
theorem dX11_billAt_32 : decode cX11_billAt 32 = .ok (.areturn, 1) := by decide +kernel
theorem dX11_entriesKept_0 : decode cX11_entriesKept 0 = .ok (.aload_n 0, 1) := by decide +kernel
theorem dX11_entriesKept_1 : decode cX11_entriesKept 1 = .ok (.getfield 452, 3) := by decide +kernel
theorem dX11_entriesKept_4 : decode cX11_entriesKept 4 = .ok (.sipush 500, 3) := by decide +kernel
theorem dX11_entriesKept_7 : decode cX11_entriesKept 7 = .ok (.invokestatic 441, 3) := by decide +kernel
theorem dX11_entriesKept_10 : decode cX11_entriesKept 10 = .ok (.ireturn, 1) := by decide +kernel
theorem dX11_sumOf_0 : decode cX11_sumOf 0 = .ok (.iconst 0, 1) := by decide +kernel
theorem dX11_sumOf_1 : decode cX11_sumOf 1 = .ok (.istore_n 1, 1) := by decide +kernel
theorem dX11_sumOf_2 : decode cX11_sumOf 2 = .ok (.iconst 0, 1) := by decide +kernel
theorem dX11_sumOf_3 : decode cX11_sumOf 3 = .ok (.istore_n 2, 1) := by decide +kernel
theorem dX11_sumOf_4 : decode cX11_sumOf 4 = .ok (.iload_n 2, 1) := by decide +kernel
theorem dX11_sumOf_5 : decode cX11_sumOf 5 = .ok (.aload_n 0, 1) := by decide +kernel
theorem dX11_sumOf_6 : decode cX11_sumOf 6 = .ok (.arraylength, 1) := by decide +kernel
theorem dX11_sumOf_7 : decode cX11_sumOf 7 = .ok (.if_icmp .ge 15, 3) := by decide +kernel
theorem dX11_sumOf_10 : decode cX11_sumOf 10 = .ok (.iload_n 1, 1) := by decide +kernel
theorem dX11_sumOf_11 : decode cX11_sumOf 11 = .ok (.aload_n 0, 1) := by decide +kernel
theorem dX11_sumOf_12 : decode cX11_sumOf 12 = .ok (.iload_n 2, 1) := by decide +kernel
theorem dX11_sumOf_13 : decode cX11_sumOf 13 = .ok (.iaload, 1) := by decide +kernel
theorem dX11_sumOf_14 : decode cX11_sumOf 14 = .ok (.iadd, 1) := by decide +kernel
theorem dX11_sumOf_15 : decode cX11_sumOf 15 = .ok (.istore_n 1, 1) := by decide +kernel
theorem dX11_sumOf_16 : decode cX11_sumOf 16 = .ok (.iinc 2 1, 3) := by decide +kernel
theorem dX11_sumOf_19 : decode cX11_sumOf 19 = .ok (.goto (-15), 3) := by decide +kernel
theorem dX11_sumOf_22 : decode cX11_sumOf 22 = .ok (.iload_n 1, 1) := by decide +kernel
theorem dX11_sumOf_23 : decode cX11_sumOf 23 = .ok (.ireturn, 1) := by decide +kernel
theorem dX11_hasRoomForPapers_0 : decode cX11_hasRoomForPapers 0 = .ok (.aload_n 0, 1) := by decide +kernel
theorem dX11_hasRoomForPapers_1 : decode cX11_hasRoomForPapers 1 = .ok (.getfield 25, 3) := by decide +kernel
theorem dX11_hasRoomForPapers_4 : decode cX11_hasRoomForPapers 4 = .ok (.invokevirtual 169, 3) := by decide +kernel
theorem dX11_hasRoomForPapers_7 : decode cX11_hasRoomForPapers 7 = .ok (.iload_n 1, 1) := by decide +kernel
theorem dX11_hasRoomForPapers_8 : decode cX11_hasRoomForPapers 8 = .ok (.iadd, 1) := by decide +kernel
theorem dX11_hasRoomForPapers_9 : decode cX11_hasRoomForPapers 9 = .ok (.sipush 150, 3) := by decide +kernel
theorem dX11_hasRoomForPapers_12 : decode cX11_hasRoomForPapers 12 = .ok (.if_icmp .gt 7, 3) := by decide +kernel
theorem dX11_hasRoomForPapers_15 : decode cX11_hasRoomForPapers 15 = .ok (.iconst 1, 1) := by decide +kernel
theorem dX11_hasRoomForPapers_16 : decode cX11_hasRoomForPapers 16 = .ok (.goto 4, 3) := by decide +kernel
theorem dX11_hasRoomForPapers_19 : decode cX11_hasRoomForPapers 19 = .ok (.iconst 0, 1) := by decide +kernel
theorem dX11_hasRoomForPapers_20 : decode cX11_hasRoomForPapers 20 = .ok (.ireturn, 1) := by decide +kernel
theorem dX11_write_0 : decode cX11_write 0 = .ok (.new 167, 3) := by decide +kernel
theorem dX11_write_3 : decode cX11_write 3 = .ok (.dup, 1) := by decide +kernel
theorem dX11_write_4 : decode cX11_write 4 = .ok (.aload_n 0, 1) := by decide +kernel
theorem dX11_write_5 : decode cX11_write 5 = .ok (.getfield 25, 3) := by decide +kernel
theorem dX11_write_8 : decode cX11_write 8 = .ok (.invokevirtual 169, 3) := by decide +kernel
theorem dX11_write_11 : decode cX11_write 11 = .ok (.iload_n 1, 1) := by decide +kernel
theorem dX11_write_12 : decode cX11_write 12 = .ok (.aload_n 2, 1) := by decide +kernel
theorem dX11_write_13 : decode cX11_write 13 = .ok (.iload_n 3, 1) := by decide +kernel
theorem dX11_write_14 : decode cX11_write 14 = .ok (.aload_n 0, 1) := by decide +kernel
theorem dX11_write_15 : decode cX11_write 15 = .ok (.getfield 173, 3) := by decide +kernel
theorem dX11_write_18 : decode cX11_write 18 = .ok (.invokespecial 176, 3) := by decide +kernel
theorem dX11_write_21 : decode cX11_write 21 = .ok (.astore 4, 2) := by decide +kernel
theorem dX11_write_23 : decode cX11_write 23 = .ok (.aload_n 0, 1) := by decide +kernel
theorem dX11_write_24 : decode cX11_write 24 = .ok (.getfield 25, 3) := by decide +kernel
theorem dX11_write_27 : decode cX11_write 27 = .ok (.aload 4, 2) := by decide +kernel
theorem dX11_write_29 : decode cX11_write 29 = .ok (.invokevirtual 189, 3) := by decide +kernel
theorem dX11_write_32 : decode cX11_write 32 = .ok (.pop, 1) := by decide +kernel
theorem dX11_write_33 : decode cX11_write 33 = .ok (.aload 4, 2) := by decide +kernel
theorem dX11_write_35 : decode cX11_write 35 = .ok (.areturn, 1) := by decide +kernel
theorem dX11_shipsAt_0 : decode cX11_shipsAt 0 = .ok (.iconst 0, 1) := by decide +kernel
theorem dX11_shipsAt_1 : decode cX11_shipsAt 1 = .ok (.istore_n 2, 1) := by decide +kernel
theorem dX11_shipsAt_2 : decode cX11_shipsAt 2 = .ok (.iconst 0, 1) := by decide +kernel
theorem dX11_shipsAt_3 : decode cX11_shipsAt 3 = .ok (.istore_n 3, 1) := by decide +kernel
theorem dX11_shipsAt_4 : decode cX11_shipsAt 4 = .ok (.iload_n 3, 1) := by decide +kernel
theorem dX11_shipsAt_5 : decode cX11_shipsAt 5 = .ok (.aload_n 0, 1) := by decide +kernel
theorem dX11_shipsAt_6 : decode cX11_shipsAt 6 = .ok (.getfield 32, 3) := by decide +kernel
theorem dX11_shipsAt_9 : decode cX11_shipsAt 9 = .ok (.invokevirtual 169, 3) := by decide +kernel
theorem dX11_shipsAt_12 : decode cX11_shipsAt 12 = .ok (.if_icmp .ge 30, 3) := by decide +kernel
theorem dX11_shipsAt_15 : decode cX11_shipsAt 15 = .ok (.aload_n 0, 1) := by decide +kernel
theorem dX11_shipsAt_16 : decode cX11_shipsAt 16 = .ok (.getfield 32, 3) := by decide +kernel
theorem dX11_shipsAt_19 : decode cX11_shipsAt 19 = .ok (.iload_n 3, 1) := by decide +kernel
theorem dX11_shipsAt_20 : decode cX11_shipsAt 20 = .ok (.invokevirtual 206, 3) := by decide +kernel
theorem dX11_shipsAt_23 : decode cX11_shipsAt 23 = .ok (.checkcast 210, 3) := by decide +kernel
theorem dX11_shipsAt_26 : decode cX11_shipsAt 26 = .ok (.getfield 212, 3) := by decide +kernel
theorem dX11_shipsAt_29 : decode cX11_shipsAt 29 = .ok (.iload_n 1, 1) := by decide +kernel
theorem dX11_shipsAt_30 : decode cX11_shipsAt 30 = .ok (.if_icmp .ne 6, 3) := by decide +kernel
theorem dX11_shipsAt_33 : decode cX11_shipsAt 33 = .ok (.iinc 2 1, 3) := by decide +kernel
theorem dX11_shipsAt_36 : decode cX11_shipsAt 36 = .ok (.iinc 3 1, 3) := by decide +kernel
theorem dX11_shipsAt_39 : decode cX11_shipsAt 39 = .ok (.goto (-35), 3) := by decide +kernel
theorem dX11_shipsAt_42 : decode cX11_shipsAt 42 = .ok (.iload_n 2, 1) := by decide +kernel
theorem dX11_shipsAt_43 : decode cX11_shipsAt 43 = .ok (.ireturn, 1) := by decide +kernel
theorem dX11_isTurnBefore_0 : decode cX11_isTurnBefore 0 = .ok (.aload_n 0, 1) := by decide +kernel
theorem dX11_isTurnBefore_1 : decode cX11_isTurnBefore 1 = .ok (.getfield 35, 3) := by decide +kernel
theorem dX11_isTurnBefore_4 : decode cX11_isTurnBefore 4 = .ok (.iload_n 1, 1) := by decide +kernel
theorem dX11_isTurnBefore_5 : decode cX11_isTurnBefore 5 = .ok (.iaload, 1) := by decide +kernel
theorem dX11_isTurnBefore_6 : decode cX11_isTurnBefore 6 = .ok (.aload_n 0, 1) := by decide +kernel
theorem dX11_isTurnBefore_7 : decode cX11_isTurnBefore 7 = .ok (.getfield 35, 3) := by decide +kernel
theorem dX11_isTurnBefore_10 : decode cX11_isTurnBefore 10 = .ok (.iload_n 2, 1) := by decide +kernel
theorem dX11_isTurnBefore_11 : decode cX11_isTurnBefore 11 = .ok (.iaload, 1) := by decide +kernel
theorem dX11_isTurnBefore_12 : decode cX11_isTurnBefore 12 = .ok (.if_icmp .lt 23, 3) := by decide +kernel
theorem dX11_isTurnBefore_15 : decode cX11_isTurnBefore 15 = .ok (.aload_n 0, 1) := by decide +kernel
theorem dX11_isTurnBefore_16 : decode cX11_isTurnBefore 16 = .ok (.getfield 35, 3) := by decide +kernel
theorem dX11_isTurnBefore_19 : decode cX11_isTurnBefore 19 = .ok (.iload_n 1, 1) := by decide +kernel
theorem dX11_isTurnBefore_20 : decode cX11_isTurnBefore 20 = .ok (.iaload, 1) := by decide +kernel
theorem dX11_isTurnBefore_21 : decode cX11_isTurnBefore 21 = .ok (.aload_n 0, 1) := by decide +kernel
theorem dX11_isTurnBefore_22 : decode cX11_isTurnBefore 22 = .ok (.getfield 35, 3) := by decide +kernel
theorem dX11_isTurnBefore_25 : decode cX11_isTurnBefore 25 = .ok (.iload_n 2, 1) := by decide +kernel
theorem dX11_isTurnBefore_26 : decode cX11_isTurnBefore 26 = .ok (.iaload, 1) := by decide +kernel
theorem dX11_isTurnBefore_27 : decode cX11_isTurnBefore 27 = .ok (.if_icmp .ne 12, 3) := by decide +kernel
theorem dX11_isTurnBefore_30 : decode cX11_isTurnBefore 30 = .ok (.iload_n 1, 1) := by decide +kernel
theorem dX11_isTurnBefore_31 : decode cX11_isTurnBefore 31 = .ok (.iload_n 2, 1) := by decide +kernel
theorem dX11_isTurnBefore_32 : decode cX11_isTurnBefore 32 = .ok (.if_icmp .ge 7, 3) := by decide +kernel
theorem dX11_isTurnBefore_35 : decode cX11_isTurnBefore 35 = .ok (.iconst 1, 1) := by decide +kernel
theorem dX11_isTurnBefore_36 : decode cX11_isTurnBefore 36 = .ok (.goto 4, 3) := by decide +kernel
theorem dX11_isTurnBefore_39 : decode cX11_isTurnBefore 39 = .ok (.iconst 0, 1) := by decide +kernel
theorem dX11_isTurnBefore_40 : decode cX11_isTurnBefore 40 = .ok (.ireturn, 1) := by decide +kernel
theorem dX11_leave_0 : decode cX11_leave 0 = .ok (.aload_n 0, 1) := by decide +kernel
theorem dX11_leave_1 : decode cX11_leave 1 = .ok (.getfield 173, 3) := by decide +kernel
theorem dX11_leave_4 : decode cX11_leave 4 = .ok (.iload_n 3, 1) := by decide +kernel
theorem dX11_leave_5 : decode cX11_leave 5 = .ok (.iadd, 1) := by decide +kernel
theorem dX11_leave_6 : decode cX11_leave 6 = .ok (.aload_n 0, 1) := by decide +kernel
theorem dX11_leave_7 : decode cX11_leave 7 = .ok (.getfield 173, 3) := by decide +kernel
theorem dX11_leave_10 : decode cX11_leave 10 = .ok (.sipush 360, 3) := by decide +kernel
theorem dX11_leave_13 : decode cX11_leave 13 = .ok (.irem, 1) := by decide +kernel
theorem dX11_leave_14 : decode cX11_leave 14 = .ok (.sipush 240, 3) := by decide +kernel
theorem dX11_leave_17 : decode cX11_leave 17 = .ok (.if_icmp .lt 8, 3) := by decide +kernel
theorem dX11_leave_20 : decode cX11_leave 20 = .ok (.bipush 60, 2) := by decide +kernel
theorem dX11_leave_22 : decode cX11_leave 22 = .ok (.goto 4, 3) := by decide +kernel
theorem dX11_leave_25 : decode cX11_leave 25 = .ok (.iconst 0, 1) := by decide +kernel
theorem dX11_leave_26 : decode cX11_leave 26 = .ok (.iadd, 1) := by decide +kernel
theorem dX11_leave_27 : decode cX11_leave 27 = .ok (.istore 5, 2) := by decide +kernel
theorem dX11_leave_29 : decode cX11_leave 29 = .ok (.new 284, 3) := by decide +kernel
theorem dX11_leave_32 : decode cX11_leave 32 = .ok (.dup, 1) := by decide +kernel
theorem dX11_leave_33 : decode cX11_leave 33 = .ok (.aload_n 0, 1) := by decide +kernel
theorem dX11_leave_34 : decode cX11_leave 34 = .ok (.getfield 38, 3) := by decide +kernel
theorem dX11_leave_37 : decode cX11_leave 37 = .ok (.invokevirtual 169, 3) := by decide +kernel
theorem dX11_leave_40 : decode cX11_leave 40 = .ok (.aload_n 1, 1) := by decide +kernel
theorem dX11_leave_41 : decode cX11_leave 41 = .ok (.iload_n 2, 1) := by decide +kernel
theorem dX11_leave_42 : decode cX11_leave 42 = .ok (.aload_n 0, 1) := by decide +kernel
theorem dX11_leave_43 : decode cX11_leave 43 = .ok (.getfield 173, 3) := by decide +kernel
theorem dX11_leave_46 : decode cX11_leave 46 = .ok (.iload 5, 2) := by decide +kernel
theorem dX11_leave_48 : decode cX11_leave 48 = .ok (.invokespecial 470, 3) := by decide +kernel
theorem dX11_leave_51 : decode cX11_leave 51 = .ok (.astore 6, 2) := by decide +kernel
theorem dX11_leave_53 : decode cX11_leave 53 = .ok (.aload 6, 2) := by decide +kernel
theorem dX11_leave_55 : decode cX11_leave 55 = .ok (.iload 4, 2) := by decide +kernel
theorem dX11_leave_57 : decode cX11_leave 57 = .ok (.putfield 326, 3) := by decide +kernel
theorem dX11_leave_60 : decode cX11_leave 60 = .ok (.aload_n 0, 1) := by decide +kernel
theorem dX11_leave_61 : decode cX11_leave 61 = .ok (.getfield 38, 3) := by decide +kernel
theorem dX11_leave_64 : decode cX11_leave 64 = .ok (.aload 6, 2) := by decide +kernel
theorem dX11_leave_66 : decode cX11_leave 66 = .ok (.invokevirtual 189, 3) := by decide +kernel
theorem dX11_leave_69 : decode cX11_leave 69 = .ok (.pop, 1) := by decide +kernel
theorem dX11_leave_70 : decode cX11_leave 70 = .ok (.aload_n 1, 1) := by decide +kernel
theorem dX11_leave_71 : decode cX11_leave 71 = .ok (.iconst (-1), 1) := by decide +kernel
theorem dX11_leave_72 : decode cX11_leave 72 = .ok (.putfield 212, 3) := by decide +kernel
theorem dX11_leave_75 : decode cX11_leave 75 = .ok (.aload_n 1, 1) := by decide +kernel
theorem dX11_leave_76 : decode cX11_leave 76 = .ok (.iload 5, 2) := by decide +kernel
theorem dX11_leave_78 : decode cX11_leave 78 = .ok (.putfield 298, 3) := by decide +kernel
theorem dX11_leave_81 : decode cX11_leave 81 = .ok (.aload_n 1, 1) := by decide +kernel
theorem dX11_leave_82 : decode cX11_leave 82 = .ok (.aload 6, 2) := by decide +kernel
theorem dX11_leave_84 : decode cX11_leave 84 = .ok (.getfield 283, 3) := by decide +kernel
theorem dX11_leave_87 : decode cX11_leave 87 = .ok (.putfield 307, 3) := by decide +kernel
theorem dX11_leave_90 : decode cX11_leave 90 = .ok (.aload 6, 2) := by decide +kernel
theorem dX11_leave_92 : decode cX11_leave 92 = .ok (.areturn, 1) := by decide +kernel
theorem dX11_canMove_0 : decode cX11_canMove 0 = .ok (.iload_n 2, 1) := by decide +kernel
theorem dX11_canMove_1 : decode cX11_canMove 1 = .ok (.ifCond .lt 17, 3) := by decide +kernel
theorem dX11_canMove_4 : decode cX11_canMove 4 = .ok (.iload_n 2, 1) := by decide +kernel
theorem dX11_canMove_5 : decode cX11_canMove 5 = .ok (.aload_n 1, 1) := by decide +kernel
theorem dX11_canMove_6 : decode cX11_canMove 6 = .ok (.getfield 125, 3) := by decide +kernel
theorem dX11_canMove_9 : decode cX11_canMove 9 = .ok (.if_icmp .gt 7, 3) := by decide +kernel
theorem dX11_canMove_12 : decode cX11_canMove 12 = .ok (.iconst 1, 1) := by decide +kernel
theorem dX11_canMove_13 : decode cX11_canMove 13 = .ok (.goto 4, 3) := by decide +kernel
theorem dX11_canMove_16 : decode cX11_canMove 16 = .ok (.iconst 0, 1) := by decide +kernel
theorem dX11_canMove_17 : decode cX11_canMove 17 = .ok (.ireturn, 1) := by decide +kernel
theorem dX11_canMove_18 : decode cX11_canMove 18 = .ok (.iload_n 2, 1) := by decide +kernel
theorem dX11_canMove_19 : decode cX11_canMove 19 = .ok (.i2l, 1) := by decide +kernel
theorem dX11_canMove_20 : decode cX11_canMove 20 = .ok (.lneg, 1) := by decide +kernel
theorem dX11_canMove_21 : decode cX11_canMove 21 = .ok (.lstore_n 3, 1) := by decide +kernel
theorem dX11_canMove_22 : decode cX11_canMove 22 = .ok (.lload_n 3, 1) := by decide +kernel
theorem dX11_canMove_23 : decode cX11_canMove 23 = .ok (.aload_n 0, 1) := by decide +kernel
theorem dX11_canMove_24 : decode cX11_canMove 24 = .ok (.getfield 272, 3) := by decide +kernel
theorem dX11_canMove_27 : decode cX11_canMove 27 = .ok (.i2l, 1) := by decide +kernel
theorem dX11_canMove_28 : decode cX11_canMove 28 = .ok (.lcmp, 1) := by decide +kernel
theorem dX11_canMove_29 : decode cX11_canMove 29 = .ok (.ifCond .gt 21, 3) := by decide +kernel
theorem dX11_canMove_32 : decode cX11_canMove 32 = .ok (.aload_n 1, 1) := by decide +kernel
theorem dX11_canMove_33 : decode cX11_canMove 33 = .ok (.getfield 125, 3) := by decide +kernel
theorem dX11_canMove_36 : decode cX11_canMove 36 = .ok (.i2l, 1) := by decide +kernel
theorem dX11_canMove_37 : decode cX11_canMove 37 = .ok (.lload_n 3, 1) := by decide +kernel
theorem dX11_canMove_38 : decode cX11_canMove 38 = .ok (.ladd, 1) := by decide +kernel
theorem dX11_canMove_39 : decode cX11_canMove 39 = .ok (.ldc2_w 473, 3) := by decide +kernel
theorem dX11_canMove_42 : decode cX11_canMove 42 = .ok (.lcmp, 1) := by decide +kernel
theorem dX11_canMove_43 : decode cX11_canMove 43 = .ok (.ifCond .gt 7, 3) := by decide +kernel
theorem dX11_canMove_46 : decode cX11_canMove 46 = .ok (.iconst 1, 1) := by decide +kernel
theorem dX11_canMove_47 : decode cX11_canMove 47 = .ok (.goto 4, 3) := by decide +kernel
theorem dX11_canMove_50 : decode cX11_canMove 50 = .ok (.iconst 0, 1) := by decide +kernel
theorem dX11_canMove_51 : decode cX11_canMove 51 = .ok (.ireturn, 1) := by decide +kernel
theorem dX11_beyondRights_0 : decode cX11_beyondRights 0 = .ok (.aload_n 1, 1) := by decide +kernel
theorem dX11_beyondRights_1 : decode cX11_beyondRights 1 = .ok (.getfield 276, 3) := by decide +kernel
theorem dX11_beyondRights_4 : decode cX11_beyondRights 4 = .ok (.invokestatic 303, 3) := by decide +kernel
theorem dX11_beyondRights_7 : decode cX11_beyondRights 7 = .ok (.istore_n 3, 1) := by decide +kernel
theorem dX11_beyondRights_8 : decode cX11_beyondRights 8 = .ok (.iconst 0, 1) := by decide +kernel
theorem dX11_beyondRights_9 : decode cX11_beyondRights 9 = .ok (.istore 4, 2) := by decide +kernel
theorem dX11_beyondRights_11 : decode cX11_beyondRights 11 = .ok (.iload 4, 2) := by decide +kernel
theorem dX11_beyondRights_13 : decode cX11_beyondRights 13 = .ok (.aload_n 0, 1) := by decide +kernel
theorem dX11_beyondRights_14 : decode cX11_beyondRights 14 = .ok (.getfield 132, 3) := by decide +kernel
theorem dX11_beyondRights_17 : decode cX11_beyondRights 17 = .ok (.if_icmp .ge 32, 3) := by decide +kernel
theorem dX11_beyondRights_20 : decode cX11_beyondRights 20 = .ok (.aload_n 0, 1) := by decide +kernel
theorem dX11_beyondRights_21 : decode cX11_beyondRights 21 = .ok (.getfield 15, 3) := by decide +kernel
theorem dX11_beyondRights_24 : decode cX11_beyondRights 24 = .ok (.iload 4, 2) := by decide +kernel
theorem dX11_beyondRights_26 : decode cX11_beyondRights 26 = .ok (.iaload, 1) := by decide +kernel
theorem dX11_beyondRights_27 : decode cX11_beyondRights 27 = .ok (.iload_n 2, 1) := by decide +kernel
theorem dX11_beyondRights_28 : decode cX11_beyondRights 28 = .ok (.if_icmp .ne 15, 3) := by decide +kernel
theorem dX11_beyondRights_31 : decode cX11_beyondRights 31 = .ok (.iload_n 3, 1) := by decide +kernel
theorem dX11_beyondRights_32 : decode cX11_beyondRights 32 = .ok (.aload_n 0, 1) := by decide +kernel
theorem dX11_beyondRights_33 : decode cX11_beyondRights 33 = .ok (.getfield 19, 3) := by decide +kernel
theorem dX11_beyondRights_36 : decode cX11_beyondRights 36 = .ok (.iload 4, 2) := by decide +kernel
theorem dX11_beyondRights_38 : decode cX11_beyondRights 38 = .ok (.iaload, 1) := by decide +kernel
theorem dX11_beyondRights_39 : decode cX11_beyondRights 39 = .ok (.iconst 2, 1) := by decide +kernel
theorem dX11_beyondRights_40 : decode cX11_beyondRights 40 = .ok (.idiv, 1) := by decide +kernel
theorem dX11_beyondRights_41 : decode cX11_beyondRights 41 = .ok (.isub, 1) := by decide +kernel
theorem dX11_beyondRights_42 : decode cX11_beyondRights 42 = .ok (.istore_n 3, 1) := by decide +kernel
theorem dX11_beyondRights_43 : decode cX11_beyondRights 43 = .ok (.iinc 4 1, 3) := by decide +kernel
theorem dX11_beyondRights_46 : decode cX11_beyondRights 46 = .ok (.goto (-35), 3) := by decide +kernel
theorem dX11_beyondRights_49 : decode cX11_beyondRights 49 = .ok (.iload_n 3, 1) := by decide +kernel
theorem dX11_beyondRights_50 : decode cX11_beyondRights 50 = .ok (.iconst 0, 1) := by decide +kernel
theorem dX11_beyondRights_51 : decode cX11_beyondRights 51 = .ok (.invokestatic 475, 3) := by decide +kernel
theorem dX11_beyondRights_54 : decode cX11_beyondRights 54 = .ok (.ireturn, 1) := by decide +kernel
theorem dX11_comeDay_0 : decode cX11_comeDay 0 = .ok (.aload_n 0, 1) := by decide +kernel
theorem dX11_comeDay_1 : decode cX11_comeDay 1 = .ok (.dup, 1) := by decide +kernel
theorem dX11_comeDay_2 : decode cX11_comeDay 2 = .ok (.getfield 173, 3) := by decide +kernel
theorem dX11_comeDay_5 : decode cX11_comeDay 5 = .ok (.iconst 1, 1) := by decide +kernel
theorem dX11_comeDay_6 : decode cX11_comeDay 6 = .ok (.iadd, 1) := by decide +kernel
theorem dX11_comeDay_7 : decode cX11_comeDay 7 = .ok (.putfield 173, 3) := by decide +kernel
theorem dX11_comeDay_10 : decode cX11_comeDay 10 = .ok (.iconst 0, 1) := by decide +kernel
theorem dX11_comeDay_11 : decode cX11_comeDay 11 = .ok (.istore_n 1, 1) := by decide +kernel
theorem dX11_comeDay_12 : decode cX11_comeDay 12 = .ok (.iload_n 1, 1) := by decide +kernel
theorem dX11_comeDay_13 : decode cX11_comeDay 13 = .ok (.aload_n 0, 1) := by decide +kernel
theorem dX11_comeDay_14 : decode cX11_comeDay 14 = .ok (.getfield 32, 3) := by decide +kernel
theorem dX11_comeDay_17 : decode cX11_comeDay 17 = .ok (.invokevirtual 169, 3) := by decide +kernel
theorem dX11_comeDay_20 : decode cX11_comeDay 20 = .ok (.if_icmp .ge 70, 3) := by decide +kernel
theorem dX11_comeDay_23 : decode cX11_comeDay 23 = .ok (.aload_n 0, 1) := by decide +kernel
theorem dX11_comeDay_24 : decode cX11_comeDay 24 = .ok (.getfield 32, 3) := by decide +kernel
theorem dX11_comeDay_27 : decode cX11_comeDay 27 = .ok (.iload_n 1, 1) := by decide +kernel
theorem dX11_comeDay_28 : decode cX11_comeDay 28 = .ok (.invokevirtual 206, 3) := by decide +kernel
theorem dX11_comeDay_31 : decode cX11_comeDay 31 = .ok (.checkcast 210, 3) := by decide +kernel
theorem dX11_comeDay_34 : decode cX11_comeDay 34 = .ok (.astore_n 2, 1) := by decide +kernel
theorem dX11_comeDay_35 : decode cX11_comeDay 35 = .ok (.aload_n 2, 1) := by decide +kernel
theorem dX11_comeDay_36 : decode cX11_comeDay 36 = .ok (.getfield 212, 3) := by decide +kernel
theorem dX11_comeDay_39 : decode cX11_comeDay 39 = .ok (.iconst (-1), 1) := by decide +kernel
theorem dX11_comeDay_40 : decode cX11_comeDay 40 = .ok (.if_icmp .ne 44, 3) := by decide +kernel
theorem dX11_comeDay_43 : decode cX11_comeDay 43 = .ok (.aload_n 2, 1) := by decide +kernel
theorem dX11_comeDay_44 : decode cX11_comeDay 44 = .ok (.getfield 298, 3) := by decide +kernel
theorem dX11_comeDay_47 : decode cX11_comeDay 47 = .ok (.aload_n 0, 1) := by decide +kernel
theorem dX11_comeDay_48 : decode cX11_comeDay 48 = .ok (.getfield 173, 3) := by decide +kernel
theorem dX11_comeDay_51 : decode cX11_comeDay 51 = .ok (.if_icmp .ne 33, 3) := by decide +kernel
theorem dX11_comeDay_54 : decode cX11_comeDay 54 = .ok (.aload_n 0, 1) := by decide +kernel
theorem dX11_comeDay_55 : decode cX11_comeDay 55 = .ok (.aload_n 2, 1) := by decide +kernel
theorem dX11_comeDay_56 : decode cX11_comeDay 56 = .ok (.getfield 307, 3) := by decide +kernel
theorem dX11_comeDay_59 : decode cX11_comeDay 59 = .ok (.invokevirtual 286, 3) := by decide +kernel
theorem dX11_comeDay_62 : decode cX11_comeDay 62 = .ok (.ifCond .eq 22, 3) := by decide +kernel
theorem dX11_comeDay_65 : decode cX11_comeDay 65 = .ok (.aload_n 0, 1) := by decide +kernel
theorem dX11_comeDay_66 : decode cX11_comeDay 66 = .ok (.aload_n 2, 1) := by decide +kernel
theorem dX11_comeDay_67 : decode cX11_comeDay 67 = .ok (.aload_n 0, 1) := by decide +kernel
theorem dX11_comeDay_68 : decode cX11_comeDay 68 = .ok (.getfield 38, 3) := by decide +kernel
theorem dX11_comeDay_71 : decode cX11_comeDay 71 = .ok (.aload_n 2, 1) := by decide +kernel
theorem dX11_comeDay_72 : decode cX11_comeDay 72 = .ok (.getfield 307, 3) := by decide +kernel
theorem dX11_comeDay_75 : decode cX11_comeDay 75 = .ok (.invokevirtual 206, 3) := by decide +kernel
theorem dX11_comeDay_78 : decode cX11_comeDay 78 = .ok (.checkcast 284, 3) := by decide +kernel
theorem dX11_comeDay_81 : decode cX11_comeDay 81 = .ok (.invokevirtual 478, 3) := by decide +kernel
theorem dX11_comeDay_84 : decode cX11_comeDay 84 = .ok (.iinc 1 1, 3) := by decide +kernel
theorem dX11_comeDay_87 : decode cX11_comeDay 87 = .ok (.goto (-75), 3) := by decide +kernel
theorem dX11_comeDay_90 : decode cX11_comeDay 90 = .ok (.iconst 0, 1) := by decide +kernel
theorem dX11_comeDay_91 : decode cX11_comeDay 91 = .ok (.istore_n 1, 1) := by decide +kernel
theorem dX11_comeDay_92 : decode cX11_comeDay 92 = .ok (.iload_n 1, 1) := by decide +kernel
theorem dX11_comeDay_93 : decode cX11_comeDay 93 = .ok (.aload_n 0, 1) := by decide +kernel
theorem dX11_comeDay_94 : decode cX11_comeDay 94 = .ok (.getfield 29, 3) := by decide +kernel
theorem dX11_comeDay_97 : decode cX11_comeDay 97 = .ok (.invokevirtual 169, 3) := by decide +kernel
theorem dX11_comeDay_100 : decode cX11_comeDay 100 = .ok (.if_icmp .ge 45, 3) := by decide +kernel
theorem dX11_comeDay_103 : decode cX11_comeDay 103 = .ok (.aload_n 0, 1) := by decide +kernel
theorem dX11_comeDay_104 : decode cX11_comeDay 104 = .ok (.getfield 29, 3) := by decide +kernel
theorem dX11_comeDay_107 : decode cX11_comeDay 107 = .ok (.iload_n 1, 1) := by decide +kernel
theorem dX11_comeDay_108 : decode cX11_comeDay 108 = .ok (.invokevirtual 206, 3) := by decide +kernel
theorem dX11_comeDay_111 : decode cX11_comeDay 111 = .ok (.checkcast 346, 3) := by decide +kernel
theorem dX11_comeDay_114 : decode cX11_comeDay 114 = .ok (.astore_n 2, 1) := by decide +kernel
theorem dX11_comeDay_115 : decode cX11_comeDay 115 = .ok (.aload_n 2, 1) := by decide +kernel
theorem dX11_comeDay_116 : decode cX11_comeDay 116 = .ok (.getfield 348, 3) := by decide +kernel
theorem dX11_comeDay_119 : decode cX11_comeDay 119 = .ok (.iconst 1, 1) := by decide +kernel
theorem dX11_comeDay_120 : decode cX11_comeDay 120 = .ok (.if_icmp .ne 19, 3) := by decide +kernel
theorem dX11_comeDay_123 : decode cX11_comeDay 123 = .ok (.aload_n 2, 1) := by decide +kernel
theorem dX11_comeDay_124 : decode cX11_comeDay 124 = .ok (.getfield 351, 3) := by decide +kernel
theorem dX11_comeDay_127 : decode cX11_comeDay 127 = .ok (.aload_n 0, 1) := by decide +kernel
theorem dX11_comeDay_128 : decode cX11_comeDay 128 = .ok (.getfield 173, 3) := by decide +kernel
theorem dX11_comeDay_131 : decode cX11_comeDay 131 = .ok (.if_icmp .ne 8, 3) := by decide +kernel
theorem dX11_comeDay_134 : decode cX11_comeDay 134 = .ok (.aload_n 0, 1) := by decide +kernel
theorem dX11_comeDay_135 : decode cX11_comeDay 135 = .ok (.aload_n 2, 1) := by decide +kernel
theorem dX11_comeDay_136 : decode cX11_comeDay 136 = .ok (.invokevirtual 482, 3) := by decide +kernel
theorem dX11_comeDay_139 : decode cX11_comeDay 139 = .ok (.iinc 1 1, 3) := by decide +kernel
theorem dX11_comeDay_142 : decode cX11_comeDay 142 = .ok (.goto (-50), 3) := by decide +kernel
theorem dX11_comeDay_145 : decode cX11_comeDay 145 = .ok (.iconst 1, 1) := by decide +kernel
theorem dX11_comeDay_146 : decode cX11_comeDay 146 = .ok (.istore_n 1, 1) := by decide +kernel
theorem dX11_comeDay_147 : decode cX11_comeDay 147 = .ok (.iload_n 1, 1) := by decide +kernel
theorem dX11_comeDay_148 : decode cX11_comeDay 148 = .ok (.iconst 5, 1) := by decide +kernel
theorem dX11_comeDay_149 : decode cX11_comeDay 149 = .ok (.if_icmp .ge 19, 3) := by decide +kernel
theorem dX11_comeDay_152 : decode cX11_comeDay 152 = .ok (.aload_n 0, 1) := by decide +kernel
theorem dX11_comeDay_153 : decode cX11_comeDay 153 = .ok (.aload_n 0, 1) := by decide +kernel
theorem dX11_comeDay_154 : decode cX11_comeDay 154 = .ok (.getfield 11, 3) := by decide +kernel
theorem dX11_comeDay_157 : decode cX11_comeDay 157 = .ok (.iload_n 1, 1) := by decide +kernel
theorem dX11_comeDay_158 : decode cX11_comeDay 158 = .ok (.aaload, 1) := by decide +kernel
theorem dX11_comeDay_159 : decode cX11_comeDay 159 = .ok (.invokevirtual 486, 3) := by decide +kernel
theorem dX11_comeDay_162 : decode cX11_comeDay 162 = .ok (.iinc 1 1, 3) := by decide +kernel
theorem dX11_comeDay_165 : decode cX11_comeDay 165 = .ok (.goto (-18), 3) := by decide +kernel
theorem dX11_comeDay_168 : decode cX11_comeDay 168 = .ok (.return_, 1) := by decide +kernel
theorem dX11_endVoyage_0 : decode cX11_endVoyage 0 = .ok (.aload_n 2, 1) := by decide +kernel
theorem dX11_endVoyage_1 : decode cX11_endVoyage 1 = .ok (.getfield 292, 3) := by decide +kernel
theorem dX11_endVoyage_4 : decode cX11_endVoyage 4 = .ok (.ifCond .eq 25, 3) := by decide +kernel
theorem dX11_endVoyage_7 : decode cX11_endVoyage 7 = .ok (.aload_n 2, 1) := by decide +kernel
theorem dX11_endVoyage_8 : decode cX11_endVoyage 8 = .ok (.iconst 2, 1) := by decide +kernel
theorem dX11_endVoyage_9 : decode cX11_endVoyage 9 = .ok (.putfield 289, 3) := by decide +kernel
theorem dX11_endVoyage_12 : decode cX11_endVoyage 12 = .ok (.aload_n 1, 1) := by decide +kernel
theorem dX11_endVoyage_13 : decode cX11_endVoyage 13 = .ok (.bipush (-2), 2) := by decide +kernel
theorem dX11_endVoyage_15 : decode cX11_endVoyage 15 = .ok (.putfield 212, 3) := by decide +kernel
theorem dX11_endVoyage_18 : decode cX11_endVoyage 18 = .ok (.aload_n 1, 1) := by decide +kernel
theorem dX11_endVoyage_19 : decode cX11_endVoyage 19 = .ok (.getfield 301, 3) := by decide +kernel
theorem dX11_endVoyage_22 : decode cX11_endVoyage 22 = .ok (.iconst 0, 1) := by decide +kernel
theorem dX11_endVoyage_23 : decode cX11_endVoyage 23 = .ok (.invokestatic 86, 3) := by decide +kernel
theorem dX11_endVoyage_26 : decode cX11_endVoyage 26 = .ok (.goto 22, 3) := by decide +kernel
theorem dX11_endVoyage_29 : decode cX11_endVoyage 29 = .ok (.aload_n 2, 1) := by decide +kernel
theorem dX11_endVoyage_30 : decode cX11_endVoyage 30 = .ok (.iconst 1, 1) := by decide +kernel
theorem dX11_endVoyage_31 : decode cX11_endVoyage 31 = .ok (.putfield 289, 3) := by decide +kernel
theorem dX11_endVoyage_34 : decode cX11_endVoyage 34 = .ok (.aload_n 0, 1) := by decide +kernel
theorem dX11_endVoyage_35 : decode cX11_endVoyage 35 = .ok (.aload_n 1, 1) := by decide +kernel
theorem dX11_endVoyage_36 : decode cX11_endVoyage 36 = .ok (.aload_n 0, 1) := by decide +kernel
theorem dX11_endVoyage_37 : decode cX11_endVoyage 37 = .ok (.getfield 11, 3) := by decide +kernel
theorem dX11_endVoyage_40 : decode cX11_endVoyage 40 = .ok (.aload_n 2, 1) := by decide +kernel
theorem dX11_endVoyage_41 : decode cX11_endVoyage 41 = .ok (.getfield 315, 3) := by decide +kernel
theorem dX11_endVoyage_44 : decode cX11_endVoyage 44 = .ok (.aaload, 1) := by decide +kernel
theorem dX11_endVoyage_45 : decode cX11_endVoyage 45 = .ok (.invokevirtual 490, 3) := by decide +kernel
theorem dX11_endVoyage_48 : decode cX11_endVoyage 48 = .ok (.aload_n 1, 1) := by decide +kernel
theorem dX11_endVoyage_49 : decode cX11_endVoyage 49 = .ok (.invokevirtual 494, 3) := by decide +kernel
theorem dX11_endVoyage_52 : decode cX11_endVoyage 52 = .ok (.return_, 1) := by decide +kernel
theorem dX11_arrive_0 : decode cX11_arrive 0 = .ok (.aload_n 1, 1) := by decide +kernel
theorem dX11_arrive_1 : decode cX11_arrive 1 = .ok (.aload_n 2, 1) := by decide +kernel
theorem dX11_arrive_2 : decode cX11_arrive 2 = .ok (.getfield 497, 3) := by decide +kernel
theorem dX11_arrive_5 : decode cX11_arrive 5 = .ok (.putfield 212, 3) := by decide +kernel
theorem dX11_arrive_8 : decode cX11_arrive 8 = .ok (.aload_n 2, 1) := by decide +kernel
theorem dX11_arrive_9 : decode cX11_arrive 9 = .ok (.getfield 497, 3) := by decide +kernel
theorem dX11_arrive_12 : decode cX11_arrive 12 = .ok (.ifCond .ne 8, 3) := by decide +kernel
theorem dX11_arrive_15 : decode cX11_arrive 15 = .ok (.aload_n 1, 1) := by decide +kernel
theorem dX11_arrive_16 : decode cX11_arrive 16 = .ok (.iconst 0, 1) := by decide +kernel
theorem dX11_arrive_17 : decode cX11_arrive 17 = .ok (.putfield 258, 3) := by decide +kernel
theorem dX11_arrive_20 : decode cX11_arrive 20 = .ok (.iconst 0, 1) := by decide +kernel
theorem dX11_arrive_21 : decode cX11_arrive 21 = .ok (.istore_n 3, 1) := by decide +kernel
theorem dX11_arrive_22 : decode cX11_arrive 22 = .ok (.iload_n 3, 1) := by decide +kernel
theorem dX11_arrive_23 : decode cX11_arrive 23 = .ok (.iconst 4, 1) := by decide +kernel
theorem dX11_arrive_24 : decode cX11_arrive 24 = .ok (.if_icmp .ge 24, 3) := by decide +kernel
theorem dX11_arrive_27 : decode cX11_arrive 27 = .ok (.aload_n 2, 1) := by decide +kernel
theorem dX11_arrive_28 : decode cX11_arrive 28 = .ok (.getfield 129, 3) := by decide +kernel
theorem dX11_arrive_31 : decode cX11_arrive 31 = .ok (.iload_n 3, 1) := by decide +kernel
theorem dX11_arrive_32 : decode cX11_arrive 32 = .ok (.dup2, 1) := by decide +kernel
theorem dX11_arrive_33 : decode cX11_arrive 33 = .ok (.iaload, 1) := by decide +kernel
theorem dX11_arrive_34 : decode cX11_arrive 34 = .ok (.aload_n 1, 1) := by decide +kernel
theorem dX11_arrive_35 : decode cX11_arrive 35 = .ok (.getfield 295, 3) := by decide +kernel
theorem dX11_arrive_38 : decode cX11_arrive 38 = .ok (.iload_n 3, 1) := by decide +kernel
theorem dX11_arrive_39 : decode cX11_arrive 39 = .ok (.iaload, 1) := by decide +kernel
theorem dX11_arrive_40 : decode cX11_arrive 40 = .ok (.iadd, 1) := by decide +kernel
theorem dX11_arrive_41 : decode cX11_arrive 41 = .ok (.iastore, 1) := by decide +kernel
theorem dX11_arrive_42 : decode cX11_arrive 42 = .ok (.iinc 3 1, 3) := by decide +kernel
theorem dX11_arrive_45 : decode cX11_arrive 45 = .ok (.goto (-23), 3) := by decide +kernel
theorem dX11_arrive_48 : decode cX11_arrive 48 = .ok (.aload_n 2, 1) := by decide +kernel
theorem dX11_arrive_49 : decode cX11_arrive 49 = .ok (.dup, 1) := by decide +kernel
theorem dX11_arrive_50 : decode cX11_arrive 50 = .ok (.getfield 125, 3) := by decide +kernel
theorem dX11_arrive_53 : decode cX11_arrive 53 = .ok (.aload_n 1, 1) := by decide +kernel
theorem dX11_arrive_54 : decode cX11_arrive 54 = .ok (.getfield 272, 3) := by decide +kernel
theorem dX11_arrive_57 : decode cX11_arrive 57 = .ok (.iadd, 1) := by decide +kernel
theorem dX11_arrive_58 : decode cX11_arrive 58 = .ok (.putfield 125, 3) := by decide +kernel
theorem dX11_arrive_61 : decode cX11_arrive 61 = .ok (.iconst 0, 1) := by decide +kernel
theorem dX11_arrive_62 : decode cX11_arrive 62 = .ok (.istore_n 3, 1) := by decide +kernel
theorem dX11_arrive_63 : decode cX11_arrive 63 = .ok (.iload_n 3, 1) := by decide +kernel
theorem dX11_arrive_64 : decode cX11_arrive 64 = .ok (.aload_n 0, 1) := by decide +kernel
theorem dX11_arrive_65 : decode cX11_arrive 65 = .ok (.getfield 25, 3) := by decide +kernel
theorem dX11_arrive_68 : decode cX11_arrive 68 = .ok (.invokevirtual 169, 3) := by decide +kernel
theorem dX11_arrive_71 : decode cX11_arrive 71 = .ok (.if_icmp .ge 69, 3) := by decide +kernel
theorem dX11_arrive_74 : decode cX11_arrive 74 = .ok (.iload_n 3, 1) := by decide +kernel
theorem dX11_arrive_75 : decode cX11_arrive 75 = .ok (.sipush 150, 3) := by decide +kernel
theorem dX11_arrive_78 : decode cX11_arrive 78 = .ok (.if_icmp .ge 62, 3) := by decide +kernel
theorem dX11_arrive_81 : decode cX11_arrive 81 = .ok (.aload_n 1, 1) := by decide +kernel
theorem dX11_arrive_82 : decode cX11_arrive 82 = .ok (.getfield 301, 3) := by decide +kernel
theorem dX11_arrive_85 : decode cX11_arrive 85 = .ok (.iload_n 3, 1) := by decide +kernel
theorem dX11_arrive_86 : decode cX11_arrive 86 = .ok (.iaload, 1) := by decide +kernel
theorem dX11_arrive_87 : decode cX11_arrive 87 = .ok (.ifCond .le 47, 3) := by decide +kernel
theorem dX11_arrive_90 : decode cX11_arrive 90 = .ok (.aload_n 0, 1) := by decide +kernel
theorem dX11_arrive_91 : decode cX11_arrive 91 = .ok (.getfield 25, 3) := by decide +kernel
theorem dX11_arrive_94 : decode cX11_arrive 94 = .ok (.iload_n 3, 1) := by decide +kernel
theorem dX11_arrive_95 : decode cX11_arrive 95 = .ok (.invokevirtual 206, 3) := by decide +kernel
theorem dX11_arrive_98 : decode cX11_arrive 98 = .ok (.checkcast 167, 3) := by decide +kernel
theorem dX11_arrive_101 : decode cX11_arrive 101 = .ok (.getfield 234, 3) := by decide +kernel
theorem dX11_arrive_104 : decode cX11_arrive 104 = .ok (.aload_n 2, 1) := by decide +kernel
theorem dX11_arrive_105 : decode cX11_arrive 105 = .ok (.getfield 497, 3) := by decide +kernel
theorem dX11_arrive_108 : decode cX11_arrive 108 = .ok (.if_icmp .ne 26, 3) := by decide +kernel
theorem dX11_arrive_111 : decode cX11_arrive 111 = .ok (.aload_n 1, 1) := by decide +kernel
theorem dX11_arrive_112 : decode cX11_arrive 112 = .ok (.getfield 301, 3) := by decide +kernel
theorem dX11_arrive_115 : decode cX11_arrive 115 = .ok (.iload_n 3, 1) := by decide +kernel
theorem dX11_arrive_116 : decode cX11_arrive 116 = .ok (.iconst 0, 1) := by decide +kernel
theorem dX11_arrive_117 : decode cX11_arrive 117 = .ok (.iastore, 1) := by decide +kernel
theorem dX11_arrive_118 : decode cX11_arrive 118 = .ok (.aload_n 0, 1) := by decide +kernel
theorem dX11_arrive_119 : decode cX11_arrive 119 = .ok (.aload_n 0, 1) := by decide +kernel
theorem dX11_arrive_120 : decode cX11_arrive 120 = .ok (.getfield 25, 3) := by decide +kernel
theorem dX11_arrive_123 : decode cX11_arrive 123 = .ok (.iload_n 3, 1) := by decide +kernel
theorem dX11_arrive_124 : decode cX11_arrive 124 = .ok (.invokevirtual 206, 3) := by decide +kernel
theorem dX11_arrive_127 : decode cX11_arrive 127 = .ok (.checkcast 167, 3) := by decide +kernel
theorem dX11_arrive_130 : decode cX11_arrive 130 = .ok (.aload_n 2, 1) := by decide +kernel
theorem dX11_arrive_131 : decode cX11_arrive 131 = .ok (.invokevirtual 498, 3) := by decide +kernel
theorem dX11_arrive_134 : decode cX11_arrive 134 = .ok (.iinc 3 1, 3) := by decide +kernel
theorem dX11_arrive_137 : decode cX11_arrive 137 = .ok (.goto (-74), 3) := by decide +kernel
theorem dX11_arrive_140 : decode cX11_arrive 140 = .ok (.return_, 1) := by decide +kernel
theorem dX11_readAt_0 : decode cX11_readAt 0 = .ok (.aload_n 1, 1) := by decide +kernel
theorem dX11_readAt_1 : decode cX11_readAt 1 = .ok (.getfield 215, 3) := by decide +kernel
theorem dX11_readAt_4 : decode cX11_readAt 4 = .ok (.aload_n 2, 1) := by decide +kernel
theorem dX11_readAt_5 : decode cX11_readAt 5 = .ok (.getfield 497, 3) := by decide +kernel
theorem dX11_readAt_8 : decode cX11_readAt 8 = .ok (.iaload, 1) := by decide +kernel
theorem dX11_readAt_9 : decode cX11_readAt 9 = .ok (.ifCond .lt 4, 3) := by decide +kernel
theorem dX11_readAt_12 : decode cX11_readAt 12 = .ok (.return_, 1) := by decide +kernel
theorem dX11_readAt_13 : decode cX11_readAt 13 = .ok (.aload_n 1, 1) := by decide +kernel
theorem dX11_readAt_14 : decode cX11_readAt 14 = .ok (.getfield 215, 3) := by decide +kernel
theorem dX11_readAt_17 : decode cX11_readAt 17 = .ok (.aload_n 2, 1) := by decide +kernel
theorem dX11_readAt_18 : decode cX11_readAt 18 = .ok (.getfield 497, 3) := by decide +kernel
theorem dX11_readAt_21 : decode cX11_readAt 21 = .ok (.aload_n 0, 1) := by decide +kernel
theorem dX11_readAt_22 : decode cX11_readAt 22 = .ok (.getfield 173, 3) := by decide +kernel
theorem dX11_readAt_25 : decode cX11_readAt 25 = .ok (.iastore, 1) := by decide +kernel
theorem dX11_readAt_26 : decode cX11_readAt 26 = .ok (.aload_n 1, 1) := by decide +kernel
theorem dX11_readAt_27 : decode cX11_readAt 27 = .ok (.getfield 225, 3) := by decide +kernel
theorem dX11_readAt_30 : decode cX11_readAt 30 = .ok (.iconst 2, 1) := by decide +kernel
theorem dX11_readAt_31 : decode cX11_readAt 31 = .ok (.if_icmp .ne 8, 3) := by decide +kernel
theorem dX11_readAt_34 : decode cX11_readAt 34 = .ok (.aload_n 2, 1) := by decide +kernel
theorem dX11_readAt_35 : decode cX11_readAt 35 = .ok (.aload_n 1, 1) := by decide +kernel
theorem dX11_readAt_36 : decode cX11_readAt 36 = .ok (.invokevirtual 502, 3) := by decide +kernel
theorem dX11_readAt_39 : decode cX11_readAt 39 = .ok (.aload_n 1, 1) := by decide +kernel
theorem dX11_readAt_40 : decode cX11_readAt 40 = .ok (.getfield 225, 3) := by decide +kernel
theorem dX11_readAt_43 : decode cX11_readAt 43 = .ok (.iconst 4, 1) := by decide +kernel
theorem dX11_readAt_44 : decode cX11_readAt 44 = .ok (.if_icmp .ne 28, 3) := by decide +kernel
theorem dX11_readAt_47 : decode cX11_readAt 47 = .ok (.aload_n 0, 1) := by decide +kernel
theorem dX11_readAt_48 : decode cX11_readAt 48 = .ok (.getfield 11, 3) := by decide +kernel
theorem dX11_readAt_51 : decode cX11_readAt 51 = .ok (.aload_n 1, 1) := by decide +kernel
theorem dX11_readAt_52 : decode cX11_readAt 52 = .ok (.getfield 228, 3) := by decide +kernel
theorem dX11_readAt_55 : decode cX11_readAt 55 = .ok (.aaload, 1) := by decide +kernel
theorem dX11_readAt_56 : decode cX11_readAt 56 = .ok (.astore_n 3, 1) := by decide +kernel
theorem dX11_readAt_57 : decode cX11_readAt 57 = .ok (.aload_n 3, 1) := by decide +kernel
theorem dX11_readAt_58 : decode cX11_readAt 58 = .ok (.aload_n 3, 1) := by decide +kernel
theorem dX11_readAt_59 : decode cX11_readAt 59 = .ok (.getfield 506, 3) := by decide +kernel
theorem dX11_readAt_62 : decode cX11_readAt 62 = .ok (.aload_n 1, 1) := by decide +kernel
theorem dX11_readAt_63 : decode cX11_readAt 63 = .ok (.getfield 231, 3) := by decide +kernel
theorem dX11_readAt_66 : decode cX11_readAt 66 = .ok (.invokestatic 475, 3) := by decide +kernel
theorem dX11_readAt_69 : decode cX11_readAt 69 = .ok (.putfield 506, 3) := by decide +kernel
theorem dX11_readAt_72 : decode cX11_readAt 72 = .ok (.return_, 1) := by decide +kernel
theorem dX11_fallDue_0 : decode cX11_fallDue 0 = .ok (.aload_n 0, 1) := by decide +kernel
theorem dX11_fallDue_1 : decode cX11_fallDue 1 = .ok (.getfield 11, 3) := by decide +kernel
theorem dX11_fallDue_4 : decode cX11_fallDue 4 = .ok (.iconst 0, 1) := by decide +kernel
theorem dX11_fallDue_5 : decode cX11_fallDue 5 = .ok (.aaload, 1) := by decide +kernel
theorem dX11_fallDue_6 : decode cX11_fallDue 6 = .ok (.astore_n 2, 1) := by decide +kernel
theorem dX11_fallDue_7 : decode cX11_fallDue 7 = .ok (.aload_n 1, 1) := by decide +kernel
theorem dX11_fallDue_8 : decode cX11_fallDue 8 = .ok (.iconst 2, 1) := by decide +kernel
theorem dX11_fallDue_9 : decode cX11_fallDue 9 = .ok (.aload_n 0, 1) := by decide +kernel
theorem dX11_fallDue_10 : decode cX11_fallDue 10 = .ok (.getfield 173, 3) := by decide +kernel
theorem dX11_fallDue_13 : decode cX11_fallDue 13 = .ok (.invokevirtual 360, 3) := by decide +kernel
theorem dX11_fallDue_16 : decode cX11_fallDue 16 = .ok (.aload_n 1, 1) := by decide +kernel
theorem dX11_fallDue_17 : decode cX11_fallDue 17 = .ok (.getfield 354, 3) := by decide +kernel
theorem dX11_fallDue_20 : decode cX11_fallDue 20 = .ok (.aload_n 2, 1) := by decide +kernel
theorem dX11_fallDue_21 : decode cX11_fallDue 21 = .ok (.getfield 125, 3) := by decide +kernel
theorem dX11_fallDue_24 : decode cX11_fallDue 24 = .ok (.if_icmp .le 11, 3) := by decide +kernel
theorem dX11_fallDue_27 : decode cX11_fallDue 27 = .ok (.aload_n 1, 1) := by decide +kernel
theorem dX11_fallDue_28 : decode cX11_fallDue 28 = .ok (.iconst 3, 1) := by decide +kernel
theorem dX11_fallDue_29 : decode cX11_fallDue 29 = .ok (.putfield 348, 3) := by decide +kernel
theorem dX11_fallDue_32 : decode cX11_fallDue 32 = .ok (.goto 16, 3) := by decide +kernel
theorem dX11_fallDue_35 : decode cX11_fallDue 35 = .ok (.aload_n 2, 1) := by decide +kernel
theorem dX11_fallDue_36 : decode cX11_fallDue 36 = .ok (.dup, 1) := by decide +kernel
theorem dX11_fallDue_37 : decode cX11_fallDue 37 = .ok (.getfield 125, 3) := by decide +kernel
theorem dX11_fallDue_40 : decode cX11_fallDue 40 = .ok (.aload_n 1, 1) := by decide +kernel
theorem dX11_fallDue_41 : decode cX11_fallDue 41 = .ok (.getfield 354, 3) := by decide +kernel
theorem dX11_fallDue_44 : decode cX11_fallDue 44 = .ok (.isub, 1) := by decide +kernel
theorem dX11_fallDue_45 : decode cX11_fallDue 45 = .ok (.putfield 125, 3) := by decide +kernel
theorem dX11_fallDue_48 : decode cX11_fallDue 48 = .ok (.return_, 1) := by decide +kernel
theorem dX11_workAt_0 : decode cX11_workAt 0 = .ok (.aload_n 1, 1) := by decide +kernel
theorem dX11_workAt_1 : decode cX11_workAt 1 = .ok (.aload_n 0, 1) := by decide +kernel
theorem dX11_workAt_2 : decode cX11_workAt 2 = .ok (.getfield 173, 3) := by decide +kernel
theorem dX11_workAt_5 : decode cX11_workAt 5 = .ok (.invokevirtual 508, 3) := by decide +kernel
theorem dX11_workAt_8 : decode cX11_workAt 8 = .ok (.aload_n 1, 1) := by decide +kernel
theorem dX11_workAt_9 : decode cX11_workAt 9 = .ok (.invokevirtual 511, 3) := by decide +kernel
theorem dX11_workAt_12 : decode cX11_workAt 12 = .ok (.aload_n 1, 1) := by decide +kernel
theorem dX11_workAt_13 : decode cX11_workAt 13 = .ok (.iconst 0, 1) := by decide +kernel
theorem dX11_workAt_14 : decode cX11_workAt 14 = .ok (.putfield 514, 3) := by decide +kernel
theorem dX11_workAt_17 : decode cX11_workAt 17 = .ok (.iconst 0, 1) := by decide +kernel
theorem dX11_workAt_18 : decode cX11_workAt 18 = .ok (.istore_n 2, 1) := by decide +kernel
theorem dX11_workAt_19 : decode cX11_workAt 19 = .ok (.iload_n 2, 1) := by decide +kernel
theorem dX11_workAt_20 : decode cX11_workAt 20 = .ok (.aload_n 1, 1) := by decide +kernel
theorem dX11_workAt_21 : decode cX11_workAt 21 = .ok (.getfield 237, 3) := by decide +kernel
theorem dX11_workAt_24 : decode cX11_workAt 24 = .ok (.invokevirtual 169, 3) := by decide +kernel
theorem dX11_workAt_27 : decode cX11_workAt 27 = .ok (.if_icmp .ge 36, 3) := by decide +kernel
theorem dX11_workAt_30 : decode cX11_workAt 30 = .ok (.aload_n 1, 1) := by decide +kernel
theorem dX11_workAt_31 : decode cX11_workAt 31 = .ok (.getfield 237, 3) := by decide +kernel
theorem dX11_workAt_34 : decode cX11_workAt 34 = .ok (.iload_n 2, 1) := by decide +kernel
theorem dX11_workAt_35 : decode cX11_workAt 35 = .ok (.invokevirtual 206, 3) := by decide +kernel
theorem dX11_workAt_38 : decode cX11_workAt 38 = .ok (.checkcast 243, 3) := by decide +kernel
theorem dX11_workAt_41 : decode cX11_workAt 41 = .ok (.astore_n 3, 1) := by decide +kernel
theorem dX11_workAt_42 : decode cX11_workAt 42 = .ok (.aload_n 0, 1) := by decide +kernel
theorem dX11_workAt_43 : decode cX11_workAt 43 = .ok (.aload_n 3, 1) := by decide +kernel
theorem dX11_workAt_44 : decode cX11_workAt 44 = .ok (.aload_n 1, 1) := by decide +kernel
theorem dX11_workAt_45 : decode cX11_workAt 45 = .ok (.invokevirtual 251, 3) := by decide +kernel
theorem dX11_workAt_48 : decode cX11_workAt 48 = .ok (.ifCond .eq 9, 3) := by decide +kernel
theorem dX11_workAt_51 : decode cX11_workAt 51 = .ok (.aload_n 0, 1) := by decide +kernel
theorem dX11_workAt_52 : decode cX11_workAt 52 = .ok (.aload_n 3, 1) := by decide +kernel
theorem dX11_workAt_53 : decode cX11_workAt 53 = .ok (.aload_n 1, 1) := by decide +kernel
theorem dX11_workAt_54 : decode cX11_workAt 54 = .ok (.invokevirtual 517, 3) := by decide +kernel
theorem dX11_workAt_57 : decode cX11_workAt 57 = .ok (.iinc 2 1, 3) := by decide +kernel
theorem dX11_workAt_60 : decode cX11_workAt 60 = .ok (.goto (-41), 3) := by decide +kernel
theorem dX11_workAt_63 : decode cX11_workAt 63 = .ok (.return_, 1) := by decide +kernel
theorem dX11_testsHold_0 : decode cX11_testsHold 0 = .ok (.iconst 1, 1) := by decide +kernel
theorem dX11_testsHold_1 : decode cX11_testsHold 1 = .ok (.istore_n 3, 1) := by decide +kernel
theorem dX11_testsHold_2 : decode cX11_testsHold 2 = .ok (.iconst 0, 1) := by decide +kernel
theorem dX11_testsHold_3 : decode cX11_testsHold 3 = .ok (.istore 4, 2) := by decide +kernel
theorem dX11_testsHold_5 : decode cX11_testsHold 5 = .ok (.iload 4, 2) := by decide +kernel
theorem dX11_testsHold_7 : decode cX11_testsHold 7 = .ok (.aload_n 1, 1) := by decide +kernel
theorem dX11_testsHold_8 : decode cX11_testsHold 8 = .ok (.getfield 521, 3) := by decide +kernel
theorem dX11_testsHold_11 : decode cX11_testsHold 11 = .ok (.invokevirtual 169, 3) := by decide +kernel
theorem dX11_testsHold_14 : decode cX11_testsHold 14 = .ok (.if_icmp .ge 64, 3) := by decide +kernel
theorem dX11_testsHold_17 : decode cX11_testsHold 17 = .ok (.aload_n 1, 1) := by decide +kernel
theorem dX11_testsHold_18 : decode cX11_testsHold 18 = .ok (.getfield 521, 3) := by decide +kernel
theorem dX11_testsHold_21 : decode cX11_testsHold 21 = .ok (.iload 4, 2) := by decide +kernel
theorem dX11_testsHold_23 : decode cX11_testsHold 23 = .ok (.invokevirtual 206, 3) := by decide +kernel
theorem dX11_testsHold_26 : decode cX11_testsHold 26 = .ok (.checkcast 524, 3) := by decide +kernel
theorem dX11_testsHold_29 : decode cX11_testsHold 29 = .ok (.astore 5, 2) := by decide +kernel
theorem dX11_testsHold_31 : decode cX11_testsHold 31 = .ok (.aload 5, 2) := by decide +kernel
theorem dX11_testsHold_33 : decode cX11_testsHold 33 = .ok (.getfield 526, 3) := by decide +kernel
theorem dX11_testsHold_36 : decode cX11_testsHold 36 = .ok (.ifCond .eq 11, 3) := by decide +kernel
theorem dX11_testsHold_39 : decode cX11_testsHold 39 = .ok (.iload_n 3, 1) := by decide +kernel
theorem dX11_testsHold_40 : decode cX11_testsHold 40 = .ok (.ifCond .eq 5, 3) := by decide +kernel
theorem dX11_testsHold_43 : decode cX11_testsHold 43 = .ok (.iconst 1, 1) := by decide +kernel
theorem dX11_testsHold_44 : decode cX11_testsHold 44 = .ok (.ireturn, 1) := by decide +kernel
theorem dX11_testsHold_45 : decode cX11_testsHold 45 = .ok (.iconst 1, 1) := by decide +kernel
theorem dX11_testsHold_46 : decode cX11_testsHold 46 = .ok (.istore_n 3, 1) := by decide +kernel
theorem dX11_testsHold_47 : decode cX11_testsHold 47 = .ok (.iload_n 3, 1) := by decide +kernel
theorem dX11_testsHold_48 : decode cX11_testsHold 48 = .ok (.ifCond .eq 22, 3) := by decide +kernel
theorem dX11_testsHold_51 : decode cX11_testsHold 51 = .ok (.aload 5, 2) := by decide +kernel
theorem dX11_testsHold_53 : decode cX11_testsHold 53 = .ok (.aload_n 0, 1) := by decide +kernel
theorem dX11_testsHold_54 : decode cX11_testsHold 54 = .ok (.aload 5, 2) := by decide +kernel
theorem dX11_testsHold_56 : decode cX11_testsHold 56 = .ok (.aload_n 2, 1) := by decide +kernel
theorem dX11_testsHold_57 : decode cX11_testsHold 57 = .ok (.invokevirtual 529, 3) := by decide +kernel
theorem dX11_testsHold_60 : decode cX11_testsHold 60 = .ok (.invokevirtual 533, 3) := by decide +kernel
theorem dX11_testsHold_63 : decode cX11_testsHold 63 = .ok (.ifCond .eq 7, 3) := by decide +kernel
theorem dX11_testsHold_66 : decode cX11_testsHold 66 = .ok (.iconst 1, 1) := by decide +kernel
theorem dX11_testsHold_67 : decode cX11_testsHold 67 = .ok (.goto 4, 3) := by decide +kernel
theorem dX11_testsHold_70 : decode cX11_testsHold 70 = .ok (.iconst 0, 1) := by decide +kernel
theorem dX11_testsHold_71 : decode cX11_testsHold 71 = .ok (.istore_n 3, 1) := by decide +kernel
theorem dX11_testsHold_72 : decode cX11_testsHold 72 = .ok (.iinc 4 1, 3) := by decide +kernel
theorem dX11_testsHold_75 : decode cX11_testsHold 75 = .ok (.goto (-70), 3) := by decide +kernel
theorem dX11_testsHold_78 : decode cX11_testsHold 78 = .ok (.iload_n 3, 1) := by decide +kernel
theorem dX11_testsHold_79 : decode cX11_testsHold 79 = .ok (.ireturn, 1) := by decide +kernel
theorem dX11_fieldValue_0 : decode cX11_fieldValue 0 = .ok (.aload_n 1, 1) := by decide +kernel
theorem dX11_fieldValue_1 : decode cX11_fieldValue 1 = .ok (.getfield 536, 3) := by decide +kernel
theorem dX11_fieldValue_4 : decode cX11_fieldValue 4 = .ok (.tableswitch 65 0 3 #[32, 41, 51, 56], 32) := by decide +kernel
theorem dX11_fieldValue_36 : decode cX11_fieldValue 36 = .ok (.aload_n 2, 1) := by decide +kernel
theorem dX11_fieldValue_37 : decode cX11_fieldValue 37 = .ok (.aload_n 1, 1) := by decide +kernel
theorem dX11_fieldValue_38 : decode cX11_fieldValue 38 = .ok (.getfield 539, 3) := by decide +kernel
theorem dX11_fieldValue_41 : decode cX11_fieldValue 41 = .ok (.invokevirtual 116, 3) := by decide +kernel
theorem dX11_fieldValue_44 : decode cX11_fieldValue 44 = .ok (.ireturn, 1) := by decide +kernel
theorem dX11_fieldValue_45 : decode cX11_fieldValue 45 = .ok (.aload_n 2, 1) := by decide +kernel
theorem dX11_fieldValue_46 : decode cX11_fieldValue 46 = .ok (.getfield 129, 3) := by decide +kernel
theorem dX11_fieldValue_49 : decode cX11_fieldValue 49 = .ok (.aload_n 1, 1) := by decide +kernel
theorem dX11_fieldValue_50 : decode cX11_fieldValue 50 = .ok (.getfield 539, 3) := by decide +kernel
theorem dX11_fieldValue_53 : decode cX11_fieldValue 53 = .ok (.iaload, 1) := by decide +kernel
theorem dX11_fieldValue_54 : decode cX11_fieldValue 54 = .ok (.ireturn, 1) := by decide +kernel
theorem dX11_fieldValue_55 : decode cX11_fieldValue 55 = .ok (.aload_n 2, 1) := by decide +kernel
theorem dX11_fieldValue_56 : decode cX11_fieldValue 56 = .ok (.getfield 125, 3) := by decide +kernel
theorem dX11_fieldValue_59 : decode cX11_fieldValue 59 = .ok (.ireturn, 1) := by decide +kernel
theorem dX11_fieldValue_60 : decode cX11_fieldValue 60 = .ok (.aload_n 0, 1) := by decide +kernel
theorem dX11_fieldValue_61 : decode cX11_fieldValue 61 = .ok (.aload_n 2, 1) := by decide +kernel
theorem dX11_fieldValue_62 : decode cX11_fieldValue 62 = .ok (.getfield 497, 3) := by decide +kernel
theorem dX11_fieldValue_65 : decode cX11_fieldValue 65 = .ok (.invokevirtual 455, 3) := by decide +kernel
theorem dX11_fieldValue_68 : decode cX11_fieldValue 68 = .ok (.ireturn, 1) := by decide +kernel
theorem dX11_fieldValue_69 : decode cX11_fieldValue 69 = .ok (.aload_n 0, 1) := by decide +kernel
theorem dX11_fieldValue_70 : decode cX11_fieldValue 70 = .ok (.getfield 173, 3) := by decide +kernel
theorem dX11_fieldValue_73 : decode cX11_fieldValue 73 = .ok (.sipush 360, 3) := by decide +kernel
theorem dX11_fieldValue_76 : decode cX11_fieldValue 76 = .ok (.irem, 1) := by decide +kernel
theorem dX11_fieldValue_77 : decode cX11_fieldValue 77 = .ok (.ireturn, 1) := by decide +kernel
theorem dX11_carryOut_0 : decode cX11_carryOut 0 = .ok (.aload_n 1, 1) := by decide +kernel
theorem dX11_carryOut_1 : decode cX11_carryOut 1 = .ok (.getfield 540, 3) := by decide +kernel
theorem dX11_carryOut_4 : decode cX11_carryOut 4 = .ok (.tableswitch 81 0 4 #[36, 45, 54, 63, 72], 36) := by decide +kernel
theorem dX11_carryOut_40 : decode cX11_carryOut 40 = .ok (.aload_n 0, 1) := by decide +kernel
theorem dX11_carryOut_41 : decode cX11_carryOut 41 = .ok (.aload_n 1, 1) := by decide +kernel
theorem dX11_carryOut_42 : decode cX11_carryOut 42 = .ok (.aload_n 2, 1) := by decide +kernel
theorem dX11_carryOut_43 : decode cX11_carryOut 43 = .ok (.invokevirtual 543, 3) := by decide +kernel
theorem dX11_carryOut_46 : decode cX11_carryOut 46 = .ok (.goto 47, 3) := by decide +kernel
theorem dX11_carryOut_49 : decode cX11_carryOut 49 = .ok (.aload_n 0, 1) := by decide +kernel
theorem dX11_carryOut_50 : decode cX11_carryOut 50 = .ok (.aload_n 1, 1) := by decide +kernel
theorem dX11_carryOut_51 : decode cX11_carryOut 51 = .ok (.aload_n 2, 1) := by decide +kernel
theorem dX11_carryOut_52 : decode cX11_carryOut 52 = .ok (.invokevirtual 546, 3) := by decide +kernel
theorem dX11_carryOut_55 : decode cX11_carryOut 55 = .ok (.goto 38, 3) := by decide +kernel
theorem dX11_carryOut_58 : decode cX11_carryOut 58 = .ok (.aload_n 0, 1) := by decide +kernel
theorem dX11_carryOut_59 : decode cX11_carryOut 59 = .ok (.aload_n 1, 1) := by decide +kernel
theorem dX11_carryOut_60 : decode cX11_carryOut 60 = .ok (.aload_n 2, 1) := by decide +kernel
theorem dX11_carryOut_61 : decode cX11_carryOut 61 = .ok (.invokevirtual 549, 3) := by decide +kernel
theorem dX11_carryOut_64 : decode cX11_carryOut 64 = .ok (.goto 29, 3) := by decide +kernel
theorem dX11_carryOut_67 : decode cX11_carryOut 67 = .ok (.aload_n 0, 1) := by decide +kernel
theorem dX11_carryOut_68 : decode cX11_carryOut 68 = .ok (.aload_n 1, 1) := by decide +kernel
theorem dX11_carryOut_69 : decode cX11_carryOut 69 = .ok (.aload_n 2, 1) := by decide +kernel
theorem dX11_carryOut_70 : decode cX11_carryOut 70 = .ok (.invokevirtual 552, 3) := by decide +kernel
theorem dX11_carryOut_73 : decode cX11_carryOut 73 = .ok (.goto 20, 3) := by decide +kernel
theorem dX11_carryOut_76 : decode cX11_carryOut 76 = .ok (.aload_n 0, 1) := by decide +kernel
theorem dX11_carryOut_77 : decode cX11_carryOut 77 = .ok (.aload_n 1, 1) := by decide +kernel
theorem dX11_carryOut_78 : decode cX11_carryOut 78 = .ok (.aload_n 2, 1) := by decide +kernel
theorem dX11_carryOut_79 : decode cX11_carryOut 79 = .ok (.invokevirtual 555, 3) := by decide +kernel
theorem dX11_carryOut_82 : decode cX11_carryOut 82 = .ok (.goto 11, 3) := by decide +kernel
theorem dX11_carryOut_85 : decode cX11_carryOut 85 = .ok (.aload_n 2, 1) := by decide +kernel
theorem dX11_carryOut_86 : decode cX11_carryOut 86 = .ok (.aload_n 1, 1) := by decide +kernel
theorem dX11_carryOut_87 : decode cX11_carryOut 87 = .ok (.getfield 558, 3) := by decide +kernel
theorem dX11_carryOut_90 : decode cX11_carryOut 90 = .ok (.putfield 514, 3) := by decide +kernel
theorem dX11_carryOut_93 : decode cX11_carryOut 93 = .ok (.return_, 1) := by decide +kernel
theorem dX11_buyBales_0 : decode cX11_buyBales 0 = .ok (.aload_n 2, 1) := by decide +kernel
theorem dX11_buyBales_1 : decode cX11_buyBales 1 = .ok (.getfield 129, 3) := by decide +kernel
theorem dX11_buyBales_4 : decode cX11_buyBales 4 = .ok (.aload_n 1, 1) := by decide +kernel
theorem dX11_buyBales_5 : decode cX11_buyBales 5 = .ok (.getfield 559, 3) := by decide +kernel
theorem dX11_buyBales_8 : decode cX11_buyBales 8 = .ok (.iaload, 1) := by decide +kernel
theorem dX11_buyBales_9 : decode cX11_buyBales 9 = .ok (.istore_n 3, 1) := by decide +kernel
theorem dX11_buyBales_10 : decode cX11_buyBales 10 = .ok (.aload_n 2, 1) := by decide +kernel
theorem dX11_buyBales_11 : decode cX11_buyBales 11 = .ok (.aload_n 1, 1) := by decide +kernel
theorem dX11_buyBales_12 : decode cX11_buyBales 12 = .ok (.getfield 559, 3) := by decide +kernel
theorem dX11_buyBales_15 : decode cX11_buyBales 15 = .ok (.aload_n 1, 1) := by decide +kernel
theorem dX11_buyBales_16 : decode cX11_buyBales 16 = .ok (.getfield 558, 3) := by decide +kernel
theorem dX11_buyBales_19 : decode cX11_buyBales 19 = .ok (.aload_n 2, 1) := by decide +kernel
theorem dX11_buyBales_20 : decode cX11_buyBales 20 = .ok (.getfield 514, 3) := by decide +kernel
theorem dX11_buyBales_23 : decode cX11_buyBales 23 = .ok (.invokevirtual 375, 3) := by decide +kernel
theorem dX11_buyBales_26 : decode cX11_buyBales 26 = .ok (.istore 4, 2) := by decide +kernel
theorem dX11_buyBales_28 : decode cX11_buyBales 28 = .ok (.aload_n 2, 1) := by decide +kernel
theorem dX11_buyBales_29 : decode cX11_buyBales 29 = .ok (.getfield 129, 3) := by decide +kernel
theorem dX11_buyBales_32 : decode cX11_buyBales 32 = .ok (.aload_n 1, 1) := by decide +kernel
theorem dX11_buyBales_33 : decode cX11_buyBales 33 = .ok (.getfield 559, 3) := by decide +kernel
theorem dX11_buyBales_36 : decode cX11_buyBales 36 = .ok (.iaload, 1) := by decide +kernel
theorem dX11_buyBales_37 : decode cX11_buyBales 37 = .ok (.iload_n 3, 1) := by decide +kernel
theorem dX11_buyBales_38 : decode cX11_buyBales 38 = .ok (.isub, 1) := by decide +kernel
theorem dX11_buyBales_39 : decode cX11_buyBales 39 = .ok (.istore 5, 2) := by decide +kernel
theorem dX11_buyBales_41 : decode cX11_buyBales 41 = .ok (.iload 5, 2) := by decide +kernel
theorem dX11_buyBales_43 : decode cX11_buyBales 43 = .ok (.ifCond .le 13, 3) := by decide +kernel
theorem dX11_buyBales_46 : decode cX11_buyBales 46 = .ok (.aload_n 0, 1) := by decide +kernel
theorem dX11_buyBales_47 : decode cX11_buyBales 47 = .ok (.aload_n 1, 1) := by decide +kernel
theorem dX11_buyBales_48 : decode cX11_buyBales 48 = .ok (.aload_n 2, 1) := by decide +kernel
theorem dX11_buyBales_49 : decode cX11_buyBales 49 = .ok (.iload 5, 2) := by decide +kernel
theorem dX11_buyBales_51 : decode cX11_buyBales 51 = .ok (.iload 4, 2) := by decide +kernel
theorem dX11_buyBales_53 : decode cX11_buyBales 53 = .ok (.invokevirtual 560, 3) := by decide +kernel
theorem dX11_buyBales_56 : decode cX11_buyBales 56 = .ok (.return_, 1) := by decide +kernel
theorem dX11_giveAdvance_0 : decode cX11_giveAdvance 0 = .ok (.aload_n 1, 1) := by decide +kernel
theorem dX11_giveAdvance_1 : decode cX11_giveAdvance 1 = .ok (.getfield 559, 3) := by decide +kernel
theorem dX11_giveAdvance_4 : decode cX11_giveAdvance 4 = .ok (.istore_n 3, 1) := by decide +kernel
theorem dX11_giveAdvance_5 : decode cX11_giveAdvance 5 = .ok (.aload_n 1, 1) := by decide +kernel
theorem dX11_giveAdvance_6 : decode cX11_giveAdvance 6 = .ok (.getfield 558, 3) := by decide +kernel
theorem dX11_giveAdvance_9 : decode cX11_giveAdvance 9 = .ok (.istore 4, 2) := by decide +kernel
theorem dX11_giveAdvance_11 : decode cX11_giveAdvance 11 = .ok (.iload 4, 2) := by decide +kernel
theorem dX11_giveAdvance_13 : decode cX11_giveAdvance 13 = .ok (.i2l, 1) := by decide +kernel
theorem dX11_giveAdvance_14 : decode cX11_giveAdvance 14 = .ok (.aload_n 2, 1) := by decide +kernel
theorem dX11_giveAdvance_15 : decode cX11_giveAdvance 15 = .ok (.iload_n 3, 1) := by decide +kernel
theorem dX11_giveAdvance_16 : decode cX11_giveAdvance 16 = .ok (.invokevirtual 116, 3) := by decide +kernel
theorem dX11_giveAdvance_19 : decode cX11_giveAdvance 19 = .ok (.i2l, 1) := by decide +kernel
theorem dX11_giveAdvance_20 : decode cX11_giveAdvance 20 = .ok (.lmul, 1) := by decide +kernel
theorem dX11_giveAdvance_21 : decode cX11_giveAdvance 21 = .ok (.ldc2_w 564, 3) := by decide +kernel
theorem dX11_giveAdvance_24 : decode cX11_giveAdvance 24 = .ok (.lmul, 1) := by decide +kernel
theorem dX11_giveAdvance_25 : decode cX11_giveAdvance 25 = .ok (.ldc2_w 566, 3) := by decide +kernel
theorem dX11_giveAdvance_28 : decode cX11_giveAdvance 28 = .ok (.ldiv, 1) := by decide +kernel
theorem dX11_giveAdvance_29 : decode cX11_giveAdvance 29 = .ok (.lstore 5, 2) := by decide +kernel
theorem dX11_giveAdvance_31 : decode cX11_giveAdvance 31 = .ok (.iload 4, 2) := by decide +kernel
theorem dX11_giveAdvance_33 : decode cX11_giveAdvance 33 = .ok (.ifCond .eq 28, 3) := by decide +kernel
theorem dX11_giveAdvance_36 : decode cX11_giveAdvance 36 = .ok (.aload_n 2, 1) := by decide +kernel
theorem dX11_giveAdvance_37 : decode cX11_giveAdvance 37 = .ok (.getfield 338, 3) := by decide +kernel
theorem dX11_giveAdvance_40 : decode cX11_giveAdvance 40 = .ok (.iload_n 3, 1) := by decide +kernel
theorem dX11_giveAdvance_41 : decode cX11_giveAdvance 41 = .ok (.iaload, 1) := by decide +kernel
theorem dX11_giveAdvance_42 : decode cX11_giveAdvance 42 = .ok (.ifCond .gt 19, 3) := by decide +kernel
theorem dX11_giveAdvance_45 : decode cX11_giveAdvance 45 = .ok (.lload 5, 2) := by decide +kernel
theorem dX11_giveAdvance_47 : decode cX11_giveAdvance 47 = .ok (.aload_n 2, 1) := by decide +kernel
theorem dX11_giveAdvance_48 : decode cX11_giveAdvance 48 = .ok (.getfield 125, 3) := by decide +kernel
theorem dX11_giveAdvance_51 : decode cX11_giveAdvance 51 = .ok (.aload_n 2, 1) := by decide +kernel
theorem dX11_giveAdvance_52 : decode cX11_giveAdvance 52 = .ok (.getfield 514, 3) := by decide +kernel
theorem dX11_giveAdvance_55 : decode cX11_giveAdvance 55 = .ok (.isub, 1) := by decide +kernel
theorem dX11_giveAdvance_56 : decode cX11_giveAdvance 56 = .ok (.i2l, 1) := by decide +kernel
theorem dX11_giveAdvance_57 : decode cX11_giveAdvance 57 = .ok (.lcmp, 1) := by decide +kernel
theorem dX11_giveAdvance_58 : decode cX11_giveAdvance 58 = .ok (.ifCond .le 4, 3) := by decide +kernel
theorem dX11_giveAdvance_61 : decode cX11_giveAdvance 61 = .ok (.return_, 1) := by decide +kernel
theorem dX11_giveAdvance_62 : decode cX11_giveAdvance 62 = .ok (.aload_n 2, 1) := by decide +kernel
theorem dX11_giveAdvance_63 : decode cX11_giveAdvance 63 = .ok (.dup, 1) := by decide +kernel
theorem dX11_giveAdvance_64 : decode cX11_giveAdvance 64 = .ok (.getfield 125, 3) := by decide +kernel
theorem dX11_giveAdvance_67 : decode cX11_giveAdvance 67 = .ok (.lload 5, 2) := by decide +kernel
theorem dX11_giveAdvance_69 : decode cX11_giveAdvance 69 = .ok (.l2i, 1) := by decide +kernel
theorem dX11_giveAdvance_70 : decode cX11_giveAdvance 70 = .ok (.isub, 1) := by decide +kernel
theorem dX11_giveAdvance_71 : decode cX11_giveAdvance 71 = .ok (.putfield 125, 3) := by decide +kernel
theorem dX11_giveAdvance_74 : decode cX11_giveAdvance 74 = .ok (.aload_n 2, 1) := by decide +kernel
theorem dX11_giveAdvance_75 : decode cX11_giveAdvance 75 = .ok (.getfield 568, 3) := by decide +kernel
theorem dX11_giveAdvance_78 : decode cX11_giveAdvance 78 = .ok (.iload_n 3, 1) := by decide +kernel
theorem dX11_giveAdvance_79 : decode cX11_giveAdvance 79 = .ok (.aload_n 0, 1) := by decide +kernel
theorem dX11_giveAdvance_80 : decode cX11_giveAdvance 80 = .ok (.getfield 173, 3) := by decide +kernel
theorem dX11_giveAdvance_83 : decode cX11_giveAdvance 83 = .ok (.iastore, 1) := by decide +kernel
theorem dX11_giveAdvance_84 : decode cX11_giveAdvance 84 = .ok (.aload_n 2, 1) := by decide +kernel
theorem dX11_giveAdvance_85 : decode cX11_giveAdvance 85 = .ok (.getfield 571, 3) := by decide +kernel
theorem dX11_giveAdvance_88 : decode cX11_giveAdvance 88 = .ok (.iload_n 3, 1) := by decide +kernel
theorem dX11_giveAdvance_89 : decode cX11_giveAdvance 89 = .ok (.iload 4, 2) := by decide +kernel
theorem dX11_giveAdvance_91 : decode cX11_giveAdvance 91 = .ok (.iastore, 1) := by decide +kernel
theorem dX11_giveAdvance_92 : decode cX11_giveAdvance 92 = .ok (.aload_n 2, 1) := by decide +kernel
theorem dX11_giveAdvance_93 : decode cX11_giveAdvance 93 = .ok (.getfield 338, 3) := by decide +kernel
theorem dX11_giveAdvance_96 : decode cX11_giveAdvance 96 = .ok (.iload_n 3, 1) := by decide +kernel
theorem dX11_giveAdvance_97 : decode cX11_giveAdvance 97 = .ok (.iload 4, 2) := by decide +kernel
theorem dX11_giveAdvance_99 : decode cX11_giveAdvance 99 = .ok (.iastore, 1) := by decide +kernel
theorem dX11_giveAdvance_100 : decode cX11_giveAdvance 100 = .ok (.aload_n 0, 1) := by decide +kernel
theorem dX11_giveAdvance_101 : decode cX11_giveAdvance 101 = .ok (.aload_n 1, 1) := by decide +kernel
theorem dX11_giveAdvance_102 : decode cX11_giveAdvance 102 = .ok (.aload_n 2, 1) := by decide +kernel
theorem dX11_giveAdvance_103 : decode cX11_giveAdvance 103 = .ok (.iload 4, 2) := by decide +kernel
theorem dX11_giveAdvance_105 : decode cX11_giveAdvance 105 = .ok (.lload 5, 2) := by decide +kernel
theorem dX11_giveAdvance_107 : decode cX11_giveAdvance 107 = .ok (.l2i, 1) := by decide +kernel
theorem dX11_giveAdvance_108 : decode cX11_giveAdvance 108 = .ok (.invokevirtual 560, 3) := by decide +kernel
theorem dX11_giveAdvance_111 : decode cX11_giveAdvance 111 = .ok (.return_, 1) := by decide +kernel
theorem dX11_ladeShip_0 : decode cX11_ladeShip 0 = .ok (.aload_n 1, 1) := by decide +kernel
theorem dX11_ladeShip_1 : decode cX11_ladeShip 1 = .ok (.getfield 559, 3) := by decide +kernel
theorem dX11_ladeShip_4 : decode cX11_ladeShip 4 = .ok (.istore_n 3, 1) := by decide +kernel
theorem dX11_ladeShip_5 : decode cX11_ladeShip 5 = .ok (.iconst 0, 1) := by decide +kernel
theorem dX11_ladeShip_6 : decode cX11_ladeShip 6 = .ok (.istore 4, 2) := by decide +kernel
theorem dX11_ladeShip_8 : decode cX11_ladeShip 8 = .ok (.iload 4, 2) := by decide +kernel
theorem dX11_ladeShip_10 : decode cX11_ladeShip 10 = .ok (.aload_n 0, 1) := by decide +kernel
theorem dX11_ladeShip_11 : decode cX11_ladeShip 11 = .ok (.getfield 32, 3) := by decide +kernel
theorem dX11_ladeShip_14 : decode cX11_ladeShip 14 = .ok (.invokevirtual 169, 3) := by decide +kernel
theorem dX11_ladeShip_17 : decode cX11_ladeShip 17 = .ok (.if_icmp .ge 108, 3) := by decide +kernel
theorem dX11_ladeShip_20 : decode cX11_ladeShip 20 = .ok (.aload_n 0, 1) := by decide +kernel
theorem dX11_ladeShip_21 : decode cX11_ladeShip 21 = .ok (.getfield 32, 3) := by decide +kernel
theorem dX11_ladeShip_24 : decode cX11_ladeShip 24 = .ok (.iload 4, 2) := by decide +kernel
theorem dX11_ladeShip_26 : decode cX11_ladeShip 26 = .ok (.invokevirtual 206, 3) := by decide +kernel
theorem dX11_ladeShip_29 : decode cX11_ladeShip 29 = .ok (.checkcast 210, 3) := by decide +kernel
theorem dX11_ladeShip_32 : decode cX11_ladeShip 32 = .ok (.astore 5, 2) := by decide +kernel
theorem dX11_ladeShip_34 : decode cX11_ladeShip 34 = .ok (.aload 5, 2) := by decide +kernel
theorem dX11_ladeShip_36 : decode cX11_ladeShip 36 = .ok (.getfield 212, 3) := by decide +kernel
theorem dX11_ladeShip_39 : decode cX11_ladeShip 39 = .ok (.aload_n 2, 1) := by decide +kernel
theorem dX11_ladeShip_40 : decode cX11_ladeShip 40 = .ok (.getfield 497, 3) := by decide +kernel
theorem dX11_ladeShip_43 : decode cX11_ladeShip 43 = .ok (.if_icmp .ne 76, 3) := by decide +kernel
theorem dX11_ladeShip_46 : decode cX11_ladeShip 46 = .ok (.aload 5, 2) := by decide +kernel
theorem dX11_ladeShip_48 : decode cX11_ladeShip 48 = .ok (.getfield 258, 3) := by decide +kernel
theorem dX11_ladeShip_51 : decode cX11_ladeShip 51 = .ok (.ifCond .eq 68, 3) := by decide +kernel
theorem dX11_ladeShip_54 : decode cX11_ladeShip 54 = .ok (.aload_n 2, 1) := by decide +kernel
theorem dX11_ladeShip_55 : decode cX11_ladeShip 55 = .ok (.getfield 129, 3) := by decide +kernel
theorem dX11_ladeShip_58 : decode cX11_ladeShip 58 = .ok (.iload_n 3, 1) := by decide +kernel
theorem dX11_ladeShip_59 : decode cX11_ladeShip 59 = .ok (.iaload, 1) := by decide +kernel
theorem dX11_ladeShip_60 : decode cX11_ladeShip 60 = .ok (.aload 5, 2) := by decide +kernel
theorem dX11_ladeShip_62 : decode cX11_ladeShip 62 = .ok (.invokevirtual 273, 3) := by decide +kernel
theorem dX11_ladeShip_65 : decode cX11_ladeShip 65 = .ok (.invokestatic 441, 3) := by decide +kernel
theorem dX11_ladeShip_68 : decode cX11_ladeShip 68 = .ok (.istore 6, 2) := by decide +kernel
theorem dX11_ladeShip_70 : decode cX11_ladeShip 70 = .ok (.aload_n 1, 1) := by decide +kernel
theorem dX11_ladeShip_71 : decode cX11_ladeShip 71 = .ok (.getfield 558, 3) := by decide +kernel
theorem dX11_ladeShip_74 : decode cX11_ladeShip 74 = .ok (.iload 6, 2) := by decide +kernel
theorem dX11_ladeShip_76 : decode cX11_ladeShip 76 = .ok (.invokestatic 441, 3) := by decide +kernel
theorem dX11_ladeShip_79 : decode cX11_ladeShip 79 = .ok (.istore 7, 2) := by decide +kernel
theorem dX11_ladeShip_81 : decode cX11_ladeShip 81 = .ok (.iload 7, 2) := by decide +kernel
theorem dX11_ladeShip_83 : decode cX11_ladeShip 83 = .ok (.ifCond .le 35, 3) := by decide +kernel
theorem dX11_ladeShip_86 : decode cX11_ladeShip 86 = .ok (.aload_n 2, 1) := by decide +kernel
theorem dX11_ladeShip_87 : decode cX11_ladeShip 87 = .ok (.getfield 129, 3) := by decide +kernel
theorem dX11_ladeShip_90 : decode cX11_ladeShip 90 = .ok (.iload_n 3, 1) := by decide +kernel
theorem dX11_ladeShip_91 : decode cX11_ladeShip 91 = .ok (.dup2, 1) := by decide +kernel
theorem dX11_ladeShip_92 : decode cX11_ladeShip 92 = .ok (.iaload, 1) := by decide +kernel
theorem dX11_ladeShip_93 : decode cX11_ladeShip 93 = .ok (.iload 7, 2) := by decide +kernel
theorem dX11_ladeShip_95 : decode cX11_ladeShip 95 = .ok (.isub, 1) := by decide +kernel
theorem dX11_ladeShip_96 : decode cX11_ladeShip 96 = .ok (.iastore, 1) := by decide +kernel
theorem dX11_ladeShip_97 : decode cX11_ladeShip 97 = .ok (.aload 5, 2) := by decide +kernel
theorem dX11_ladeShip_99 : decode cX11_ladeShip 99 = .ok (.getfield 295, 3) := by decide +kernel
theorem dX11_ladeShip_102 : decode cX11_ladeShip 102 = .ok (.iload_n 3, 1) := by decide +kernel
theorem dX11_ladeShip_103 : decode cX11_ladeShip 103 = .ok (.dup2, 1) := by decide +kernel
theorem dX11_ladeShip_104 : decode cX11_ladeShip 104 = .ok (.iaload, 1) := by decide +kernel
theorem dX11_ladeShip_105 : decode cX11_ladeShip 105 = .ok (.iload 7, 2) := by decide +kernel
theorem dX11_ladeShip_107 : decode cX11_ladeShip 107 = .ok (.iadd, 1) := by decide +kernel
theorem dX11_ladeShip_108 : decode cX11_ladeShip 108 = .ok (.iastore, 1) := by decide +kernel
theorem dX11_ladeShip_109 : decode cX11_ladeShip 109 = .ok (.aload_n 0, 1) := by decide +kernel
theorem dX11_ladeShip_110 : decode cX11_ladeShip 110 = .ok (.aload_n 1, 1) := by decide +kernel
theorem dX11_ladeShip_111 : decode cX11_ladeShip 111 = .ok (.aload_n 2, 1) := by decide +kernel
theorem dX11_ladeShip_112 : decode cX11_ladeShip 112 = .ok (.iload 7, 2) := by decide +kernel
theorem dX11_ladeShip_114 : decode cX11_ladeShip 114 = .ok (.iconst 0, 1) := by decide +kernel
theorem dX11_ladeShip_115 : decode cX11_ladeShip 115 = .ok (.invokevirtual 560, 3) := by decide +kernel
theorem dX11_ladeShip_118 : decode cX11_ladeShip 118 = .ok (.return_, 1) := by decide +kernel
theorem dX11_ladeShip_119 : decode cX11_ladeShip 119 = .ok (.iinc 4 1, 3) := by decide +kernel
theorem dX11_ladeShip_122 : decode cX11_ladeShip 122 = .ok (.goto (-114), 3) := by decide +kernel
theorem dX11_ladeShip_125 : decode cX11_ladeShip 125 = .ok (.return_, 1) := by decide +kernel
theorem dX11_sendShip_0 : decode cX11_sendShip 0 = .ok (.aload_n 1, 1) := by decide +kernel
theorem dX11_sendShip_1 : decode cX11_sendShip 1 = .ok (.getfield 558, 3) := by decide +kernel
theorem dX11_sendShip_4 : decode cX11_sendShip 4 = .ok (.iconst 1, 1) := by decide +kernel
theorem dX11_sendShip_5 : decode cX11_sendShip 5 = .ok (.invokestatic 475, 3) := by decide +kernel
theorem dX11_sendShip_8 : decode cX11_sendShip 8 = .ok (.istore_n 3, 1) := by decide +kernel
theorem dX11_sendShip_9 : decode cX11_sendShip 9 = .ok (.iconst 0, 1) := by decide +kernel
theorem dX11_sendShip_10 : decode cX11_sendShip 10 = .ok (.istore 4, 2) := by decide +kernel
theorem dX11_sendShip_12 : decode cX11_sendShip 12 = .ok (.iload 4, 2) := by decide +kernel
theorem dX11_sendShip_14 : decode cX11_sendShip 14 = .ok (.aload_n 0, 1) := by decide +kernel
theorem dX11_sendShip_15 : decode cX11_sendShip 15 = .ok (.getfield 32, 3) := by decide +kernel
theorem dX11_sendShip_18 : decode cX11_sendShip 18 = .ok (.invokevirtual 169, 3) := by decide +kernel
theorem dX11_sendShip_21 : decode cX11_sendShip 21 = .ok (.if_icmp .ge 104, 3) := by decide +kernel
theorem dX11_sendShip_24 : decode cX11_sendShip 24 = .ok (.aload_n 0, 1) := by decide +kernel
theorem dX11_sendShip_25 : decode cX11_sendShip 25 = .ok (.getfield 32, 3) := by decide +kernel
theorem dX11_sendShip_28 : decode cX11_sendShip 28 = .ok (.iload 4, 2) := by decide +kernel
theorem dX11_sendShip_30 : decode cX11_sendShip 30 = .ok (.invokevirtual 206, 3) := by decide +kernel
theorem dX11_sendShip_33 : decode cX11_sendShip 33 = .ok (.checkcast 210, 3) := by decide +kernel
theorem dX11_sendShip_36 : decode cX11_sendShip 36 = .ok (.astore 5, 2) := by decide +kernel
theorem dX11_sendShip_38 : decode cX11_sendShip 38 = .ok (.aload 5, 2) := by decide +kernel
theorem dX11_sendShip_40 : decode cX11_sendShip 40 = .ok (.getfield 212, 3) := by decide +kernel
theorem dX11_sendShip_43 : decode cX11_sendShip 43 = .ok (.aload_n 2, 1) := by decide +kernel
theorem dX11_sendShip_44 : decode cX11_sendShip 44 = .ok (.getfield 497, 3) := by decide +kernel
theorem dX11_sendShip_47 : decode cX11_sendShip 47 = .ok (.if_icmp .ne 72, 3) := by decide +kernel
theorem dX11_sendShip_50 : decode cX11_sendShip 50 = .ok (.aload 5, 2) := by decide +kernel
theorem dX11_sendShip_52 : decode cX11_sendShip 52 = .ok (.getfield 295, 3) := by decide +kernel
theorem dX11_sendShip_55 : decode cX11_sendShip 55 = .ok (.invokestatic 303, 3) := by decide +kernel
theorem dX11_sendShip_58 : decode cX11_sendShip 58 = .ok (.iload_n 3, 1) := by decide +kernel
theorem dX11_sendShip_59 : decode cX11_sendShip 59 = .ok (.if_icmp .lt 60, 3) := by decide +kernel
theorem dX11_sendShip_62 : decode cX11_sendShip 62 = .ok (.aload_n 0, 1) := by decide +kernel
theorem dX11_sendShip_63 : decode cX11_sendShip 63 = .ok (.getfield 38, 3) := by decide +kernel
theorem dX11_sendShip_66 : decode cX11_sendShip 66 = .ok (.invokevirtual 169, 3) := by decide +kernel
theorem dX11_sendShip_69 : decode cX11_sendShip 69 = .ok (.bipush 99, 2) := by decide +kernel
theorem dX11_sendShip_71 : decode cX11_sendShip 71 = .ok (.if_icmp .ge 47, 3) := by decide +kernel
theorem dX11_sendShip_74 : decode cX11_sendShip 74 = .ok (.aload_n 0, 1) := by decide +kernel
theorem dX11_sendShip_75 : decode cX11_sendShip 75 = .ok (.aload 5, 2) := by decide +kernel
theorem dX11_sendShip_77 : decode cX11_sendShip 77 = .ok (.iconst 0, 1) := by decide +kernel
theorem dX11_sendShip_78 : decode cX11_sendShip 78 = .ok (.aload_n 2, 1) := by decide +kernel
theorem dX11_sendShip_79 : decode cX11_sendShip 79 = .ok (.getfield 107, 3) := by decide +kernel
theorem dX11_sendShip_82 : decode cX11_sendShip 82 = .ok (.aload_n 0, 1) := by decide +kernel
theorem dX11_sendShip_83 : decode cX11_sendShip 83 = .ok (.aload 5, 2) := by decide +kernel
theorem dX11_sendShip_85 : decode cX11_sendShip 85 = .ok (.aload_n 2, 1) := by decide +kernel
theorem dX11_sendShip_86 : decode cX11_sendShip 86 = .ok (.getfield 497, 3) := by decide +kernel
theorem dX11_sendShip_89 : decode cX11_sendShip 89 = .ok (.invokevirtual 574, 3) := by decide +kernel
theorem dX11_sendShip_92 : decode cX11_sendShip 92 = .ok (.invokevirtual 279, 3) := by decide +kernel
theorem dX11_sendShip_95 : decode cX11_sendShip 95 = .ok (.astore 6, 2) := by decide +kernel
theorem dX11_sendShip_97 : decode cX11_sendShip 97 = .ok (.aload_n 0, 1) := by decide +kernel
theorem dX11_sendShip_98 : decode cX11_sendShip 98 = .ok (.aload 6, 2) := by decide +kernel
theorem dX11_sendShip_100 : decode cX11_sendShip 100 = .ok (.aload 5, 2) := by decide +kernel
theorem dX11_sendShip_102 : decode cX11_sendShip 102 = .ok (.aload_n 2, 1) := by decide +kernel
theorem dX11_sendShip_103 : decode cX11_sendShip 103 = .ok (.invokevirtual 578, 3) := by decide +kernel
theorem dX11_sendShip_106 : decode cX11_sendShip 106 = .ok (.aload_n 0, 1) := by decide +kernel
theorem dX11_sendShip_107 : decode cX11_sendShip 107 = .ok (.aload_n 1, 1) := by decide +kernel
theorem dX11_sendShip_108 : decode cX11_sendShip 108 = .ok (.aload_n 2, 1) := by decide +kernel
theorem dX11_sendShip_109 : decode cX11_sendShip 109 = .ok (.aload 6, 2) := by decide +kernel
theorem dX11_sendShip_111 : decode cX11_sendShip 111 = .ok (.getfield 283, 3) := by decide +kernel
theorem dX11_sendShip_114 : decode cX11_sendShip 114 = .ok (.iconst 0, 1) := by decide +kernel
theorem dX11_sendShip_115 : decode cX11_sendShip 115 = .ok (.invokevirtual 560, 3) := by decide +kernel
theorem dX11_sendShip_118 : decode cX11_sendShip 118 = .ok (.return_, 1) := by decide +kernel
theorem dX11_sendShip_119 : decode cX11_sendShip 119 = .ok (.iinc 4 1, 3) := by decide +kernel
theorem dX11_sendShip_122 : decode cX11_sendShip 122 = .ok (.goto (-110), 3) := by decide +kernel
theorem dX11_sendShip_125 : decode cX11_sendShip 125 = .ok (.return_, 1) := by decide +kernel
theorem dX11_writeInvoice_0 : decode cX11_writeInvoice 0 = .ok (.aload_n 0, 1) := by decide +kernel
theorem dX11_writeInvoice_1 : decode cX11_writeInvoice 1 = .ok (.iconst 1, 1) := by decide +kernel
theorem dX11_writeInvoice_2 : decode cX11_writeInvoice 2 = .ok (.invokevirtual 164, 3) := by decide +kernel
theorem dX11_writeInvoice_5 : decode cX11_writeInvoice 5 = .ok (.ifCond .eq 60, 3) := by decide +kernel
theorem dX11_writeInvoice_8 : decode cX11_writeInvoice 8 = .ok (.new 167, 3) := by decide +kernel
theorem dX11_writeInvoice_11 : decode cX11_writeInvoice 11 = .ok (.dup, 1) := by decide +kernel
theorem dX11_writeInvoice_12 : decode cX11_writeInvoice 12 = .ok (.aload_n 0, 1) := by decide +kernel
theorem dX11_writeInvoice_13 : decode cX11_writeInvoice 13 = .ok (.getfield 25, 3) := by decide +kernel
theorem dX11_writeInvoice_16 : decode cX11_writeInvoice 16 = .ok (.invokevirtual 169, 3) := by decide +kernel
theorem dX11_writeInvoice_19 : decode cX11_writeInvoice 19 = .ok (.iconst 4, 1) := by decide +kernel
theorem dX11_writeInvoice_20 : decode cX11_writeInvoice 20 = .ok (.aload_n 3, 1) := by decide +kernel
theorem dX11_writeInvoice_21 : decode cX11_writeInvoice 21 = .ok (.iconst 0, 1) := by decide +kernel
theorem dX11_writeInvoice_22 : decode cX11_writeInvoice 22 = .ok (.aload_n 0, 1) := by decide +kernel
theorem dX11_writeInvoice_23 : decode cX11_writeInvoice 23 = .ok (.getfield 173, 3) := by decide +kernel
theorem dX11_writeInvoice_26 : decode cX11_writeInvoice 26 = .ok (.invokespecial 176, 3) := by decide +kernel
theorem dX11_writeInvoice_29 : decode cX11_writeInvoice 29 = .ok (.astore 4, 2) := by decide +kernel
theorem dX11_writeInvoice_31 : decode cX11_writeInvoice 31 = .ok (.aload 4, 2) := by decide +kernel
theorem dX11_writeInvoice_33 : decode cX11_writeInvoice 33 = .ok (.aload_n 1, 1) := by decide +kernel
theorem dX11_writeInvoice_34 : decode cX11_writeInvoice 34 = .ok (.getfield 283, 3) := by decide +kernel
theorem dX11_writeInvoice_37 : decode cX11_writeInvoice 37 = .ok (.putfield 186, 3) := by decide +kernel
theorem dX11_writeInvoice_40 : decode cX11_writeInvoice 40 = .ok (.aload 4, 2) := by decide +kernel
theorem dX11_writeInvoice_42 : decode cX11_writeInvoice 42 = .ok (.aload_n 2, 1) := by decide +kernel
theorem dX11_writeInvoice_43 : decode cX11_writeInvoice 43 = .ok (.invokevirtual 221, 3) := by decide +kernel
theorem dX11_writeInvoice_46 : decode cX11_writeInvoice 46 = .ok (.aload_n 0, 1) := by decide +kernel
theorem dX11_writeInvoice_47 : decode cX11_writeInvoice 47 = .ok (.getfield 25, 3) := by decide +kernel
theorem dX11_writeInvoice_50 : decode cX11_writeInvoice 50 = .ok (.aload 4, 2) := by decide +kernel
theorem dX11_writeInvoice_52 : decode cX11_writeInvoice 52 = .ok (.invokevirtual 189, 3) := by decide +kernel
theorem dX11_writeInvoice_55 : decode cX11_writeInvoice 55 = .ok (.pop, 1) := by decide +kernel
theorem dX11_writeInvoice_56 : decode cX11_writeInvoice 56 = .ok (.aload_n 1, 1) := by decide +kernel
theorem dX11_writeInvoice_57 : decode cX11_writeInvoice 57 = .ok (.aload 4, 2) := by decide +kernel
theorem dX11_writeInvoice_59 : decode cX11_writeInvoice 59 = .ok (.getfield 193, 3) := by decide +kernel
theorem dX11_writeInvoice_62 : decode cX11_writeInvoice 62 = .ok (.putfield 320, 3) := by decide +kernel
theorem dX11_writeInvoice_65 : decode cX11_writeInvoice 65 = .ok (.return_, 1) := by decide +kernel
theorem dX11_drawBill_0 : decode cX11_drawBill 0 = .ok (.aload_n 1, 1) := by decide +kernel
theorem dX11_drawBill_1 : decode cX11_drawBill 1 = .ok (.getfield 558, 3) := by decide +kernel
theorem dX11_drawBill_4 : decode cX11_drawBill 4 = .ok (.istore_n 3, 1) := by decide +kernel
theorem dX11_drawBill_5 : decode cX11_drawBill 5 = .ok (.aload_n 2, 1) := by decide +kernel
theorem dX11_drawBill_6 : decode cX11_drawBill 6 = .ok (.getfield 582, 3) := by decide +kernel
theorem dX11_drawBill_9 : decode cX11_drawBill 9 = .ok (.ifnull 17, 3) := by decide +kernel
theorem dX11_drawBill_12 : decode cX11_drawBill 12 = .ok (.aload_n 2, 1) := by decide +kernel
theorem dX11_drawBill_13 : decode cX11_drawBill 13 = .ok (.getfield 582, 3) := by decide +kernel
theorem dX11_drawBill_16 : decode cX11_drawBill 16 = .ok (.invokevirtual 357, 3) := by decide +kernel
theorem dX11_drawBill_19 : decode cX11_drawBill 19 = .ok (.ifCond .eq 7, 3) := by decide +kernel
theorem dX11_drawBill_22 : decode cX11_drawBill 22 = .ok (.iconst 1, 1) := by decide +kernel
theorem dX11_drawBill_23 : decode cX11_drawBill 23 = .ok (.goto 4, 3) := by decide +kernel
theorem dX11_drawBill_26 : decode cX11_drawBill 26 = .ok (.iconst 0, 1) := by decide +kernel
theorem dX11_drawBill_27 : decode cX11_drawBill 27 = .ok (.istore 4, 2) := by decide +kernel
theorem dX11_drawBill_29 : decode cX11_drawBill 29 = .ok (.aload_n 2, 1) := by decide +kernel
theorem dX11_drawBill_30 : decode cX11_drawBill 30 = .ok (.getfield 125, 3) := by decide +kernel
theorem dX11_drawBill_33 : decode cX11_drawBill 33 = .ok (.iload_n 3, 1) := by decide +kernel
theorem dX11_drawBill_34 : decode cX11_drawBill 34 = .ok (.if_icmp .ge 16, 3) := by decide +kernel
theorem dX11_drawBill_37 : decode cX11_drawBill 37 = .ok (.iload 4, 2) := by decide +kernel
theorem dX11_drawBill_39 : decode cX11_drawBill 39 = .ok (.ifCond .ne 11, 3) := by decide +kernel
theorem dX11_drawBill_42 : decode cX11_drawBill 42 = .ok (.aload_n 0, 1) := by decide +kernel
theorem dX11_drawBill_43 : decode cX11_drawBill 43 = .ok (.iconst 1, 1) := by decide +kernel
theorem dX11_drawBill_44 : decode cX11_drawBill 44 = .ok (.invokevirtual 164, 3) := by decide +kernel
theorem dX11_drawBill_47 : decode cX11_drawBill 47 = .ok (.ifCond .ne 4, 3) := by decide +kernel
theorem dX11_drawBill_50 : decode cX11_drawBill 50 = .ok (.return_, 1) := by decide +kernel
theorem dX11_drawBill_51 : decode cX11_drawBill 51 = .ok (.new 346, 3) := by decide +kernel
theorem dX11_drawBill_54 : decode cX11_drawBill 54 = .ok (.dup, 1) := by decide +kernel
theorem dX11_drawBill_55 : decode cX11_drawBill 55 = .ok (.aload_n 0, 1) := by decide +kernel
theorem dX11_drawBill_56 : decode cX11_drawBill 56 = .ok (.getfield 25, 3) := by decide +kernel
theorem dX11_drawBill_59 : decode cX11_drawBill 59 = .ok (.invokevirtual 169, 3) := by decide +kernel
theorem dX11_drawBill_62 : decode cX11_drawBill 62 = .ok (.aload_n 2, 1) := by decide +kernel
theorem dX11_drawBill_63 : decode cX11_drawBill 63 = .ok (.aload_n 0, 1) := by decide +kernel
theorem dX11_drawBill_64 : decode cX11_drawBill 64 = .ok (.getfield 173, 3) := by decide +kernel
theorem dX11_drawBill_67 : decode cX11_drawBill 67 = .ok (.iload_n 3, 1) := by decide +kernel
theorem dX11_drawBill_68 : decode cX11_drawBill 68 = .ok (.invokespecial 586, 3) := by decide +kernel
theorem dX11_drawBill_71 : decode cX11_drawBill 71 = .ok (.astore 5, 2) := by decide +kernel
theorem dX11_drawBill_73 : decode cX11_drawBill 73 = .ok (.aload_n 0, 1) := by decide +kernel
theorem dX11_drawBill_74 : decode cX11_drawBill 74 = .ok (.getfield 25, 3) := by decide +kernel
theorem dX11_drawBill_77 : decode cX11_drawBill 77 = .ok (.aload 5, 2) := by decide +kernel
theorem dX11_drawBill_79 : decode cX11_drawBill 79 = .ok (.invokevirtual 189, 3) := by decide +kernel
theorem dX11_drawBill_82 : decode cX11_drawBill 82 = .ok (.pop, 1) := by decide +kernel
theorem dX11_drawBill_83 : decode cX11_drawBill 83 = .ok (.aload_n 0, 1) := by decide +kernel
theorem dX11_drawBill_84 : decode cX11_drawBill 84 = .ok (.getfield 29, 3) := by decide +kernel
theorem dX11_drawBill_87 : decode cX11_drawBill 87 = .ok (.aload 5, 2) := by decide +kernel
theorem dX11_drawBill_89 : decode cX11_drawBill 89 = .ok (.invokevirtual 189, 3) := by decide +kernel
theorem dX11_drawBill_92 : decode cX11_drawBill 92 = .ok (.pop, 1) := by decide +kernel
theorem dX11_drawBill_93 : decode cX11_drawBill 93 = .ok (.aload_n 2, 1) := by decide +kernel
theorem dX11_drawBill_94 : decode cX11_drawBill 94 = .ok (.aload 5, 2) := by decide +kernel
theorem dX11_drawBill_96 : decode cX11_drawBill 96 = .ok (.putfield 582, 3) := by decide +kernel
theorem dX11_drawBill_99 : decode cX11_drawBill 99 = .ok (.aload_n 2, 1) := by decide +kernel
theorem dX11_drawBill_100 : decode cX11_drawBill 100 = .ok (.dup, 1) := by decide +kernel
theorem dX11_drawBill_101 : decode cX11_drawBill 101 = .ok (.getfield 125, 3) := by decide +kernel
theorem dX11_drawBill_104 : decode cX11_drawBill 104 = .ok (.iload_n 3, 1) := by decide +kernel
theorem dX11_drawBill_105 : decode cX11_drawBill 105 = .ok (.iadd, 1) := by decide +kernel
theorem dX11_drawBill_106 : decode cX11_drawBill 106 = .ok (.putfield 125, 3) := by decide +kernel
theorem dX11_drawBill_109 : decode cX11_drawBill 109 = .ok (.aload_n 0, 1) := by decide +kernel
theorem dX11_drawBill_110 : decode cX11_drawBill 110 = .ok (.aload_n 1, 1) := by decide +kernel
theorem dX11_drawBill_111 : decode cX11_drawBill 111 = .ok (.aload_n 2, 1) := by decide +kernel
theorem dX11_drawBill_112 : decode cX11_drawBill 112 = .ok (.aload 5, 2) := by decide +kernel
theorem dX11_drawBill_114 : decode cX11_drawBill 114 = .ok (.getfield 589, 3) := by decide +kernel
theorem dX11_drawBill_117 : decode cX11_drawBill 117 = .ok (.iload_n 3, 1) := by decide +kernel
theorem dX11_drawBill_118 : decode cX11_drawBill 118 = .ok (.invokevirtual 560, 3) := by decide +kernel
theorem dX11_drawBill_121 : decode cX11_drawBill 121 = .ok (.return_, 1) := by decide +kernel
theorem dX11_enterFor_0 : decode cX11_enterFor 0 = .ok (.aload_n 0, 1) := by decide +kernel
theorem dX11_enterFor_1 : decode cX11_enterFor 1 = .ok (.aload_n 2, 1) := by decide +kernel
theorem dX11_enterFor_2 : decode cX11_enterFor 2 = .ok (.getfield 497, 3) := by decide +kernel
theorem dX11_enterFor_5 : decode cX11_enterFor 5 = .ok (.aload_n 1, 1) := by decide +kernel
theorem dX11_enterFor_6 : decode cX11_enterFor 6 = .ok (.getfield 540, 3) := by decide +kernel
theorem dX11_enterFor_9 : decode cX11_enterFor 9 = .ok (.aload_n 1, 1) := by decide +kernel
theorem dX11_enterFor_10 : decode cX11_enterFor 10 = .ok (.getfield 559, 3) := by decide +kernel
theorem dX11_enterFor_13 : decode cX11_enterFor 13 = .ok (.iload_n 3, 1) := by decide +kernel
theorem dX11_enterFor_14 : decode cX11_enterFor 14 = .ok (.iload 4, 2) := by decide +kernel
theorem dX11_enterFor_16 : decode cX11_enterFor 16 = .ok (.aload_n 1, 1) := by decide +kernel
theorem dX11_enterFor_17 : decode cX11_enterFor 17 = .ok (.getfield 245, 3) := by decide +kernel
theorem dX11_enterFor_20 : decode cX11_enterFor 20 = .ok (.aload_n 1, 1) := by decide +kernel
theorem dX11_enterFor_21 : decode cX11_enterFor 21 = .ok (.getfield 248, 3) := by decide +kernel
theorem dX11_enterFor_24 : decode cX11_enterFor 24 = .ok (.invokevirtual 379, 3) := by decide +kernel
theorem dX11_enterFor_27 : decode cX11_enterFor 27 = .ok (.return_, 1) := by decide +kernel
theorem dX11_enter_0 : decode cX11_enter 0 = .ok (.aload_n 0, 1) := by decide +kernel
theorem dX11_enter_1 : decode cX11_enter 1 = .ok (.getfield 452, 3) := by decide +kernel
theorem dX11_enter_4 : decode cX11_enter 4 = .ok (.sipush 500, 3) := by decide +kernel
theorem dX11_enter_7 : decode cX11_enter 7 = .ok (.if_icmp .ge 99, 3) := by decide +kernel
theorem dX11_enter_10 : decode cX11_enter 10 = .ok (.aload_n 0, 1) := by decide +kernel
theorem dX11_enter_11 : decode cX11_enter 11 = .ok (.getfield 452, 3) := by decide +kernel
theorem dX11_enter_14 : decode cX11_enter 14 = .ok (.bipush 8, 2) := by decide +kernel
theorem dX11_enter_16 : decode cX11_enter 16 = .ok (.imul, 1) := by decide +kernel
theorem dX11_enter_17 : decode cX11_enter 17 = .ok (.istore 8, 2) := by decide +kernel
theorem dX11_enter_19 : decode cX11_enter 19 = .ok (.aload_n 0, 1) := by decide +kernel
theorem dX11_enter_20 : decode cX11_enter 20 = .ok (.getfield 41, 3) := by decide +kernel
theorem dX11_enter_23 : decode cX11_enter 23 = .ok (.iload 8, 2) := by decide +kernel
theorem dX11_enter_25 : decode cX11_enter 25 = .ok (.aload_n 0, 1) := by decide +kernel
theorem dX11_enter_26 : decode cX11_enter 26 = .ok (.getfield 173, 3) := by decide +kernel
theorem dX11_enter_29 : decode cX11_enter 29 = .ok (.iastore, 1) := by decide +kernel
theorem dX11_enter_30 : decode cX11_enter 30 = .ok (.aload_n 0, 1) := by decide +kernel
theorem dX11_enter_31 : decode cX11_enter 31 = .ok (.getfield 41, 3) := by decide +kernel
theorem dX11_enter_34 : decode cX11_enter 34 = .ok (.iload 8, 2) := by decide +kernel
theorem dX11_enter_36 : decode cX11_enter 36 = .ok (.iconst 1, 1) := by decide +kernel
theorem dX11_enter_37 : decode cX11_enter 37 = .ok (.iadd, 1) := by decide +kernel
theorem dX11_enter_38 : decode cX11_enter 38 = .ok (.iload_n 1, 1) := by decide +kernel
theorem dX11_enter_39 : decode cX11_enter 39 = .ok (.iastore, 1) := by decide +kernel
theorem dX11_enter_40 : decode cX11_enter 40 = .ok (.aload_n 0, 1) := by decide +kernel
theorem dX11_enter_41 : decode cX11_enter 41 = .ok (.getfield 41, 3) := by decide +kernel
theorem dX11_enter_44 : decode cX11_enter 44 = .ok (.iload 8, 2) := by decide +kernel
theorem dX11_enter_46 : decode cX11_enter 46 = .ok (.iconst 2, 1) := by decide +kernel
theorem dX11_enter_47 : decode cX11_enter 47 = .ok (.iadd, 1) := by decide +kernel
theorem dX11_enter_48 : decode cX11_enter 48 = .ok (.iload_n 2, 1) := by decide +kernel
theorem dX11_enter_49 : decode cX11_enter 49 = .ok (.iastore, 1) := by decide +kernel
theorem dX11_enter_50 : decode cX11_enter 50 = .ok (.aload_n 0, 1) := by decide +kernel
theorem dX11_enter_51 : decode cX11_enter 51 = .ok (.getfield 41, 3) := by decide +kernel
theorem dX11_enter_54 : decode cX11_enter 54 = .ok (.iload 8, 2) := by decide +kernel
theorem dX11_enter_56 : decode cX11_enter 56 = .ok (.iconst 3, 1) := by decide +kernel
theorem dX11_enter_57 : decode cX11_enter 57 = .ok (.iadd, 1) := by decide +kernel
theorem dX11_enter_58 : decode cX11_enter 58 = .ok (.iload_n 3, 1) := by decide +kernel
theorem dX11_enter_59 : decode cX11_enter 59 = .ok (.iastore, 1) := by decide +kernel
theorem dX11_enter_60 : decode cX11_enter 60 = .ok (.aload_n 0, 1) := by decide +kernel
theorem dX11_enter_61 : decode cX11_enter 61 = .ok (.getfield 41, 3) := by decide +kernel
theorem dX11_enter_64 : decode cX11_enter 64 = .ok (.iload 8, 2) := by decide +kernel
theorem dX11_enter_66 : decode cX11_enter 66 = .ok (.iconst 4, 1) := by decide +kernel
theorem dX11_enter_67 : decode cX11_enter 67 = .ok (.iadd, 1) := by decide +kernel
theorem dX11_enter_68 : decode cX11_enter 68 = .ok (.iload 4, 2) := by decide +kernel
theorem dX11_enter_70 : decode cX11_enter 70 = .ok (.iastore, 1) := by decide +kernel
theorem dX11_enter_71 : decode cX11_enter 71 = .ok (.aload_n 0, 1) := by decide +kernel
theorem dX11_enter_72 : decode cX11_enter 72 = .ok (.getfield 41, 3) := by decide +kernel
theorem dX11_enter_75 : decode cX11_enter 75 = .ok (.iload 8, 2) := by decide +kernel
theorem dX11_enter_77 : decode cX11_enter 77 = .ok (.iconst 5, 1) := by decide +kernel
theorem dX11_enter_78 : decode cX11_enter 78 = .ok (.iadd, 1) := by decide +kernel
theorem dX11_enter_79 : decode cX11_enter 79 = .ok (.iload 5, 2) := by decide +kernel
theorem dX11_enter_81 : decode cX11_enter 81 = .ok (.iastore, 1) := by decide +kernel
theorem dX11_enter_82 : decode cX11_enter 82 = .ok (.aload_n 0, 1) := by decide +kernel
theorem dX11_enter_83 : decode cX11_enter 83 = .ok (.getfield 41, 3) := by decide +kernel
theorem dX11_enter_86 : decode cX11_enter 86 = .ok (.iload 8, 2) := by decide +kernel
theorem dX11_enter_88 : decode cX11_enter 88 = .ok (.bipush 6, 2) := by decide +kernel
theorem dX11_enter_90 : decode cX11_enter 90 = .ok (.iadd, 1) := by decide +kernel
theorem dX11_enter_91 : decode cX11_enter 91 = .ok (.iload 6, 2) := by decide +kernel
theorem dX11_enter_93 : decode cX11_enter 93 = .ok (.iastore, 1) := by decide +kernel
theorem dX11_enter_94 : decode cX11_enter 94 = .ok (.aload_n 0, 1) := by decide +kernel
theorem dX11_enter_95 : decode cX11_enter 95 = .ok (.getfield 41, 3) := by decide +kernel
theorem dX11_enter_98 : decode cX11_enter 98 = .ok (.iload 8, 2) := by decide +kernel
theorem dX11_enter_100 : decode cX11_enter 100 = .ok (.bipush 7, 2) := by decide +kernel
theorem dX11_enter_102 : decode cX11_enter 102 = .ok (.iadd, 1) := by decide +kernel
theorem dX11_enter_103 : decode cX11_enter 103 = .ok (.iload 7, 2) := by decide +kernel
theorem dX11_enter_105 : decode cX11_enter 105 = .ok (.iastore, 1) := by decide +kernel
theorem dX11_enter_106 : decode cX11_enter 106 = .ok (.aload_n 0, 1) := by decide +kernel
theorem dX11_enter_107 : decode cX11_enter 107 = .ok (.dup, 1) := by decide +kernel
theorem dX11_enter_108 : decode cX11_enter 108 = .ok (.getfield 452, 3) := by decide +kernel
theorem dX11_enter_111 : decode cX11_enter 111 = .ok (.iconst 1, 1) := by decide +kernel
theorem dX11_enter_112 : decode cX11_enter 112 = .ok (.iadd, 1) := by decide +kernel
theorem dX11_enter_113 : decode cX11_enter 113 = .ok (.putfield 452, 3) := by decide +kernel
theorem dX11_enter_116 : decode cX11_enter 116 = .ok (.return_, 1) := by decide +kernel
theorem dX11_personsAt_0 : decode cX11_personsAt 0 = .ok (.iconst 0, 1) := by decide +kernel
theorem dX11_personsAt_1 : decode cX11_personsAt 1 = .ok (.istore_n 2, 1) := by decide +kernel
theorem dX11_personsAt_2 : decode cX11_personsAt 2 = .ok (.iconst 0, 1) := by decide +kernel
theorem dX11_personsAt_3 : decode cX11_personsAt 3 = .ok (.istore_n 3, 1) := by decide +kernel
theorem dX11_personsAt_4 : decode cX11_personsAt 4 = .ok (.iload_n 3, 1) := by decide +kernel
theorem dX11_personsAt_5 : decode cX11_personsAt 5 = .ok (.aload_n 0, 1) := by decide +kernel
theorem dX11_personsAt_6 : decode cX11_personsAt 6 = .ok (.getfield 132, 3) := by decide +kernel
theorem dX11_personsAt_9 : decode cX11_personsAt 9 = .ok (.if_icmp .ge 25, 3) := by decide +kernel
theorem dX11_personsAt_12 : decode cX11_personsAt 12 = .ok (.aload_n 0, 1) := by decide +kernel
theorem dX11_personsAt_13 : decode cX11_personsAt 13 = .ok (.getfield 15, 3) := by decide +kernel
theorem dX11_personsAt_16 : decode cX11_personsAt 16 = .ok (.iload_n 3, 1) := by decide +kernel
theorem dX11_personsAt_17 : decode cX11_personsAt 17 = .ok (.iaload, 1) := by decide +kernel
theorem dX11_personsAt_18 : decode cX11_personsAt 18 = .ok (.iload_n 1, 1) := by decide +kernel
theorem dX11_personsAt_19 : decode cX11_personsAt 19 = .ok (.if_icmp .ne 9, 3) := by decide +kernel
theorem dX11_personsAt_22 : decode cX11_personsAt 22 = .ok (.iload_n 2, 1) := by decide +kernel
theorem dX11_personsAt_23 : decode cX11_personsAt 23 = .ok (.iconst 1, 1) := by decide +kernel
theorem dX11_personsAt_24 : decode cX11_personsAt 24 = .ok (.iload_n 3, 1) := by decide +kernel
theorem dX11_personsAt_25 : decode cX11_personsAt 25 = .ok (.ishl, 1) := by decide +kernel
theorem dX11_personsAt_26 : decode cX11_personsAt 26 = .ok (.ior, 1) := by decide +kernel
theorem dX11_personsAt_27 : decode cX11_personsAt 27 = .ok (.istore_n 2, 1) := by decide +kernel
theorem dX11_personsAt_28 : decode cX11_personsAt 28 = .ok (.iinc 3 1, 3) := by decide +kernel
theorem dX11_personsAt_31 : decode cX11_personsAt 31 = .ok (.goto (-27), 3) := by decide +kernel
theorem dX11_personsAt_34 : decode cX11_personsAt 34 = .ok (.iload_n 2, 1) := by decide +kernel
theorem dX11_personsAt_35 : decode cX11_personsAt 35 = .ok (.ireturn, 1) := by decide +kernel
theorem dX11_carries_0 : decode cX11_carries 0 = .ok (.iload_n 2, 1) := by decide +kernel
theorem dX11_carries_1 : decode cX11_carries 1 = .ok (.iload_n 3, 1) := by decide +kernel
theorem dX11_carries_2 : decode cX11_carries 2 = .ok (.ior, 1) := by decide +kernel
theorem dX11_carries_3 : decode cX11_carries 3 = .ok (.istore 4, 2) := by decide +kernel
theorem dX11_carries_5 : decode cX11_carries 5 = .ok (.iload_n 2, 1) := by decide +kernel
theorem dX11_carries_6 : decode cX11_carries 6 = .ok (.iload_n 3, 1) := by decide +kernel
theorem dX11_carries_7 : decode cX11_carries 7 = .ok (.iand, 1) := by decide +kernel
theorem dX11_carries_8 : decode cX11_carries 8 = .ok (.ifCond .ne 17, 3) := by decide +kernel
theorem dX11_carries_11 : decode cX11_carries 11 = .ok (.iconst 2, 1) := by decide +kernel
theorem dX11_carries_12 : decode cX11_carries 12 = .ok (.iload 4, 2) := by decide +kernel
theorem dX11_carries_14 : decode cX11_carries 14 = .ok (.invokestatic 370, 3) := by decide +kernel
theorem dX11_carries_17 : decode cX11_carries 17 = .ok (.imul, 1) := by decide +kernel
theorem dX11_carries_18 : decode cX11_carries 18 = .ok (.iload_n 1, 1) := by decide +kernel
theorem dX11_carries_19 : decode cX11_carries 19 = .ok (.invokestatic 370, 3) := by decide +kernel
theorem dX11_carries_22 : decode cX11_carries 22 = .ok (.if_icmp .ge 5, 3) := by decide +kernel
theorem dX11_carries_25 : decode cX11_carries 25 = .ok (.iconst 0, 1) := by decide +kernel
theorem dX11_carries_26 : decode cX11_carries 26 = .ok (.ireturn, 1) := by decide +kernel
theorem dX11_carries_27 : decode cX11_carries 27 = .ok (.aload_n 0, 1) := by decide +kernel
theorem dX11_carries_28 : decode cX11_carries 28 = .ok (.iload_n 2, 1) := by decide +kernel
theorem dX11_carries_29 : decode cX11_carries 29 = .ok (.invokevirtual 590, 3) := by decide +kernel
theorem dX11_carries_32 : decode cX11_carries 32 = .ok (.aload_n 0, 1) := by decide +kernel
theorem dX11_carries_33 : decode cX11_carries 33 = .ok (.iload_n 3, 1) := by decide +kernel
theorem dX11_carries_34 : decode cX11_carries 34 = .ok (.invokevirtual 590, 3) := by decide +kernel
theorem dX11_carries_37 : decode cX11_carries 37 = .ok (.isub, 1) := by decide +kernel
theorem dX11_carries_38 : decode cX11_carries 38 = .ok (.istore 5, 2) := by decide +kernel
theorem dX11_carries_40 : decode cX11_carries 40 = .ok (.iload 5, 2) := by decide +kernel
theorem dX11_carries_42 : decode cX11_carries 42 = .ok (.ifCond .gt 27, 3) := by decide +kernel
theorem dX11_carries_45 : decode cX11_carries 45 = .ok (.iload 5, 2) := by decide +kernel
theorem dX11_carries_47 : decode cX11_carries 47 = .ok (.ifCond .ne 26, 3) := by decide +kernel
theorem dX11_carries_50 : decode cX11_carries 50 = .ok (.iload 4, 2) := by decide +kernel
theorem dX11_carries_52 : decode cX11_carries 52 = .ok (.ifCond .eq 21, 3) := by decide +kernel
theorem dX11_carries_55 : decode cX11_carries 55 = .ok (.aload_n 0, 1) := by decide +kernel
theorem dX11_carries_56 : decode cX11_carries 56 = .ok (.iload_n 2, 1) := by decide +kernel
theorem dX11_carries_57 : decode cX11_carries 57 = .ok (.invokevirtual 593, 3) := by decide +kernel
theorem dX11_carries_60 : decode cX11_carries 60 = .ok (.aload_n 0, 1) := by decide +kernel
theorem dX11_carries_61 : decode cX11_carries 61 = .ok (.iload 4, 2) := by decide +kernel
theorem dX11_carries_63 : decode cX11_carries 63 = .ok (.invokevirtual 593, 3) := by decide +kernel
theorem dX11_carries_66 : decode cX11_carries 66 = .ok (.if_icmp .ne 7, 3) := by decide +kernel
theorem dX11_carries_69 : decode cX11_carries 69 = .ok (.iconst 1, 1) := by decide +kernel
theorem dX11_carries_70 : decode cX11_carries 70 = .ok (.goto 4, 3) := by decide +kernel
theorem dX11_carries_73 : decode cX11_carries 73 = .ok (.iconst 0, 1) := by decide +kernel
theorem dX11_carries_74 : decode cX11_carries 74 = .ok (.ireturn, 1) := by decide +kernel
theorem dX11_weightOf_0 : decode cX11_weightOf 0 = .ok (.iconst 0, 1) := by decide +kernel
theorem dX11_weightOf_1 : decode cX11_weightOf 1 = .ok (.istore_n 2, 1) := by decide +kernel
theorem dX11_weightOf_2 : decode cX11_weightOf 2 = .ok (.iconst 0, 1) := by decide +kernel
theorem dX11_weightOf_3 : decode cX11_weightOf 3 = .ok (.istore_n 3, 1) := by decide +kernel
theorem dX11_weightOf_4 : decode cX11_weightOf 4 = .ok (.iload_n 3, 1) := by decide +kernel
theorem dX11_weightOf_5 : decode cX11_weightOf 5 = .ok (.aload_n 0, 1) := by decide +kernel
theorem dX11_weightOf_6 : decode cX11_weightOf 6 = .ok (.getfield 132, 3) := by decide +kernel
theorem dX11_weightOf_9 : decode cX11_weightOf 9 = .ok (.if_icmp .ge 28, 3) := by decide +kernel
theorem dX11_weightOf_12 : decode cX11_weightOf 12 = .ok (.iload_n 1, 1) := by decide +kernel
theorem dX11_weightOf_13 : decode cX11_weightOf 13 = .ok (.iload_n 3, 1) := by decide +kernel
theorem dX11_weightOf_14 : decode cX11_weightOf 14 = .ok (.ishr, 1) := by decide +kernel
theorem dX11_weightOf_15 : decode cX11_weightOf 15 = .ok (.iconst 1, 1) := by decide +kernel
theorem dX11_weightOf_16 : decode cX11_weightOf 16 = .ok (.iand, 1) := by decide +kernel
theorem dX11_weightOf_17 : decode cX11_weightOf 17 = .ok (.ifCond .eq 14, 3) := by decide +kernel
theorem dX11_weightOf_20 : decode cX11_weightOf 20 = .ok (.iload_n 2, 1) := by decide +kernel
theorem dX11_weightOf_21 : decode cX11_weightOf 21 = .ok (.aload_n 0, 1) := by decide +kernel
theorem dX11_weightOf_22 : decode cX11_weightOf 22 = .ok (.getfield 19, 3) := by decide +kernel
theorem dX11_weightOf_25 : decode cX11_weightOf 25 = .ok (.iload_n 3, 1) := by decide +kernel
theorem dX11_weightOf_26 : decode cX11_weightOf 26 = .ok (.iaload, 1) := by decide +kernel
theorem dX11_weightOf_27 : decode cX11_weightOf 27 = .ok (.iconst 1, 1) := by decide +kernel
theorem dX11_weightOf_28 : decode cX11_weightOf 28 = .ok (.iadd, 1) := by decide +kernel
theorem dX11_weightOf_29 : decode cX11_weightOf 29 = .ok (.iadd, 1) := by decide +kernel
theorem dX11_weightOf_30 : decode cX11_weightOf 30 = .ok (.istore_n 2, 1) := by decide +kernel
theorem dX11_weightOf_31 : decode cX11_weightOf 31 = .ok (.iinc 3 1, 3) := by decide +kernel
theorem dX11_weightOf_34 : decode cX11_weightOf 34 = .ok (.goto (-30), 3) := by decide +kernel
theorem dX11_weightOf_37 : decode cX11_weightOf 37 = .ok (.iload_n 2, 1) := by decide +kernel
theorem dX11_weightOf_38 : decode cX11_weightOf 38 = .ok (.ireturn, 1) := by decide +kernel
theorem dX11_greatestRank_0 : decode cX11_greatestRank 0 = .ok (.iconst (-1), 1) := by decide +kernel
theorem dX11_greatestRank_1 : decode cX11_greatestRank 1 = .ok (.istore_n 2, 1) := by decide +kernel
theorem dX11_greatestRank_2 : decode cX11_greatestRank 2 = .ok (.iconst 0, 1) := by decide +kernel
theorem dX11_greatestRank_3 : decode cX11_greatestRank 3 = .ok (.istore_n 3, 1) := by decide +kernel
theorem dX11_greatestRank_4 : decode cX11_greatestRank 4 = .ok (.iload_n 3, 1) := by decide +kernel
theorem dX11_greatestRank_5 : decode cX11_greatestRank 5 = .ok (.aload_n 0, 1) := by decide +kernel
theorem dX11_greatestRank_6 : decode cX11_greatestRank 6 = .ok (.getfield 132, 3) := by decide +kernel
theorem dX11_greatestRank_9 : decode cX11_greatestRank 9 = .ok (.if_icmp .ge 28, 3) := by decide +kernel
theorem dX11_greatestRank_12 : decode cX11_greatestRank 12 = .ok (.iload_n 1, 1) := by decide +kernel
theorem dX11_greatestRank_13 : decode cX11_greatestRank 13 = .ok (.iload_n 3, 1) := by decide +kernel
theorem dX11_greatestRank_14 : decode cX11_greatestRank 14 = .ok (.ishr, 1) := by decide +kernel
theorem dX11_greatestRank_15 : decode cX11_greatestRank 15 = .ok (.iconst 1, 1) := by decide +kernel
theorem dX11_greatestRank_16 : decode cX11_greatestRank 16 = .ok (.iand, 1) := by decide +kernel
theorem dX11_greatestRank_17 : decode cX11_greatestRank 17 = .ok (.ifCond .eq 14, 3) := by decide +kernel
theorem dX11_greatestRank_20 : decode cX11_greatestRank 20 = .ok (.iload_n 2, 1) := by decide +kernel
theorem dX11_greatestRank_21 : decode cX11_greatestRank 21 = .ok (.aload_n 0, 1) := by decide +kernel
theorem dX11_greatestRank_22 : decode cX11_greatestRank 22 = .ok (.getfield 19, 3) := by decide +kernel
theorem dX11_greatestRank_25 : decode cX11_greatestRank 25 = .ok (.iload_n 3, 1) := by decide +kernel
theorem dX11_greatestRank_26 : decode cX11_greatestRank 26 = .ok (.iaload, 1) := by decide +kernel
theorem dX11_greatestRank_27 : decode cX11_greatestRank 27 = .ok (.invokestatic 475, 3) := by decide +kernel
theorem dX11_greatestRank_30 : decode cX11_greatestRank 30 = .ok (.istore_n 2, 1) := by decide +kernel
theorem dX11_greatestRank_31 : decode cX11_greatestRank 31 = .ok (.iinc 3 1, 3) := by decide +kernel
theorem dX11_greatestRank_34 : decode cX11_greatestRank 34 = .ok (.goto (-30), 3) := by decide +kernel
theorem dX11_greatestRank_37 : decode cX11_greatestRank 37 = .ok (.iload_n 2, 1) := by decide +kernel
theorem dX11_greatestRank_38 : decode cX11_greatestRank 38 = .ok (.ireturn, 1) := by decide +kernel
theorem dX11_invoicedTo_0 : decode cX11_invoicedTo 0 = .ok (.iload_n 1, 1) := by decide +kernel
theorem dX11_invoicedTo_1 : decode cX11_invoicedTo 1 = .ok (.invokestatic 92, 3) := by decide +kernel
theorem dX11_invoicedTo_4 : decode cX11_invoicedTo 4 = .ok (.ifCond .eq 15, 3) := by decide +kernel
theorem dX11_invoicedTo_7 : decode cX11_invoicedTo 7 = .ok (.aload_n 0, 1) := by decide +kernel
theorem dX11_invoicedTo_8 : decode cX11_invoicedTo 8 = .ok (.getfield 11, 3) := by decide +kernel
theorem dX11_invoicedTo_11 : decode cX11_invoicedTo 11 = .ok (.iload_n 1, 1) := by decide +kernel
theorem dX11_invoicedTo_12 : decode cX11_invoicedTo 12 = .ok (.aaload, 1) := by decide +kernel
theorem dX11_invoicedTo_13 : decode cX11_invoicedTo 13 = .ok (.getfield 506, 3) := by decide +kernel
theorem dX11_invoicedTo_16 : decode cX11_invoicedTo 16 = .ok (.goto 4, 3) := by decide +kernel
theorem dX11_invoicedTo_19 : decode cX11_invoicedTo 19 = .ok (.iconst (-1), 1) := by decide +kernel
theorem dX11_invoicedTo_20 : decode cX11_invoicedTo 20 = .ok (.ireturn, 1) := by decide +kernel
theorem dX11_worstYear_0 : decode cX11_worstYear 0 = .ok (.aload_n 0, 1) := by decide +kernel
theorem dX11_worstYear_1 : decode cX11_worstYear 1 = .ok (.getfield 66, 3) := by decide +kernel
theorem dX11_worstYear_4 : decode cX11_worstYear 4 = .ok (.iconst 0, 1) := by decide +kernel
theorem dX11_worstYear_5 : decode cX11_worstYear 5 = .ok (.aaload, 1) := by decide +kernel
theorem dX11_worstYear_6 : decode cX11_worstYear 6 = .ok (.iload_n 1, 1) := by decide +kernel
theorem dX11_worstYear_7 : decode cX11_worstYear 7 = .ok (.iload_n 2, 1) := by decide +kernel
theorem dX11_worstYear_8 : decode cX11_worstYear 8 = .ok (.iload_n 3, 1) := by decide +kernel
theorem dX11_worstYear_9 : decode cX11_worstYear 9 = .ok (.iload 4, 2) := by decide +kernel
theorem dX11_worstYear_11 : decode cX11_worstYear 11 = .ok (.invokestatic 596, 3) := by decide +kernel
theorem dX11_worstYear_14 : decode cX11_worstYear 14 = .ok (.istore 5, 2) := by decide +kernel
theorem dX11_worstYear_16 : decode cX11_worstYear 16 = .ok (.iconst 1, 1) := by decide +kernel
theorem dX11_worstYear_17 : decode cX11_worstYear 17 = .ok (.istore 6, 2) := by decide +kernel
theorem dX11_worstYear_19 : decode cX11_worstYear 19 = .ok (.iload 6, 2) := by decide +kernel
theorem dX11_worstYear_21 : decode cX11_worstYear 21 = .ok (.iconst 4, 1) := by decide +kernel
theorem dX11_worstYear_22 : decode cX11_worstYear 22 = .ok (.if_icmp .ge 31, 3) := by decide +kernel
theorem dX11_worstYear_25 : decode cX11_worstYear 25 = .ok (.iload 5, 2) := by decide +kernel
theorem dX11_worstYear_27 : decode cX11_worstYear 27 = .ok (.aload_n 0, 1) := by decide +kernel
theorem dX11_worstYear_28 : decode cX11_worstYear 28 = .ok (.getfield 66, 3) := by decide +kernel
theorem dX11_worstYear_31 : decode cX11_worstYear 31 = .ok (.iload 6, 2) := by decide +kernel
theorem dX11_worstYear_33 : decode cX11_worstYear 33 = .ok (.aaload, 1) := by decide +kernel
theorem dX11_worstYear_34 : decode cX11_worstYear 34 = .ok (.iload_n 1, 1) := by decide +kernel
theorem dX11_worstYear_35 : decode cX11_worstYear 35 = .ok (.iload_n 2, 1) := by decide +kernel
theorem dX11_worstYear_36 : decode cX11_worstYear 36 = .ok (.iload_n 3, 1) := by decide +kernel
theorem dX11_worstYear_37 : decode cX11_worstYear 37 = .ok (.iload 4, 2) := by decide +kernel
theorem dX11_worstYear_39 : decode cX11_worstYear 39 = .ok (.invokestatic 596, 3) := by decide +kernel
theorem dX11_worstYear_42 : decode cX11_worstYear 42 = .ok (.invokestatic 441, 3) := by decide +kernel
theorem dX11_worstYear_45 : decode cX11_worstYear 45 = .ok (.istore 5, 2) := by decide +kernel
theorem dX11_worstYear_47 : decode cX11_worstYear 47 = .ok (.iinc 6 1, 3) := by decide +kernel
theorem dX11_worstYear_50 : decode cX11_worstYear 50 = .ok (.goto (-31), 3) := by decide +kernel
theorem dX11_worstYear_53 : decode cX11_worstYear 53 = .ok (.iload 5, 2) := by decide +kernel
theorem dX11_worstYear_55 : decode cX11_worstYear 55 = .ok (.ireturn, 1) := by decide +kernel
theorem dX11_lotsBring_0 : decode cX11_lotsBring 0 = .ok (.iload_n 1, 1) := by decide +kernel
theorem dX11_lotsBring_1 : decode cX11_lotsBring 1 = .ok (.aload_n 0, 1) := by decide +kernel
theorem dX11_lotsBring_2 : decode cX11_lotsBring 2 = .ok (.iconst 0, 1) := by decide +kernel
theorem dX11_lotsBring_3 : decode cX11_lotsBring 3 = .ok (.iaload, 1) := by decide +kernel
theorem dX11_lotsBring_4 : decode cX11_lotsBring 4 = .ok (.imul, 1) := by decide +kernel
theorem dX11_lotsBring_5 : decode cX11_lotsBring 5 = .ok (.iload_n 2, 1) := by decide +kernel
theorem dX11_lotsBring_6 : decode cX11_lotsBring 6 = .ok (.aload_n 0, 1) := by decide +kernel
theorem dX11_lotsBring_7 : decode cX11_lotsBring 7 = .ok (.iconst 1, 1) := by decide +kernel
theorem dX11_lotsBring_8 : decode cX11_lotsBring 8 = .ok (.iaload, 1) := by decide +kernel
theorem dX11_lotsBring_9 : decode cX11_lotsBring 9 = .ok (.imul, 1) := by decide +kernel
theorem dX11_lotsBring_10 : decode cX11_lotsBring 10 = .ok (.iadd, 1) := by decide +kernel
theorem dX11_lotsBring_11 : decode cX11_lotsBring 11 = .ok (.iload_n 3, 1) := by decide +kernel
theorem dX11_lotsBring_12 : decode cX11_lotsBring 12 = .ok (.aload_n 0, 1) := by decide +kernel
theorem dX11_lotsBring_13 : decode cX11_lotsBring 13 = .ok (.iconst 2, 1) := by decide +kernel
theorem dX11_lotsBring_14 : decode cX11_lotsBring 14 = .ok (.iaload, 1) := by decide +kernel
theorem dX11_lotsBring_15 : decode cX11_lotsBring 15 = .ok (.imul, 1) := by decide +kernel
theorem dX11_lotsBring_16 : decode cX11_lotsBring 16 = .ok (.iadd, 1) := by decide +kernel
theorem dX11_lotsBring_17 : decode cX11_lotsBring 17 = .ok (.iload 4, 2) := by decide +kernel
theorem dX11_lotsBring_19 : decode cX11_lotsBring 19 = .ok (.aload_n 0, 1) := by decide +kernel
theorem dX11_lotsBring_20 : decode cX11_lotsBring 20 = .ok (.iconst 3, 1) := by decide +kernel
theorem dX11_lotsBring_21 : decode cX11_lotsBring 21 = .ok (.iaload, 1) := by decide +kernel
theorem dX11_lotsBring_22 : decode cX11_lotsBring 22 = .ok (.imul, 1) := by decide +kernel
theorem dX11_lotsBring_23 : decode cX11_lotsBring 23 = .ok (.iadd, 1) := by decide +kernel
theorem dX11_lotsBring_24 : decode cX11_lotsBring 24 = .ok (.ireturn, 1) := by decide +kernel
theorem dX11_keepIfBetter_0 : decode cX11_keepIfBetter 0 = .ok (.iload_n 1, 1) := by decide +kernel
theorem dX11_keepIfBetter_1 : decode cX11_keepIfBetter 1 = .ok (.aload_n 0, 1) := by decide +kernel
theorem dX11_keepIfBetter_2 : decode cX11_keepIfBetter 2 = .ok (.iconst 0, 1) := by decide +kernel
theorem dX11_keepIfBetter_3 : decode cX11_keepIfBetter 3 = .ok (.iaload, 1) := by decide +kernel
theorem dX11_keepIfBetter_4 : decode cX11_keepIfBetter 4 = .ok (.if_icmp .le 25, 3) := by decide +kernel
theorem dX11_keepIfBetter_7 : decode cX11_keepIfBetter 7 = .ok (.aload_n 0, 1) := by decide +kernel
theorem dX11_keepIfBetter_8 : decode cX11_keepIfBetter 8 = .ok (.iconst 0, 1) := by decide +kernel
theorem dX11_keepIfBetter_9 : decode cX11_keepIfBetter 9 = .ok (.iload_n 1, 1) := by decide +kernel
theorem dX11_keepIfBetter_10 : decode cX11_keepIfBetter 10 = .ok (.iastore, 1) := by decide +kernel
theorem dX11_keepIfBetter_11 : decode cX11_keepIfBetter 11 = .ok (.aload_n 0, 1) := by decide +kernel
theorem dX11_keepIfBetter_12 : decode cX11_keepIfBetter 12 = .ok (.iconst 1, 1) := by decide +kernel
theorem dX11_keepIfBetter_13 : decode cX11_keepIfBetter 13 = .ok (.iload_n 2, 1) := by decide +kernel
theorem dX11_keepIfBetter_14 : decode cX11_keepIfBetter 14 = .ok (.iastore, 1) := by decide +kernel
theorem dX11_keepIfBetter_15 : decode cX11_keepIfBetter 15 = .ok (.aload_n 0, 1) := by decide +kernel
theorem dX11_keepIfBetter_16 : decode cX11_keepIfBetter 16 = .ok (.iconst 2, 1) := by decide +kernel
theorem dX11_keepIfBetter_17 : decode cX11_keepIfBetter 17 = .ok (.iload_n 3, 1) := by decide +kernel
theorem dX11_keepIfBetter_18 : decode cX11_keepIfBetter 18 = .ok (.iastore, 1) := by decide +kernel
theorem dX11_keepIfBetter_19 : decode cX11_keepIfBetter 19 = .ok (.aload_n 0, 1) := by decide +kernel
theorem dX11_keepIfBetter_20 : decode cX11_keepIfBetter 20 = .ok (.iconst 3, 1) := by decide +kernel
theorem dX11_keepIfBetter_21 : decode cX11_keepIfBetter 21 = .ok (.iload 4, 2) := by decide +kernel
theorem dX11_keepIfBetter_23 : decode cX11_keepIfBetter 23 = .ok (.iastore, 1) := by decide +kernel
theorem dX11_keepIfBetter_24 : decode cX11_keepIfBetter 24 = .ok (.aload_n 0, 1) := by decide +kernel
theorem dX11_keepIfBetter_25 : decode cX11_keepIfBetter 25 = .ok (.iconst 4, 1) := by decide +kernel
theorem dX11_keepIfBetter_26 : decode cX11_keepIfBetter 26 = .ok (.iload 5, 2) := by decide +kernel
theorem dX11_keepIfBetter_28 : decode cX11_keepIfBetter 28 = .ok (.iastore, 1) := by decide +kernel
theorem dX11_keepIfBetter_29 : decode cX11_keepIfBetter 29 = .ok (.return_, 1) := by decide +kernel
theorem dX11_isUnder_0 : decode cX11_isUnder 0 = .ok (.iload_n 0, 1) := by decide +kernel
theorem dX11_isUnder_1 : decode cX11_isUnder 1 = .ok (.istore_n 2, 1) := by decide +kernel
theorem dX11_isUnder_2 : decode cX11_isUnder 2 = .ok (.iconst 0, 1) := by decide +kernel
theorem dX11_isUnder_3 : decode cX11_isUnder 3 = .ok (.istore_n 3, 1) := by decide +kernel
theorem dX11_isUnder_4 : decode cX11_isUnder 4 = .ok (.iload_n 3, 1) := by decide +kernel
theorem dX11_isUnder_5 : decode cX11_isUnder 5 = .ok (.bipush 7, 2) := by decide +kernel
theorem dX11_isUnder_7 : decode cX11_isUnder 7 = .ok (.if_icmp .ge 32, 3) := by decide +kernel
theorem dX11_isUnder_10 : decode cX11_isUnder 10 = .ok (.iload_n 2, 1) := by decide +kernel
theorem dX11_isUnder_11 : decode cX11_isUnder 11 = .ok (.ifCond .lt 28, 3) := by decide +kernel
theorem dX11_isUnder_14 : decode cX11_isUnder 14 = .ok (.iload_n 2, 1) := by decide +kernel
theorem dX11_isUnder_15 : decode cX11_isUnder 15 = .ok (.bipush 7, 2) := by decide +kernel
theorem dX11_isUnder_17 : decode cX11_isUnder 17 = .ok (.if_icmp .ge 22, 3) := by decide +kernel
theorem dX11_isUnder_20 : decode cX11_isUnder 20 = .ok (.iload_n 2, 1) := by decide +kernel
theorem dX11_isUnder_21 : decode cX11_isUnder 21 = .ok (.iload_n 1, 1) := by decide +kernel
theorem dX11_isUnder_22 : decode cX11_isUnder 22 = .ok (.if_icmp .ne 5, 3) := by decide +kernel
theorem dX11_isUnder_25 : decode cX11_isUnder 25 = .ok (.iconst 1, 1) := by decide +kernel
theorem dX11_isUnder_26 : decode cX11_isUnder 26 = .ok (.ireturn, 1) := by decide +kernel
theorem dX11_isUnder_27 : decode cX11_isUnder 27 = .ok (.getstatic 600, 3) := by decide +kernel
theorem dX11_isUnder_30 : decode cX11_isUnder 30 = .ok (.iload_n 2, 1) := by decide +kernel
theorem dX11_isUnder_31 : decode cX11_isUnder 31 = .ok (.iaload, 1) := by decide +kernel
theorem dX11_isUnder_32 : decode cX11_isUnder 32 = .ok (.istore_n 2, 1) := by decide +kernel
theorem dX11_isUnder_33 : decode cX11_isUnder 33 = .ok (.iinc 3 1, 3) := by decide +kernel
theorem dX11_isUnder_36 : decode cX11_isUnder 36 = .ok (.goto (-32), 3) := by decide +kernel
theorem dX11_isUnder_39 : decode cX11_isUnder 39 = .ok (.iconst 0, 1) := by decide +kernel
theorem dX11_isUnder_40 : decode cX11_isUnder 40 = .ok (.ireturn, 1) := by decide +kernel
