theorem dX0_init_0 : decode cX0_init 0 = .ok (.aload_n 0, 1) := by decide +kernel
theorem dX0_init_1 : decode cX0_init 1 = .ok (.invokespecial 3, 3) := by decide +kernel
theorem dX0_init_4 : decode cX0_init 4 = .ok (.aload_n 0, 1) := by decide +kernel
theorem dX0_init_5 : decode cX0_init 5 = .ok (.new 9, 3) := by decide +kernel
theorem dX0_init_8 : decode cX0_init 8 = .ok (.dup, 1) := by decide +kernel
theorem dX0_init_9 : decode cX0_init 9 = .ok (.invokespecial 11, 3) := by decide +kernel
theorem dX0_init_12 : decode cX0_init 12 = .ok (.putfield 12, 3) := by decide +kernel
theorem dX0_init_15 : decode cX0_init 15 = .ok (.aload_n 0, 1) := by decide +kernel
theorem dX0_init_16 : decode cX0_init 16 = .ok (.getfield 12, 3) := by decide +kernel
theorem dX0_init_19 : decode cX0_init 19 = .ok (.aload_n 1, 1) := by decide +kernel
theorem dX0_init_20 : decode cX0_init 20 = .ok (.invokevirtual 18, 3) := by decide +kernel
theorem dX0_init_23 : decode cX0_init 23 = .ok (.aload_n 0, 1) := by decide +kernel
theorem dX0_init_24 : decode cX0_init 24 = .ok (.iconst 0, 1) := by decide +kernel
theorem dX0_init_25 : decode cX0_init 25 = .ok (.putfield 22, 3) := by decide +kernel
theorem dX0_init_28 : decode cX0_init 28 = .ok (.return_, 1) := by decide +kernel
theorem dX0_receiptsPriceOf_0 : decode cX0_receiptsPriceOf 0 = .ok (.iconst 0, 1) := by decide +kernel
theorem dX0_receiptsPriceOf_1 : decode cX0_receiptsPriceOf 1 = .ok (.istore_n 2, 1) := by decide +kernel
theorem dX0_receiptsPriceOf_2 : decode cX0_receiptsPriceOf 2 = .ok (.iconst 1, 1) := by decide +kernel
theorem dX0_receiptsPriceOf_3 : decode cX0_receiptsPriceOf 3 = .ok (.istore_n 3, 1) := by decide +kernel
theorem dX0_receiptsPriceOf_4 : decode cX0_receiptsPriceOf 4 = .ok (.iload_n 3, 1) := by decide +kernel
theorem dX0_receiptsPriceOf_5 : decode cX0_receiptsPriceOf 5 = .ok (.aload_n 0, 1) := by decide +kernel
theorem dX0_receiptsPriceOf_6 : decode cX0_receiptsPriceOf 6 = .ok (.getfield 26, 3) := by decide +kernel
theorem dX0_receiptsPriceOf_9 : decode cX0_receiptsPriceOf 9 = .ok (.if_icmp .gt 32, 3) := by decide +kernel
theorem dX0_receiptsPriceOf_12 : decode cX0_receiptsPriceOf 12 = .ok (.aload_n 0, 1) := by decide +kernel
theorem dX0_receiptsPriceOf_13 : decode cX0_receiptsPriceOf 13 = .ok (.getfield 12, 3) := by decide +kernel
theorem dX0_receiptsPriceOf_16 : decode cX0_receiptsPriceOf 16 = .ok (.iload_n 3, 1) := by decide +kernel
theorem dX0_receiptsPriceOf_17 : decode cX0_receiptsPriceOf 17 = .ok (.invokevirtual 29, 3) := by decide +kernel
theorem dX0_receiptsPriceOf_20 : decode cX0_receiptsPriceOf 20 = .ok (.iload_n 1, 1) := by decide +kernel
theorem dX0_receiptsPriceOf_21 : decode cX0_receiptsPriceOf 21 = .ok (.if_icmp .ne 14, 3) := by decide +kernel
theorem dX0_receiptsPriceOf_24 : decode cX0_receiptsPriceOf 24 = .ok (.iload_n 2, 1) := by decide +kernel
theorem dX0_receiptsPriceOf_25 : decode cX0_receiptsPriceOf 25 = .ok (.aload_n 0, 1) := by decide +kernel
theorem dX0_receiptsPriceOf_26 : decode cX0_receiptsPriceOf 26 = .ok (.getfield 12, 3) := by decide +kernel
theorem dX0_receiptsPriceOf_29 : decode cX0_receiptsPriceOf 29 = .ok (.iload_n 3, 1) := by decide +kernel
theorem dX0_receiptsPriceOf_30 : decode cX0_receiptsPriceOf 30 = .ok (.invokevirtual 33, 3) := by decide +kernel
theorem dX0_receiptsPriceOf_33 : decode cX0_receiptsPriceOf 33 = .ok (.iadd, 1) := by decide +kernel
theorem dX0_receiptsPriceOf_34 : decode cX0_receiptsPriceOf 34 = .ok (.istore_n 2, 1) := by decide +kernel
theorem dX0_receiptsPriceOf_35 : decode cX0_receiptsPriceOf 35 = .ok (.iinc 3 1, 3) := by decide +kernel
theorem dX0_receiptsPriceOf_38 : decode cX0_receiptsPriceOf 38 = .ok (.goto (-34), 3) := by decide +kernel
theorem dX0_receiptsPriceOf_41 : decode cX0_receiptsPriceOf 41 = .ok (.iload_n 2, 1) := by decide +kernel
theorem dX0_receiptsPriceOf_42 : decode cX0_receiptsPriceOf 42 = .ok (.ireturn, 1) := by decide +kernel
theorem dX1_init_0 : decode cX1_init 0 = .ok (.aload_n 0, 1) := by decide +kernel
theorem dX1_init_1 : decode cX1_init 1 = .ok (.invokespecial 3, 3) := by decide +kernel
theorem dX1_init_4 : decode cX1_init 4 = .ok (.aload_n 0, 1) := by decide +kernel
theorem dX1_init_5 : decode cX1_init 5 = .ok (.iload_n 1, 1) := by decide +kernel
theorem dX1_init_6 : decode cX1_init 6 = .ok (.putfield 9, 3) := by decide +kernel
theorem dX1_init_9 : decode cX1_init 9 = .ok (.aload_n 0, 1) := by decide +kernel
theorem dX1_init_10 : decode cX1_init 10 = .ok (.iload_n 2, 1) := by decide +kernel
theorem dX1_init_11 : decode cX1_init 11 = .ok (.putfield 15, 3) := by decide +kernel
theorem dX1_init_14 : decode cX1_init 14 = .ok (.aload_n 0, 1) := by decide +kernel
theorem dX1_init_15 : decode cX1_init 15 = .ok (.iload_n 3, 1) := by decide +kernel
theorem dX1_init_16 : decode cX1_init 16 = .ok (.putfield 18, 3) := by decide +kernel
theorem dX1_init_19 : decode cX1_init 19 = .ok (.aload_n 0, 1) := by decide +kernel
theorem dX1_init_20 : decode cX1_init 20 = .ok (.bipush 50, 2) := by decide +kernel
theorem dX1_init_22 : decode cX1_init 22 = .ok (.putfield 21, 3) := by decide +kernel
theorem dX1_init_25 : decode cX1_init 25 = .ok (.aload_n 0, 1) := by decide +kernel
theorem dX1_init_26 : decode cX1_init 26 = .ok (.iconst 0, 1) := by decide +kernel
theorem dX1_init_27 : decode cX1_init 27 = .ok (.putfield 24, 3) := by decide +kernel
theorem dX1_init_30 : decode cX1_init 30 = .ok (.aload_n 0, 1) := by decide +kernel
theorem dX1_init_31 : decode cX1_init 31 = .ok (.iconst (-1), 1) := by decide +kernel
theorem dX1_init_32 : decode cX1_init 32 = .ok (.putfield 27, 3) := by decide +kernel
theorem dX1_init_35 : decode cX1_init 35 = .ok (.return_, 1) := by decide +kernel
theorem dX1_isLinkedTo_0 : decode cX1_isLinkedTo 0 = .ok (.aload_n 0, 1) := by decide +kernel
theorem dX1_isLinkedTo_1 : decode cX1_isLinkedTo 1 = .ok (.getfield 30, 3) := by decide +kernel
theorem dX1_isLinkedTo_4 : decode cX1_isLinkedTo 4 = .ok (.iload_n 1, 1) := by decide +kernel
theorem dX1_isLinkedTo_5 : decode cX1_isLinkedTo 5 = .ok (.ishr, 1) := by decide +kernel
theorem dX1_isLinkedTo_6 : decode cX1_isLinkedTo 6 = .ok (.iconst 1, 1) := by decide +kernel
theorem dX1_isLinkedTo_7 : decode cX1_isLinkedTo 7 = .ok (.iand, 1) := by decide +kernel
theorem dX1_isLinkedTo_8 : decode cX1_isLinkedTo 8 = .ok (.ifCond .eq 7, 3) := by decide +kernel
theorem dX1_isLinkedTo_11 : decode cX1_isLinkedTo 11 = .ok (.iconst 1, 1) := by decide +kernel
theorem dX1_isLinkedTo_12 : decode cX1_isLinkedTo 12 = .ok (.goto 4, 3) := by decide +kernel
theorem dX1_isLinkedTo_15 : decode cX1_isLinkedTo 15 = .ok (.iconst 0, 1) := by decide +kernel
theorem dX1_isLinkedTo_16 : decode cX1_isLinkedTo 16 = .ok (.ireturn, 1) := by decide +kernel
theorem dX1_setLinkTo_0 : decode cX1_setLinkTo 0 = .ok (.iconst 1, 1) := by decide +kernel
theorem dX1_setLinkTo_1 : decode cX1_setLinkTo 1 = .ok (.iload_n 1, 1) := by decide +kernel
theorem dX1_setLinkTo_2 : decode cX1_setLinkTo 2 = .ok (.ishl, 1) := by decide +kernel
theorem dX1_setLinkTo_3 : decode cX1_setLinkTo 3 = .ok (.istore_n 3, 1) := by decide +kernel
theorem dX1_setLinkTo_4 : decode cX1_setLinkTo 4 = .ok (.aload_n 0, 1) := by decide +kernel
theorem dX1_setLinkTo_5 : decode cX1_setLinkTo 5 = .ok (.iload_n 2, 1) := by decide +kernel
theorem dX1_setLinkTo_6 : decode cX1_setLinkTo 6 = .ok (.ifCond .eq 12, 3) := by decide +kernel
theorem dX1_setLinkTo_9 : decode cX1_setLinkTo 9 = .ok (.aload_n 0, 1) := by decide +kernel
theorem dX1_setLinkTo_10 : decode cX1_setLinkTo 10 = .ok (.getfield 30, 3) := by decide +kernel
theorem dX1_setLinkTo_13 : decode cX1_setLinkTo 13 = .ok (.iload_n 3, 1) := by decide +kernel
theorem dX1_setLinkTo_14 : decode cX1_setLinkTo 14 = .ok (.ior, 1) := by decide +kernel
theorem dX1_setLinkTo_15 : decode cX1_setLinkTo 15 = .ok (.goto 11, 3) := by decide +kernel
theorem dX1_setLinkTo_18 : decode cX1_setLinkTo 18 = .ok (.aload_n 0, 1) := by decide +kernel
theorem dX1_setLinkTo_19 : decode cX1_setLinkTo 19 = .ok (.getfield 30, 3) := by decide +kernel
theorem dX1_setLinkTo_22 : decode cX1_setLinkTo 22 = .ok (.iload_n 3, 1) := by decide +kernel
theorem dX1_setLinkTo_23 : decode cX1_setLinkTo 23 = .ok (.iconst (-1), 1) := by decide +kernel
theorem dX1_setLinkTo_24 : decode cX1_setLinkTo 24 = .ok (.ixor, 1) := by decide +kernel
theorem dX1_setLinkTo_25 : decode cX1_setLinkTo 25 = .ok (.iand, 1) := by decide +kernel
theorem dX1_setLinkTo_26 : decode cX1_setLinkTo 26 = .ok (.putfield 30, 3) := by decide +kernel
theorem dX1_setLinkTo_29 : decode cX1_setLinkTo 29 = .ok (.return_, 1) := by decide +kernel
theorem dX1_relays_0 : decode cX1_relays 0 = .ok (.aload_n 0, 1) := by decide +kernel
theorem dX1_relays_1 : decode cX1_relays 1 = .ok (.getfield 24, 3) := by decide +kernel
theorem dX1_relays_4 : decode cX1_relays 4 = .ok (.ifCond .ne 20, 3) := by decide +kernel
theorem dX1_relays_7 : decode cX1_relays 7 = .ok (.aload_n 0, 1) := by decide +kernel
theorem dX1_relays_8 : decode cX1_relays 8 = .ok (.getfield 15, 3) := by decide +kernel
theorem dX1_relays_11 : decode cX1_relays 11 = .ok (.iconst 2, 1) := by decide +kernel
theorem dX1_relays_12 : decode cX1_relays 12 = .ok (.aload_n 0, 1) := by decide +kernel
theorem dX1_relays_13 : decode cX1_relays 13 = .ok (.getfield 18, 3) := by decide +kernel
theorem dX1_relays_16 : decode cX1_relays 16 = .ok (.imul, 1) := by decide +kernel
theorem dX1_relays_17 : decode cX1_relays 17 = .ok (.if_icmp .lt 7, 3) := by decide +kernel
theorem dX1_relays_20 : decode cX1_relays 20 = .ok (.iconst 1, 1) := by decide +kernel
theorem dX1_relays_21 : decode cX1_relays 21 = .ok (.goto 4, 3) := by decide +kernel
theorem dX1_relays_24 : decode cX1_relays 24 = .ok (.iconst 0, 1) := by decide +kernel
theorem dX1_relays_25 : decode cX1_relays 25 = .ok (.ireturn, 1) := by decide +kernel
theorem dX1_weight_0 : decode cX1_weight 0 = .ok (.aload_n 0, 1) := by decide +kernel
theorem dX1_weight_1 : decode cX1_weight 1 = .ok (.getfield 18, 3) := by decide +kernel
theorem dX1_weight_4 : decode cX1_weight 4 = .ok (.bipush 100, 2) := by decide +kernel
theorem dX1_weight_6 : decode cX1_weight 6 = .ok (.aload_n 0, 1) := by decide +kernel
theorem dX1_weight_7 : decode cX1_weight 7 = .ok (.getfield 21, 3) := by decide +kernel
theorem dX1_weight_10 : decode cX1_weight 10 = .ok (.isub, 1) := by decide +kernel
theorem dX1_weight_11 : decode cX1_weight 11 = .ok (.bipush 10, 2) := by decide +kernel
theorem dX1_weight_13 : decode cX1_weight 13 = .ok (.idiv, 1) := by decide +kernel
theorem dX1_weight_14 : decode cX1_weight 14 = .ok (.iadd, 1) := by decide +kernel
theorem dX1_weight_15 : decode cX1_weight 15 = .ok (.ireturn, 1) := by decide +kernel
theorem dX1_moveToStake_0 : decode cX1_moveToStake 0 = .ok (.aload_n 0, 1) := by decide +kernel
theorem dX1_moveToStake_1 : decode cX1_moveToStake 1 = .ok (.dup, 1) := by decide +kernel
theorem dX1_moveToStake_2 : decode cX1_moveToStake 2 = .ok (.getfield 9, 3) := by decide +kernel
theorem dX1_moveToStake_5 : decode cX1_moveToStake 5 = .ok (.iload_n 1, 1) := by decide +kernel
theorem dX1_moveToStake_6 : decode cX1_moveToStake 6 = .ok (.isub, 1) := by decide +kernel
theorem dX1_moveToStake_7 : decode cX1_moveToStake 7 = .ok (.putfield 9, 3) := by decide +kernel
theorem dX1_moveToStake_10 : decode cX1_moveToStake 10 = .ok (.aload_n 0, 1) := by decide +kernel
theorem dX1_moveToStake_11 : decode cX1_moveToStake 11 = .ok (.dup, 1) := by decide +kernel
theorem dX1_moveToStake_12 : decode cX1_moveToStake 12 = .ok (.getfield 15, 3) := by decide +kernel
theorem dX1_moveToStake_15 : decode cX1_moveToStake 15 = .ok (.iload_n 1, 1) := by decide +kernel
theorem dX1_moveToStake_16 : decode cX1_moveToStake 16 = .ok (.iadd, 1) := by decide +kernel
theorem dX1_moveToStake_17 : decode cX1_moveToStake 17 = .ok (.putfield 15, 3) := by decide +kernel
theorem dX1_moveToStake_20 : decode cX1_moveToStake 20 = .ok (.return_, 1) := by decide +kernel
theorem dX1_takeStake_0 : decode cX1_takeStake 0 = .ok (.aload_n 0, 1) := by decide +kernel
theorem dX1_takeStake_1 : decode cX1_takeStake 1 = .ok (.getfield 15, 3) := by decide +kernel
theorem dX1_takeStake_4 : decode cX1_takeStake 4 = .ok (.iload_n 1, 1) := by decide +kernel
theorem dX1_takeStake_5 : decode cX1_takeStake 5 = .ok (.invokestatic 33, 3) := by decide +kernel
theorem dX1_takeStake_8 : decode cX1_takeStake 8 = .ok (.istore_n 2, 1) := by decide +kernel
theorem dX1_takeStake_9 : decode cX1_takeStake 9 = .ok (.aload_n 0, 1) := by decide +kernel
theorem dX1_takeStake_10 : decode cX1_takeStake 10 = .ok (.dup, 1) := by decide +kernel
theorem dX1_takeStake_11 : decode cX1_takeStake 11 = .ok (.getfield 15, 3) := by decide +kernel
theorem dX1_takeStake_14 : decode cX1_takeStake 14 = .ok (.iload_n 2, 1) := by decide +kernel
theorem dX1_takeStake_15 : decode cX1_takeStake 15 = .ok (.isub, 1) := by decide +kernel
theorem dX1_takeStake_16 : decode cX1_takeStake 16 = .ok (.putfield 15, 3) := by decide +kernel
theorem dX1_takeStake_19 : decode cX1_takeStake 19 = .ok (.iload_n 2, 1) := by decide +kernel
theorem dX1_takeStake_20 : decode cX1_takeStake 20 = .ok (.ireturn, 1) := by decide +kernel
theorem dX1_raiseTrust_0 : decode cX1_raiseTrust 0 = .ok (.aload_n 0, 1) := by decide +kernel
theorem dX1_raiseTrust_1 : decode cX1_raiseTrust 1 = .ok (.bipush 100, 2) := by decide +kernel
theorem dX1_raiseTrust_3 : decode cX1_raiseTrust 3 = .ok (.aload_n 0, 1) := by decide +kernel
theorem dX1_raiseTrust_4 : decode cX1_raiseTrust 4 = .ok (.getfield 21, 3) := by decide +kernel
theorem dX1_raiseTrust_7 : decode cX1_raiseTrust 7 = .ok (.iload_n 1, 1) := by decide +kernel
theorem dX1_raiseTrust_8 : decode cX1_raiseTrust 8 = .ok (.iadd, 1) := by decide +kernel
theorem dX1_raiseTrust_9 : decode cX1_raiseTrust 9 = .ok (.invokestatic 33, 3) := by decide +kernel
theorem dX1_raiseTrust_12 : decode cX1_raiseTrust 12 = .ok (.putfield 21, 3) := by decide +kernel
theorem dX1_raiseTrust_15 : decode cX1_raiseTrust 15 = .ok (.return_, 1) := by decide +kernel
theorem dX1_lowerTrust_0 : decode cX1_lowerTrust 0 = .ok (.aload_n 0, 1) := by decide +kernel
theorem dX1_lowerTrust_1 : decode cX1_lowerTrust 1 = .ok (.iconst 0, 1) := by decide +kernel
theorem dX1_lowerTrust_2 : decode cX1_lowerTrust 2 = .ok (.aload_n 0, 1) := by decide +kernel
theorem dX1_lowerTrust_3 : decode cX1_lowerTrust 3 = .ok (.getfield 21, 3) := by decide +kernel
theorem dX1_lowerTrust_6 : decode cX1_lowerTrust 6 = .ok (.iload_n 1, 1) := by decide +kernel
theorem dX1_lowerTrust_7 : decode cX1_lowerTrust 7 = .ok (.isub, 1) := by decide +kernel
theorem dX1_lowerTrust_8 : decode cX1_lowerTrust 8 = .ok (.invokestatic 39, 3) := by decide +kernel
theorem dX1_lowerTrust_11 : decode cX1_lowerTrust 11 = .ok (.putfield 21, 3) := by decide +kernel
theorem dX1_lowerTrust_14 : decode cX1_lowerTrust 14 = .ok (.return_, 1) := by decide +kernel
theorem dX1_beGone_0 : decode cX1_beGone 0 = .ok (.aload_n 0, 1) := by decide +kernel
theorem dX1_beGone_1 : decode cX1_beGone 1 = .ok (.iconst 2, 1) := by decide +kernel
theorem dX1_beGone_2 : decode cX1_beGone 2 = .ok (.putfield 24, 3) := by decide +kernel
theorem dX1_beGone_5 : decode cX1_beGone 5 = .ok (.aload_n 0, 1) := by decide +kernel
theorem dX1_beGone_6 : decode cX1_beGone 6 = .ok (.iconst (-1), 1) := by decide +kernel
theorem dX1_beGone_7 : decode cX1_beGone 7 = .ok (.putfield 27, 3) := by decide +kernel
theorem dX1_beGone_10 : decode cX1_beGone 10 = .ok (.aload_n 0, 1) := by decide +kernel
theorem dX1_beGone_11 : decode cX1_beGone 11 = .ok (.dup, 1) := by decide +kernel
theorem dX1_beGone_12 : decode cX1_beGone 12 = .ok (.getfield 9, 3) := by decide +kernel
theorem dX1_beGone_15 : decode cX1_beGone 15 = .ok (.aload_n 0, 1) := by decide +kernel
theorem dX1_beGone_16 : decode cX1_beGone 16 = .ok (.getfield 15, 3) := by decide +kernel
theorem dX1_beGone_19 : decode cX1_beGone 19 = .ok (.iadd, 1) := by decide +kernel
theorem dX1_beGone_20 : decode cX1_beGone 20 = .ok (.putfield 9, 3) := by decide +kernel
theorem dX1_beGone_23 : decode cX1_beGone 23 = .ok (.aload_n 0, 1) := by decide +kernel
theorem dX1_beGone_24 : decode cX1_beGone 24 = .ok (.iconst 0, 1) := by decide +kernel
theorem dX1_beGone_25 : decode cX1_beGone 25 = .ok (.putfield 15, 3) := by decide +kernel
theorem dX1_beGone_28 : decode cX1_beGone 28 = .ok (.return_, 1) := by decide +kernel
theorem dX2_init_0 : decode cX2_init 0 = .ok (.aload_n 0, 1) := by decide +kernel
theorem dX2_init_1 : decode cX2_init 1 = .ok (.invokespecial 3, 3) := by decide +kernel
theorem dX2_init_4 : decode cX2_init 4 = .ok (.aload_n 0, 1) := by decide +kernel
theorem dX2_init_5 : decode cX2_init 5 = .ok (.bipush 11, 2) := by decide +kernel
theorem dX2_init_7 : decode cX2_init 7 = .ok (.newarray .int, 2) := by decide +kernel
theorem dX2_init_9 : decode cX2_init 9 = .ok (.putfield 11, 3) := by decide +kernel
theorem dX2_init_12 : decode cX2_init 12 = .ok (.aload_n 0, 1) := by decide +kernel
theorem dX2_init_13 : decode cX2_init 13 = .ok (.bipush 11, 2) := by decide +kernel
theorem dX2_init_15 : decode cX2_init 15 = .ok (.newarray .boolean, 2) := by decide +kernel
theorem dX2_init_17 : decode cX2_init 17 = .ok (.putfield 15, 3) := by decide +kernel
theorem dX2_init_20 : decode cX2_init 20 = .ok (.aload_n 0, 1) := by decide +kernel
theorem dX2_init_21 : decode cX2_init 21 = .ok (.bipush 11, 2) := by decide +kernel
theorem dX2_init_23 : decode cX2_init 23 = .ok (.newarray .boolean, 2) := by decide +kernel
theorem dX2_init_25 : decode cX2_init 25 = .ok (.putfield 19, 3) := by decide +kernel
theorem dX2_init_28 : decode cX2_init 28 = .ok (.iconst 0, 1) := by decide +kernel
theorem dX2_init_29 : decode cX2_init 29 = .ok (.istore_n 1, 1) := by decide +kernel
theorem dX2_init_30 : decode cX2_init 30 = .ok (.iload_n 1, 1) := by decide +kernel
theorem dX2_init_31 : decode cX2_init 31 = .ok (.aload_n 0, 1) := by decide +kernel
theorem dX2_init_32 : decode cX2_init 32 = .ok (.getfield 11, 3) := by decide +kernel
theorem dX2_init_35 : decode cX2_init 35 = .ok (.arraylength, 1) := by decide +kernel
theorem dX2_init_36 : decode cX2_init 36 = .ok (.if_icmp .ge 16, 3) := by decide +kernel
theorem dX2_init_39 : decode cX2_init 39 = .ok (.aload_n 0, 1) := by decide +kernel
theorem dX2_init_40 : decode cX2_init 40 = .ok (.getfield 11, 3) := by decide +kernel
theorem dX2_init_43 : decode cX2_init 43 = .ok (.iload_n 1, 1) := by decide +kernel
theorem dX2_init_44 : decode cX2_init 44 = .ok (.iconst (-1), 1) := by decide +kernel
theorem dX2_init_45 : decode cX2_init 45 = .ok (.iastore, 1) := by decide +kernel
theorem dX2_init_46 : decode cX2_init 46 = .ok (.iinc 1 1, 3) := by decide +kernel
theorem dX2_init_49 : decode cX2_init 49 = .ok (.goto (-19), 3) := by decide +kernel
theorem dX2_init_52 : decode cX2_init 52 = .ok (.return_, 1) := by decide +kernel
theorem dX2_begin_0 : decode cX2_begin 0 = .ok (.iload_n 1, 1) := by decide +kernel
theorem dX2_begin_1 : decode cX2_begin 1 = .ok (.invokestatic 22, 3) := by decide +kernel
theorem dX2_begin_4 : decode cX2_begin 4 = .ok (.istore_n 3, 1) := by decide +kernel
theorem dX2_begin_5 : decode cX2_begin 5 = .ok (.aload_n 0, 1) := by decide +kernel
theorem dX2_begin_6 : decode cX2_begin 6 = .ok (.iload_n 3, 1) := by decide +kernel
theorem dX2_begin_7 : decode cX2_begin 7 = .ok (.invokevirtual 26, 3) := by decide +kernel
theorem dX2_begin_10 : decode cX2_begin 10 = .ok (.ifCond .eq 24, 3) := by decide +kernel
theorem dX2_begin_13 : decode cX2_begin 13 = .ok (.aload_n 0, 1) := by decide +kernel
theorem dX2_begin_14 : decode cX2_begin 14 = .ok (.getfield 11, 3) := by decide +kernel
theorem dX2_begin_17 : decode cX2_begin 17 = .ok (.iload_n 3, 1) := by decide +kernel
theorem dX2_begin_18 : decode cX2_begin 18 = .ok (.iload_n 2, 1) := by decide +kernel
theorem dX2_begin_19 : decode cX2_begin 19 = .ok (.iastore, 1) := by decide +kernel
theorem dX2_begin_20 : decode cX2_begin 20 = .ok (.aload_n 0, 1) := by decide +kernel
theorem dX2_begin_21 : decode cX2_begin 21 = .ok (.getfield 15, 3) := by decide +kernel
theorem dX2_begin_24 : decode cX2_begin 24 = .ok (.iload_n 3, 1) := by decide +kernel
theorem dX2_begin_25 : decode cX2_begin 25 = .ok (.iconst 0, 1) := by decide +kernel
theorem dX2_begin_26 : decode cX2_begin 26 = .ok (.bastore, 1) := by decide +kernel
theorem dX2_begin_27 : decode cX2_begin 27 = .ok (.aload_n 0, 1) := by decide +kernel
theorem dX2_begin_28 : decode cX2_begin 28 = .ok (.getfield 19, 3) := by decide +kernel
theorem dX2_begin_31 : decode cX2_begin 31 = .ok (.iload_n 3, 1) := by decide +kernel
theorem dX2_begin_32 : decode cX2_begin 32 = .ok (.iconst 0, 1) := by decide +kernel
theorem dX2_begin_33 : decode cX2_begin 33 = .ok (.bastore, 1) := by decide +kernel
theorem dX2_begin_34 : decode cX2_begin 34 = .ok (.return_, 1) := by decide +kernel
theorem dX2_watcherIn_0 : decode cX2_watcherIn 0 = .ok (.iload_n 1, 1) := by decide +kernel
theorem dX2_watcherIn_1 : decode cX2_watcherIn 1 = .ok (.invokestatic 22, 3) := by decide +kernel
theorem dX2_watcherIn_4 : decode cX2_watcherIn 4 = .ok (.istore_n 2, 1) := by decide +kernel
theorem dX2_watcherIn_5 : decode cX2_watcherIn 5 = .ok (.aload_n 0, 1) := by decide +kernel
theorem dX2_watcherIn_6 : decode cX2_watcherIn 6 = .ok (.iload_n 2, 1) := by decide +kernel
theorem dX2_watcherIn_7 : decode cX2_watcherIn 7 = .ok (.invokevirtual 26, 3) := by decide +kernel
theorem dX2_watcherIn_10 : decode cX2_watcherIn 10 = .ok (.ifCond .eq 12, 3) := by decide +kernel
theorem dX2_watcherIn_13 : decode cX2_watcherIn 13 = .ok (.aload_n 0, 1) := by decide +kernel
theorem dX2_watcherIn_14 : decode cX2_watcherIn 14 = .ok (.getfield 11, 3) := by decide +kernel
theorem dX2_watcherIn_17 : decode cX2_watcherIn 17 = .ok (.iload_n 2, 1) := by decide +kernel
theorem dX2_watcherIn_18 : decode cX2_watcherIn 18 = .ok (.iaload, 1) := by decide +kernel
theorem dX2_watcherIn_19 : decode cX2_watcherIn 19 = .ok (.goto 4, 3) := by decide +kernel
theorem dX2_watcherIn_22 : decode cX2_watcherIn 22 = .ok (.iconst (-1), 1) := by decide +kernel
theorem dX2_watcherIn_23 : decode cX2_watcherIn 23 = .ok (.ireturn, 1) := by decide +kernel
theorem dX2_wasAwake_0 : decode cX2_wasAwake 0 = .ok (.iload_n 1, 1) := by decide +kernel
theorem dX2_wasAwake_1 : decode cX2_wasAwake 1 = .ok (.invokestatic 22, 3) := by decide +kernel
theorem dX2_wasAwake_4 : decode cX2_wasAwake 4 = .ok (.istore_n 2, 1) := by decide +kernel
theorem dX2_wasAwake_5 : decode cX2_wasAwake 5 = .ok (.aload_n 0, 1) := by decide +kernel
theorem dX2_wasAwake_6 : decode cX2_wasAwake 6 = .ok (.iload_n 2, 1) := by decide +kernel
theorem dX2_wasAwake_7 : decode cX2_wasAwake 7 = .ok (.invokevirtual 26, 3) := by decide +kernel
theorem dX2_wasAwake_10 : decode cX2_wasAwake 10 = .ok (.ifCond .eq 16, 3) := by decide +kernel
theorem dX2_wasAwake_13 : decode cX2_wasAwake 13 = .ok (.aload_n 0, 1) := by decide +kernel
theorem dX2_wasAwake_14 : decode cX2_wasAwake 14 = .ok (.getfield 15, 3) := by decide +kernel
theorem dX2_wasAwake_17 : decode cX2_wasAwake 17 = .ok (.iload_n 2, 1) := by decide +kernel
theorem dX2_wasAwake_18 : decode cX2_wasAwake 18 = .ok (.baload, 1) := by decide +kernel
theorem dX2_wasAwake_19 : decode cX2_wasAwake 19 = .ok (.ifCond .eq 7, 3) := by decide +kernel
theorem dX2_wasAwake_22 : decode cX2_wasAwake 22 = .ok (.iconst 1, 1) := by decide +kernel
theorem dX2_wasAwake_23 : decode cX2_wasAwake 23 = .ok (.goto 4, 3) := by decide +kernel
theorem dX2_wasAwake_26 : decode cX2_wasAwake 26 = .ok (.iconst 0, 1) := by decide +kernel
theorem dX2_wasAwake_27 : decode cX2_wasAwake 27 = .ok (.ireturn, 1) := by decide +kernel
theorem dX2_setAwake_0 : decode cX2_setAwake 0 = .ok (.iload_n 1, 1) := by decide +kernel
theorem dX2_setAwake_1 : decode cX2_setAwake 1 = .ok (.invokestatic 22, 3) := by decide +kernel
theorem dX2_setAwake_4 : decode cX2_setAwake 4 = .ok (.istore_n 2, 1) := by decide +kernel
theorem dX2_setAwake_5 : decode cX2_setAwake 5 = .ok (.aload_n 0, 1) := by decide +kernel
theorem dX2_setAwake_6 : decode cX2_setAwake 6 = .ok (.iload_n 2, 1) := by decide +kernel
theorem dX2_setAwake_7 : decode cX2_setAwake 7 = .ok (.invokevirtual 26, 3) := by decide +kernel
theorem dX2_setAwake_10 : decode cX2_setAwake 10 = .ok (.ifCond .eq 10, 3) := by decide +kernel
theorem dX2_setAwake_13 : decode cX2_setAwake 13 = .ok (.aload_n 0, 1) := by decide +kernel
theorem dX2_setAwake_14 : decode cX2_setAwake 14 = .ok (.getfield 15, 3) := by decide +kernel
theorem dX2_setAwake_17 : decode cX2_setAwake 17 = .ok (.iload_n 2, 1) := by decide +kernel
theorem dX2_setAwake_18 : decode cX2_setAwake 18 = .ok (.iconst 1, 1) := by decide +kernel
theorem dX2_setAwake_19 : decode cX2_setAwake 19 = .ok (.bastore, 1) := by decide +kernel
theorem dX2_setAwake_20 : decode cX2_setAwake 20 = .ok (.return_, 1) := by decide +kernel
theorem dX2_wasProven_0 : decode cX2_wasProven 0 = .ok (.iload_n 1, 1) := by decide +kernel
theorem dX2_wasProven_1 : decode cX2_wasProven 1 = .ok (.invokestatic 22, 3) := by decide +kernel
theorem dX2_wasProven_4 : decode cX2_wasProven 4 = .ok (.istore_n 2, 1) := by decide +kernel
theorem dX2_wasProven_5 : decode cX2_wasProven 5 = .ok (.aload_n 0, 1) := by decide +kernel
theorem dX2_wasProven_6 : decode cX2_wasProven 6 = .ok (.iload_n 2, 1) := by decide +kernel
theorem dX2_wasProven_7 : decode cX2_wasProven 7 = .ok (.invokevirtual 26, 3) := by decide +kernel
theorem dX2_wasProven_10 : decode cX2_wasProven 10 = .ok (.ifCond .eq 16, 3) := by decide +kernel
theorem dX2_wasProven_13 : decode cX2_wasProven 13 = .ok (.aload_n 0, 1) := by decide +kernel
theorem dX2_wasProven_14 : decode cX2_wasProven 14 = .ok (.getfield 19, 3) := by decide +kernel
theorem dX2_wasProven_17 : decode cX2_wasProven 17 = .ok (.iload_n 2, 1) := by decide +kernel
theorem dX2_wasProven_18 : decode cX2_wasProven 18 = .ok (.baload, 1) := by decide +kernel
theorem dX2_wasProven_19 : decode cX2_wasProven 19 = .ok (.ifCond .eq 7, 3) := by decide +kernel
theorem dX2_wasProven_22 : decode cX2_wasProven 22 = .ok (.iconst 1, 1) := by decide +kernel
theorem dX2_wasProven_23 : decode cX2_wasProven 23 = .ok (.goto 4, 3) := by decide +kernel
theorem dX2_wasProven_26 : decode cX2_wasProven 26 = .ok (.iconst 0, 1) := by decide +kernel
theorem dX2_wasProven_27 : decode cX2_wasProven 27 = .ok (.ireturn, 1) := by decide +kernel
theorem dX2_setProven_0 : decode cX2_setProven 0 = .ok (.iload_n 1, 1) := by decide +kernel
theorem dX2_setProven_1 : decode cX2_setProven 1 = .ok (.invokestatic 22, 3) := by decide +kernel
theorem dX2_setProven_4 : decode cX2_setProven 4 = .ok (.istore_n 2, 1) := by decide +kernel
theorem dX2_setProven_5 : decode cX2_setProven 5 = .ok (.aload_n 0, 1) := by decide +kernel
theorem dX2_setProven_6 : decode cX2_setProven 6 = .ok (.iload_n 2, 1) := by decide +kernel
theorem dX2_setProven_7 : decode cX2_setProven 7 = .ok (.invokevirtual 26, 3) := by decide +kernel
theorem dX2_setProven_10 : decode cX2_setProven 10 = .ok (.ifCond .eq 10, 3) := by decide +kernel
theorem dX2_setProven_13 : decode cX2_setProven 13 = .ok (.aload_n 0, 1) := by decide +kernel
theorem dX2_setProven_14 : decode cX2_setProven 14 = .ok (.getfield 19, 3) := by decide +kernel
theorem dX2_setProven_17 : decode cX2_setProven 17 = .ok (.iload_n 2, 1) := by decide +kernel
theorem dX2_setProven_18 : decode cX2_setProven 18 = .ok (.iconst 1, 1) := by decide +kernel
theorem dX2_setProven_19 : decode cX2_setProven 19 = .ok (.bastore, 1) := by decide +kernel
theorem dX2_setProven_20 : decode cX2_setProven 20 = .ok (.return_, 1) := by decide +kernel
theorem dX2_nextWatched_0 : decode cX2_nextWatched 0 = .ok (.iload_n 1, 1) := by decide +kernel
theorem dX2_nextWatched_1 : decode cX2_nextWatched 1 = .ok (.iconst 1, 1) := by decide +kernel
theorem dX2_nextWatched_2 : decode cX2_nextWatched 2 = .ok (.iadd, 1) := by decide +kernel
theorem dX2_nextWatched_3 : decode cX2_nextWatched 3 = .ok (.istore_n 3, 1) := by decide +kernel
theorem dX2_nextWatched_4 : decode cX2_nextWatched 4 = .ok (.iload_n 3, 1) := by decide +kernel
theorem dX2_nextWatched_5 : decode cX2_nextWatched 5 = .ok (.iload_n 2, 1) := by decide +kernel
theorem dX2_nextWatched_6 : decode cX2_nextWatched 6 = .ok (.if_icmp .ge 28, 3) := by decide +kernel
theorem dX2_nextWatched_9 : decode cX2_nextWatched 9 = .ok (.iload_n 3, 1) := by decide +kernel
theorem dX2_nextWatched_10 : decode cX2_nextWatched 10 = .ok (.iload_n 1, 1) := by decide +kernel
theorem dX2_nextWatched_11 : decode cX2_nextWatched 11 = .ok (.bipush 10, 2) := by decide +kernel
theorem dX2_nextWatched_13 : decode cX2_nextWatched 13 = .ok (.iadd, 1) := by decide +kernel
theorem dX2_nextWatched_14 : decode cX2_nextWatched 14 = .ok (.if_icmp .gt 20, 3) := by decide +kernel
theorem dX2_nextWatched_17 : decode cX2_nextWatched 17 = .ok (.aload_n 0, 1) := by decide +kernel
theorem dX2_nextWatched_18 : decode cX2_nextWatched 18 = .ok (.iload_n 3, 1) := by decide +kernel
theorem dX2_nextWatched_19 : decode cX2_nextWatched 19 = .ok (.invokevirtual 30, 3) := by decide +kernel
theorem dX2_nextWatched_22 : decode cX2_nextWatched 22 = .ok (.iconst (-1), 1) := by decide +kernel
theorem dX2_nextWatched_23 : decode cX2_nextWatched 23 = .ok (.if_icmp .eq 5, 3) := by decide +kernel
theorem dX2_nextWatched_26 : decode cX2_nextWatched 26 = .ok (.iload_n 3, 1) := by decide +kernel
theorem dX2_nextWatched_27 : decode cX2_nextWatched 27 = .ok (.ireturn, 1) := by decide +kernel
theorem dX2_nextWatched_28 : decode cX2_nextWatched 28 = .ok (.iinc 3 1, 3) := by decide +kernel
theorem dX2_nextWatched_31 : decode cX2_nextWatched 31 = .ok (.goto (-27), 3) := by decide +kernel
theorem dX2_nextWatched_34 : decode cX2_nextWatched 34 = .ok (.iconst (-1), 1) := by decide +kernel
theorem dX2_nextWatched_35 : decode cX2_nextWatched 35 = .ok (.ireturn, 1) := by decide +kernel
theorem dX2_rowOf_0 : decode cX2_rowOf 0 = .ok (.iload_n 0, 1) := by decide +kernel
theorem dX2_rowOf_1 : decode cX2_rowOf 1 = .ok (.bipush 11, 2) := by decide +kernel
theorem dX2_rowOf_3 : decode cX2_rowOf 3 = .ok (.invokestatic 33, 3) := by decide +kernel
theorem dX2_rowOf_6 : decode cX2_rowOf 6 = .ok (.ireturn, 1) := by decide +kernel
theorem dX2_isRow_0 : decode cX2_isRow 0 = .ok (.iload_n 1, 1) := by decide +kernel
theorem dX2_isRow_1 : decode cX2_isRow 1 = .ok (.ifCond .lt 34, 3) := by decide +kernel
theorem dX2_isRow_4 : decode cX2_isRow 4 = .ok (.iload_n 1, 1) := by decide +kernel
theorem dX2_isRow_5 : decode cX2_isRow 5 = .ok (.aload_n 0, 1) := by decide +kernel
theorem dX2_isRow_6 : decode cX2_isRow 6 = .ok (.getfield 11, 3) := by decide +kernel
theorem dX2_isRow_9 : decode cX2_isRow 9 = .ok (.arraylength, 1) := by decide +kernel
theorem dX2_isRow_10 : decode cX2_isRow 10 = .ok (.if_icmp .ge 25, 3) := by decide +kernel
theorem dX2_isRow_13 : decode cX2_isRow 13 = .ok (.iload_n 1, 1) := by decide +kernel
theorem dX2_isRow_14 : decode cX2_isRow 14 = .ok (.aload_n 0, 1) := by decide +kernel
theorem dX2_isRow_15 : decode cX2_isRow 15 = .ok (.getfield 15, 3) := by decide +kernel
theorem dX2_isRow_18 : decode cX2_isRow 18 = .ok (.arraylength, 1) := by decide +kernel
theorem dX2_isRow_19 : decode cX2_isRow 19 = .ok (.if_icmp .ge 16, 3) := by decide +kernel
theorem dX2_isRow_22 : decode cX2_isRow 22 = .ok (.iload_n 1, 1) := by decide +kernel
theorem dX2_isRow_23 : decode cX2_isRow 23 = .ok (.aload_n 0, 1) := by decide +kernel
theorem dX2_isRow_24 : decode cX2_isRow 24 = .ok (.getfield 19, 3) := by decide +kernel
theorem dX2_isRow_27 : decode cX2_isRow 27 = .ok (.arraylength, 1) := by decide +kernel
theorem dX2_isRow_28 : decode cX2_isRow 28 = .ok (.if_icmp .ge 7, 3) := by decide +kernel
theorem dX2_isRow_31 : decode cX2_isRow 31 = .ok (.iconst 1, 1) := by decide +kernel
theorem dX2_isRow_32 : decode cX2_isRow 32 = .ok (.goto 4, 3) := by decide +kernel
theorem dX2_isRow_35 : decode cX2_isRow 35 = .ok (.iconst 0, 1) := by decide +kernel
theorem dX2_isRow_36 : decode cX2_isRow 36 = .ok (.ireturn, 1) := by decide +kernel
theorem dX3_init_0 : decode cX3_init 0 = .ok (.aload_n 0, 1) := by decide +kernel
theorem dX3_init_1 : decode cX3_init 1 = .ok (.invokespecial 3, 3) := by decide +kernel
theorem dX3_init_4 : decode cX3_init 4 = .ok (.aload_n 0, 1) := by decide +kernel
theorem dX3_init_5 : decode cX3_init 5 = .ok (.bipush 12, 2) := by decide +kernel
theorem dX3_init_7 : decode cX3_init 7 = .ok (.newarray .int, 2) := by decide +kernel
theorem dX3_init_9 : decode cX3_init 9 = .ok (.putfield 9, 3) := by decide +kernel
theorem dX3_init_12 : decode cX3_init 12 = .ok (.aload_n 0, 1) := by decide +kernel
theorem dX3_init_13 : decode cX3_init 13 = .ok (.bipush 12, 2) := by decide +kernel
theorem dX3_init_15 : decode cX3_init 15 = .ok (.newarray .int, 2) := by decide +kernel
theorem dX3_init_17 : decode cX3_init 17 = .ok (.putfield 15, 3) := by decide +kernel
theorem dX3_init_20 : decode cX3_init 20 = .ok (.return_, 1) := by decide +kernel
theorem dX3_startAt_0 : decode cX3_startAt 0 = .ok (.aload_n 0, 1) := by decide +kernel
theorem dX3_startAt_1 : decode cX3_startAt 1 = .ok (.iconst (-1), 1) := by decide +kernel
theorem dX3_startAt_2 : decode cX3_startAt 2 = .ok (.putfield 18, 3) := by decide +kernel
theorem dX3_startAt_5 : decode cX3_startAt 5 = .ok (.aload_n 0, 1) := by decide +kernel
theorem dX3_startAt_6 : decode cX3_startAt 6 = .ok (.iconst 0, 1) := by decide +kernel
theorem dX3_startAt_7 : decode cX3_startAt 7 = .ok (.putfield 22, 3) := by decide +kernel
theorem dX3_startAt_10 : decode cX3_startAt 10 = .ok (.aload_n 0, 1) := by decide +kernel
theorem dX3_startAt_11 : decode cX3_startAt 11 = .ok (.iload_n 1, 1) := by decide +kernel
theorem dX3_startAt_12 : decode cX3_startAt 12 = .ok (.iconst 0, 1) := by decide +kernel
theorem dX3_startAt_13 : decode cX3_startAt 13 = .ok (.invokevirtual 25, 3) := by decide +kernel
theorem dX3_startAt_16 : decode cX3_startAt 16 = .ok (.return_, 1) := by decide +kernel
theorem dX3_append_0 : decode cX3_append 0 = .ok (.aload_n 0, 1) := by decide +kernel
theorem dX3_append_1 : decode cX3_append 1 = .ok (.getfield 18, 3) := by decide +kernel
theorem dX3_append_4 : decode cX3_append 4 = .ok (.iconst 1, 1) := by decide +kernel
theorem dX3_append_5 : decode cX3_append 5 = .ok (.iadd, 1) := by decide +kernel
theorem dX3_append_6 : decode cX3_append 6 = .ok (.istore_n 3, 1) := by decide +kernel
theorem dX3_append_7 : decode cX3_append 7 = .ok (.iload_n 3, 1) := by decide +kernel
theorem dX3_append_8 : decode cX3_append 8 = .ok (.ifCond .lt 21, 3) := by decide +kernel
theorem dX3_append_11 : decode cX3_append 11 = .ok (.iload_n 3, 1) := by decide +kernel
theorem dX3_append_12 : decode cX3_append 12 = .ok (.aload_n 0, 1) := by decide +kernel
theorem dX3_append_13 : decode cX3_append 13 = .ok (.getfield 9, 3) := by decide +kernel
theorem dX3_append_16 : decode cX3_append 16 = .ok (.arraylength, 1) := by decide +kernel
theorem dX3_append_17 : decode cX3_append 17 = .ok (.if_icmp .ge 12, 3) := by decide +kernel
theorem dX3_append_20 : decode cX3_append 20 = .ok (.iload_n 3, 1) := by decide +kernel
theorem dX3_append_21 : decode cX3_append 21 = .ok (.aload_n 0, 1) := by decide +kernel
theorem dX3_append_22 : decode cX3_append 22 = .ok (.getfield 15, 3) := by decide +kernel
theorem dX3_append_25 : decode cX3_append 25 = .ok (.arraylength, 1) := by decide +kernel
theorem dX3_append_26 : decode cX3_append 26 = .ok (.if_icmp .lt 4, 3) := by decide +kernel
theorem dX3_append_29 : decode cX3_append 29 = .ok (.return_, 1) := by decide +kernel
theorem dX3_append_30 : decode cX3_append 30 = .ok (.aload_n 0, 1) := by decide +kernel
theorem dX3_append_31 : decode cX3_append 31 = .ok (.iload_n 3, 1) := by decide +kernel
theorem dX3_append_32 : decode cX3_append 32 = .ok (.putfield 18, 3) := by decide +kernel
theorem dX3_append_35 : decode cX3_append 35 = .ok (.aload_n 0, 1) := by decide +kernel
theorem dX3_append_36 : decode cX3_append 36 = .ok (.getfield 9, 3) := by decide +kernel
theorem dX3_append_39 : decode cX3_append 39 = .ok (.iload_n 3, 1) := by decide +kernel
theorem dX3_append_40 : decode cX3_append 40 = .ok (.iload_n 1, 1) := by decide +kernel
theorem dX3_append_41 : decode cX3_append 41 = .ok (.iastore, 1) := by decide +kernel
theorem dX3_append_42 : decode cX3_append 42 = .ok (.aload_n 0, 1) := by decide +kernel
theorem dX3_append_43 : decode cX3_append 43 = .ok (.getfield 15, 3) := by decide +kernel
theorem dX3_append_46 : decode cX3_append 46 = .ok (.iload_n 3, 1) := by decide +kernel
theorem dX3_append_47 : decode cX3_append 47 = .ok (.iload_n 2, 1) := by decide +kernel
theorem dX3_append_48 : decode cX3_append 48 = .ok (.iastore, 1) := by decide +kernel
theorem dX3_append_49 : decode cX3_append 49 = .ok (.aload_n 0, 1) := by decide +kernel
theorem dX3_append_50 : decode cX3_append 50 = .ok (.dup, 1) := by decide +kernel
theorem dX3_append_51 : decode cX3_append 51 = .ok (.getfield 22, 3) := by decide +kernel
theorem dX3_append_54 : decode cX3_append 54 = .ok (.iload_n 2, 1) := by decide +kernel
theorem dX3_append_55 : decode cX3_append 55 = .ok (.iadd, 1) := by decide +kernel
theorem dX3_append_56 : decode cX3_append 56 = .ok (.putfield 22, 3) := by decide +kernel
theorem dX3_append_59 : decode cX3_append 59 = .ok (.return_, 1) := by decide +kernel
theorem dX3_copyFrom_0 : decode cX3_copyFrom 0 = .ok (.aload_n 0, 1) := by decide +kernel
theorem dX3_copyFrom_1 : decode cX3_copyFrom 1 = .ok (.iconst (-1), 1) := by decide +kernel
theorem dX3_copyFrom_2 : decode cX3_copyFrom 2 = .ok (.putfield 18, 3) := by decide +kernel
theorem dX3_copyFrom_5 : decode cX3_copyFrom 5 = .ok (.aload_n 0, 1) := by decide +kernel
theorem dX3_copyFrom_6 : decode cX3_copyFrom 6 = .ok (.iconst 0, 1) := by decide +kernel
theorem dX3_copyFrom_7 : decode cX3_copyFrom 7 = .ok (.putfield 22, 3) := by decide +kernel
theorem dX3_copyFrom_10 : decode cX3_copyFrom 10 = .ok (.iconst 0, 1) := by decide +kernel
theorem dX3_copyFrom_11 : decode cX3_copyFrom 11 = .ok (.istore_n 2, 1) := by decide +kernel
theorem dX3_copyFrom_12 : decode cX3_copyFrom 12 = .ok (.iload_n 2, 1) := by decide +kernel
theorem dX3_copyFrom_13 : decode cX3_copyFrom 13 = .ok (.aload_n 1, 1) := by decide +kernel
theorem dX3_copyFrom_14 : decode cX3_copyFrom 14 = .ok (.getfield 18, 3) := by decide +kernel
theorem dX3_copyFrom_17 : decode cX3_copyFrom 17 = .ok (.if_icmp .gt 23, 3) := by decide +kernel
theorem dX3_copyFrom_20 : decode cX3_copyFrom 20 = .ok (.aload_n 0, 1) := by decide +kernel
theorem dX3_copyFrom_21 : decode cX3_copyFrom 21 = .ok (.aload_n 1, 1) := by decide +kernel
theorem dX3_copyFrom_22 : decode cX3_copyFrom 22 = .ok (.iload_n 2, 1) := by decide +kernel
theorem dX3_copyFrom_23 : decode cX3_copyFrom 23 = .ok (.invokevirtual 29, 3) := by decide +kernel
theorem dX3_copyFrom_26 : decode cX3_copyFrom 26 = .ok (.aload_n 1, 1) := by decide +kernel
theorem dX3_copyFrom_27 : decode cX3_copyFrom 27 = .ok (.iload_n 2, 1) := by decide +kernel
theorem dX3_copyFrom_28 : decode cX3_copyFrom 28 = .ok (.invokevirtual 33, 3) := by decide +kernel
theorem dX3_copyFrom_31 : decode cX3_copyFrom 31 = .ok (.invokevirtual 25, 3) := by decide +kernel
theorem dX3_copyFrom_34 : decode cX3_copyFrom 34 = .ok (.iinc 2 1, 3) := by decide +kernel
theorem dX3_copyFrom_37 : decode cX3_copyFrom 37 = .ok (.goto (-25), 3) := by decide +kernel
theorem dX3_copyFrom_40 : decode cX3_copyFrom 40 = .ok (.return_, 1) := by decide +kernel
theorem dX3_nodeOn_0 : decode cX3_nodeOn 0 = .ok (.iload_n 1, 1) := by decide +kernel
theorem dX3_nodeOn_1 : decode cX3_nodeOn 1 = .ok (.ifCond .lt 20, 3) := by decide +kernel
theorem dX3_nodeOn_4 : decode cX3_nodeOn 4 = .ok (.iload_n 1, 1) := by decide +kernel
theorem dX3_nodeOn_5 : decode cX3_nodeOn 5 = .ok (.aload_n 0, 1) := by decide +kernel
theorem dX3_nodeOn_6 : decode cX3_nodeOn 6 = .ok (.getfield 18, 3) := by decide +kernel
theorem dX3_nodeOn_9 : decode cX3_nodeOn 9 = .ok (.if_icmp .gt 12, 3) := by decide +kernel
theorem dX3_nodeOn_12 : decode cX3_nodeOn 12 = .ok (.iload_n 1, 1) := by decide +kernel
theorem dX3_nodeOn_13 : decode cX3_nodeOn 13 = .ok (.aload_n 0, 1) := by decide +kernel
theorem dX3_nodeOn_14 : decode cX3_nodeOn 14 = .ok (.getfield 9, 3) := by decide +kernel
theorem dX3_nodeOn_17 : decode cX3_nodeOn 17 = .ok (.arraylength, 1) := by decide +kernel
theorem dX3_nodeOn_18 : decode cX3_nodeOn 18 = .ok (.if_icmp .lt 7, 3) := by decide +kernel
theorem dX3_nodeOn_21 : decode cX3_nodeOn 21 = .ok (.iconst (-1), 1) := by decide +kernel
theorem dX3_nodeOn_22 : decode cX3_nodeOn 22 = .ok (.goto 9, 3) := by decide +kernel
theorem dX3_nodeOn_25 : decode cX3_nodeOn 25 = .ok (.aload_n 0, 1) := by decide +kernel
theorem dX3_nodeOn_26 : decode cX3_nodeOn 26 = .ok (.getfield 9, 3) := by decide +kernel
theorem dX3_nodeOn_29 : decode cX3_nodeOn 29 = .ok (.iload_n 1, 1) := by decide +kernel
theorem dX3_nodeOn_30 : decode cX3_nodeOn 30 = .ok (.iaload, 1) := by decide +kernel
theorem dX3_nodeOn_31 : decode cX3_nodeOn 31 = .ok (.ireturn, 1) := by decide +kernel
theorem dX3_priceOn_0 : decode cX3_priceOn 0 = .ok (.iload_n 1, 1) := by decide +kernel
theorem dX3_priceOn_1 : decode cX3_priceOn 1 = .ok (.ifCond .lt 20, 3) := by decide +kernel
theorem dX3_priceOn_4 : decode cX3_priceOn 4 = .ok (.iload_n 1, 1) := by decide +kernel
theorem dX3_priceOn_5 : decode cX3_priceOn 5 = .ok (.aload_n 0, 1) := by decide +kernel
theorem dX3_priceOn_6 : decode cX3_priceOn 6 = .ok (.getfield 18, 3) := by decide +kernel
theorem dX3_priceOn_9 : decode cX3_priceOn 9 = .ok (.if_icmp .gt 12, 3) := by decide +kernel
theorem dX3_priceOn_12 : decode cX3_priceOn 12 = .ok (.iload_n 1, 1) := by decide +kernel
theorem dX3_priceOn_13 : decode cX3_priceOn 13 = .ok (.aload_n 0, 1) := by decide +kernel
theorem dX3_priceOn_14 : decode cX3_priceOn 14 = .ok (.getfield 15, 3) := by decide +kernel
theorem dX3_priceOn_17 : decode cX3_priceOn 17 = .ok (.arraylength, 1) := by decide +kernel
theorem dX3_priceOn_18 : decode cX3_priceOn 18 = .ok (.if_icmp .lt 7, 3) := by decide +kernel
theorem dX3_priceOn_21 : decode cX3_priceOn 21 = .ok (.iconst 0, 1) := by decide +kernel
theorem dX3_priceOn_22 : decode cX3_priceOn 22 = .ok (.goto 9, 3) := by decide +kernel
theorem dX3_priceOn_25 : decode cX3_priceOn 25 = .ok (.aload_n 0, 1) := by decide +kernel
theorem dX3_priceOn_26 : decode cX3_priceOn 26 = .ok (.getfield 15, 3) := by decide +kernel
theorem dX3_priceOn_29 : decode cX3_priceOn 29 = .ok (.iload_n 1, 1) := by decide +kernel
theorem dX3_priceOn_30 : decode cX3_priceOn 30 = .ok (.iaload, 1) := by decide +kernel
theorem dX3_priceOn_31 : decode cX3_priceOn 31 = .ok (.ireturn, 1) := by decide +kernel
theorem dX4_init_0 : decode cX4_init 0 = .ok (.aload_n 0, 1) := by decide +kernel
theorem dX4_init_1 : decode cX4_init 1 = .ok (.invokespecial 3, 3) := by decide +kernel
theorem dX4_init_4 : decode cX4_init 4 = .ok (.aload_n 0, 1) := by decide +kernel
theorem dX4_init_5 : decode cX4_init 5 = .ok (.bipush 12, 2) := by decide +kernel
theorem dX4_init_7 : decode cX4_init 7 = .ok (.newarray .int, 2) := by decide +kernel
theorem dX4_init_9 : decode cX4_init 9 = .ok (.putfield 9, 3) := by decide +kernel
theorem dX4_init_12 : decode cX4_init 12 = .ok (.aload_n 0, 1) := by decide +kernel
theorem dX4_init_13 : decode cX4_init 13 = .ok (.new 15, 3) := by decide +kernel
theorem dX4_init_16 : decode cX4_init 16 = .ok (.dup, 1) := by decide +kernel
theorem dX4_init_17 : decode cX4_init 17 = .ok (.invokespecial 17, 3) := by decide +kernel
theorem dX4_init_20 : decode cX4_init 20 = .ok (.putfield 18, 3) := by decide +kernel
theorem dX4_init_23 : decode cX4_init 23 = .ok (.return_, 1) := by decide +kernel
theorem dX4_find_0 : decode cX4_find 0 = .ok (.aload_n 0, 1) := by decide +kernel
theorem dX4_find_1 : decode cX4_find 1 = .ok (.aload_n 1, 1) := by decide +kernel
theorem dX4_find_2 : decode cX4_find 2 = .ok (.iload_n 3, 1) := by decide +kernel
theorem dX4_find_3 : decode cX4_find 3 = .ok (.invokevirtual 22, 3) := by decide +kernel
theorem dX4_find_6 : decode cX4_find 6 = .ok (.aload_n 0, 1) := by decide +kernel
theorem dX4_find_7 : decode cX4_find 7 = .ok (.iload_n 2, 1) := by decide +kernel
theorem dX4_find_8 : decode cX4_find 8 = .ok (.invokevirtual 26, 3) := by decide +kernel
theorem dX4_find_11 : decode cX4_find 11 = .ok (.ldc 30, 2) := by decide +kernel
theorem dX4_find_13 : decode cX4_find 13 = .ok (.if_icmp .ne 5, 3) := by decide +kernel
theorem dX4_find_16 : decode cX4_find 16 = .ok (.iconst 0, 1) := by decide +kernel
theorem dX4_find_17 : decode cX4_find 17 = .ok (.ireturn, 1) := by decide +kernel
theorem dX4_find_18 : decode cX4_find 18 = .ok (.aload_n 0, 1) := by decide +kernel
theorem dX4_find_19 : decode cX4_find 19 = .ok (.getfield 18, 3) := by decide +kernel
theorem dX4_find_22 : decode cX4_find 22 = .ok (.iload_n 2, 1) := by decide +kernel
theorem dX4_find_23 : decode cX4_find 23 = .ok (.invokevirtual 31, 3) := by decide +kernel
theorem dX4_find_26 : decode cX4_find 26 = .ok (.iload_n 2, 1) := by decide +kernel
theorem dX4_find_27 : decode cX4_find 27 = .ok (.istore 4, 2) := by decide +kernel
theorem dX4_find_29 : decode cX4_find 29 = .ok (.iconst 1, 1) := by decide +kernel
theorem dX4_find_30 : decode cX4_find 30 = .ok (.istore 5, 2) := by decide +kernel
theorem dX4_find_32 : decode cX4_find 32 = .ok (.iload 5, 2) := by decide +kernel
theorem dX4_find_34 : decode cX4_find 34 = .ok (.bipush 12, 2) := by decide +kernel
theorem dX4_find_36 : decode cX4_find 36 = .ok (.if_icmp .ge 50, 3) := by decide +kernel
theorem dX4_find_39 : decode cX4_find 39 = .ok (.iload 4, 2) := by decide +kernel
theorem dX4_find_41 : decode cX4_find 41 = .ok (.iload_n 3, 1) := by decide +kernel
theorem dX4_find_42 : decode cX4_find 42 = .ok (.if_icmp .eq 44, 3) := by decide +kernel
theorem dX4_find_45 : decode cX4_find 45 = .ok (.aload_n 0, 1) := by decide +kernel
theorem dX4_find_46 : decode cX4_find 46 = .ok (.aload_n 1, 1) := by decide +kernel
theorem dX4_find_47 : decode cX4_find 47 = .ok (.iload 4, 2) := by decide +kernel
theorem dX4_find_49 : decode cX4_find 49 = .ok (.iload_n 3, 1) := by decide +kernel
theorem dX4_find_50 : decode cX4_find 50 = .ok (.invokevirtual 35, 3) := by decide +kernel
theorem dX4_find_53 : decode cX4_find 53 = .ok (.istore 4, 2) := by decide +kernel
theorem dX4_find_55 : decode cX4_find 55 = .ok (.aload_n 0, 1) := by decide +kernel
theorem dX4_find_56 : decode cX4_find 56 = .ok (.getfield 18, 3) := by decide +kernel
theorem dX4_find_59 : decode cX4_find 59 = .ok (.iload 4, 2) := by decide +kernel
theorem dX4_find_61 : decode cX4_find 61 = .ok (.iload 4, 2) := by decide +kernel
theorem dX4_find_63 : decode cX4_find 63 = .ok (.iload_n 3, 1) := by decide +kernel
theorem dX4_find_64 : decode cX4_find 64 = .ok (.if_icmp .ne 7, 3) := by decide +kernel
theorem dX4_find_67 : decode cX4_find 67 = .ok (.iconst 0, 1) := by decide +kernel
theorem dX4_find_68 : decode cX4_find 68 = .ok (.goto 9, 3) := by decide +kernel
theorem dX4_find_71 : decode cX4_find 71 = .ok (.aload_n 1, 1) := by decide +kernel
theorem dX4_find_72 : decode cX4_find 72 = .ok (.iload 4, 2) := by decide +kernel
theorem dX4_find_74 : decode cX4_find 74 = .ok (.invokestatic 39, 3) := by decide +kernel
theorem dX4_find_77 : decode cX4_find 77 = .ok (.invokevirtual 43, 3) := by decide +kernel
theorem dX4_find_80 : decode cX4_find 80 = .ok (.iinc 5 1, 3) := by decide +kernel
theorem dX4_find_83 : decode cX4_find 83 = .ok (.goto (-51), 3) := by decide +kernel
theorem dX4_find_86 : decode cX4_find 86 = .ok (.iload 4, 2) := by decide +kernel
theorem dX4_find_88 : decode cX4_find 88 = .ok (.iload_n 3, 1) := by decide +kernel
theorem dX4_find_89 : decode cX4_find 89 = .ok (.if_icmp .ne 7, 3) := by decide +kernel
theorem dX4_find_92 : decode cX4_find 92 = .ok (.iconst 1, 1) := by decide +kernel
theorem dX4_find_93 : decode cX4_find 93 = .ok (.goto 4, 3) := by decide +kernel
theorem dX4_find_96 : decode cX4_find 96 = .ok (.iconst 0, 1) := by decide +kernel
theorem dX4_find_97 : decode cX4_find 97 = .ok (.ireturn, 1) := by decide +kernel
theorem dX4_weighAll_0 : decode cX4_weighAll 0 = .ok (.iconst 0, 1) := by decide +kernel
theorem dX4_weighAll_1 : decode cX4_weighAll 1 = .ok (.istore_n 3, 1) := by decide +kernel
theorem dX4_weighAll_2 : decode cX4_weighAll 2 = .ok (.iload_n 3, 1) := by decide +kernel
theorem dX4_weighAll_3 : decode cX4_weighAll 3 = .ok (.aload_n 0, 1) := by decide +kernel
theorem dX4_weighAll_4 : decode cX4_weighAll 4 = .ok (.getfield 9, 3) := by decide +kernel
theorem dX4_weighAll_7 : decode cX4_weighAll 7 = .ok (.arraylength, 1) := by decide +kernel
theorem dX4_weighAll_8 : decode cX4_weighAll 8 = .ok (.if_icmp .ge 26, 3) := by decide +kernel
theorem dX4_weighAll_11 : decode cX4_weighAll 11 = .ok (.aload_n 0, 1) := by decide +kernel
theorem dX4_weighAll_12 : decode cX4_weighAll 12 = .ok (.getfield 9, 3) := by decide +kernel
theorem dX4_weighAll_15 : decode cX4_weighAll 15 = .ok (.iload_n 3, 1) := by decide +kernel
theorem dX4_weighAll_16 : decode cX4_weighAll 16 = .ok (.iload_n 3, 1) := by decide +kernel
theorem dX4_weighAll_17 : decode cX4_weighAll 17 = .ok (.iload_n 2, 1) := by decide +kernel
theorem dX4_weighAll_18 : decode cX4_weighAll 18 = .ok (.if_icmp .ne 7, 3) := by decide +kernel
theorem dX4_weighAll_21 : decode cX4_weighAll 21 = .ok (.iconst 0, 1) := by decide +kernel
theorem dX4_weighAll_22 : decode cX4_weighAll 22 = .ok (.goto 5, 3) := by decide +kernel
theorem dX4_weighAll_25 : decode cX4_weighAll 25 = .ok (.ldc 30, 2) := by decide +kernel
theorem dX4_weighAll_27 : decode cX4_weighAll 27 = .ok (.iastore, 1) := by decide +kernel
theorem dX4_weighAll_28 : decode cX4_weighAll 28 = .ok (.iinc 3 1, 3) := by decide +kernel
theorem dX4_weighAll_31 : decode cX4_weighAll 31 = .ok (.goto (-29), 3) := by decide +kernel
theorem dX4_weighAll_34 : decode cX4_weighAll 34 = .ok (.iconst 1, 1) := by decide +kernel
theorem dX4_weighAll_35 : decode cX4_weighAll 35 = .ok (.istore_n 3, 1) := by decide +kernel
theorem dX4_weighAll_36 : decode cX4_weighAll 36 = .ok (.iconst 0, 1) := by decide +kernel
theorem dX4_weighAll_37 : decode cX4_weighAll 37 = .ok (.istore 4, 2) := by decide +kernel
theorem dX4_weighAll_39 : decode cX4_weighAll 39 = .ok (.iload 4, 2) := by decide +kernel
theorem dX4_weighAll_41 : decode cX4_weighAll 41 = .ok (.bipush 12, 2) := by decide +kernel
theorem dX4_weighAll_43 : decode cX4_weighAll 43 = .ok (.if_icmp .ge 76, 3) := by decide +kernel
theorem dX4_weighAll_46 : decode cX4_weighAll 46 = .ok (.iload_n 3, 1) := by decide +kernel
theorem dX4_weighAll_47 : decode cX4_weighAll 47 = .ok (.ifCond .eq 72, 3) := by decide +kernel
theorem dX4_weighAll_50 : decode cX4_weighAll 50 = .ok (.iconst 0, 1) := by decide +kernel
theorem dX4_weighAll_51 : decode cX4_weighAll 51 = .ok (.istore_n 3, 1) := by decide +kernel
theorem dX4_weighAll_52 : decode cX4_weighAll 52 = .ok (.iconst 0, 1) := by decide +kernel
theorem dX4_weighAll_53 : decode cX4_weighAll 53 = .ok (.istore 5, 2) := by decide +kernel
theorem dX4_weighAll_55 : decode cX4_weighAll 55 = .ok (.iload 5, 2) := by decide +kernel
theorem dX4_weighAll_57 : decode cX4_weighAll 57 = .ok (.aload_n 1, 1) := by decide +kernel
theorem dX4_weighAll_58 : decode cX4_weighAll 58 = .ok (.invokevirtual 47, 3) := by decide +kernel
theorem dX4_weighAll_61 : decode cX4_weighAll 61 = .ok (.if_icmp .ge 52, 3) := by decide +kernel
theorem dX4_weighAll_64 : decode cX4_weighAll 64 = .ok (.iload 5, 2) := by decide +kernel
theorem dX4_weighAll_66 : decode cX4_weighAll 66 = .ok (.aload_n 0, 1) := by decide +kernel
theorem dX4_weighAll_67 : decode cX4_weighAll 67 = .ok (.getfield 9, 3) := by decide +kernel
theorem dX4_weighAll_70 : decode cX4_weighAll 70 = .ok (.arraylength, 1) := by decide +kernel
theorem dX4_weighAll_71 : decode cX4_weighAll 71 = .ok (.if_icmp .ge 42, 3) := by decide +kernel
theorem dX4_weighAll_74 : decode cX4_weighAll 74 = .ok (.aload_n 0, 1) := by decide +kernel
theorem dX4_weighAll_75 : decode cX4_weighAll 75 = .ok (.aload_n 1, 1) := by decide +kernel
theorem dX4_weighAll_76 : decode cX4_weighAll 76 = .ok (.iload 5, 2) := by decide +kernel
theorem dX4_weighAll_78 : decode cX4_weighAll 78 = .ok (.iload_n 2, 1) := by decide +kernel
theorem dX4_weighAll_79 : decode cX4_weighAll 79 = .ok (.invokevirtual 53, 3) := by decide +kernel
theorem dX4_weighAll_82 : decode cX4_weighAll 82 = .ok (.istore 6, 2) := by decide +kernel
theorem dX4_weighAll_84 : decode cX4_weighAll 84 = .ok (.iload 6, 2) := by decide +kernel
theorem dX4_weighAll_86 : decode cX4_weighAll 86 = .ok (.aload_n 0, 1) := by decide +kernel
theorem dX4_weighAll_87 : decode cX4_weighAll 87 = .ok (.getfield 9, 3) := by decide +kernel
theorem dX4_weighAll_90 : decode cX4_weighAll 90 = .ok (.iload 5, 2) := by decide +kernel
theorem dX4_weighAll_92 : decode cX4_weighAll 92 = .ok (.iaload, 1) := by decide +kernel
theorem dX4_weighAll_93 : decode cX4_weighAll 93 = .ok (.if_icmp .ge 14, 3) := by decide +kernel
theorem dX4_weighAll_96 : decode cX4_weighAll 96 = .ok (.aload_n 0, 1) := by decide +kernel
theorem dX4_weighAll_97 : decode cX4_weighAll 97 = .ok (.getfield 9, 3) := by decide +kernel
theorem dX4_weighAll_100 : decode cX4_weighAll 100 = .ok (.iload 5, 2) := by decide +kernel
theorem dX4_weighAll_102 : decode cX4_weighAll 102 = .ok (.iload 6, 2) := by decide +kernel
theorem dX4_weighAll_104 : decode cX4_weighAll 104 = .ok (.iastore, 1) := by decide +kernel
theorem dX4_weighAll_105 : decode cX4_weighAll 105 = .ok (.iconst 1, 1) := by decide +kernel
theorem dX4_weighAll_106 : decode cX4_weighAll 106 = .ok (.istore_n 3, 1) := by decide +kernel
theorem dX4_weighAll_107 : decode cX4_weighAll 107 = .ok (.iinc 5 1, 3) := by decide +kernel
theorem dX4_weighAll_110 : decode cX4_weighAll 110 = .ok (.goto (-55), 3) := by decide +kernel
theorem dX4_weighAll_113 : decode cX4_weighAll 113 = .ok (.iinc 4 1, 3) := by decide +kernel
theorem dX4_weighAll_116 : decode cX4_weighAll 116 = .ok (.goto (-77), 3) := by decide +kernel
theorem dX4_weighAll_119 : decode cX4_weighAll 119 = .ok (.return_, 1) := by decide +kernel
theorem dX4_leastFrom_0 : decode cX4_leastFrom 0 = .ok (.ldc 30, 2) := by decide +kernel
theorem dX4_leastFrom_2 : decode cX4_leastFrom 2 = .ok (.istore 4, 2) := by decide +kernel
theorem dX4_leastFrom_4 : decode cX4_leastFrom 4 = .ok (.iconst 0, 1) := by decide +kernel
theorem dX4_leastFrom_5 : decode cX4_leastFrom 5 = .ok (.istore 5, 2) := by decide +kernel
theorem dX4_leastFrom_7 : decode cX4_leastFrom 7 = .ok (.iload 5, 2) := by decide +kernel
theorem dX4_leastFrom_9 : decode cX4_leastFrom 9 = .ok (.aload_n 1, 1) := by decide +kernel
theorem dX4_leastFrom_10 : decode cX4_leastFrom 10 = .ok (.invokevirtual 47, 3) := by decide +kernel
theorem dX4_leastFrom_13 : decode cX4_leastFrom 13 = .ok (.if_icmp .ge 25, 3) := by decide +kernel
theorem dX4_leastFrom_16 : decode cX4_leastFrom 16 = .ok (.iload 4, 2) := by decide +kernel
theorem dX4_leastFrom_18 : decode cX4_leastFrom 18 = .ok (.aload_n 0, 1) := by decide +kernel
theorem dX4_leastFrom_19 : decode cX4_leastFrom 19 = .ok (.aload_n 1, 1) := by decide +kernel
theorem dX4_leastFrom_20 : decode cX4_leastFrom 20 = .ok (.iload_n 2, 1) := by decide +kernel
theorem dX4_leastFrom_21 : decode cX4_leastFrom 21 = .ok (.iload 5, 2) := by decide +kernel
theorem dX4_leastFrom_23 : decode cX4_leastFrom 23 = .ok (.iload_n 3, 1) := by decide +kernel
theorem dX4_leastFrom_24 : decode cX4_leastFrom 24 = .ok (.invokevirtual 56, 3) := by decide +kernel
theorem dX4_leastFrom_27 : decode cX4_leastFrom 27 = .ok (.invokestatic 60, 3) := by decide +kernel
theorem dX4_leastFrom_30 : decode cX4_leastFrom 30 = .ok (.istore 4, 2) := by decide +kernel
theorem dX4_leastFrom_32 : decode cX4_leastFrom 32 = .ok (.iinc 5 1, 3) := by decide +kernel
theorem dX4_leastFrom_35 : decode cX4_leastFrom 35 = .ok (.goto (-28), 3) := by decide +kernel
theorem dX4_leastFrom_38 : decode cX4_leastFrom 38 = .ok (.iload 4, 2) := by decide +kernel
theorem dX4_leastFrom_40 : decode cX4_leastFrom 40 = .ok (.ireturn, 1) := by decide +kernel
theorem dX4_lowestNext_0 : decode cX4_lowestNext 0 = .ok (.iconst 0, 1) := by decide +kernel
theorem dX4_lowestNext_1 : decode cX4_lowestNext 1 = .ok (.istore 4, 2) := by decide +kernel
theorem dX4_lowestNext_3 : decode cX4_lowestNext 3 = .ok (.iload 4, 2) := by decide +kernel
theorem dX4_lowestNext_5 : decode cX4_lowestNext 5 = .ok (.aload_n 1, 1) := by decide +kernel
theorem dX4_lowestNext_6 : decode cX4_lowestNext 6 = .ok (.invokevirtual 47, 3) := by decide +kernel
theorem dX4_lowestNext_9 : decode cX4_lowestNext 9 = .ok (.if_icmp .ge 29, 3) := by decide +kernel
theorem dX4_lowestNext_12 : decode cX4_lowestNext 12 = .ok (.aload_n 0, 1) := by decide +kernel
theorem dX4_lowestNext_13 : decode cX4_lowestNext 13 = .ok (.aload_n 1, 1) := by decide +kernel
theorem dX4_lowestNext_14 : decode cX4_lowestNext 14 = .ok (.iload_n 2, 1) := by decide +kernel
theorem dX4_lowestNext_15 : decode cX4_lowestNext 15 = .ok (.iload 4, 2) := by decide +kernel
theorem dX4_lowestNext_17 : decode cX4_lowestNext 17 = .ok (.iload_n 3, 1) := by decide +kernel
theorem dX4_lowestNext_18 : decode cX4_lowestNext 18 = .ok (.invokevirtual 56, 3) := by decide +kernel
theorem dX4_lowestNext_21 : decode cX4_lowestNext 21 = .ok (.aload_n 0, 1) := by decide +kernel
theorem dX4_lowestNext_22 : decode cX4_lowestNext 22 = .ok (.iload_n 2, 1) := by decide +kernel
theorem dX4_lowestNext_23 : decode cX4_lowestNext 23 = .ok (.invokevirtual 26, 3) := by decide +kernel
theorem dX4_lowestNext_26 : decode cX4_lowestNext 26 = .ok (.if_icmp .ne 6, 3) := by decide +kernel
theorem dX4_lowestNext_29 : decode cX4_lowestNext 29 = .ok (.iload 4, 2) := by decide +kernel
theorem dX4_lowestNext_31 : decode cX4_lowestNext 31 = .ok (.ireturn, 1) := by decide +kernel
theorem dX4_lowestNext_32 : decode cX4_lowestNext 32 = .ok (.iinc 4 1, 3) := by decide +kernel
theorem dX4_lowestNext_35 : decode cX4_lowestNext 35 = .ok (.goto (-32), 3) := by decide +kernel
theorem dX4_lowestNext_38 : decode cX4_lowestNext 38 = .ok (.iload_n 3, 1) := by decide +kernel
theorem dX4_lowestNext_39 : decode cX4_lowestNext 39 = .ok (.ireturn, 1) := by decide +kernel
theorem dX4_overNext_0 : decode cX4_overNext 0 = .ok (.iload_n 2, 1) := by decide +kernel
theorem dX4_overNext_1 : decode cX4_overNext 1 = .ok (.ifCond .lt 23, 3) := by decide +kernel
theorem dX4_overNext_4 : decode cX4_overNext 4 = .ok (.iload_n 2, 1) := by decide +kernel
theorem dX4_overNext_5 : decode cX4_overNext 5 = .ok (.aload_n 1, 1) := by decide +kernel
theorem dX4_overNext_6 : decode cX4_overNext 6 = .ok (.invokevirtual 47, 3) := by decide +kernel
theorem dX4_overNext_9 : decode cX4_overNext 9 = .ok (.if_icmp .ge 15, 3) := by decide +kernel
theorem dX4_overNext_12 : decode cX4_overNext 12 = .ok (.iload_n 3, 1) := by decide +kernel
theorem dX4_overNext_13 : decode cX4_overNext 13 = .ok (.ifCond .lt 11, 3) := by decide +kernel
theorem dX4_overNext_16 : decode cX4_overNext 16 = .ok (.iload_n 3, 1) := by decide +kernel
theorem dX4_overNext_17 : decode cX4_overNext 17 = .ok (.aload_n 1, 1) := by decide +kernel
theorem dX4_overNext_18 : decode cX4_overNext 18 = .ok (.invokevirtual 47, 3) := by decide +kernel
theorem dX4_overNext_21 : decode cX4_overNext 21 = .ok (.if_icmp .lt 6, 3) := by decide +kernel
theorem dX4_overNext_24 : decode cX4_overNext 24 = .ok (.ldc 30, 2) := by decide +kernel
theorem dX4_overNext_26 : decode cX4_overNext 26 = .ok (.ireturn, 1) := by decide +kernel
theorem dX4_overNext_27 : decode cX4_overNext 27 = .ok (.aload_n 1, 1) := by decide +kernel
theorem dX4_overNext_28 : decode cX4_overNext 28 = .ok (.iload_n 2, 1) := by decide +kernel
theorem dX4_overNext_29 : decode cX4_overNext 29 = .ok (.invokevirtual 66, 3) := by decide +kernel
theorem dX4_overNext_32 : decode cX4_overNext 32 = .ok (.checkcast 70, 3) := by decide +kernel
theorem dX4_overNext_35 : decode cX4_overNext 35 = .ok (.iload_n 3, 1) := by decide +kernel
theorem dX4_overNext_36 : decode cX4_overNext 36 = .ok (.invokevirtual 72, 3) := by decide +kernel
theorem dX4_overNext_39 : decode cX4_overNext 39 = .ok (.ifCond .ne 6, 3) := by decide +kernel
theorem dX4_overNext_42 : decode cX4_overNext 42 = .ok (.ldc 30, 2) := by decide +kernel
theorem dX4_overNext_44 : decode cX4_overNext 44 = .ok (.ireturn, 1) := by decide +kernel
theorem dX4_overNext_45 : decode cX4_overNext 45 = .ok (.iload_n 3, 1) := by decide +kernel
theorem dX4_overNext_46 : decode cX4_overNext 46 = .ok (.iload 4, 2) := by decide +kernel
theorem dX4_overNext_48 : decode cX4_overNext 48 = .ok (.if_icmp .ne 5, 3) := by decide +kernel
theorem dX4_overNext_51 : decode cX4_overNext 51 = .ok (.iconst 1, 1) := by decide +kernel
theorem dX4_overNext_52 : decode cX4_overNext 52 = .ok (.ireturn, 1) := by decide +kernel
theorem dX4_overNext_53 : decode cX4_overNext 53 = .ok (.aload_n 1, 1) := by decide +kernel
theorem dX4_overNext_54 : decode cX4_overNext 54 = .ok (.iload_n 3, 1) := by decide +kernel
theorem dX4_overNext_55 : decode cX4_overNext 55 = .ok (.invokevirtual 66, 3) := by decide +kernel
theorem dX4_overNext_58 : decode cX4_overNext 58 = .ok (.checkcast 70, 3) := by decide +kernel
theorem dX4_overNext_61 : decode cX4_overNext 61 = .ok (.astore 5, 2) := by decide +kernel
theorem dX4_overNext_63 : decode cX4_overNext 63 = .ok (.aload_n 0, 1) := by decide +kernel
theorem dX4_overNext_64 : decode cX4_overNext 64 = .ok (.iload_n 3, 1) := by decide +kernel
theorem dX4_overNext_65 : decode cX4_overNext 65 = .ok (.invokevirtual 26, 3) := by decide +kernel
theorem dX4_overNext_68 : decode cX4_overNext 68 = .ok (.istore 6, 2) := by decide +kernel
theorem dX4_overNext_70 : decode cX4_overNext 70 = .ok (.aload 5, 2) := by decide +kernel
theorem dX4_overNext_72 : decode cX4_overNext 72 = .ok (.invokevirtual 76, 3) := by decide +kernel
theorem dX4_overNext_75 : decode cX4_overNext 75 = .ok (.ifCond .eq 10, 3) := by decide +kernel
theorem dX4_overNext_78 : decode cX4_overNext 78 = .ok (.iload 6, 2) := by decide +kernel
theorem dX4_overNext_80 : decode cX4_overNext 80 = .ok (.ldc 30, 2) := by decide +kernel
theorem dX4_overNext_82 : decode cX4_overNext 82 = .ok (.if_icmp .ne 6, 3) := by decide +kernel
theorem dX4_overNext_85 : decode cX4_overNext 85 = .ok (.ldc 30, 2) := by decide +kernel
theorem dX4_overNext_87 : decode cX4_overNext 87 = .ok (.ireturn, 1) := by decide +kernel
theorem dX4_overNext_88 : decode cX4_overNext 88 = .ok (.aload 5, 2) := by decide +kernel
theorem dX4_overNext_90 : decode cX4_overNext 90 = .ok (.invokevirtual 80, 3) := by decide +kernel
theorem dX4_overNext_93 : decode cX4_overNext 93 = .ok (.bipush 100, 2) := by decide +kernel
theorem dX4_overNext_95 : decode cX4_overNext 95 = .ok (.imul, 1) := by decide +kernel
theorem dX4_overNext_96 : decode cX4_overNext 96 = .ok (.iconst 1, 1) := by decide +kernel
theorem dX4_overNext_97 : decode cX4_overNext 97 = .ok (.iadd, 1) := by decide +kernel
theorem dX4_overNext_98 : decode cX4_overNext 98 = .ok (.iload 6, 2) := by decide +kernel
theorem dX4_overNext_100 : decode cX4_overNext 100 = .ok (.iadd, 1) := by decide +kernel
theorem dX4_overNext_101 : decode cX4_overNext 101 = .ok (.ireturn, 1) := by decide +kernel
theorem dX4_bestOf_0 : decode cX4_bestOf 0 = .ok (.iload_n 1, 1) := by decide +kernel
theorem dX4_bestOf_1 : decode cX4_bestOf 1 = .ok (.ifCond .lt 12, 3) := by decide +kernel
theorem dX4_bestOf_4 : decode cX4_bestOf 4 = .ok (.iload_n 1, 1) := by decide +kernel
theorem dX4_bestOf_5 : decode cX4_bestOf 5 = .ok (.aload_n 0, 1) := by decide +kernel
theorem dX4_bestOf_6 : decode cX4_bestOf 6 = .ok (.getfield 9, 3) := by decide +kernel
theorem dX4_bestOf_9 : decode cX4_bestOf 9 = .ok (.arraylength, 1) := by decide +kernel
theorem dX4_bestOf_10 : decode cX4_bestOf 10 = .ok (.if_icmp .lt 8, 3) := by decide +kernel
theorem dX4_bestOf_13 : decode cX4_bestOf 13 = .ok (.ldc 30, 2) := by decide +kernel
theorem dX4_bestOf_15 : decode cX4_bestOf 15 = .ok (.goto 9, 3) := by decide +kernel
theorem dX4_bestOf_18 : decode cX4_bestOf 18 = .ok (.aload_n 0, 1) := by decide +kernel
theorem dX4_bestOf_19 : decode cX4_bestOf 19 = .ok (.getfield 9, 3) := by decide +kernel
theorem dX4_bestOf_22 : decode cX4_bestOf 22 = .ok (.iload_n 1, 1) := by decide +kernel
theorem dX4_bestOf_23 : decode cX4_bestOf 23 = .ok (.iaload, 1) := by decide +kernel
theorem dX4_bestOf_24 : decode cX4_bestOf 24 = .ok (.ireturn, 1) := by decide +kernel
theorem dX4_priceOf_0 : decode cX4_priceOf 0 = .ok (.iload_n 1, 1) := by decide +kernel
theorem dX4_priceOf_1 : decode cX4_priceOf 1 = .ok (.ifCond .lt 11, 3) := by decide +kernel
theorem dX4_priceOf_4 : decode cX4_priceOf 4 = .ok (.iload_n 1, 1) := by decide +kernel
theorem dX4_priceOf_5 : decode cX4_priceOf 5 = .ok (.aload_n 0, 1) := by decide +kernel
theorem dX4_priceOf_6 : decode cX4_priceOf 6 = .ok (.invokevirtual 47, 3) := by decide +kernel
theorem dX4_priceOf_9 : decode cX4_priceOf 9 = .ok (.if_icmp .lt 7, 3) := by decide +kernel
theorem dX4_priceOf_12 : decode cX4_priceOf 12 = .ok (.iconst 0, 1) := by decide +kernel
theorem dX4_priceOf_13 : decode cX4_priceOf 13 = .ok (.goto 14, 3) := by decide +kernel
theorem dX4_priceOf_16 : decode cX4_priceOf 16 = .ok (.aload_n 0, 1) := by decide +kernel
theorem dX4_priceOf_17 : decode cX4_priceOf 17 = .ok (.iload_n 1, 1) := by decide +kernel
theorem dX4_priceOf_18 : decode cX4_priceOf 18 = .ok (.invokevirtual 66, 3) := by decide +kernel
theorem dX4_priceOf_21 : decode cX4_priceOf 21 = .ok (.checkcast 70, 3) := by decide +kernel
theorem dX4_priceOf_24 : decode cX4_priceOf 24 = .ok (.getfield 83, 3) := by decide +kernel
theorem dX4_priceOf_27 : decode cX4_priceOf 27 = .ok (.ireturn, 1) := by decide +kernel
theorem dX5_init_0 : decode cX5_init 0 = .ok (.aload_n 0, 1) := by decide +kernel
theorem dX5_init_1 : decode cX5_init 1 = .ok (.invokespecial 1, 3) := by decide +kernel
theorem dX5_init_4 : decode cX5_init 4 = .ok (.aload_n 0, 1) := by decide +kernel
theorem dX5_init_5 : decode cX5_init 5 = .ok (.new 7, 3) := by decide +kernel
theorem dX5_init_8 : decode cX5_init 8 = .ok (.dup, 1) := by decide +kernel
theorem dX5_init_9 : decode cX5_init 9 = .ok (.invokespecial 9, 3) := by decide +kernel
theorem dX5_init_12 : decode cX5_init 12 = .ok (.putfield 10, 3) := by decide +kernel
theorem dX5_init_15 : decode cX5_init 15 = .ok (.aload_n 0, 1) := by decide +kernel
theorem dX5_init_16 : decode cX5_init 16 = .ok (.new 7, 3) := by decide +kernel
theorem dX5_init_19 : decode cX5_init 19 = .ok (.dup, 1) := by decide +kernel
theorem dX5_init_20 : decode cX5_init 20 = .ok (.invokespecial 9, 3) := by decide +kernel
theorem dX5_init_23 : decode cX5_init 23 = .ok (.putfield 16, 3) := by decide +kernel
theorem dX5_init_26 : decode cX5_init 26 = .ok (.aload_n 0, 1) := by decide +kernel
theorem dX5_init_27 : decode cX5_init 27 = .ok (.new 19, 3) := by decide +kernel
theorem dX5_init_30 : decode cX5_init 30 = .ok (.dup, 1) := by decide +kernel
theorem dX5_init_31 : decode cX5_init 31 = .ok (.invokespecial 21, 3) := by decide +kernel
theorem dX5_init_34 : decode cX5_init 34 = .ok (.putfield 22, 3) := by decide +kernel
theorem dX5_init_37 : decode cX5_init 37 = .ok (.aload_n 0, 1) := by decide +kernel
theorem dX5_init_38 : decode cX5_init 38 = .ok (.new 26, 3) := by decide +kernel
theorem dX5_init_41 : decode cX5_init 41 = .ok (.dup, 1) := by decide +kernel
theorem dX5_init_42 : decode cX5_init 42 = .ok (.invokespecial 28, 3) := by decide +kernel
theorem dX5_init_45 : decode cX5_init 45 = .ok (.putfield 29, 3) := by decide +kernel
theorem dX5_init_48 : decode cX5_init 48 = .ok (.aload_n 0, 1) := by decide +kernel
theorem dX5_init_49 : decode cX5_init 49 = .ok (.iconst 0, 1) := by decide +kernel
theorem dX5_init_50 : decode cX5_init 50 = .ok (.putfield 33, 3) := by decide +kernel
theorem dX5_init_53 : decode cX5_init 53 = .ok (.return_, 1) := by decide +kernel
theorem dX5_node_0 : decode cX5_node 0 = .ok (.iload_n 1, 1) := by decide +kernel
theorem dX5_node_1 : decode cX5_node 1 = .ok (.iconst 0, 1) := by decide +kernel
theorem dX5_node_2 : decode cX5_node 2 = .ok (.sipush 9999, 3) := by decide +kernel
theorem dX5_node_5 : decode cX5_node 5 = .ok (.invokestatic 37, 3) := by decide +kernel
theorem dX5_node_8 : decode cX5_node 8 = .ok (.iload_n 2, 1) := by decide +kernel
theorem dX5_node_9 : decode cX5_node 9 = .ok (.iconst 0, 1) := by decide +kernel
theorem dX5_node_10 : decode cX5_node 10 = .ok (.sipush 999, 3) := by decide +kernel
theorem dX5_node_13 : decode cX5_node 13 = .ok (.invokestatic 37, 3) := by decide +kernel
theorem dX5_node_16 : decode cX5_node 16 = .ok (.iload_n 3, 1) := by decide +kernel
theorem dX5_node_17 : decode cX5_node 17 = .ok (.iconst 0, 1) := by decide +kernel
theorem dX5_node_18 : decode cX5_node 18 = .ok (.bipush 50, 2) := by decide +kernel
theorem dX5_node_20 : decode cX5_node 20 = .ok (.invokestatic 37, 3) := by decide +kernel
theorem dX5_node_23 : decode cX5_node 23 = .ok (.aload_n 0, 1) := by decide +kernel
theorem dX5_node_24 : decode cX5_node 24 = .ok (.getfield 10, 3) := by decide +kernel
theorem dX5_node_27 : decode cX5_node 27 = .ok (.invokevirtual 41, 3) := by decide +kernel
theorem dX5_node_30 : decode cX5_node 30 = .ok (.bipush 12, 2) := by decide +kernel
theorem dX5_node_32 : decode cX5_node 32 = .ok (.if_icmp .lt 13, 3) := by decide +kernel
theorem dX5_node_35 : decode cX5_node 35 = .ok (.new 45, 3) := by decide +kernel
theorem dX5_node_38 : decode cX5_node 38 = .ok (.dup, 1) := by decide +kernel
theorem dX5_node_39 : decode cX5_node 39 = .ok (.ldc 47, 2) := by decide +kernel
theorem dX5_node_41 : decode cX5_node 41 = .ok (.invokespecial 49, 3) := by decide +kernel
theorem dX5_node_44 : decode cX5_node 44 = .ok (.athrow, 1) := by decide +kernel
theorem dX5_node_45 : decode cX5_node 45 = .ok (.aload_n 0, 1) := by decide +kernel
theorem dX5_node_46 : decode cX5_node 46 = .ok (.getfield 10, 3) := by decide +kernel
theorem dX5_node_49 : decode cX5_node 49 = .ok (.new 52, 3) := by decide +kernel
theorem dX5_node_52 : decode cX5_node 52 = .ok (.dup, 1) := by decide +kernel
theorem dX5_node_53 : decode cX5_node 53 = .ok (.iload_n 1, 1) := by decide +kernel
theorem dX5_node_54 : decode cX5_node 54 = .ok (.iload_n 2, 1) := by decide +kernel
theorem dX5_node_55 : decode cX5_node 55 = .ok (.iload_n 3, 1) := by decide +kernel
theorem dX5_node_56 : decode cX5_node 56 = .ok (.invokespecial 54, 3) := by decide +kernel
theorem dX5_node_59 : decode cX5_node 59 = .ok (.invokevirtual 56, 3) := by decide +kernel
theorem dX5_node_62 : decode cX5_node 62 = .ok (.pop, 1) := by decide +kernel
theorem dX5_node_63 : decode cX5_node 63 = .ok (.aload_n 0, 1) := by decide +kernel
theorem dX5_node_64 : decode cX5_node 64 = .ok (.getfield 10, 3) := by decide +kernel
theorem dX5_node_67 : decode cX5_node 67 = .ok (.invokevirtual 41, 3) := by decide +kernel
theorem dX5_node_70 : decode cX5_node 70 = .ok (.iconst 1, 1) := by decide +kernel
theorem dX5_node_71 : decode cX5_node 71 = .ok (.isub, 1) := by decide +kernel
theorem dX5_node_72 : decode cX5_node 72 = .ok (.ireturn, 1) := by decide +kernel
theorem dX5_link_0 : decode cX5_link 0 = .ok (.aload_n 0, 1) := by decide +kernel
theorem dX5_link_1 : decode cX5_link 1 = .ok (.iload_n 1, 1) := by decide +kernel
theorem dX5_link_2 : decode cX5_link 2 = .ok (.iload_n 2, 1) := by decide +kernel
theorem dX5_link_3 : decode cX5_link 3 = .ok (.invokevirtual 60, 3) := by decide +kernel
theorem dX5_link_6 : decode cX5_link 6 = .ok (.aload_n 0, 1) := by decide +kernel
theorem dX5_link_7 : decode cX5_link 7 = .ok (.iload_n 1, 1) := by decide +kernel
theorem dX5_link_8 : decode cX5_link 8 = .ok (.invokevirtual 64, 3) := by decide +kernel
theorem dX5_link_11 : decode cX5_link 11 = .ok (.astore 4, 2) := by decide +kernel
theorem dX5_link_13 : decode cX5_link 13 = .ok (.aload 4, 2) := by decide +kernel
theorem dX5_link_15 : decode cX5_link 15 = .ok (.iload_n 2, 1) := by decide +kernel
theorem dX5_link_16 : decode cX5_link 16 = .ok (.invokevirtual 68, 3) := by decide +kernel
theorem dX5_link_19 : decode cX5_link 19 = .ok (.istore 5, 2) := by decide +kernel
theorem dX5_link_21 : decode cX5_link 21 = .ok (.aload 4, 2) := by decide +kernel
theorem dX5_link_23 : decode cX5_link 23 = .ok (.iload_n 2, 1) := by decide +kernel
theorem dX5_link_24 : decode cX5_link 24 = .ok (.iload_n 3, 1) := by decide +kernel
theorem dX5_link_25 : decode cX5_link 25 = .ok (.invokevirtual 72, 3) := by decide +kernel
theorem dX5_link_28 : decode cX5_link 28 = .ok (.aload_n 0, 1) := by decide +kernel
theorem dX5_link_29 : decode cX5_link 29 = .ok (.iload_n 2, 1) := by decide +kernel
theorem dX5_link_30 : decode cX5_link 30 = .ok (.invokevirtual 64, 3) := by decide +kernel
theorem dX5_link_33 : decode cX5_link 33 = .ok (.iload_n 1, 1) := by decide +kernel
theorem dX5_link_34 : decode cX5_link 34 = .ok (.iload_n 3, 1) := by decide +kernel
theorem dX5_link_35 : decode cX5_link 35 = .ok (.invokevirtual 72, 3) := by decide +kernel
theorem dX5_link_38 : decode cX5_link 38 = .ok (.iload 5, 2) := by decide +kernel
theorem dX5_link_40 : decode cX5_link 40 = .ok (.ireturn, 1) := by decide +kernel
theorem dX5_price_0 : decode cX5_price 0 = .ok (.aload_n 0, 1) := by decide +kernel
theorem dX5_price_1 : decode cX5_price 1 = .ok (.iload_n 1, 1) := by decide +kernel
theorem dX5_price_2 : decode cX5_price 2 = .ok (.invokevirtual 64, 3) := by decide +kernel
theorem dX5_price_5 : decode cX5_price 5 = .ok (.astore_n 3, 1) := by decide +kernel
theorem dX5_price_6 : decode cX5_price 6 = .ok (.iload_n 2, 1) := by decide +kernel
theorem dX5_price_7 : decode cX5_price 7 = .ok (.iconst 0, 1) := by decide +kernel
theorem dX5_price_8 : decode cX5_price 8 = .ok (.bipush 50, 2) := by decide +kernel
theorem dX5_price_10 : decode cX5_price 10 = .ok (.invokestatic 37, 3) := by decide +kernel
theorem dX5_price_13 : decode cX5_price 13 = .ok (.aload_n 3, 1) := by decide +kernel
theorem dX5_price_14 : decode cX5_price 14 = .ok (.getfield 76, 3) := by decide +kernel
theorem dX5_price_17 : decode cX5_price 17 = .ok (.istore 4, 2) := by decide +kernel
theorem dX5_price_19 : decode cX5_price 19 = .ok (.aload_n 3, 1) := by decide +kernel
theorem dX5_price_20 : decode cX5_price 20 = .ok (.iload_n 2, 1) := by decide +kernel
theorem dX5_price_21 : decode cX5_price 21 = .ok (.putfield 76, 3) := by decide +kernel
theorem dX5_price_24 : decode cX5_price 24 = .ok (.iload 4, 2) := by decide +kernel
theorem dX5_price_26 : decode cX5_price 26 = .ok (.ireturn, 1) := by decide +kernel
theorem dX5_put_0 : decode cX5_put 0 = .ok (.aload_n 0, 1) := by decide +kernel
theorem dX5_put_1 : decode cX5_put 1 = .ok (.iload_n 1, 1) := by decide +kernel
theorem dX5_put_2 : decode cX5_put 2 = .ok (.invokevirtual 64, 3) := by decide +kernel
theorem dX5_put_5 : decode cX5_put 5 = .ok (.astore_n 3, 1) := by decide +kernel
theorem dX5_put_6 : decode cX5_put 6 = .ok (.iload_n 2, 1) := by decide +kernel
theorem dX5_put_7 : decode cX5_put 7 = .ok (.iconst 1, 1) := by decide +kernel
theorem dX5_put_8 : decode cX5_put 8 = .ok (.sipush 9999, 3) := by decide +kernel
theorem dX5_put_11 : decode cX5_put 11 = .ok (.invokestatic 37, 3) := by decide +kernel
theorem dX5_put_14 : decode cX5_put 14 = .ok (.aload_n 3, 1) := by decide +kernel
theorem dX5_put_15 : decode cX5_put 15 = .ok (.getfield 79, 3) := by decide +kernel
theorem dX5_put_18 : decode cX5_put 18 = .ok (.iconst 2, 1) := by decide +kernel
theorem dX5_put_19 : decode cX5_put 19 = .ok (.if_icmp .ne 13, 3) := by decide +kernel
theorem dX5_put_22 : decode cX5_put 22 = .ok (.new 45, 3) := by decide +kernel
theorem dX5_put_25 : decode cX5_put 25 = .ok (.dup, 1) := by decide +kernel
theorem dX5_put_26 : decode cX5_put 26 = .ok (.ldc 82, 2) := by decide +kernel
theorem dX5_put_28 : decode cX5_put 28 = .ok (.invokespecial 49, 3) := by decide +kernel
theorem dX5_put_31 : decode cX5_put 31 = .ok (.athrow, 1) := by decide +kernel
theorem dX5_put_32 : decode cX5_put 32 = .ok (.aload_n 3, 1) := by decide +kernel
theorem dX5_put_33 : decode cX5_put 33 = .ok (.iload_n 2, 1) := by decide +kernel
theorem dX5_put_34 : decode cX5_put 34 = .ok (.invokestatic 84, 3) := by decide +kernel
theorem dX5_put_37 : decode cX5_put 37 = .ok (.aload_n 3, 1) := by decide +kernel
theorem dX5_put_38 : decode cX5_put 38 = .ok (.iload_n 2, 1) := by decide +kernel
theorem dX5_put_39 : decode cX5_put 39 = .ok (.invokevirtual 88, 3) := by decide +kernel
theorem dX5_put_42 : decode cX5_put 42 = .ok (.aload_n 3, 1) := by decide +kernel
theorem dX5_put_43 : decode cX5_put 43 = .ok (.getfield 92, 3) := by decide +kernel
theorem dX5_put_46 : decode cX5_put 46 = .ok (.ireturn, 1) := by decide +kernel
theorem dX5_leave_0 : decode cX5_leave 0 = .ok (.aload_n 0, 1) := by decide +kernel
theorem dX5_leave_1 : decode cX5_leave 1 = .ok (.iload_n 1, 1) := by decide +kernel
theorem dX5_leave_2 : decode cX5_leave 2 = .ok (.invokevirtual 64, 3) := by decide +kernel
theorem dX5_leave_5 : decode cX5_leave 5 = .ok (.astore_n 2, 1) := by decide +kernel
theorem dX5_leave_6 : decode cX5_leave 6 = .ok (.aload_n 2, 1) := by decide +kernel
theorem dX5_leave_7 : decode cX5_leave 7 = .ok (.getfield 79, 3) := by decide +kernel
theorem dX5_leave_10 : decode cX5_leave 10 = .ok (.ifCond .eq 13, 3) := by decide +kernel
theorem dX5_leave_13 : decode cX5_leave 13 = .ok (.new 45, 3) := by decide +kernel
theorem dX5_leave_16 : decode cX5_leave 16 = .ok (.dup, 1) := by decide +kernel
theorem dX5_leave_17 : decode cX5_leave 17 = .ok (.ldc 95, 2) := by decide +kernel
theorem dX5_leave_19 : decode cX5_leave 19 = .ok (.invokespecial 49, 3) := by decide +kernel
theorem dX5_leave_22 : decode cX5_leave 22 = .ok (.athrow, 1) := by decide +kernel
theorem dX5_leave_23 : decode cX5_leave 23 = .ok (.aload_n 2, 1) := by decide +kernel
theorem dX5_leave_24 : decode cX5_leave 24 = .ok (.iconst 1, 1) := by decide +kernel
theorem dX5_leave_25 : decode cX5_leave 25 = .ok (.putfield 79, 3) := by decide +kernel
theorem dX5_leave_28 : decode cX5_leave 28 = .ok (.aload_n 2, 1) := by decide +kernel
theorem dX5_leave_29 : decode cX5_leave 29 = .ok (.aload_n 0, 1) := by decide +kernel
theorem dX5_leave_30 : decode cX5_leave 30 = .ok (.getfield 33, 3) := by decide +kernel
theorem dX5_leave_33 : decode cX5_leave 33 = .ok (.bipush 15, 2) := by decide +kernel
theorem dX5_leave_35 : decode cX5_leave 35 = .ok (.iadd, 1) := by decide +kernel
theorem dX5_leave_36 : decode cX5_leave 36 = .ok (.putfield 97, 3) := by decide +kernel
theorem dX5_leave_39 : decode cX5_leave 39 = .ok (.aload_n 2, 1) := by decide +kernel
theorem dX5_leave_40 : decode cX5_leave 40 = .ok (.getfield 97, 3) := by decide +kernel
theorem dX5_leave_43 : decode cX5_leave 43 = .ok (.ireturn, 1) := by decide +kernel
theorem dX5_join_0 : decode cX5_join 0 = .ok (.aload_n 0, 1) := by decide +kernel
theorem dX5_join_1 : decode cX5_join 1 = .ok (.iload_n 1, 1) := by decide +kernel
theorem dX5_join_2 : decode cX5_join 2 = .ok (.invokevirtual 64, 3) := by decide +kernel
theorem dX5_join_5 : decode cX5_join 5 = .ok (.astore_n 3, 1) := by decide +kernel
theorem dX5_join_6 : decode cX5_join 6 = .ok (.iload_n 2, 1) := by decide +kernel
theorem dX5_join_7 : decode cX5_join 7 = .ok (.iconst 0, 1) := by decide +kernel
theorem dX5_join_8 : decode cX5_join 8 = .ok (.sipush 9999, 3) := by decide +kernel
theorem dX5_join_11 : decode cX5_join 11 = .ok (.invokestatic 37, 3) := by decide +kernel
theorem dX5_join_14 : decode cX5_join 14 = .ok (.aload_n 3, 1) := by decide +kernel
theorem dX5_join_15 : decode cX5_join 15 = .ok (.getfield 79, 3) := by decide +kernel
theorem dX5_join_18 : decode cX5_join 18 = .ok (.ifCond .ne 13, 3) := by decide +kernel
theorem dX5_join_21 : decode cX5_join 21 = .ok (.new 45, 3) := by decide +kernel
theorem dX5_join_24 : decode cX5_join 24 = .ok (.dup, 1) := by decide +kernel
theorem dX5_join_25 : decode cX5_join 25 = .ok (.ldc 100, 2) := by decide +kernel
theorem dX5_join_27 : decode cX5_join 27 = .ok (.invokespecial 49, 3) := by decide +kernel
theorem dX5_join_30 : decode cX5_join 30 = .ok (.athrow, 1) := by decide +kernel
theorem dX5_join_31 : decode cX5_join 31 = .ok (.aload_n 3, 1) := by decide +kernel
theorem dX5_join_32 : decode cX5_join 32 = .ok (.getfield 79, 3) := by decide +kernel
theorem dX5_join_35 : decode cX5_join 35 = .ok (.iconst 2, 1) := by decide +kernel
theorem dX5_join_36 : decode cX5_join 36 = .ok (.if_icmp .ne 17, 3) := by decide +kernel
theorem dX5_join_39 : decode cX5_join 39 = .ok (.iload_n 2, 1) := by decide +kernel
theorem dX5_join_40 : decode cX5_join 40 = .ok (.ifCond .ne 13, 3) := by decide +kernel
theorem dX5_join_43 : decode cX5_join 43 = .ok (.new 45, 3) := by decide +kernel
theorem dX5_join_46 : decode cX5_join 46 = .ok (.dup, 1) := by decide +kernel
theorem dX5_join_47 : decode cX5_join 47 = .ok (.ldc 102, 2) := by decide +kernel
theorem dX5_join_49 : decode cX5_join 49 = .ok (.invokespecial 49, 3) := by decide +kernel
theorem dX5_join_52 : decode cX5_join 52 = .ok (.athrow, 1) := by decide +kernel
theorem dX5_join_53 : decode cX5_join 53 = .ok (.aload_n 3, 1) := by decide +kernel
theorem dX5_join_54 : decode cX5_join 54 = .ok (.iload_n 2, 1) := by decide +kernel
theorem dX5_join_55 : decode cX5_join 55 = .ok (.invokestatic 84, 3) := by decide +kernel
theorem dX5_join_58 : decode cX5_join 58 = .ok (.aload_n 3, 1) := by decide +kernel
theorem dX5_join_59 : decode cX5_join 59 = .ok (.iload_n 2, 1) := by decide +kernel
theorem dX5_join_60 : decode cX5_join 60 = .ok (.invokevirtual 88, 3) := by decide +kernel
theorem dX5_join_63 : decode cX5_join 63 = .ok (.aload_n 3, 1) := by decide +kernel
theorem dX5_join_64 : decode cX5_join 64 = .ok (.iconst 0, 1) := by decide +kernel
theorem dX5_join_65 : decode cX5_join 65 = .ok (.putfield 79, 3) := by decide +kernel
theorem dX5_join_68 : decode cX5_join 68 = .ok (.aload_n 3, 1) := by decide +kernel
theorem dX5_join_69 : decode cX5_join 69 = .ok (.iconst (-1), 1) := by decide +kernel
theorem dX5_join_70 : decode cX5_join 70 = .ok (.putfield 97, 3) := by decide +kernel
theorem dX5_join_73 : decode cX5_join 73 = .ok (.aload_n 3, 1) := by decide +kernel
theorem dX5_join_74 : decode cX5_join 74 = .ok (.getfield 92, 3) := by decide +kernel
theorem dX5_join_77 : decode cX5_join 77 = .ok (.ireturn, 1) := by decide +kernel
theorem dX5_send_0 : decode cX5_send 0 = .ok (.aload_n 0, 1) := by decide +kernel
theorem dX5_send_1 : decode cX5_send 1 = .ok (.iload_n 1, 1) := by decide +kernel
theorem dX5_send_2 : decode cX5_send 2 = .ok (.iload_n 2, 1) := by decide +kernel
theorem dX5_send_3 : decode cX5_send 3 = .ok (.invokevirtual 60, 3) := by decide +kernel
theorem dX5_send_6 : decode cX5_send 6 = .ok (.aload_n 0, 1) := by decide +kernel
theorem dX5_send_7 : decode cX5_send 7 = .ok (.iload_n 1, 1) := by decide +kernel
theorem dX5_send_8 : decode cX5_send 8 = .ok (.invokevirtual 64, 3) := by decide +kernel
theorem dX5_send_11 : decode cX5_send 11 = .ok (.astore_n 3, 1) := by decide +kernel
theorem dX5_send_12 : decode cX5_send 12 = .ok (.aload_n 0, 1) := by decide +kernel
theorem dX5_send_13 : decode cX5_send 13 = .ok (.getfield 16, 3) := by decide +kernel
theorem dX5_send_16 : decode cX5_send 16 = .ok (.invokevirtual 41, 3) := by decide +kernel
theorem dX5_send_19 : decode cX5_send 19 = .ok (.bipush 60, 2) := by decide +kernel
theorem dX5_send_21 : decode cX5_send 21 = .ok (.if_icmp .lt 13, 3) := by decide +kernel
theorem dX5_send_24 : decode cX5_send 24 = .ok (.new 45, 3) := by decide +kernel
theorem dX5_send_27 : decode cX5_send 27 = .ok (.dup, 1) := by decide +kernel
theorem dX5_send_28 : decode cX5_send 28 = .ok (.ldc 104, 2) := by decide +kernel
theorem dX5_send_30 : decode cX5_send 30 = .ok (.invokespecial 49, 3) := by decide +kernel
theorem dX5_send_33 : decode cX5_send 33 = .ok (.athrow, 1) := by decide +kernel
theorem dX5_send_34 : decode cX5_send 34 = .ok (.aload_n 0, 1) := by decide +kernel
theorem dX5_send_35 : decode cX5_send 35 = .ok (.getfield 22, 3) := by decide +kernel
theorem dX5_send_38 : decode cX5_send 38 = .ok (.aload_n 0, 1) := by decide +kernel
theorem dX5_send_39 : decode cX5_send 39 = .ok (.getfield 10, 3) := by decide +kernel
theorem dX5_send_42 : decode cX5_send 42 = .ok (.iload_n 1, 1) := by decide +kernel
theorem dX5_send_43 : decode cX5_send 43 = .ok (.iload_n 2, 1) := by decide +kernel
theorem dX5_send_44 : decode cX5_send 44 = .ok (.invokevirtual 106, 3) := by decide +kernel
theorem dX5_send_47 : decode cX5_send 47 = .ok (.ifCond .ne 13, 3) := by decide +kernel
theorem dX5_send_50 : decode cX5_send 50 = .ok (.new 45, 3) := by decide +kernel
theorem dX5_send_53 : decode cX5_send 53 = .ok (.dup, 1) := by decide +kernel
theorem dX5_send_54 : decode cX5_send 54 = .ok (.ldc 110, 2) := by decide +kernel
theorem dX5_send_56 : decode cX5_send 56 = .ok (.invokespecial 49, 3) := by decide +kernel
theorem dX5_send_59 : decode cX5_send 59 = .ok (.athrow, 1) := by decide +kernel
theorem dX5_send_60 : decode cX5_send 60 = .ok (.aload_n 3, 1) := by decide +kernel
theorem dX5_send_61 : decode cX5_send 61 = .ok (.aload_n 0, 1) := by decide +kernel
theorem dX5_send_62 : decode cX5_send 62 = .ok (.getfield 22, 3) := by decide +kernel
theorem dX5_send_65 : decode cX5_send 65 = .ok (.getfield 112, 3) := by decide +kernel
theorem dX5_send_68 : decode cX5_send 68 = .ok (.getfield 116, 3) := by decide +kernel
theorem dX5_send_71 : decode cX5_send 71 = .ok (.invokestatic 84, 3) := by decide +kernel
theorem dX5_send_74 : decode cX5_send 74 = .ok (.new 121, 3) := by decide +kernel
theorem dX5_send_77 : decode cX5_send 77 = .ok (.dup, 1) := by decide +kernel
theorem dX5_send_78 : decode cX5_send 78 = .ok (.aload_n 0, 1) := by decide +kernel
theorem dX5_send_79 : decode cX5_send 79 = .ok (.getfield 22, 3) := by decide +kernel
theorem dX5_send_82 : decode cX5_send 82 = .ok (.getfield 112, 3) := by decide +kernel
theorem dX5_send_85 : decode cX5_send 85 = .ok (.invokespecial 123, 3) := by decide +kernel
theorem dX5_send_88 : decode cX5_send 88 = .ok (.astore 4, 2) := by decide +kernel
theorem dX5_send_90 : decode cX5_send 90 = .ok (.aload_n 3, 1) := by decide +kernel
theorem dX5_send_91 : decode cX5_send 91 = .ok (.dup, 1) := by decide +kernel
theorem dX5_send_92 : decode cX5_send 92 = .ok (.getfield 126, 3) := by decide +kernel
theorem dX5_send_95 : decode cX5_send 95 = .ok (.aload 4, 2) := by decide +kernel
theorem dX5_send_97 : decode cX5_send 97 = .ok (.getfield 129, 3) := by decide +kernel
theorem dX5_send_100 : decode cX5_send 100 = .ok (.getfield 116, 3) := by decide +kernel
theorem dX5_send_103 : decode cX5_send 103 = .ok (.isub, 1) := by decide +kernel
theorem dX5_send_104 : decode cX5_send 104 = .ok (.putfield 126, 3) := by decide +kernel
theorem dX5_send_107 : decode cX5_send 107 = .ok (.aload_n 0, 1) := by decide +kernel
theorem dX5_send_108 : decode cX5_send 108 = .ok (.getfield 16, 3) := by decide +kernel
theorem dX5_send_111 : decode cX5_send 111 = .ok (.aload 4, 2) := by decide +kernel
theorem dX5_send_113 : decode cX5_send 113 = .ok (.invokevirtual 56, 3) := by decide +kernel
theorem dX5_send_116 : decode cX5_send 116 = .ok (.pop, 1) := by decide +kernel
theorem dX5_send_117 : decode cX5_send 117 = .ok (.aload_n 0, 1) := by decide +kernel
theorem dX5_send_118 : decode cX5_send 118 = .ok (.getfield 16, 3) := by decide +kernel
theorem dX5_send_121 : decode cX5_send 121 = .ok (.invokevirtual 41, 3) := by decide +kernel
theorem dX5_send_124 : decode cX5_send 124 = .ok (.iconst 1, 1) := by decide +kernel
theorem dX5_send_125 : decode cX5_send 125 = .ok (.isub, 1) := by decide +kernel
theorem dX5_send_126 : decode cX5_send 126 = .ok (.ireturn, 1) := by decide +kernel
theorem dX5_cost_0 : decode cX5_cost 0 = .ok (.aload_n 0, 1) := by decide +kernel
theorem dX5_cost_1 : decode cX5_cost 1 = .ok (.iload_n 1, 1) := by decide +kernel
theorem dX5_cost_2 : decode cX5_cost 2 = .ok (.iload_n 2, 1) := by decide +kernel
theorem dX5_cost_3 : decode cX5_cost 3 = .ok (.invokevirtual 60, 3) := by decide +kernel
theorem dX5_cost_6 : decode cX5_cost 6 = .ok (.aload_n 0, 1) := by decide +kernel
theorem dX5_cost_7 : decode cX5_cost 7 = .ok (.getfield 22, 3) := by decide +kernel
theorem dX5_cost_10 : decode cX5_cost 10 = .ok (.aload_n 0, 1) := by decide +kernel
theorem dX5_cost_11 : decode cX5_cost 11 = .ok (.getfield 10, 3) := by decide +kernel
theorem dX5_cost_14 : decode cX5_cost 14 = .ok (.iload_n 1, 1) := by decide +kernel
theorem dX5_cost_15 : decode cX5_cost 15 = .ok (.iload_n 2, 1) := by decide +kernel
theorem dX5_cost_16 : decode cX5_cost 16 = .ok (.invokevirtual 106, 3) := by decide +kernel
theorem dX5_cost_19 : decode cX5_cost 19 = .ok (.ifCond .eq 16, 3) := by decide +kernel
theorem dX5_cost_22 : decode cX5_cost 22 = .ok (.aload_n 0, 1) := by decide +kernel
theorem dX5_cost_23 : decode cX5_cost 23 = .ok (.getfield 22, 3) := by decide +kernel
theorem dX5_cost_26 : decode cX5_cost 26 = .ok (.getfield 112, 3) := by decide +kernel
theorem dX5_cost_29 : decode cX5_cost 29 = .ok (.getfield 116, 3) := by decide +kernel
theorem dX5_cost_32 : decode cX5_cost 32 = .ok (.goto 4, 3) := by decide +kernel
theorem dX5_cost_35 : decode cX5_cost 35 = .ok (.iconst (-1), 1) := by decide +kernel
theorem dX5_cost_36 : decode cX5_cost 36 = .ok (.ireturn, 1) := by decide +kernel
theorem dX5_lose_0 : decode cX5_lose 0 = .ok (.aload_n 0, 1) := by decide +kernel
theorem dX5_lose_1 : decode cX5_lose 1 = .ok (.iload_n 1, 1) := by decide +kernel
theorem dX5_lose_2 : decode cX5_lose 2 = .ok (.invokevirtual 64, 3) := by decide +kernel
theorem dX5_lose_5 : decode cX5_lose 5 = .ok (.astore_n 3, 1) := by decide +kernel
theorem dX5_lose_6 : decode cX5_lose 6 = .ok (.iload_n 2, 1) := by decide +kernel
theorem dX5_lose_7 : decode cX5_lose 7 = .ok (.iconst 0, 1) := by decide +kernel
theorem dX5_lose_8 : decode cX5_lose 8 = .ok (.bipush 9, 2) := by decide +kernel
theorem dX5_lose_10 : decode cX5_lose 10 = .ok (.invokestatic 37, 3) := by decide +kernel
theorem dX5_lose_13 : decode cX5_lose 13 = .ok (.aload_n 3, 1) := by decide +kernel
theorem dX5_lose_14 : decode cX5_lose 14 = .ok (.getfield 132, 3) := by decide +kernel
theorem dX5_lose_17 : decode cX5_lose 17 = .ok (.istore 4, 2) := by decide +kernel
theorem dX5_lose_19 : decode cX5_lose 19 = .ok (.aload_n 3, 1) := by decide +kernel
theorem dX5_lose_20 : decode cX5_lose 20 = .ok (.iload_n 2, 1) := by decide +kernel
theorem dX5_lose_21 : decode cX5_lose 21 = .ok (.putfield 132, 3) := by decide +kernel
theorem dX5_lose_24 : decode cX5_lose 24 = .ok (.iload 4, 2) := by decide +kernel
theorem dX5_lose_26 : decode cX5_lose 26 = .ok (.ireturn, 1) := by decide +kernel
theorem dX5_message_0 : decode cX5_message 0 = .ok (.aload_n 0, 1) := by decide +kernel
theorem dX5_message_1 : decode cX5_message 1 = .ok (.iload_n 1, 1) := by decide +kernel
theorem dX5_message_2 : decode cX5_message 2 = .ok (.invokevirtual 135, 3) := by decide +kernel
theorem dX5_message_5 : decode cX5_message 5 = .ok (.astore_n 3, 1) := by decide +kernel
theorem dX5_message_6 : decode cX5_message 6 = .ok (.iload_n 2, 1) := by decide +kernel
theorem dX5_message_7 : decode cX5_message 7 = .ok (.iconst 0, 1) := by decide +kernel
theorem dX5_message_8 : decode cX5_message 8 = .ok (.iconst 5, 1) := by decide +kernel
theorem dX5_message_9 : decode cX5_message 9 = .ok (.invokestatic 37, 3) := by decide +kernel
theorem dX5_message_12 : decode cX5_message 12 = .ok (.iload_n 2, 1) := by decide +kernel
theorem dX5_message_13 : decode cX5_message 13 = .ok (.tableswitch 70 0 4 #[35, 40, 52, 60, 65], 35) := by decide +kernel
theorem dX5_message_48 : decode cX5_message 48 = .ok (.aload_n 3, 1) := by decide +kernel
theorem dX5_message_49 : decode cX5_message 49 = .ok (.getfield 139, 3) := by decide +kernel
theorem dX5_message_52 : decode cX5_message 52 = .ok (.ireturn, 1) := by decide +kernel
theorem dX5_message_53 : decode cX5_message 53 = .ok (.aload_n 3, 1) := by decide +kernel
theorem dX5_message_54 : decode cX5_message 54 = .ok (.getfield 129, 3) := by decide +kernel
theorem dX5_message_57 : decode cX5_message 57 = .ok (.aload_n 3, 1) := by decide +kernel
theorem dX5_message_58 : decode cX5_message 58 = .ok (.getfield 140, 3) := by decide +kernel
theorem dX5_message_61 : decode cX5_message 61 = .ok (.invokevirtual 143, 3) := by decide +kernel
theorem dX5_message_64 : decode cX5_message 64 = .ok (.ireturn, 1) := by decide +kernel
theorem dX5_message_65 : decode cX5_message 65 = .ok (.aload_n 3, 1) := by decide +kernel
theorem dX5_message_66 : decode cX5_message 66 = .ok (.getfield 129, 3) := by decide +kernel
theorem dX5_message_69 : decode cX5_message 69 = .ok (.getfield 116, 3) := by decide +kernel
theorem dX5_message_72 : decode cX5_message 72 = .ok (.ireturn, 1) := by decide +kernel
theorem dX5_message_73 : decode cX5_message 73 = .ok (.aload_n 3, 1) := by decide +kernel
theorem dX5_message_74 : decode cX5_message 74 = .ok (.getfield 147, 3) := by decide +kernel
theorem dX5_message_77 : decode cX5_message 77 = .ok (.ireturn, 1) := by decide +kernel
theorem dX5_message_78 : decode cX5_message 78 = .ok (.aload_n 3, 1) := by decide +kernel
theorem dX5_message_79 : decode cX5_message 79 = .ok (.getfield 150, 3) := by decide +kernel
theorem dX5_message_82 : decode cX5_message 82 = .ok (.ireturn, 1) := by decide +kernel
theorem dX5_message_83 : decode cX5_message 83 = .ok (.aload_n 3, 1) := by decide +kernel
theorem dX5_message_84 : decode cX5_message 84 = .ok (.getfield 153, 3) := by decide +kernel
theorem dX5_message_87 : decode cX5_message 87 = .ok (.ireturn, 1) := by decide +kernel
theorem dX5_way_0 : decode cX5_way 0 = .ok (.aload_n 0, 1) := by decide +kernel
theorem dX5_way_1 : decode cX5_way 1 = .ok (.iload_n 1, 1) := by decide +kernel
theorem dX5_way_2 : decode cX5_way 2 = .ok (.invokevirtual 135, 3) := by decide +kernel
theorem dX5_way_5 : decode cX5_way 5 = .ok (.astore_n 3, 1) := by decide +kernel
theorem dX5_way_6 : decode cX5_way 6 = .ok (.iload_n 2, 1) := by decide +kernel
theorem dX5_way_7 : decode cX5_way 7 = .ok (.ifCond .ge 13, 3) := by decide +kernel
theorem dX5_way_10 : decode cX5_way 10 = .ok (.new 156, 3) := by decide +kernel
theorem dX5_way_13 : decode cX5_way 13 = .ok (.dup, 1) := by decide +kernel
theorem dX5_way_14 : decode cX5_way 14 = .ok (.ldc 158, 2) := by decide +kernel
theorem dX5_way_16 : decode cX5_way 16 = .ok (.invokespecial 160, 3) := by decide +kernel
theorem dX5_way_19 : decode cX5_way 19 = .ok (.athrow, 1) := by decide +kernel
theorem dX5_way_20 : decode cX5_way 20 = .ok (.aload_n 3, 1) := by decide +kernel
theorem dX5_way_21 : decode cX5_way 21 = .ok (.getfield 129, 3) := by decide +kernel
theorem dX5_way_24 : decode cX5_way 24 = .ok (.iload_n 2, 1) := by decide +kernel
theorem dX5_way_25 : decode cX5_way 25 = .ok (.invokevirtual 143, 3) := by decide +kernel
theorem dX5_way_28 : decode cX5_way 28 = .ok (.ireturn, 1) := by decide +kernel
theorem dX5_wake_0 : decode cX5_wake 0 = .ok (.aload_n 0, 1) := by decide +kernel
theorem dX5_wake_1 : decode cX5_wake 1 = .ok (.iload_n 1, 1) := by decide +kernel
theorem dX5_wake_2 : decode cX5_wake 2 = .ok (.invokevirtual 64, 3) := by decide +kernel
theorem dX5_wake_5 : decode cX5_wake 5 = .ok (.pop, 1) := by decide +kernel
theorem dX5_wake_6 : decode cX5_wake 6 = .ok (.aload_n 0, 1) := by decide +kernel
theorem dX5_wake_7 : decode cX5_wake 7 = .ok (.getfield 29, 3) := by decide +kernel
theorem dX5_wake_10 : decode cX5_wake 10 = .ok (.aload_n 0, 1) := by decide +kernel
theorem dX5_wake_11 : decode cX5_wake 11 = .ok (.getfield 33, 3) := by decide +kernel
theorem dX5_wake_14 : decode cX5_wake 14 = .ok (.invokevirtual 161, 3) := by decide +kernel
theorem dX5_wake_17 : decode cX5_wake 17 = .ok (.iload_n 1, 1) := by decide +kernel
theorem dX5_wake_18 : decode cX5_wake 18 = .ok (.if_icmp .eq 5, 3) := by decide +kernel
theorem dX5_wake_21 : decode cX5_wake 21 = .ok (.iconst 0, 1) := by decide +kernel
theorem dX5_wake_22 : decode cX5_wake 22 = .ok (.ireturn, 1) := by decide +kernel
theorem dX5_wake_23 : decode cX5_wake 23 = .ok (.aload_n 0, 1) := by decide +kernel
theorem dX5_wake_24 : decode cX5_wake 24 = .ok (.getfield 29, 3) := by decide +kernel
theorem dX5_wake_27 : decode cX5_wake 27 = .ok (.aload_n 0, 1) := by decide +kernel
theorem dX5_wake_28 : decode cX5_wake 28 = .ok (.getfield 33, 3) := by decide +kernel
theorem dX5_wake_31 : decode cX5_wake 31 = .ok (.invokevirtual 164, 3) := by decide +kernel
theorem dX5_wake_34 : decode cX5_wake 34 = .ok (.iconst 1, 1) := by decide +kernel
theorem dX5_wake_35 : decode cX5_wake 35 = .ok (.ireturn, 1) := by decide +kernel
theorem dX5_prove_0 : decode cX5_prove 0 = .ok (.aload_n 0, 1) := by decide +kernel
theorem dX5_prove_1 : decode cX5_prove 1 = .ok (.iload_n 1, 1) := by decide +kernel
theorem dX5_prove_2 : decode cX5_prove 2 = .ok (.invokevirtual 64, 3) := by decide +kernel
theorem dX5_prove_5 : decode cX5_prove 5 = .ok (.astore_n 3, 1) := by decide +kernel
theorem dX5_prove_6 : decode cX5_prove 6 = .ok (.iload_n 2, 1) := by decide +kernel
theorem dX5_prove_7 : decode cX5_prove 7 = .ok (.iconst 0, 1) := by decide +kernel
theorem dX5_prove_8 : decode cX5_prove 8 = .ok (.sipush 9999, 3) := by decide +kernel
theorem dX5_prove_11 : decode cX5_prove 11 = .ok (.invokestatic 37, 3) := by decide +kernel
theorem dX5_prove_14 : decode cX5_prove 14 = .ok (.iload_n 2, 1) := by decide +kernel
theorem dX5_prove_15 : decode cX5_prove 15 = .ok (.aload_n 0, 1) := by decide +kernel
theorem dX5_prove_16 : decode cX5_prove 16 = .ok (.getfield 33, 3) := by decide +kernel
theorem dX5_prove_19 : decode cX5_prove 19 = .ok (.if_icmp .ge 14, 3) := by decide +kernel
theorem dX5_prove_22 : decode cX5_prove 22 = .ok (.iload_n 2, 1) := by decide +kernel
theorem dX5_prove_23 : decode cX5_prove 23 = .ok (.aload_n 0, 1) := by decide +kernel
theorem dX5_prove_24 : decode cX5_prove 24 = .ok (.getfield 33, 3) := by decide +kernel
theorem dX5_prove_27 : decode cX5_prove 27 = .ok (.bipush 10, 2) := by decide +kernel
theorem dX5_prove_29 : decode cX5_prove 29 = .ok (.isub, 1) := by decide +kernel
theorem dX5_prove_30 : decode cX5_prove 30 = .ok (.if_icmp .ge 13, 3) := by decide +kernel
theorem dX5_prove_33 : decode cX5_prove 33 = .ok (.new 45, 3) := by decide +kernel
theorem dX5_prove_36 : decode cX5_prove 36 = .ok (.dup, 1) := by decide +kernel
theorem dX5_prove_37 : decode cX5_prove 37 = .ok (.ldc 167, 2) := by decide +kernel
theorem dX5_prove_39 : decode cX5_prove 39 = .ok (.invokespecial 49, 3) := by decide +kernel
theorem dX5_prove_42 : decode cX5_prove 42 = .ok (.athrow, 1) := by decide +kernel
theorem dX5_prove_43 : decode cX5_prove 43 = .ok (.aload_n 0, 1) := by decide +kernel
theorem dX5_prove_44 : decode cX5_prove 44 = .ok (.iload_n 1, 1) := by decide +kernel
theorem dX5_prove_45 : decode cX5_prove 45 = .ok (.iload_n 2, 1) := by decide +kernel
theorem dX5_prove_46 : decode cX5_prove 46 = .ok (.invokevirtual 169, 3) := by decide +kernel
theorem dX5_prove_49 : decode cX5_prove 49 = .ok (.aload_n 0, 1) := by decide +kernel
theorem dX5_prove_50 : decode cX5_prove 50 = .ok (.iload_n 1, 1) := by decide +kernel
theorem dX5_prove_51 : decode cX5_prove 51 = .ok (.iload_n 2, 1) := by decide +kernel
theorem dX5_prove_52 : decode cX5_prove 52 = .ok (.invokevirtual 172, 3) := by decide +kernel
theorem dX5_prove_55 : decode cX5_prove 55 = .ok (.aload_n 0, 1) := by decide +kernel
theorem dX5_prove_56 : decode cX5_prove 56 = .ok (.aload_n 0, 1) := by decide +kernel
theorem dX5_prove_57 : decode cX5_prove 57 = .ok (.getfield 29, 3) := by decide +kernel
theorem dX5_prove_60 : decode cX5_prove 60 = .ok (.iload_n 2, 1) := by decide +kernel
theorem dX5_prove_61 : decode cX5_prove 61 = .ok (.invokevirtual 161, 3) := by decide +kernel
theorem dX5_prove_64 : decode cX5_prove 64 = .ok (.invokevirtual 64, 3) := by decide +kernel
theorem dX5_prove_67 : decode cX5_prove 67 = .ok (.astore 4, 2) := by decide +kernel
theorem dX5_prove_69 : decode cX5_prove 69 = .ok (.aload 4, 2) := by decide +kernel
theorem dX5_prove_71 : decode cX5_prove 71 = .ok (.bipush 10, 2) := by decide +kernel
theorem dX5_prove_73 : decode cX5_prove 73 = .ok (.invokevirtual 175, 3) := by decide +kernel
theorem dX5_prove_76 : decode cX5_prove 76 = .ok (.istore 5, 2) := by decide +kernel
theorem dX5_prove_78 : decode cX5_prove 78 = .ok (.aload_n 3, 1) := by decide +kernel
theorem dX5_prove_79 : decode cX5_prove 79 = .ok (.dup, 1) := by decide +kernel
theorem dX5_prove_80 : decode cX5_prove 80 = .ok (.getfield 126, 3) := by decide +kernel
theorem dX5_prove_83 : decode cX5_prove 83 = .ok (.iload 5, 2) := by decide +kernel
theorem dX5_prove_85 : decode cX5_prove 85 = .ok (.iadd, 1) := by decide +kernel
theorem dX5_prove_86 : decode cX5_prove 86 = .ok (.putfield 126, 3) := by decide +kernel
theorem dX5_prove_89 : decode cX5_prove 89 = .ok (.aload 4, 2) := by decide +kernel
theorem dX5_prove_91 : decode cX5_prove 91 = .ok (.bipush 10, 2) := by decide +kernel
theorem dX5_prove_93 : decode cX5_prove 93 = .ok (.invokevirtual 178, 3) := by decide +kernel
theorem dX5_prove_96 : decode cX5_prove 96 = .ok (.aload_n 0, 1) := by decide +kernel
theorem dX5_prove_97 : decode cX5_prove 97 = .ok (.getfield 29, 3) := by decide +kernel
theorem dX5_prove_100 : decode cX5_prove 100 = .ok (.iload_n 2, 1) := by decide +kernel
theorem dX5_prove_101 : decode cX5_prove 101 = .ok (.invokevirtual 181, 3) := by decide +kernel
theorem dX5_prove_104 : decode cX5_prove 104 = .ok (.iload 5, 2) := by decide +kernel
theorem dX5_prove_106 : decode cX5_prove 106 = .ok (.ireturn, 1) := by decide +kernel
theorem dX5_watcher_0 : decode cX5_watcher 0 = .ok (.aload_n 0, 1) := by decide +kernel
theorem dX5_watcher_1 : decode cX5_watcher 1 = .ok (.getfield 29, 3) := by decide +kernel
theorem dX5_watcher_4 : decode cX5_watcher 4 = .ok (.aload_n 0, 1) := by decide +kernel
theorem dX5_watcher_5 : decode cX5_watcher 5 = .ok (.getfield 33, 3) := by decide +kernel
theorem dX5_watcher_8 : decode cX5_watcher 8 = .ok (.invokevirtual 161, 3) := by decide +kernel
theorem dX5_watcher_11 : decode cX5_watcher 11 = .ok (.ireturn, 1) := by decide +kernel
theorem dX5_pass_0 : decode cX5_pass 0 = .ok (.iload_n 1, 1) := by decide +kernel
theorem dX5_pass_1 : decode cX5_pass 1 = .ok (.iconst 1, 1) := by decide +kernel
theorem dX5_pass_2 : decode cX5_pass 2 = .ok (.bipush 30, 2) := by decide +kernel
theorem dX5_pass_4 : decode cX5_pass 4 = .ok (.invokestatic 37, 3) := by decide +kernel
theorem dX5_pass_7 : decode cX5_pass 7 = .ok (.iload_n 1, 1) := by decide +kernel
theorem dX5_pass_8 : decode cX5_pass 8 = .ok (.sipush 5000, 3) := by decide +kernel
theorem dX5_pass_11 : decode cX5_pass 11 = .ok (.aload_n 0, 1) := by decide +kernel
theorem dX5_pass_12 : decode cX5_pass 12 = .ok (.getfield 33, 3) := by decide +kernel
theorem dX5_pass_15 : decode cX5_pass 15 = .ok (.isub, 1) := by decide +kernel
theorem dX5_pass_16 : decode cX5_pass 16 = .ok (.if_icmp .le 13, 3) := by decide +kernel
theorem dX5_pass_19 : decode cX5_pass 19 = .ok (.new 45, 3) := by decide +kernel
theorem dX5_pass_22 : decode cX5_pass 22 = .ok (.dup, 1) := by decide +kernel
theorem dX5_pass_23 : decode cX5_pass 23 = .ok (.ldc 184, 2) := by decide +kernel
theorem dX5_pass_25 : decode cX5_pass 25 = .ok (.invokespecial 49, 3) := by decide +kernel
theorem dX5_pass_28 : decode cX5_pass 28 = .ok (.athrow, 1) := by decide +kernel
theorem dX5_pass_29 : decode cX5_pass 29 = .ok (.iconst 0, 1) := by decide +kernel
theorem dX5_pass_30 : decode cX5_pass 30 = .ok (.istore_n 2, 1) := by decide +kernel
theorem dX5_pass_31 : decode cX5_pass 31 = .ok (.iload_n 2, 1) := by decide +kernel
theorem dX5_pass_32 : decode cX5_pass 32 = .ok (.iload_n 1, 1) := by decide +kernel
theorem dX5_pass_33 : decode cX5_pass 33 = .ok (.if_icmp .ge 17, 3) := by decide +kernel
theorem dX5_pass_36 : decode cX5_pass 36 = .ok (.aload_n 0, 1) := by decide +kernel
theorem dX5_pass_37 : decode cX5_pass 37 = .ok (.invokevirtual 186, 3) := by decide +kernel
theorem dX5_pass_40 : decode cX5_pass 40 = .ok (.aload_n 0, 1) := by decide +kernel
theorem dX5_pass_41 : decode cX5_pass 41 = .ok (.invokevirtual 189, 3) := by decide +kernel
theorem dX5_pass_44 : decode cX5_pass 44 = .ok (.iinc 2 1, 3) := by decide +kernel
theorem dX5_pass_47 : decode cX5_pass 47 = .ok (.goto (-16), 3) := by decide +kernel
theorem dX5_pass_50 : decode cX5_pass 50 = .ok (.aload_n 0, 1) := by decide +kernel
theorem dX5_pass_51 : decode cX5_pass 51 = .ok (.getfield 33, 3) := by decide +kernel
theorem dX5_pass_54 : decode cX5_pass 54 = .ok (.ireturn, 1) := by decide +kernel
theorem dX5_nodeIs_0 : decode cX5_nodeIs 0 = .ok (.aload_n 0, 1) := by decide +kernel
theorem dX5_nodeIs_1 : decode cX5_nodeIs 1 = .ok (.iload_n 1, 1) := by decide +kernel
theorem dX5_nodeIs_2 : decode cX5_nodeIs 2 = .ok (.invokevirtual 64, 3) := by decide +kernel
theorem dX5_nodeIs_5 : decode cX5_nodeIs 5 = .ok (.astore_n 3, 1) := by decide +kernel
theorem dX5_nodeIs_6 : decode cX5_nodeIs 6 = .ok (.iload_n 2, 1) := by decide +kernel
theorem dX5_nodeIs_7 : decode cX5_nodeIs 7 = .ok (.iconst 0, 1) := by decide +kernel
theorem dX5_nodeIs_8 : decode cX5_nodeIs 8 = .ok (.bipush 6, 2) := by decide +kernel
theorem dX5_nodeIs_10 : decode cX5_nodeIs 10 = .ok (.invokestatic 37, 3) := by decide +kernel
theorem dX5_nodeIs_13 : decode cX5_nodeIs 13 = .ok (.iload_n 2, 1) := by decide +kernel
theorem dX5_nodeIs_14 : decode cX5_nodeIs 14 = .ok (.tableswitch 68 0 5 #[38, 43, 48, 53, 58, 63], 38) := by decide +kernel
theorem dX5_nodeIs_52 : decode cX5_nodeIs 52 = .ok (.aload_n 3, 1) := by decide +kernel
theorem dX5_nodeIs_53 : decode cX5_nodeIs 53 = .ok (.getfield 126, 3) := by decide +kernel
theorem dX5_nodeIs_56 : decode cX5_nodeIs 56 = .ok (.ireturn, 1) := by decide +kernel
theorem dX5_nodeIs_57 : decode cX5_nodeIs 57 = .ok (.aload_n 3, 1) := by decide +kernel
theorem dX5_nodeIs_58 : decode cX5_nodeIs 58 = .ok (.getfield 92, 3) := by decide +kernel
theorem dX5_nodeIs_61 : decode cX5_nodeIs 61 = .ok (.ireturn, 1) := by decide +kernel
theorem dX5_nodeIs_62 : decode cX5_nodeIs 62 = .ok (.aload_n 3, 1) := by decide +kernel
theorem dX5_nodeIs_63 : decode cX5_nodeIs 63 = .ok (.getfield 192, 3) := by decide +kernel
theorem dX5_nodeIs_66 : decode cX5_nodeIs 66 = .ok (.ireturn, 1) := by decide +kernel
theorem dX5_nodeIs_67 : decode cX5_nodeIs 67 = .ok (.aload_n 3, 1) := by decide +kernel
theorem dX5_nodeIs_68 : decode cX5_nodeIs 68 = .ok (.getfield 79, 3) := by decide +kernel
theorem dX5_nodeIs_71 : decode cX5_nodeIs 71 = .ok (.ireturn, 1) := by decide +kernel
theorem dX5_nodeIs_72 : decode cX5_nodeIs 72 = .ok (.aload_n 3, 1) := by decide +kernel
theorem dX5_nodeIs_73 : decode cX5_nodeIs 73 = .ok (.getfield 195, 3) := by decide +kernel
theorem dX5_nodeIs_76 : decode cX5_nodeIs 76 = .ok (.ireturn, 1) := by decide +kernel
theorem dX5_nodeIs_77 : decode cX5_nodeIs 77 = .ok (.aload_n 3, 1) := by decide +kernel
theorem dX5_nodeIs_78 : decode cX5_nodeIs 78 = .ok (.getfield 198, 3) := by decide +kernel
theorem dX5_nodeIs_81 : decode cX5_nodeIs 81 = .ok (.ireturn, 1) := by decide +kernel
theorem dX5_nodeIs_82 : decode cX5_nodeIs 82 = .ok (.aload_n 3, 1) := by decide +kernel
theorem dX5_nodeIs_83 : decode cX5_nodeIs 83 = .ok (.getfield 97, 3) := by decide +kernel
theorem dX5_nodeIs_86 : decode cX5_nodeIs 86 = .ok (.ireturn, 1) := by decide +kernel
theorem dX5_paidAnew_0 : decode cX5_paidAnew 0 = .ok (.aload_n 0, 1) := by decide +kernel
theorem dX5_paidAnew_1 : decode cX5_paidAnew 1 = .ok (.iload_n 1, 1) := by decide +kernel
theorem dX5_paidAnew_2 : decode cX5_paidAnew 2 = .ok (.invokevirtual 64, 3) := by decide +kernel
theorem dX5_paidAnew_5 : decode cX5_paidAnew 5 = .ok (.pop, 1) := by decide +kernel
theorem dX5_paidAnew_6 : decode cX5_paidAnew 6 = .ok (.iconst 0, 1) := by decide +kernel
theorem dX5_paidAnew_7 : decode cX5_paidAnew 7 = .ok (.istore_n 2, 1) := by decide +kernel
theorem dX5_paidAnew_8 : decode cX5_paidAnew 8 = .ok (.iconst 0, 1) := by decide +kernel
theorem dX5_paidAnew_9 : decode cX5_paidAnew 9 = .ok (.istore_n 3, 1) := by decide +kernel
theorem dX5_paidAnew_10 : decode cX5_paidAnew 10 = .ok (.iload_n 3, 1) := by decide +kernel
theorem dX5_paidAnew_11 : decode cX5_paidAnew 11 = .ok (.aload_n 0, 1) := by decide +kernel
theorem dX5_paidAnew_12 : decode cX5_paidAnew 12 = .ok (.getfield 16, 3) := by decide +kernel
theorem dX5_paidAnew_15 : decode cX5_paidAnew 15 = .ok (.invokevirtual 41, 3) := by decide +kernel
theorem dX5_paidAnew_18 : decode cX5_paidAnew 18 = .ok (.if_icmp .ge 39, 3) := by decide +kernel
theorem dX5_paidAnew_21 : decode cX5_paidAnew 21 = .ok (.aload_n 0, 1) := by decide +kernel
theorem dX5_paidAnew_22 : decode cX5_paidAnew 22 = .ok (.getfield 16, 3) := by decide +kernel
theorem dX5_paidAnew_25 : decode cX5_paidAnew 25 = .ok (.iload_n 3, 1) := by decide +kernel
theorem dX5_paidAnew_26 : decode cX5_paidAnew 26 = .ok (.invokevirtual 199, 3) := by decide +kernel
theorem dX5_paidAnew_29 : decode cX5_paidAnew 29 = .ok (.checkcast 121, 3) := by decide +kernel
theorem dX5_paidAnew_32 : decode cX5_paidAnew 32 = .ok (.astore 4, 2) := by decide +kernel
theorem dX5_paidAnew_34 : decode cX5_paidAnew 34 = .ok (.aload 4, 2) := by decide +kernel
theorem dX5_paidAnew_36 : decode cX5_paidAnew 36 = .ok (.getfield 139, 3) := by decide +kernel
theorem dX5_paidAnew_39 : decode cX5_paidAnew 39 = .ok (.ifCond .eq 12, 3) := by decide +kernel
theorem dX5_paidAnew_42 : decode cX5_paidAnew 42 = .ok (.iload_n 2, 1) := by decide +kernel
theorem dX5_paidAnew_43 : decode cX5_paidAnew 43 = .ok (.aload 4, 2) := by decide +kernel
theorem dX5_paidAnew_45 : decode cX5_paidAnew 45 = .ok (.iload_n 1, 1) := by decide +kernel
theorem dX5_paidAnew_46 : decode cX5_paidAnew 46 = .ok (.invokevirtual 203, 3) := by decide +kernel
theorem dX5_paidAnew_49 : decode cX5_paidAnew 49 = .ok (.iadd, 1) := by decide +kernel
theorem dX5_paidAnew_50 : decode cX5_paidAnew 50 = .ok (.istore_n 2, 1) := by decide +kernel
theorem dX5_paidAnew_51 : decode cX5_paidAnew 51 = .ok (.iinc 3 1, 3) := by decide +kernel
theorem dX5_paidAnew_54 : decode cX5_paidAnew 54 = .ok (.goto (-44), 3) := by decide +kernel
theorem dX5_paidAnew_57 : decode cX5_paidAnew 57 = .ok (.iload_n 2, 1) := by decide +kernel
theorem dX5_paidAnew_58 : decode cX5_paidAnew 58 = .ok (.ireturn, 1) := by decide +kernel
theorem dX5_money_0 : decode cX5_money 0 = .ok (.iconst 0, 1) := by decide +kernel
theorem dX5_money_1 : decode cX5_money 1 = .ok (.istore_n 1, 1) := by decide +kernel
theorem dX5_money_2 : decode cX5_money 2 = .ok (.iconst 0, 1) := by decide +kernel
theorem dX5_money_3 : decode cX5_money 3 = .ok (.istore_n 2, 1) := by decide +kernel
theorem dX5_money_4 : decode cX5_money 4 = .ok (.iload_n 2, 1) := by decide +kernel
theorem dX5_money_5 : decode cX5_money 5 = .ok (.aload_n 0, 1) := by decide +kernel
theorem dX5_money_6 : decode cX5_money 6 = .ok (.getfield 10, 3) := by decide +kernel
theorem dX5_money_9 : decode cX5_money 9 = .ok (.invokevirtual 41, 3) := by decide +kernel
theorem dX5_money_12 : decode cX5_money 12 = .ok (.if_icmp .ge 33, 3) := by decide +kernel
theorem dX5_money_15 : decode cX5_money 15 = .ok (.aload_n 0, 1) := by decide +kernel
theorem dX5_money_16 : decode cX5_money 16 = .ok (.getfield 10, 3) := by decide +kernel
theorem dX5_money_19 : decode cX5_money 19 = .ok (.iload_n 2, 1) := by decide +kernel
theorem dX5_money_20 : decode cX5_money 20 = .ok (.invokevirtual 199, 3) := by decide +kernel
theorem dX5_money_23 : decode cX5_money 23 = .ok (.checkcast 52, 3) := by decide +kernel
theorem dX5_money_26 : decode cX5_money 26 = .ok (.astore_n 3, 1) := by decide +kernel
theorem dX5_money_27 : decode cX5_money 27 = .ok (.iload_n 1, 1) := by decide +kernel
theorem dX5_money_28 : decode cX5_money 28 = .ok (.aload_n 3, 1) := by decide +kernel
theorem dX5_money_29 : decode cX5_money 29 = .ok (.getfield 126, 3) := by decide +kernel
theorem dX5_money_32 : decode cX5_money 32 = .ok (.aload_n 3, 1) := by decide +kernel
theorem dX5_money_33 : decode cX5_money 33 = .ok (.getfield 92, 3) := by decide +kernel
theorem dX5_money_36 : decode cX5_money 36 = .ok (.iadd, 1) := by decide +kernel
theorem dX5_money_37 : decode cX5_money 37 = .ok (.iadd, 1) := by decide +kernel
theorem dX5_money_38 : decode cX5_money 38 = .ok (.istore_n 1, 1) := by decide +kernel
theorem dX5_money_39 : decode cX5_money 39 = .ok (.iinc 2 1, 3) := by decide +kernel
theorem dX5_money_42 : decode cX5_money 42 = .ok (.goto (-38), 3) := by decide +kernel
theorem dX5_money_45 : decode cX5_money 45 = .ok (.iconst 0, 1) := by decide +kernel
theorem dX5_money_46 : decode cX5_money 46 = .ok (.istore_n 2, 1) := by decide +kernel
theorem dX5_money_47 : decode cX5_money 47 = .ok (.iload_n 2, 1) := by decide +kernel
theorem dX5_money_48 : decode cX5_money 48 = .ok (.aload_n 0, 1) := by decide +kernel
theorem dX5_money_49 : decode cX5_money 49 = .ok (.getfield 16, 3) := by decide +kernel
theorem dX5_money_52 : decode cX5_money 52 = .ok (.invokevirtual 41, 3) := by decide +kernel
theorem dX5_money_55 : decode cX5_money 55 = .ok (.if_icmp .ge 38, 3) := by decide +kernel
theorem dX5_money_58 : decode cX5_money 58 = .ok (.aload_n 0, 1) := by decide +kernel
theorem dX5_money_59 : decode cX5_money 59 = .ok (.getfield 16, 3) := by decide +kernel
theorem dX5_money_62 : decode cX5_money 62 = .ok (.iload_n 2, 1) := by decide +kernel
theorem dX5_money_63 : decode cX5_money 63 = .ok (.invokevirtual 199, 3) := by decide +kernel
theorem dX5_money_66 : decode cX5_money 66 = .ok (.checkcast 121, 3) := by decide +kernel
theorem dX5_money_69 : decode cX5_money 69 = .ok (.astore_n 3, 1) := by decide +kernel
theorem dX5_money_70 : decode cX5_money 70 = .ok (.aload_n 3, 1) := by decide +kernel
theorem dX5_money_71 : decode cX5_money 71 = .ok (.getfield 139, 3) := by decide +kernel
theorem dX5_money_74 : decode cX5_money 74 = .ok (.ifCond .ne 13, 3) := by decide +kernel
theorem dX5_money_77 : decode cX5_money 77 = .ok (.iload_n 1, 1) := by decide +kernel
theorem dX5_money_78 : decode cX5_money 78 = .ok (.aload_n 3, 1) := by decide +kernel
theorem dX5_money_79 : decode cX5_money 79 = .ok (.getfield 129, 3) := by decide +kernel
theorem dX5_money_82 : decode cX5_money 82 = .ok (.getfield 116, 3) := by decide +kernel
theorem dX5_money_85 : decode cX5_money 85 = .ok (.iadd, 1) := by decide +kernel
theorem dX5_money_86 : decode cX5_money 86 = .ok (.istore_n 1, 1) := by decide +kernel
theorem dX5_money_87 : decode cX5_money 87 = .ok (.iinc 2 1, 3) := by decide +kernel
theorem dX5_money_90 : decode cX5_money 90 = .ok (.goto (-43), 3) := by decide +kernel
theorem dX5_money_93 : decode cX5_money 93 = .ok (.iload_n 1, 1) := by decide +kernel
theorem dX5_money_94 : decode cX5_money 94 = .ok (.ireturn, 1) := by decide +kernel
theorem dX5_nodeAt_0 : decode cX5_nodeAt 0 = .ok (.iload_n 1, 1) := by decide +kernel
theorem dX5_nodeAt_1 : decode cX5_nodeAt 1 = .ok (.ifCond .lt 14, 3) := by decide +kernel
theorem dX5_nodeAt_4 : decode cX5_nodeAt 4 = .ok (.iload_n 1, 1) := by decide +kernel
theorem dX5_nodeAt_5 : decode cX5_nodeAt 5 = .ok (.aload_n 0, 1) := by decide +kernel
theorem dX5_nodeAt_6 : decode cX5_nodeAt 6 = .ok (.getfield 10, 3) := by decide +kernel
theorem dX5_nodeAt_9 : decode cX5_nodeAt 9 = .ok (.invokevirtual 41, 3) := by decide +kernel
theorem dX5_nodeAt_12 : decode cX5_nodeAt 12 = .ok (.if_icmp .lt 13, 3) := by decide +kernel
theorem dX5_nodeAt_15 : decode cX5_nodeAt 15 = .ok (.new 156, 3) := by decide +kernel
theorem dX5_nodeAt_18 : decode cX5_nodeAt 18 = .ok (.dup, 1) := by decide +kernel
theorem dX5_nodeAt_19 : decode cX5_nodeAt 19 = .ok (.ldc 206, 2) := by decide +kernel
theorem dX5_nodeAt_21 : decode cX5_nodeAt 21 = .ok (.invokespecial 160, 3) := by decide +kernel
theorem dX5_nodeAt_24 : decode cX5_nodeAt 24 = .ok (.athrow, 1) := by decide +kernel
theorem dX5_nodeAt_25 : decode cX5_nodeAt 25 = .ok (.aload_n 0, 1) := by decide +kernel
theorem dX5_nodeAt_26 : decode cX5_nodeAt 26 = .ok (.getfield 10, 3) := by decide +kernel
theorem dX5_nodeAt_29 : decode cX5_nodeAt 29 = .ok (.iload_n 1, 1) := by decide +kernel
theorem dX5_nodeAt_30 : decode cX5_nodeAt 30 = .ok (.invokevirtual 199, 3) := by decide +kernel
theorem dX5_nodeAt_33 : decode cX5_nodeAt 33 = .ok (.checkcast 52, 3) := by decide +kernel
theorem dX5_nodeAt_36 : decode cX5_nodeAt 36 = .ok (.areturn, 1) := by decide +kernel
theorem dX5_messageAt_0 : decode cX5_messageAt 0 = .ok (.iload_n 1, 1) := by decide +kernel
theorem dX5_messageAt_1 : decode cX5_messageAt 1 = .ok (.ifCond .lt 14, 3) := by decide +kernel
theorem dX5_messageAt_4 : decode cX5_messageAt 4 = .ok (.iload_n 1, 1) := by decide +kernel
theorem dX5_messageAt_5 : decode cX5_messageAt 5 = .ok (.aload_n 0, 1) := by decide +kernel
theorem dX5_messageAt_6 : decode cX5_messageAt 6 = .ok (.getfield 16, 3) := by decide +kernel
theorem dX5_messageAt_9 : decode cX5_messageAt 9 = .ok (.invokevirtual 41, 3) := by decide +kernel
theorem dX5_messageAt_12 : decode cX5_messageAt 12 = .ok (.if_icmp .lt 13, 3) := by decide +kernel
theorem dX5_messageAt_15 : decode cX5_messageAt 15 = .ok (.new 156, 3) := by decide +kernel
theorem dX5_messageAt_18 : decode cX5_messageAt 18 = .ok (.dup, 1) := by decide +kernel
theorem dX5_messageAt_19 : decode cX5_messageAt 19 = .ok (.ldc 208, 2) := by decide +kernel
theorem dX5_messageAt_21 : decode cX5_messageAt 21 = .ok (.invokespecial 160, 3) := by decide +kernel
theorem dX5_messageAt_24 : decode cX5_messageAt 24 = .ok (.athrow, 1) := by decide +kernel
theorem dX5_messageAt_25 : decode cX5_messageAt 25 = .ok (.aload_n 0, 1) := by decide +kernel
theorem dX5_messageAt_26 : decode cX5_messageAt 26 = .ok (.getfield 16, 3) := by decide +kernel
theorem dX5_messageAt_29 : decode cX5_messageAt 29 = .ok (.iload_n 1, 1) := by decide +kernel
theorem dX5_messageAt_30 : decode cX5_messageAt 30 = .ok (.invokevirtual 199, 3) := by decide +kernel
theorem dX5_messageAt_33 : decode cX5_messageAt 33 = .ok (.checkcast 121, 3) := by decide +kernel
theorem dX5_messageAt_36 : decode cX5_messageAt 36 = .ok (.areturn, 1) := by decide +kernel
theorem dX5_checkPair_0 : decode cX5_checkPair 0 = .ok (.aload_n 0, 1) := by decide +kernel
theorem dX5_checkPair_1 : decode cX5_checkPair 1 = .ok (.iload_n 1, 1) := by decide +kernel
theorem dX5_checkPair_2 : decode cX5_checkPair 2 = .ok (.invokevirtual 64, 3) := by decide +kernel
theorem dX5_checkPair_5 : decode cX5_checkPair 5 = .ok (.pop, 1) := by decide +kernel
theorem dX5_checkPair_6 : decode cX5_checkPair 6 = .ok (.aload_n 0, 1) := by decide +kernel
theorem dX5_checkPair_7 : decode cX5_checkPair 7 = .ok (.iload_n 2, 1) := by decide +kernel
theorem dX5_checkPair_8 : decode cX5_checkPair 8 = .ok (.invokevirtual 64, 3) := by decide +kernel
theorem dX5_checkPair_11 : decode cX5_checkPair 11 = .ok (.pop, 1) := by decide +kernel
theorem dX5_checkPair_12 : decode cX5_checkPair 12 = .ok (.iload_n 1, 1) := by decide +kernel
theorem dX5_checkPair_13 : decode cX5_checkPair 13 = .ok (.iload_n 2, 1) := by decide +kernel
theorem dX5_checkPair_14 : decode cX5_checkPair 14 = .ok (.if_icmp .ne 13, 3) := by decide +kernel
theorem dX5_checkPair_17 : decode cX5_checkPair 17 = .ok (.new 210, 3) := by decide +kernel
theorem dX5_checkPair_20 : decode cX5_checkPair 20 = .ok (.dup, 1) := by decide +kernel
theorem dX5_checkPair_21 : decode cX5_checkPair 21 = .ok (.ldc 212, 2) := by decide +kernel
theorem dX5_checkPair_23 : decode cX5_checkPair 23 = .ok (.invokespecial 214, 3) := by decide +kernel
theorem dX5_checkPair_26 : decode cX5_checkPair 26 = .ok (.athrow, 1) := by decide +kernel
theorem dX5_checkPair_27 : decode cX5_checkPair 27 = .ok (.return_, 1) := by decide +kernel
theorem dX5_checkRange_0 : decode cX5_checkRange 0 = .ok (.iload_n 0, 1) := by decide +kernel
theorem dX5_checkRange_1 : decode cX5_checkRange 1 = .ok (.iload_n 1, 1) := by decide +kernel
theorem dX5_checkRange_2 : decode cX5_checkRange 2 = .ok (.if_icmp .lt 8, 3) := by decide +kernel
theorem dX5_checkRange_5 : decode cX5_checkRange 5 = .ok (.iload_n 0, 1) := by decide +kernel
theorem dX5_checkRange_6 : decode cX5_checkRange 6 = .ok (.iload_n 2, 1) := by decide +kernel
theorem dX5_checkRange_7 : decode cX5_checkRange 7 = .ok (.if_icmp .le 13, 3) := by decide +kernel
theorem dX5_checkRange_10 : decode cX5_checkRange 10 = .ok (.new 210, 3) := by decide +kernel
theorem dX5_checkRange_13 : decode cX5_checkRange 13 = .ok (.dup, 1) := by decide +kernel
theorem dX5_checkRange_14 : decode cX5_checkRange 14 = .ok (.ldc 215, 2) := by decide +kernel
theorem dX5_checkRange_16 : decode cX5_checkRange 16 = .ok (.invokespecial 214, 3) := by decide +kernel
theorem dX5_checkRange_19 : decode cX5_checkRange 19 = .ok (.athrow, 1) := by decide +kernel
theorem dX5_checkRange_20 : decode cX5_checkRange 20 = .ok (.return_, 1) := by decide +kernel
theorem dX5_checkPurse_0 : decode cX5_checkPurse 0 = .ok (.aload_n 0, 1) := by decide +kernel
theorem dX5_checkPurse_1 : decode cX5_checkPurse 1 = .ok (.getfield 126, 3) := by decide +kernel
theorem dX5_checkPurse_4 : decode cX5_checkPurse 4 = .ok (.iload_n 1, 1) := by decide +kernel
theorem dX5_checkPurse_5 : decode cX5_checkPurse 5 = .ok (.if_icmp .ge 13, 3) := by decide +kernel
theorem dX5_checkPurse_8 : decode cX5_checkPurse 8 = .ok (.new 45, 3) := by decide +kernel
theorem dX5_checkPurse_11 : decode cX5_checkPurse 11 = .ok (.dup, 1) := by decide +kernel
theorem dX5_checkPurse_12 : decode cX5_checkPurse 12 = .ok (.ldc 217, 2) := by decide +kernel
theorem dX5_checkPurse_14 : decode cX5_checkPurse 14 = .ok (.invokespecial 49, 3) := by decide +kernel
theorem dX5_checkPurse_17 : decode cX5_checkPurse 17 = .ok (.athrow, 1) := by decide +kernel
theorem dX5_checkPurse_18 : decode cX5_checkPurse 18 = .ok (.return_, 1) := by decide +kernel
theorem dX5_checkSlept_0 : decode cX5_checkSlept 0 = .ok (.aload_n 0, 1) := by decide +kernel
theorem dX5_checkSlept_1 : decode cX5_checkSlept 1 = .ok (.getfield 29, 3) := by decide +kernel
theorem dX5_checkSlept_4 : decode cX5_checkSlept 4 = .ok (.iload_n 2, 1) := by decide +kernel
theorem dX5_checkSlept_5 : decode cX5_checkSlept 5 = .ok (.invokevirtual 161, 3) := by decide +kernel
theorem dX5_checkSlept_8 : decode cX5_checkSlept 8 = .ok (.istore_n 3, 1) := by decide +kernel
theorem dX5_checkSlept_9 : decode cX5_checkSlept 9 = .ok (.iload_n 3, 1) := by decide +kernel
theorem dX5_checkSlept_10 : decode cX5_checkSlept 10 = .ok (.iconst (-1), 1) := by decide +kernel
theorem dX5_checkSlept_11 : decode cX5_checkSlept 11 = .ok (.if_icmp .ne 13, 3) := by decide +kernel
theorem dX5_checkSlept_14 : decode cX5_checkSlept 14 = .ok (.new 45, 3) := by decide +kernel
theorem dX5_checkSlept_17 : decode cX5_checkSlept 17 = .ok (.dup, 1) := by decide +kernel
theorem dX5_checkSlept_18 : decode cX5_checkSlept 18 = .ok (.ldc 219, 2) := by decide +kernel
theorem dX5_checkSlept_20 : decode cX5_checkSlept 20 = .ok (.invokespecial 49, 3) := by decide +kernel
theorem dX5_checkSlept_23 : decode cX5_checkSlept 23 = .ok (.athrow, 1) := by decide +kernel
theorem dX5_checkSlept_24 : decode cX5_checkSlept 24 = .ok (.iload_n 3, 1) := by decide +kernel
theorem dX5_checkSlept_25 : decode cX5_checkSlept 25 = .ok (.iload_n 1, 1) := by decide +kernel
theorem dX5_checkSlept_26 : decode cX5_checkSlept 26 = .ok (.if_icmp .ne 13, 3) := by decide +kernel
theorem dX5_checkSlept_29 : decode cX5_checkSlept 29 = .ok (.new 45, 3) := by decide +kernel
theorem dX5_checkSlept_32 : decode cX5_checkSlept 32 = .ok (.dup, 1) := by decide +kernel
theorem dX5_checkSlept_33 : decode cX5_checkSlept 33 = .ok (.ldc 221, 2) := by decide +kernel
theorem dX5_checkSlept_35 : decode cX5_checkSlept 35 = .ok (.invokespecial 49, 3) := by decide +kernel
theorem dX5_checkSlept_38 : decode cX5_checkSlept 38 = .ok (.athrow, 1) := by decide +kernel
theorem dX5_checkSlept_39 : decode cX5_checkSlept 39 = .ok (.aload_n 0, 1) := by decide +kernel
theorem dX5_checkSlept_40 : decode cX5_checkSlept 40 = .ok (.getfield 29, 3) := by decide +kernel
theorem dX5_checkSlept_43 : decode cX5_checkSlept 43 = .ok (.iload_n 2, 1) := by decide +kernel
theorem dX5_checkSlept_44 : decode cX5_checkSlept 44 = .ok (.invokevirtual 223, 3) := by decide +kernel
theorem dX5_checkSlept_47 : decode cX5_checkSlept 47 = .ok (.ifCond .eq 13, 3) := by decide +kernel
theorem dX5_checkSlept_50 : decode cX5_checkSlept 50 = .ok (.new 45, 3) := by decide +kernel
theorem dX5_checkSlept_53 : decode cX5_checkSlept 53 = .ok (.dup, 1) := by decide +kernel
theorem dX5_checkSlept_54 : decode cX5_checkSlept 54 = .ok (.ldc 226, 2) := by decide +kernel
theorem dX5_checkSlept_56 : decode cX5_checkSlept 56 = .ok (.invokespecial 49, 3) := by decide +kernel
theorem dX5_checkSlept_59 : decode cX5_checkSlept 59 = .ok (.athrow, 1) := by decide +kernel
theorem dX5_checkSlept_60 : decode cX5_checkSlept 60 = .ok (.aload_n 0, 1) := by decide +kernel
theorem dX5_checkSlept_61 : decode cX5_checkSlept 61 = .ok (.getfield 29, 3) := by decide +kernel
theorem dX5_checkSlept_64 : decode cX5_checkSlept 64 = .ok (.iload_n 2, 1) := by decide +kernel
theorem dX5_checkSlept_65 : decode cX5_checkSlept 65 = .ok (.invokevirtual 228, 3) := by decide +kernel
theorem dX5_checkSlept_68 : decode cX5_checkSlept 68 = .ok (.ifCond .eq 13, 3) := by decide +kernel
theorem dX5_checkSlept_71 : decode cX5_checkSlept 71 = .ok (.new 45, 3) := by decide +kernel
theorem dX5_checkSlept_74 : decode cX5_checkSlept 74 = .ok (.dup, 1) := by decide +kernel
theorem dX5_checkSlept_75 : decode cX5_checkSlept 75 = .ok (.ldc 231, 2) := by decide +kernel
theorem dX5_checkSlept_77 : decode cX5_checkSlept 77 = .ok (.invokespecial 49, 3) := by decide +kernel
theorem dX5_checkSlept_80 : decode cX5_checkSlept 80 = .ok (.athrow, 1) := by decide +kernel
theorem dX5_checkSlept_81 : decode cX5_checkSlept 81 = .ok (.return_, 1) := by decide +kernel
theorem dX5_checkWatchedBehind_0 : decode cX5_checkWatchedBehind 0 = .ok (.aload_n 0, 1) := by decide +kernel
theorem dX5_checkWatchedBehind_1 : decode cX5_checkWatchedBehind 1 = .ok (.getfield 29, 3) := by decide +kernel
theorem dX5_checkWatchedBehind_4 : decode cX5_checkWatchedBehind 4 = .ok (.iload_n 2, 1) := by decide +kernel
theorem dX5_checkWatchedBehind_5 : decode cX5_checkWatchedBehind 5 = .ok (.aload_n 0, 1) := by decide +kernel
theorem dX5_checkWatchedBehind_6 : decode cX5_checkWatchedBehind 6 = .ok (.getfield 33, 3) := by decide +kernel
theorem dX5_checkWatchedBehind_9 : decode cX5_checkWatchedBehind 9 = .ok (.invokevirtual 233, 3) := by decide +kernel
theorem dX5_checkWatchedBehind_12 : decode cX5_checkWatchedBehind 12 = .ok (.istore_n 3, 1) := by decide +kernel
theorem dX5_checkWatchedBehind_13 : decode cX5_checkWatchedBehind 13 = .ok (.iload_n 3, 1) := by decide +kernel
theorem dX5_checkWatchedBehind_14 : decode cX5_checkWatchedBehind 14 = .ok (.iconst (-1), 1) := by decide +kernel
theorem dX5_checkWatchedBehind_15 : decode cX5_checkWatchedBehind 15 = .ok (.if_icmp .eq 26, 3) := by decide +kernel
theorem dX5_checkWatchedBehind_18 : decode cX5_checkWatchedBehind 18 = .ok (.aload_n 0, 1) := by decide +kernel
theorem dX5_checkWatchedBehind_19 : decode cX5_checkWatchedBehind 19 = .ok (.getfield 29, 3) := by decide +kernel
theorem dX5_checkWatchedBehind_22 : decode cX5_checkWatchedBehind 22 = .ok (.iload_n 3, 1) := by decide +kernel
theorem dX5_checkWatchedBehind_23 : decode cX5_checkWatchedBehind 23 = .ok (.invokevirtual 161, 3) := by decide +kernel
theorem dX5_checkWatchedBehind_26 : decode cX5_checkWatchedBehind 26 = .ok (.iload_n 1, 1) := by decide +kernel
theorem dX5_checkWatchedBehind_27 : decode cX5_checkWatchedBehind 27 = .ok (.if_icmp .ne 14, 3) := by decide +kernel
theorem dX5_checkWatchedBehind_30 : decode cX5_checkWatchedBehind 30 = .ok (.aload_n 0, 1) := by decide +kernel
theorem dX5_checkWatchedBehind_31 : decode cX5_checkWatchedBehind 31 = .ok (.getfield 29, 3) := by decide +kernel
theorem dX5_checkWatchedBehind_34 : decode cX5_checkWatchedBehind 34 = .ok (.iload_n 3, 1) := by decide +kernel
theorem dX5_checkWatchedBehind_35 : decode cX5_checkWatchedBehind 35 = .ok (.invokevirtual 223, 3) := by decide +kernel
theorem dX5_checkWatchedBehind_38 : decode cX5_checkWatchedBehind 38 = .ok (.ifCond .ne 13, 3) := by decide +kernel
theorem dX5_checkWatchedBehind_41 : decode cX5_checkWatchedBehind 41 = .ok (.new 45, 3) := by decide +kernel
theorem dX5_checkWatchedBehind_44 : decode cX5_checkWatchedBehind 44 = .ok (.dup, 1) := by decide +kernel
theorem dX5_checkWatchedBehind_45 : decode cX5_checkWatchedBehind 45 = .ok (.ldc 237, 2) := by decide +kernel
theorem dX5_checkWatchedBehind_47 : decode cX5_checkWatchedBehind 47 = .ok (.invokespecial 49, 3) := by decide +kernel
theorem dX5_checkWatchedBehind_50 : decode cX5_checkWatchedBehind 50 = .ok (.athrow, 1) := by decide +kernel
theorem dX5_checkWatchedBehind_51 : decode cX5_checkWatchedBehind 51 = .ok (.return_, 1) := by decide +kernel
theorem dX5_moveMessages_0 : decode cX5_moveMessages 0 = .ok (.iconst 0, 1) := by decide +kernel
theorem dX5_moveMessages_1 : decode cX5_moveMessages 1 = .ok (.istore_n 1, 1) := by decide +kernel
theorem dX5_moveMessages_2 : decode cX5_moveMessages 2 = .ok (.iload_n 1, 1) := by decide +kernel
theorem dX5_moveMessages_3 : decode cX5_moveMessages 3 = .ok (.aload_n 0, 1) := by decide +kernel
theorem dX5_moveMessages_4 : decode cX5_moveMessages 4 = .ok (.getfield 16, 3) := by decide +kernel
theorem dX5_moveMessages_7 : decode cX5_moveMessages 7 = .ok (.invokevirtual 41, 3) := by decide +kernel
theorem dX5_moveMessages_10 : decode cX5_moveMessages 10 = .ok (.if_icmp .ge 33, 3) := by decide +kernel
theorem dX5_moveMessages_13 : decode cX5_moveMessages 13 = .ok (.aload_n 0, 1) := by decide +kernel
theorem dX5_moveMessages_14 : decode cX5_moveMessages 14 = .ok (.getfield 16, 3) := by decide +kernel
theorem dX5_moveMessages_17 : decode cX5_moveMessages 17 = .ok (.iload_n 1, 1) := by decide +kernel
theorem dX5_moveMessages_18 : decode cX5_moveMessages 18 = .ok (.invokevirtual 199, 3) := by decide +kernel
theorem dX5_moveMessages_21 : decode cX5_moveMessages 21 = .ok (.checkcast 121, 3) := by decide +kernel
theorem dX5_moveMessages_24 : decode cX5_moveMessages 24 = .ok (.astore_n 2, 1) := by decide +kernel
theorem dX5_moveMessages_25 : decode cX5_moveMessages 25 = .ok (.aload_n 2, 1) := by decide +kernel
theorem dX5_moveMessages_26 : decode cX5_moveMessages 26 = .ok (.getfield 139, 3) := by decide +kernel
theorem dX5_moveMessages_29 : decode cX5_moveMessages 29 = .ok (.ifCond .ne 8, 3) := by decide +kernel
theorem dX5_moveMessages_32 : decode cX5_moveMessages 32 = .ok (.aload_n 0, 1) := by decide +kernel
theorem dX5_moveMessages_33 : decode cX5_moveMessages 33 = .ok (.aload_n 2, 1) := by decide +kernel
theorem dX5_moveMessages_34 : decode cX5_moveMessages 34 = .ok (.invokevirtual 239, 3) := by decide +kernel
theorem dX5_moveMessages_37 : decode cX5_moveMessages 37 = .ok (.iinc 1 1, 3) := by decide +kernel
theorem dX5_moveMessages_40 : decode cX5_moveMessages 40 = .ok (.goto (-38), 3) := by decide +kernel
theorem dX5_moveMessages_43 : decode cX5_moveMessages 43 = .ok (.return_, 1) := by decide +kernel
theorem dX5_moveOn_0 : decode cX5_moveOn 0 = .ok (.aload_n 1, 1) := by decide +kernel
theorem dX5_moveOn_1 : decode cX5_moveOn 1 = .ok (.dup, 1) := by decide +kernel
theorem dX5_moveOn_2 : decode cX5_moveOn 2 = .ok (.getfield 140, 3) := by decide +kernel
theorem dX5_moveOn_5 : decode cX5_moveOn 5 = .ok (.iconst 1, 1) := by decide +kernel
theorem dX5_moveOn_6 : decode cX5_moveOn 6 = .ok (.iadd, 1) := by decide +kernel
theorem dX5_moveOn_7 : decode cX5_moveOn 7 = .ok (.putfield 140, 3) := by decide +kernel
theorem dX5_moveOn_10 : decode cX5_moveOn 10 = .ok (.aload_n 1, 1) := by decide +kernel
theorem dX5_moveOn_11 : decode cX5_moveOn 11 = .ok (.getfield 140, 3) := by decide +kernel
theorem dX5_moveOn_14 : decode cX5_moveOn 14 = .ok (.aload_n 1, 1) := by decide +kernel
theorem dX5_moveOn_15 : decode cX5_moveOn 15 = .ok (.getfield 129, 3) := by decide +kernel
theorem dX5_moveOn_18 : decode cX5_moveOn 18 = .ok (.getfield 243, 3) := by decide +kernel
theorem dX5_moveOn_21 : decode cX5_moveOn 21 = .ok (.if_icmp .lt 9, 3) := by decide +kernel
theorem dX5_moveOn_24 : decode cX5_moveOn 24 = .ok (.aload_n 0, 1) := by decide +kernel
theorem dX5_moveOn_25 : decode cX5_moveOn 25 = .ok (.aload_n 1, 1) := by decide +kernel
theorem dX5_moveOn_26 : decode cX5_moveOn 26 = .ok (.invokevirtual 246, 3) := by decide +kernel
theorem dX5_moveOn_29 : decode cX5_moveOn 29 = .ok (.return_, 1) := by decide +kernel
theorem dX5_moveOn_30 : decode cX5_moveOn 30 = .ok (.aload_n 0, 1) := by decide +kernel
theorem dX5_moveOn_31 : decode cX5_moveOn 31 = .ok (.aload_n 1, 1) := by decide +kernel
theorem dX5_moveOn_32 : decode cX5_moveOn 32 = .ok (.getfield 129, 3) := by decide +kernel
theorem dX5_moveOn_35 : decode cX5_moveOn 35 = .ok (.aload_n 1, 1) := by decide +kernel
theorem dX5_moveOn_36 : decode cX5_moveOn 36 = .ok (.getfield 140, 3) := by decide +kernel
theorem dX5_moveOn_39 : decode cX5_moveOn 39 = .ok (.invokevirtual 143, 3) := by decide +kernel
theorem dX5_moveOn_42 : decode cX5_moveOn 42 = .ok (.invokevirtual 64, 3) := by decide +kernel
theorem dX5_moveOn_45 : decode cX5_moveOn 45 = .ok (.astore_n 2, 1) := by decide +kernel
theorem dX5_moveOn_46 : decode cX5_moveOn 46 = .ok (.aload_n 2, 1) := by decide +kernel
theorem dX5_moveOn_47 : decode cX5_moveOn 47 = .ok (.getfield 132, 3) := by decide +kernel
theorem dX5_moveOn_50 : decode cX5_moveOn 50 = .ok (.ifCond .le 22, 3) := by decide +kernel
theorem dX5_moveOn_53 : decode cX5_moveOn 53 = .ok (.aload_n 2, 1) := by decide +kernel
theorem dX5_moveOn_54 : decode cX5_moveOn 54 = .ok (.dup, 1) := by decide +kernel
theorem dX5_moveOn_55 : decode cX5_moveOn 55 = .ok (.getfield 132, 3) := by decide +kernel
theorem dX5_moveOn_58 : decode cX5_moveOn 58 = .ok (.iconst 1, 1) := by decide +kernel
theorem dX5_moveOn_59 : decode cX5_moveOn 59 = .ok (.isub, 1) := by decide +kernel
theorem dX5_moveOn_60 : decode cX5_moveOn 60 = .ok (.putfield 132, 3) := by decide +kernel
theorem dX5_moveOn_63 : decode cX5_moveOn 63 = .ok (.aload_n 0, 1) := by decide +kernel
theorem dX5_moveOn_64 : decode cX5_moveOn 64 = .ok (.aload_n 1, 1) := by decide +kernel
theorem dX5_moveOn_65 : decode cX5_moveOn 65 = .ok (.aload_n 2, 1) := by decide +kernel
theorem dX5_moveOn_66 : decode cX5_moveOn 66 = .ok (.invokevirtual 249, 3) := by decide +kernel
theorem dX5_moveOn_69 : decode cX5_moveOn 69 = .ok (.goto 23, 3) := by decide +kernel
theorem dX5_moveOn_72 : decode cX5_moveOn 72 = .ok (.aload_n 1, 1) := by decide +kernel
theorem dX5_moveOn_73 : decode cX5_moveOn 73 = .ok (.dup, 1) := by decide +kernel
theorem dX5_moveOn_74 : decode cX5_moveOn 74 = .ok (.getfield 150, 3) := by decide +kernel
theorem dX5_moveOn_77 : decode cX5_moveOn 77 = .ok (.iconst 1, 1) := by decide +kernel
theorem dX5_moveOn_78 : decode cX5_moveOn 78 = .ok (.iadd, 1) := by decide +kernel
theorem dX5_moveOn_79 : decode cX5_moveOn 79 = .ok (.putfield 150, 3) := by decide +kernel
theorem dX5_moveOn_82 : decode cX5_moveOn 82 = .ok (.aload_n 2, 1) := by decide +kernel
theorem dX5_moveOn_83 : decode cX5_moveOn 83 = .ok (.dup, 1) := by decide +kernel
theorem dX5_moveOn_84 : decode cX5_moveOn 84 = .ok (.getfield 198, 3) := by decide +kernel
theorem dX5_moveOn_87 : decode cX5_moveOn 87 = .ok (.iconst 1, 1) := by decide +kernel
theorem dX5_moveOn_88 : decode cX5_moveOn 88 = .ok (.iadd, 1) := by decide +kernel
theorem dX5_moveOn_89 : decode cX5_moveOn 89 = .ok (.putfield 198, 3) := by decide +kernel
theorem dX5_moveOn_92 : decode cX5_moveOn 92 = .ok (.return_, 1) := by decide +kernel
theorem dX5_deliver_0 : decode cX5_deliver 0 = .ok (.aload_n 1, 1) := by decide +kernel
theorem dX5_deliver_1 : decode cX5_deliver 1 = .ok (.iconst 1, 1) := by decide +kernel
theorem dX5_deliver_2 : decode cX5_deliver 2 = .ok (.putfield 139, 3) := by decide +kernel
theorem dX5_deliver_5 : decode cX5_deliver 5 = .ok (.aload_n 0, 1) := by decide +kernel
theorem dX5_deliver_6 : decode cX5_deliver 6 = .ok (.aload_n 1, 1) := by decide +kernel
theorem dX5_deliver_7 : decode cX5_deliver 7 = .ok (.invokevirtual 253, 3) := by decide +kernel
theorem dX5_deliver_10 : decode cX5_deliver 10 = .ok (.pop, 1) := by decide +kernel
theorem dX5_deliver_11 : decode cX5_deliver 11 = .ok (.iconst 1, 1) := by decide +kernel
theorem dX5_deliver_12 : decode cX5_deliver 12 = .ok (.istore_n 2, 1) := by decide +kernel
theorem dX5_deliver_13 : decode cX5_deliver 13 = .ok (.iload_n 2, 1) := by decide +kernel
theorem dX5_deliver_14 : decode cX5_deliver 14 = .ok (.aload_n 1, 1) := by decide +kernel
theorem dX5_deliver_15 : decode cX5_deliver 15 = .ok (.getfield 150, 3) := by decide +kernel
theorem dX5_deliver_18 : decode cX5_deliver 18 = .ok (.if_icmp .gt 25, 3) := by decide +kernel
theorem dX5_deliver_21 : decode cX5_deliver 21 = .ok (.aload_n 0, 1) := by decide +kernel
theorem dX5_deliver_22 : decode cX5_deliver 22 = .ok (.aload_n 1, 1) := by decide +kernel
theorem dX5_deliver_23 : decode cX5_deliver 23 = .ok (.getfield 129, 3) := by decide +kernel
theorem dX5_deliver_26 : decode cX5_deliver 26 = .ok (.iload_n 2, 1) := by decide +kernel
theorem dX5_deliver_27 : decode cX5_deliver 27 = .ok (.invokevirtual 143, 3) := by decide +kernel
theorem dX5_deliver_30 : decode cX5_deliver 30 = .ok (.invokevirtual 64, 3) := by decide +kernel
theorem dX5_deliver_33 : decode cX5_deliver 33 = .ok (.iconst 1, 1) := by decide +kernel
theorem dX5_deliver_34 : decode cX5_deliver 34 = .ok (.invokevirtual 257, 3) := by decide +kernel
theorem dX5_deliver_37 : decode cX5_deliver 37 = .ok (.iinc 2 1, 3) := by decide +kernel
theorem dX5_deliver_40 : decode cX5_deliver 40 = .ok (.goto (-27), 3) := by decide +kernel
theorem dX5_deliver_43 : decode cX5_deliver 43 = .ok (.return_, 1) := by decide +kernel
theorem dX5_loseAt_0 : decode cX5_loseAt 0 = .ok (.aload_n 1, 1) := by decide +kernel
theorem dX5_loseAt_1 : decode cX5_loseAt 1 = .ok (.iconst 2, 1) := by decide +kernel
theorem dX5_loseAt_2 : decode cX5_loseAt 2 = .ok (.putfield 139, 3) := by decide +kernel
theorem dX5_loseAt_5 : decode cX5_loseAt 5 = .ok (.aload_n 0, 1) := by decide +kernel
theorem dX5_loseAt_6 : decode cX5_loseAt 6 = .ok (.aload_n 1, 1) := by decide +kernel
theorem dX5_loseAt_7 : decode cX5_loseAt 7 = .ok (.invokevirtual 253, 3) := by decide +kernel
theorem dX5_loseAt_10 : decode cX5_loseAt 10 = .ok (.istore_n 3, 1) := by decide +kernel
theorem dX5_loseAt_11 : decode cX5_loseAt 11 = .ok (.aload_n 1, 1) := by decide +kernel
theorem dX5_loseAt_12 : decode cX5_loseAt 12 = .ok (.aload_n 1, 1) := by decide +kernel
theorem dX5_loseAt_13 : decode cX5_loseAt 13 = .ok (.getfield 129, 3) := by decide +kernel
theorem dX5_loseAt_16 : decode cX5_loseAt 16 = .ok (.getfield 116, 3) := by decide +kernel
theorem dX5_loseAt_19 : decode cX5_loseAt 19 = .ok (.iload_n 3, 1) := by decide +kernel
theorem dX5_loseAt_20 : decode cX5_loseAt 20 = .ok (.isub, 1) := by decide +kernel
theorem dX5_loseAt_21 : decode cX5_loseAt 21 = .ok (.putfield 147, 3) := by decide +kernel
theorem dX5_loseAt_24 : decode cX5_loseAt 24 = .ok (.aload_n 1, 1) := by decide +kernel
theorem dX5_loseAt_25 : decode cX5_loseAt 25 = .ok (.aload_n 2, 1) := by decide +kernel
theorem dX5_loseAt_26 : decode cX5_loseAt 26 = .ok (.iload_n 3, 1) := by decide +kernel
theorem dX5_loseAt_27 : decode cX5_loseAt 27 = .ok (.invokevirtual 175, 3) := by decide +kernel
theorem dX5_loseAt_30 : decode cX5_loseAt 30 = .ok (.putfield 153, 3) := by decide +kernel
theorem dX5_loseAt_33 : decode cX5_loseAt 33 = .ok (.aload_n 0, 1) := by decide +kernel
theorem dX5_loseAt_34 : decode cX5_loseAt 34 = .ok (.aload_n 1, 1) := by decide +kernel
theorem dX5_loseAt_35 : decode cX5_loseAt 35 = .ok (.getfield 129, 3) := by decide +kernel
theorem dX5_loseAt_38 : decode cX5_loseAt 38 = .ok (.iconst 0, 1) := by decide +kernel
theorem dX5_loseAt_39 : decode cX5_loseAt 39 = .ok (.invokevirtual 143, 3) := by decide +kernel
theorem dX5_loseAt_42 : decode cX5_loseAt 42 = .ok (.invokevirtual 64, 3) := by decide +kernel
theorem dX5_loseAt_45 : decode cX5_loseAt 45 = .ok (.dup, 1) := by decide +kernel
theorem dX5_loseAt_46 : decode cX5_loseAt 46 = .ok (.getfield 126, 3) := by decide +kernel
theorem dX5_loseAt_49 : decode cX5_loseAt 49 = .ok (.aload_n 1, 1) := by decide +kernel
theorem dX5_loseAt_50 : decode cX5_loseAt 50 = .ok (.getfield 147, 3) := by decide +kernel
theorem dX5_loseAt_53 : decode cX5_loseAt 53 = .ok (.aload_n 1, 1) := by decide +kernel
theorem dX5_loseAt_54 : decode cX5_loseAt 54 = .ok (.getfield 153, 3) := by decide +kernel
theorem dX5_loseAt_57 : decode cX5_loseAt 57 = .ok (.iadd, 1) := by decide +kernel
theorem dX5_loseAt_58 : decode cX5_loseAt 58 = .ok (.iadd, 1) := by decide +kernel
theorem dX5_loseAt_59 : decode cX5_loseAt 59 = .ok (.putfield 126, 3) := by decide +kernel
theorem dX5_loseAt_62 : decode cX5_loseAt 62 = .ok (.aload_n 2, 1) := by decide +kernel
theorem dX5_loseAt_63 : decode cX5_loseAt 63 = .ok (.bipush 20, 2) := by decide +kernel
theorem dX5_loseAt_65 : decode cX5_loseAt 65 = .ok (.invokevirtual 178, 3) := by decide +kernel
theorem dX5_loseAt_68 : decode cX5_loseAt 68 = .ok (.return_, 1) := by decide +kernel
theorem dX5_payReceipts_0 : decode cX5_payReceipts 0 = .ok (.iconst 0, 1) := by decide +kernel
theorem dX5_payReceipts_1 : decode cX5_payReceipts 1 = .ok (.istore_n 2, 1) := by decide +kernel
theorem dX5_payReceipts_2 : decode cX5_payReceipts 2 = .ok (.iconst 1, 1) := by decide +kernel
theorem dX5_payReceipts_3 : decode cX5_payReceipts 3 = .ok (.istore_n 3, 1) := by decide +kernel
theorem dX5_payReceipts_4 : decode cX5_payReceipts 4 = .ok (.iload_n 3, 1) := by decide +kernel
theorem dX5_payReceipts_5 : decode cX5_payReceipts 5 = .ok (.aload_n 1, 1) := by decide +kernel
theorem dX5_payReceipts_6 : decode cX5_payReceipts 6 = .ok (.getfield 150, 3) := by decide +kernel
theorem dX5_payReceipts_9 : decode cX5_payReceipts 9 = .ok (.if_icmp .gt 62, 3) := by decide +kernel
theorem dX5_payReceipts_12 : decode cX5_payReceipts 12 = .ok (.aload_n 1, 1) := by decide +kernel
theorem dX5_payReceipts_13 : decode cX5_payReceipts 13 = .ok (.getfield 129, 3) := by decide +kernel
theorem dX5_payReceipts_16 : decode cX5_payReceipts 16 = .ok (.iload_n 3, 1) := by decide +kernel
theorem dX5_payReceipts_17 : decode cX5_payReceipts 17 = .ok (.invokevirtual 260, 3) := by decide +kernel
theorem dX5_payReceipts_20 : decode cX5_payReceipts 20 = .ok (.istore 4, 2) := by decide +kernel
theorem dX5_payReceipts_22 : decode cX5_payReceipts 22 = .ok (.aload_n 0, 1) := by decide +kernel
theorem dX5_payReceipts_23 : decode cX5_payReceipts 23 = .ok (.aload_n 1, 1) := by decide +kernel
theorem dX5_payReceipts_24 : decode cX5_payReceipts 24 = .ok (.getfield 129, 3) := by decide +kernel
theorem dX5_payReceipts_27 : decode cX5_payReceipts 27 = .ok (.iload_n 3, 1) := by decide +kernel
theorem dX5_payReceipts_28 : decode cX5_payReceipts 28 = .ok (.invokevirtual 143, 3) := by decide +kernel
theorem dX5_payReceipts_31 : decode cX5_payReceipts 31 = .ok (.invokevirtual 64, 3) := by decide +kernel
theorem dX5_payReceipts_34 : decode cX5_payReceipts 34 = .ok (.astore 5, 2) := by decide +kernel
theorem dX5_payReceipts_36 : decode cX5_payReceipts 36 = .ok (.aload 5, 2) := by decide +kernel
theorem dX5_payReceipts_38 : decode cX5_payReceipts 38 = .ok (.dup, 1) := by decide +kernel
theorem dX5_payReceipts_39 : decode cX5_payReceipts 39 = .ok (.getfield 126, 3) := by decide +kernel
theorem dX5_payReceipts_42 : decode cX5_payReceipts 42 = .ok (.iload 4, 2) := by decide +kernel
theorem dX5_payReceipts_44 : decode cX5_payReceipts 44 = .ok (.iadd, 1) := by decide +kernel
theorem dX5_payReceipts_45 : decode cX5_payReceipts 45 = .ok (.putfield 126, 3) := by decide +kernel
theorem dX5_payReceipts_48 : decode cX5_payReceipts 48 = .ok (.aload 5, 2) := by decide +kernel
theorem dX5_payReceipts_50 : decode cX5_payReceipts 50 = .ok (.dup, 1) := by decide +kernel
theorem dX5_payReceipts_51 : decode cX5_payReceipts 51 = .ok (.getfield 195, 3) := by decide +kernel
theorem dX5_payReceipts_54 : decode cX5_payReceipts 54 = .ok (.iload 4, 2) := by decide +kernel
theorem dX5_payReceipts_56 : decode cX5_payReceipts 56 = .ok (.iadd, 1) := by decide +kernel
theorem dX5_payReceipts_57 : decode cX5_payReceipts 57 = .ok (.putfield 195, 3) := by decide +kernel
theorem dX5_payReceipts_60 : decode cX5_payReceipts 60 = .ok (.iload_n 2, 1) := by decide +kernel
theorem dX5_payReceipts_61 : decode cX5_payReceipts 61 = .ok (.iload 4, 2) := by decide +kernel
theorem dX5_payReceipts_63 : decode cX5_payReceipts 63 = .ok (.iadd, 1) := by decide +kernel
theorem dX5_payReceipts_64 : decode cX5_payReceipts 64 = .ok (.istore_n 2, 1) := by decide +kernel
theorem dX5_payReceipts_65 : decode cX5_payReceipts 65 = .ok (.iinc 3 1, 3) := by decide +kernel
theorem dX5_payReceipts_68 : decode cX5_payReceipts 68 = .ok (.goto (-64), 3) := by decide +kernel
theorem dX5_payReceipts_71 : decode cX5_payReceipts 71 = .ok (.iload_n 2, 1) := by decide +kernel
theorem dX5_payReceipts_72 : decode cX5_payReceipts 72 = .ok (.ireturn, 1) := by decide +kernel
theorem dX5_beginTick_0 : decode cX5_beginTick 0 = .ok (.aload_n 0, 1) := by decide +kernel
theorem dX5_beginTick_1 : decode cX5_beginTick 1 = .ok (.dup, 1) := by decide +kernel
theorem dX5_beginTick_2 : decode cX5_beginTick 2 = .ok (.getfield 33, 3) := by decide +kernel
theorem dX5_beginTick_5 : decode cX5_beginTick 5 = .ok (.iconst 1, 1) := by decide +kernel
theorem dX5_beginTick_6 : decode cX5_beginTick 6 = .ok (.iadd, 1) := by decide +kernel
theorem dX5_beginTick_7 : decode cX5_beginTick 7 = .ok (.putfield 33, 3) := by decide +kernel
theorem dX5_beginTick_10 : decode cX5_beginTick 10 = .ok (.iconst 0, 1) := by decide +kernel
theorem dX5_beginTick_11 : decode cX5_beginTick 11 = .ok (.istore_n 1, 1) := by decide +kernel
theorem dX5_beginTick_12 : decode cX5_beginTick 12 = .ok (.iload_n 1, 1) := by decide +kernel
theorem dX5_beginTick_13 : decode cX5_beginTick 13 = .ok (.aload_n 0, 1) := by decide +kernel
theorem dX5_beginTick_14 : decode cX5_beginTick 14 = .ok (.getfield 10, 3) := by decide +kernel
theorem dX5_beginTick_17 : decode cX5_beginTick 17 = .ok (.invokevirtual 41, 3) := by decide +kernel
theorem dX5_beginTick_20 : decode cX5_beginTick 20 = .ok (.if_icmp .ge 44, 3) := by decide +kernel
theorem dX5_beginTick_23 : decode cX5_beginTick 23 = .ok (.aload_n 0, 1) := by decide +kernel
theorem dX5_beginTick_24 : decode cX5_beginTick 24 = .ok (.getfield 10, 3) := by decide +kernel
theorem dX5_beginTick_27 : decode cX5_beginTick 27 = .ok (.iload_n 1, 1) := by decide +kernel
theorem dX5_beginTick_28 : decode cX5_beginTick 28 = .ok (.invokevirtual 199, 3) := by decide +kernel
theorem dX5_beginTick_31 : decode cX5_beginTick 31 = .ok (.checkcast 52, 3) := by decide +kernel
theorem dX5_beginTick_34 : decode cX5_beginTick 34 = .ok (.astore_n 2, 1) := by decide +kernel
theorem dX5_beginTick_35 : decode cX5_beginTick 35 = .ok (.aload_n 2, 1) := by decide +kernel
theorem dX5_beginTick_36 : decode cX5_beginTick 36 = .ok (.getfield 79, 3) := by decide +kernel
theorem dX5_beginTick_39 : decode cX5_beginTick 39 = .ok (.iconst 1, 1) := by decide +kernel
theorem dX5_beginTick_40 : decode cX5_beginTick 40 = .ok (.if_icmp .ne 18, 3) := by decide +kernel
theorem dX5_beginTick_43 : decode cX5_beginTick 43 = .ok (.aload_n 2, 1) := by decide +kernel
theorem dX5_beginTick_44 : decode cX5_beginTick 44 = .ok (.getfield 97, 3) := by decide +kernel
theorem dX5_beginTick_47 : decode cX5_beginTick 47 = .ok (.aload_n 0, 1) := by decide +kernel
theorem dX5_beginTick_48 : decode cX5_beginTick 48 = .ok (.getfield 33, 3) := by decide +kernel
theorem dX5_beginTick_51 : decode cX5_beginTick 51 = .ok (.if_icmp .gt 7, 3) := by decide +kernel
theorem dX5_beginTick_54 : decode cX5_beginTick 54 = .ok (.aload_n 2, 1) := by decide +kernel
theorem dX5_beginTick_55 : decode cX5_beginTick 55 = .ok (.invokevirtual 263, 3) := by decide +kernel
theorem dX5_beginTick_58 : decode cX5_beginTick 58 = .ok (.iinc 1 1, 3) := by decide +kernel
theorem dX5_beginTick_61 : decode cX5_beginTick 61 = .ok (.goto (-49), 3) := by decide +kernel
theorem dX5_beginTick_64 : decode cX5_beginTick 64 = .ok (.aload_n 0, 1) := by decide +kernel
theorem dX5_beginTick_65 : decode cX5_beginTick 65 = .ok (.getfield 29, 3) := by decide +kernel
theorem dX5_beginTick_68 : decode cX5_beginTick 68 = .ok (.aload_n 0, 1) := by decide +kernel
theorem dX5_beginTick_69 : decode cX5_beginTick 69 = .ok (.getfield 33, 3) := by decide +kernel
theorem dX5_beginTick_72 : decode cX5_beginTick 72 = .ok (.aload_n 0, 1) := by decide +kernel
theorem dX5_beginTick_73 : decode cX5_beginTick 73 = .ok (.invokevirtual 266, 3) := by decide +kernel
theorem dX5_beginTick_76 : decode cX5_beginTick 76 = .ok (.invokevirtual 269, 3) := by decide +kernel
theorem dX5_beginTick_79 : decode cX5_beginTick 79 = .ok (.return_, 1) := by decide +kernel
theorem dX5_chooseWatcher_0 : decode cX5_chooseWatcher 0 = .ok (.iconst 0, 1) := by decide +kernel
theorem dX5_chooseWatcher_1 : decode cX5_chooseWatcher 1 = .ok (.istore_n 1, 1) := by decide +kernel
theorem dX5_chooseWatcher_2 : decode cX5_chooseWatcher 2 = .ok (.iconst 0, 1) := by decide +kernel
theorem dX5_chooseWatcher_3 : decode cX5_chooseWatcher 3 = .ok (.istore_n 2, 1) := by decide +kernel
theorem dX5_chooseWatcher_4 : decode cX5_chooseWatcher 4 = .ok (.iload_n 2, 1) := by decide +kernel
theorem dX5_chooseWatcher_5 : decode cX5_chooseWatcher 5 = .ok (.aload_n 0, 1) := by decide +kernel
theorem dX5_chooseWatcher_6 : decode cX5_chooseWatcher 6 = .ok (.getfield 10, 3) := by decide +kernel
theorem dX5_chooseWatcher_9 : decode cX5_chooseWatcher 9 = .ok (.invokevirtual 41, 3) := by decide +kernel
theorem dX5_chooseWatcher_12 : decode cX5_chooseWatcher 12 = .ok (.if_icmp .ge 29, 3) := by decide +kernel
theorem dX5_chooseWatcher_15 : decode cX5_chooseWatcher 15 = .ok (.aload_n 0, 1) := by decide +kernel
theorem dX5_chooseWatcher_16 : decode cX5_chooseWatcher 16 = .ok (.getfield 10, 3) := by decide +kernel
theorem dX5_chooseWatcher_19 : decode cX5_chooseWatcher 19 = .ok (.iload_n 2, 1) := by decide +kernel
theorem dX5_chooseWatcher_20 : decode cX5_chooseWatcher 20 = .ok (.invokevirtual 199, 3) := by decide +kernel
theorem dX5_chooseWatcher_23 : decode cX5_chooseWatcher 23 = .ok (.checkcast 52, 3) := by decide +kernel
theorem dX5_chooseWatcher_26 : decode cX5_chooseWatcher 26 = .ok (.getfield 79, 3) := by decide +kernel
theorem dX5_chooseWatcher_29 : decode cX5_chooseWatcher 29 = .ok (.ifCond .ne 6, 3) := by decide +kernel
theorem dX5_chooseWatcher_32 : decode cX5_chooseWatcher 32 = .ok (.iinc 1 1, 3) := by decide +kernel
theorem dX5_chooseWatcher_35 : decode cX5_chooseWatcher 35 = .ok (.iinc 2 1, 3) := by decide +kernel
theorem dX5_chooseWatcher_38 : decode cX5_chooseWatcher 38 = .ok (.goto (-34), 3) := by decide +kernel
theorem dX5_chooseWatcher_41 : decode cX5_chooseWatcher 41 = .ok (.iload_n 1, 1) := by decide +kernel
theorem dX5_chooseWatcher_42 : decode cX5_chooseWatcher 42 = .ok (.ifCond .ne 5, 3) := by decide +kernel
theorem dX5_chooseWatcher_45 : decode cX5_chooseWatcher 45 = .ok (.iconst (-1), 1) := by decide +kernel
theorem dX5_chooseWatcher_46 : decode cX5_chooseWatcher 46 = .ok (.ireturn, 1) := by decide +kernel
theorem dX5_chooseWatcher_47 : decode cX5_chooseWatcher 47 = .ok (.aload_n 0, 1) := by decide +kernel
theorem dX5_chooseWatcher_48 : decode cX5_chooseWatcher 48 = .ok (.getfield 33, 3) := by decide +kernel
theorem dX5_chooseWatcher_51 : decode cX5_chooseWatcher 51 = .ok (.iload_n 1, 1) := by decide +kernel
theorem dX5_chooseWatcher_52 : decode cX5_chooseWatcher 52 = .ok (.irem, 1) := by decide +kernel
theorem dX5_chooseWatcher_53 : decode cX5_chooseWatcher 53 = .ok (.istore_n 2, 1) := by decide +kernel
theorem dX5_chooseWatcher_54 : decode cX5_chooseWatcher 54 = .ok (.iconst 0, 1) := by decide +kernel
theorem dX5_chooseWatcher_55 : decode cX5_chooseWatcher 55 = .ok (.istore_n 3, 1) := by decide +kernel
theorem dX5_chooseWatcher_56 : decode cX5_chooseWatcher 56 = .ok (.iload_n 3, 1) := by decide +kernel
theorem dX5_chooseWatcher_57 : decode cX5_chooseWatcher 57 = .ok (.aload_n 0, 1) := by decide +kernel
theorem dX5_chooseWatcher_58 : decode cX5_chooseWatcher 58 = .ok (.getfield 10, 3) := by decide +kernel
theorem dX5_chooseWatcher_61 : decode cX5_chooseWatcher 61 = .ok (.invokevirtual 41, 3) := by decide +kernel
theorem dX5_chooseWatcher_64 : decode cX5_chooseWatcher 64 = .ok (.if_icmp .ge 35, 3) := by decide +kernel
theorem dX5_chooseWatcher_67 : decode cX5_chooseWatcher 67 = .ok (.aload_n 0, 1) := by decide +kernel
theorem dX5_chooseWatcher_68 : decode cX5_chooseWatcher 68 = .ok (.getfield 10, 3) := by decide +kernel
theorem dX5_chooseWatcher_71 : decode cX5_chooseWatcher 71 = .ok (.iload_n 3, 1) := by decide +kernel
theorem dX5_chooseWatcher_72 : decode cX5_chooseWatcher 72 = .ok (.invokevirtual 199, 3) := by decide +kernel
theorem dX5_chooseWatcher_75 : decode cX5_chooseWatcher 75 = .ok (.checkcast 52, 3) := by decide +kernel
theorem dX5_chooseWatcher_78 : decode cX5_chooseWatcher 78 = .ok (.getfield 79, 3) := by decide +kernel
theorem dX5_chooseWatcher_81 : decode cX5_chooseWatcher 81 = .ok (.ifCond .ne 12, 3) := by decide +kernel
theorem dX5_chooseWatcher_84 : decode cX5_chooseWatcher 84 = .ok (.iload_n 2, 1) := by decide +kernel
theorem dX5_chooseWatcher_85 : decode cX5_chooseWatcher 85 = .ok (.ifCond .ne 5, 3) := by decide +kernel
theorem dX5_chooseWatcher_88 : decode cX5_chooseWatcher 88 = .ok (.iload_n 3, 1) := by decide +kernel
theorem dX5_chooseWatcher_89 : decode cX5_chooseWatcher 89 = .ok (.ireturn, 1) := by decide +kernel
theorem dX5_chooseWatcher_90 : decode cX5_chooseWatcher 90 = .ok (.iinc 2 (-1), 3) := by decide +kernel
theorem dX5_chooseWatcher_93 : decode cX5_chooseWatcher 93 = .ok (.iinc 3 1, 3) := by decide +kernel
theorem dX5_chooseWatcher_96 : decode cX5_chooseWatcher 96 = .ok (.goto (-40), 3) := by decide +kernel
theorem dX5_chooseWatcher_99 : decode cX5_chooseWatcher 99 = .ok (.iconst (-1), 1) := by decide +kernel
theorem dX5_chooseWatcher_100 : decode cX5_chooseWatcher 100 = .ok (.ireturn, 1) := by decide +kernel
theorem dJ9_floorMod_7cf53_0 : decode cJ9_floorMod_7cf53 0 = .ok (.iload_n 0, 1) := by decide +kernel
theorem dJ9_floorMod_7cf53_1 : decode cJ9_floorMod_7cf53 1 = .ok (.iload_n 1, 1) := by decide +kernel
theorem dJ9_floorMod_7cf53_2 : decode cJ9_floorMod_7cf53 2 = .ok (.irem, 1) := by decide +kernel
theorem dJ9_floorMod_7cf53_3 : decode cJ9_floorMod_7cf53 3 = .ok (.istore_n 2, 1) := by decide +kernel
theorem dJ9_floorMod_7cf53_4 : decode cJ9_floorMod_7cf53 4 = .ok (.iload_n 0, 1) := by decide +kernel
theorem dJ9_floorMod_7cf53_5 : decode cJ9_floorMod_7cf53 5 = .ok (.iload_n 1, 1) := by decide +kernel
theorem dJ9_floorMod_7cf53_6 : decode cJ9_floorMod_7cf53 6 = .ok (.ixor, 1) := by decide +kernel
theorem dJ9_floorMod_7cf53_7 : decode cJ9_floorMod_7cf53 7 = .ok (.ifCond .ge 11, 3) := by decide +kernel
theorem dJ9_floorMod_7cf53_10 : decode cJ9_floorMod_7cf53 10 = .ok (.iload_n 2, 1) := by decide +kernel
theorem dJ9_floorMod_7cf53_11 : decode cJ9_floorMod_7cf53 11 = .ok (.ifCond .eq 7, 3) := by decide +kernel
theorem dJ9_floorMod_7cf53_14 : decode cJ9_floorMod_7cf53 14 = .ok (.iload_n 2, 1) := by decide +kernel
theorem dJ9_floorMod_7cf53_15 : decode cJ9_floorMod_7cf53 15 = .ok (.iload_n 1, 1) := by decide +kernel
theorem dJ9_floorMod_7cf53_16 : decode cJ9_floorMod_7cf53 16 = .ok (.iadd, 1) := by decide +kernel
theorem dJ9_floorMod_7cf53_17 : decode cJ9_floorMod_7cf53 17 = .ok (.ireturn, 1) := by decide +kernel
theorem dJ9_floorMod_7cf53_18 : decode cJ9_floorMod_7cf53 18 = .ok (.iload_n 2, 1) := by decide +kernel
theorem dJ9_floorMod_7cf53_19 : decode cJ9_floorMod_7cf53 19 = .ok (.ireturn, 1) := by decide +kernel
theorem dJ9_max_7cf53_0 : decode cJ9_max_7cf53 0 = .ok (.iload_n 0, 1) := by decide +kernel
theorem dJ9_max_7cf53_1 : decode cJ9_max_7cf53 1 = .ok (.iload_n 1, 1) := by decide +kernel
theorem dJ9_max_7cf53_2 : decode cJ9_max_7cf53 2 = .ok (.if_icmp .lt 7, 3) := by decide +kernel
theorem dJ9_max_7cf53_5 : decode cJ9_max_7cf53 5 = .ok (.iload_n 0, 1) := by decide +kernel
theorem dJ9_max_7cf53_6 : decode cJ9_max_7cf53 6 = .ok (.goto 4, 3) := by decide +kernel
theorem dJ9_max_7cf53_9 : decode cJ9_max_7cf53 9 = .ok (.iload_n 1, 1) := by decide +kernel
theorem dJ9_max_7cf53_10 : decode cJ9_max_7cf53 10 = .ok (.ireturn, 1) := by decide +kernel
theorem dJ9_min_7cf53_0 : decode cJ9_min_7cf53 0 = .ok (.iload_n 0, 1) := by decide +kernel
theorem dJ9_min_7cf53_1 : decode cJ9_min_7cf53 1 = .ok (.iload_n 1, 1) := by decide +kernel
theorem dJ9_min_7cf53_2 : decode cJ9_min_7cf53 2 = .ok (.if_icmp .gt 7, 3) := by decide +kernel
theorem dJ9_min_7cf53_5 : decode cJ9_min_7cf53 5 = .ok (.iload_n 0, 1) := by decide +kernel
theorem dJ9_min_7cf53_6 : decode cJ9_min_7cf53 6 = .ok (.goto 4, 3) := by decide +kernel
theorem dJ9_min_7cf53_9 : decode cJ9_min_7cf53 9 = .ok (.iload_n 1, 1) := by decide +kernel
theorem dJ9_min_7cf53_10 : decode cJ9_min_7cf53 10 = .ok (.ireturn, 1) := by decide +kernel
theorem dJxa1e45_init_da8c8_0 : decode cJxa1e45_init_da8c8 0 = .ok (.aload_n 0, 1) := by decide +kernel
theorem dJxa1e45_init_da8c8_1 : decode cJxa1e45_init_da8c8 1 = .ok (.invokespecial 1, 3) := by decide +kernel
theorem dJxa1e45_init_da8c8_4 : decode cJxa1e45_init_da8c8 4 = .ok (.return_, 1) := by decide +kernel
theorem dJxc12de_init_da8c8_0 : decode cJxc12de_init_da8c8 0 = .ok (.aload_n 0, 1) := by decide +kernel
theorem dJxc12de_init_da8c8_1 : decode cJxc12de_init_da8c8 1 = .ok (.invokespecial 1, 3) := by decide +kernel
theorem dJxc12de_init_da8c8_4 : decode cJxc12de_init_da8c8 4 = .ok (.aload_n 0, 1) := by decide +kernel
theorem dJxc12de_init_da8c8_5 : decode cJxc12de_init_da8c8 5 = .ok (.iconst 0, 1) := by decide +kernel
theorem dJxc12de_init_da8c8_6 : decode cJxc12de_init_da8c8 6 = .ok (.putfield 7, 3) := by decide +kernel
theorem dJxc12de_init_da8c8_9 : decode cJxc12de_init_da8c8 9 = .ok (.return_, 1) := by decide +kernel
theorem dJx4a65c_init_da8c8_0 : decode cJx4a65c_init_da8c8 0 = .ok (.aload_n 0, 1) := by decide +kernel
theorem dJx4a65c_init_da8c8_1 : decode cJx4a65c_init_da8c8 1 = .ok (.invokespecial 1, 3) := by decide +kernel
theorem dJx4a65c_init_da8c8_4 : decode cJx4a65c_init_da8c8 4 = .ok (.aload_n 0, 1) := by decide +kernel
theorem dJx4a65c_init_da8c8_5 : decode cJx4a65c_init_da8c8 5 = .ok (.getstatic 39, 3) := by decide +kernel
theorem dJx4a65c_init_da8c8_8 : decode cJx4a65c_init_da8c8 8 = .ok (.putfield 9, 3) := by decide +kernel
theorem dJx4a65c_init_da8c8_11 : decode cJx4a65c_init_da8c8 11 = .ok (.return_, 1) := by decide +kernel
theorem dJx4a65c_grow_92f84_0 : decode cJx4a65c_grow_92f84 0 = .ok (.aload_n 0, 1) := by decide +kernel
theorem dJx4a65c_grow_92f84_1 : decode cJx4a65c_grow_92f84 1 = .ok (.getfield 9, 3) := by decide +kernel
theorem dJx4a65c_grow_92f84_4 : decode cJx4a65c_grow_92f84 4 = .ok (.arraylength, 1) := by decide +kernel
theorem dJx4a65c_grow_92f84_5 : decode cJx4a65c_grow_92f84 5 = .ok (.istore_n 2, 1) := by decide +kernel
theorem dJx4a65c_grow_92f84_6 : decode cJx4a65c_grow_92f84 6 = .ok (.iload_n 2, 1) := by decide +kernel
theorem dJx4a65c_grow_92f84_7 : decode cJx4a65c_grow_92f84 7 = .ok (.ifCond .gt 13, 3) := by decide +kernel
theorem dJx4a65c_grow_92f84_10 : decode cJx4a65c_grow_92f84 10 = .ok (.aload_n 0, 1) := by decide +kernel
theorem dJx4a65c_grow_92f84_11 : decode cJx4a65c_grow_92f84 11 = .ok (.getfield 9, 3) := by decide +kernel
theorem dJx4a65c_grow_92f84_14 : decode cJx4a65c_grow_92f84 14 = .ok (.getstatic 39, 3) := by decide +kernel
theorem dJx4a65c_grow_92f84_17 : decode cJx4a65c_grow_92f84 17 = .ok (.if_acmp .eq 28, 3) := by decide +kernel
theorem dJx4a65c_grow_92f84_20 : decode cJx4a65c_grow_92f84 20 = .ok (.iload_n 2, 1) := by decide +kernel
theorem dJx4a65c_grow_92f84_21 : decode cJx4a65c_grow_92f84 21 = .ok (.iload_n 1, 1) := by decide +kernel
theorem dJx4a65c_grow_92f84_22 : decode cJx4a65c_grow_92f84 22 = .ok (.iload_n 2, 1) := by decide +kernel
theorem dJx4a65c_grow_92f84_23 : decode cJx4a65c_grow_92f84 23 = .ok (.isub, 1) := by decide +kernel
theorem dJx4a65c_grow_92f84_24 : decode cJx4a65c_grow_92f84 24 = .ok (.iload_n 2, 1) := by decide +kernel
theorem dJx4a65c_grow_92f84_25 : decode cJx4a65c_grow_92f84 25 = .ok (.iconst 1, 1) := by decide +kernel
theorem dJx4a65c_grow_92f84_26 : decode cJx4a65c_grow_92f84 26 = .ok (.ishr, 1) := by decide +kernel
theorem dJx4a65c_grow_92f84_27 : decode cJx4a65c_grow_92f84 27 = .ok (.invokestatic 73, 3) := by decide +kernel
theorem dJx4a65c_grow_92f84_30 : decode cJx4a65c_grow_92f84 30 = .ok (.istore_n 3, 1) := by decide +kernel
theorem dJx4a65c_grow_92f84_31 : decode cJx4a65c_grow_92f84 31 = .ok (.aload_n 0, 1) := by decide +kernel
theorem dJx4a65c_grow_92f84_32 : decode cJx4a65c_grow_92f84 32 = .ok (.aload_n 0, 1) := by decide +kernel
theorem dJx4a65c_grow_92f84_33 : decode cJx4a65c_grow_92f84 33 = .ok (.getfield 9, 3) := by decide +kernel
theorem dJx4a65c_grow_92f84_36 : decode cJx4a65c_grow_92f84 36 = .ok (.iload_n 3, 1) := by decide +kernel
theorem dJx4a65c_grow_92f84_37 : decode cJx4a65c_grow_92f84 37 = .ok (.invokestatic 66, 3) := by decide +kernel
theorem dJx4a65c_grow_92f84_40 : decode cJx4a65c_grow_92f84 40 = .ok (.dup_x1, 1) := by decide +kernel
theorem dJx4a65c_grow_92f84_41 : decode cJx4a65c_grow_92f84 41 = .ok (.putfield 9, 3) := by decide +kernel
theorem dJx4a65c_grow_92f84_44 : decode cJx4a65c_grow_92f84 44 = .ok (.areturn, 1) := by decide +kernel
theorem dJx4a65c_grow_92f84_45 : decode cJx4a65c_grow_92f84 45 = .ok (.aload_n 0, 1) := by decide +kernel
theorem dJx4a65c_grow_92f84_46 : decode cJx4a65c_grow_92f84 46 = .ok (.bipush 10, 2) := by decide +kernel
theorem dJx4a65c_grow_92f84_48 : decode cJx4a65c_grow_92f84 48 = .ok (.iload_n 1, 1) := by decide +kernel
theorem dJx4a65c_grow_92f84_49 : decode cJx4a65c_grow_92f84 49 = .ok (.invokestatic 79, 3) := by decide +kernel
theorem dJx4a65c_grow_92f84_52 : decode cJx4a65c_grow_92f84 52 = .ok (.anewarray 7, 3) := by decide +kernel
theorem dJx4a65c_grow_92f84_55 : decode cJx4a65c_grow_92f84 55 = .ok (.dup_x1, 1) := by decide +kernel
theorem dJx4a65c_grow_92f84_56 : decode cJx4a65c_grow_92f84 56 = .ok (.putfield 9, 3) := by decide +kernel
theorem dJx4a65c_grow_92f84_59 : decode cJx4a65c_grow_92f84 59 = .ok (.areturn, 1) := by decide +kernel
theorem dJx4a65c_grow_d5877_0 : decode cJx4a65c_grow_d5877 0 = .ok (.aload_n 0, 1) := by decide +kernel
theorem dJx4a65c_grow_d5877_1 : decode cJx4a65c_grow_d5877 1 = .ok (.aload_n 0, 1) := by decide +kernel
theorem dJx4a65c_grow_d5877_2 : decode cJx4a65c_grow_d5877 2 = .ok (.getfield 48, 3) := by decide +kernel
theorem dJx4a65c_grow_d5877_5 : decode cJx4a65c_grow_d5877 5 = .ok (.iconst 1, 1) := by decide +kernel
theorem dJx4a65c_grow_d5877_6 : decode cJx4a65c_grow_d5877 6 = .ok (.iadd, 1) := by decide +kernel
theorem dJx4a65c_grow_d5877_7 : decode cJx4a65c_grow_d5877 7 = .ok (.invokevirtual 69, 3) := by decide +kernel
theorem dJx4a65c_grow_d5877_10 : decode cJx4a65c_grow_d5877 10 = .ok (.areturn, 1) := by decide +kernel
theorem dJx4a65c_size_8abf5_0 : decode cJx4a65c_size_8abf5 0 = .ok (.aload_n 0, 1) := by decide +kernel
theorem dJx4a65c_size_8abf5_1 : decode cJx4a65c_size_8abf5 1 = .ok (.getfield 48, 3) := by decide +kernel
theorem dJx4a65c_size_8abf5_4 : decode cJx4a65c_size_8abf5 4 = .ok (.ireturn, 1) := by decide +kernel
theorem dJx4a65c_elementData_915e3_0 : decode cJx4a65c_elementData_915e3 0 = .ok (.aload_n 0, 1) := by decide +kernel
theorem dJx4a65c_elementData_915e3_1 : decode cJx4a65c_elementData_915e3 1 = .ok (.getfield 9, 3) := by decide +kernel
theorem dJx4a65c_elementData_915e3_4 : decode cJx4a65c_elementData_915e3 4 = .ok (.iload_n 1, 1) := by decide +kernel
theorem dJx4a65c_elementData_915e3_5 : decode cJx4a65c_elementData_915e3 5 = .ok (.aaload, 1) := by decide +kernel
theorem dJx4a65c_elementData_915e3_6 : decode cJx4a65c_elementData_915e3 6 = .ok (.areturn, 1) := by decide +kernel
theorem dJx4a65c_get_915e3_0 : decode cJx4a65c_get_915e3 0 = .ok (.iload_n 1, 1) := by decide +kernel
theorem dJx4a65c_get_915e3_1 : decode cJx4a65c_get_915e3 1 = .ok (.aload_n 0, 1) := by decide +kernel
theorem dJx4a65c_get_915e3_2 : decode cJx4a65c_get_915e3 2 = .ok (.getfield 48, 3) := by decide +kernel
theorem dJx4a65c_get_915e3_5 : decode cJx4a65c_get_915e3 5 = .ok (.invokestatic 118, 3) := by decide +kernel
theorem dJx4a65c_get_915e3_8 : decode cJx4a65c_get_915e3 8 = .ok (.pop, 1) := by decide +kernel
theorem dJx4a65c_get_915e3_9 : decode cJx4a65c_get_915e3 9 = .ok (.aload_n 0, 1) := by decide +kernel
theorem dJx4a65c_get_915e3_10 : decode cJx4a65c_get_915e3 10 = .ok (.iload_n 1, 1) := by decide +kernel
theorem dJx4a65c_get_915e3_11 : decode cJx4a65c_get_915e3 11 = .ok (.invokevirtual 123, 3) := by decide +kernel
theorem dJx4a65c_get_915e3_14 : decode cJx4a65c_get_915e3 14 = .ok (.areturn, 1) := by decide +kernel
theorem dJx4a65c_add_72be8_0 : decode cJx4a65c_add_72be8 0 = .ok (.iload_n 3, 1) := by decide +kernel
theorem dJx4a65c_add_72be8_1 : decode cJx4a65c_add_72be8 1 = .ok (.aload_n 2, 1) := by decide +kernel
theorem dJx4a65c_add_72be8_2 : decode cJx4a65c_add_72be8 2 = .ok (.arraylength, 1) := by decide +kernel
theorem dJx4a65c_add_72be8_3 : decode cJx4a65c_add_72be8 3 = .ok (.if_icmp .ne 8, 3) := by decide +kernel
theorem dJx4a65c_add_72be8_6 : decode cJx4a65c_add_72be8 6 = .ok (.aload_n 0, 1) := by decide +kernel
theorem dJx4a65c_add_72be8_7 : decode cJx4a65c_add_72be8 7 = .ok (.invokevirtual 129, 3) := by decide +kernel
theorem dJx4a65c_add_72be8_10 : decode cJx4a65c_add_72be8 10 = .ok (.astore_n 2, 1) := by decide +kernel
theorem dJx4a65c_add_72be8_11 : decode cJx4a65c_add_72be8 11 = .ok (.aload_n 2, 1) := by decide +kernel
theorem dJx4a65c_add_72be8_12 : decode cJx4a65c_add_72be8 12 = .ok (.iload_n 3, 1) := by decide +kernel
theorem dJx4a65c_add_72be8_13 : decode cJx4a65c_add_72be8 13 = .ok (.aload_n 1, 1) := by decide +kernel
theorem dJx4a65c_add_72be8_14 : decode cJx4a65c_add_72be8 14 = .ok (.aastore, 1) := by decide +kernel
theorem dJx4a65c_add_72be8_15 : decode cJx4a65c_add_72be8 15 = .ok (.aload_n 0, 1) := by decide +kernel
theorem dJx4a65c_add_72be8_16 : decode cJx4a65c_add_72be8 16 = .ok (.iload_n 3, 1) := by decide +kernel
theorem dJx4a65c_add_72be8_17 : decode cJx4a65c_add_72be8 17 = .ok (.iconst 1, 1) := by decide +kernel
theorem dJx4a65c_add_72be8_18 : decode cJx4a65c_add_72be8 18 = .ok (.iadd, 1) := by decide +kernel
theorem dJx4a65c_add_72be8_19 : decode cJx4a65c_add_72be8 19 = .ok (.putfield 48, 3) := by decide +kernel
theorem dJx4a65c_add_72be8_22 : decode cJx4a65c_add_72be8 22 = .ok (.return_, 1) := by decide +kernel
theorem dJx4a65c_add_9ea2d_0 : decode cJx4a65c_add_9ea2d 0 = .ok (.aload_n 0, 1) := by decide +kernel
theorem dJx4a65c_add_9ea2d_1 : decode cJx4a65c_add_9ea2d 1 = .ok (.dup, 1) := by decide +kernel
theorem dJx4a65c_add_9ea2d_2 : decode cJx4a65c_add_9ea2d 2 = .ok (.getfield 63, 3) := by decide +kernel
theorem dJx4a65c_add_9ea2d_5 : decode cJx4a65c_add_9ea2d 5 = .ok (.iconst 1, 1) := by decide +kernel
theorem dJx4a65c_add_9ea2d_6 : decode cJx4a65c_add_9ea2d 6 = .ok (.iadd, 1) := by decide +kernel
theorem dJx4a65c_add_9ea2d_7 : decode cJx4a65c_add_9ea2d 7 = .ok (.putfield 63, 3) := by decide +kernel
theorem dJx4a65c_add_9ea2d_10 : decode cJx4a65c_add_9ea2d 10 = .ok (.aload_n 0, 1) := by decide +kernel
theorem dJx4a65c_add_9ea2d_11 : decode cJx4a65c_add_9ea2d 11 = .ok (.aload_n 1, 1) := by decide +kernel
theorem dJx4a65c_add_9ea2d_12 : decode cJx4a65c_add_9ea2d 12 = .ok (.aload_n 0, 1) := by decide +kernel
theorem dJx4a65c_add_9ea2d_13 : decode cJx4a65c_add_9ea2d 13 = .ok (.getfield 9, 3) := by decide +kernel
theorem dJx4a65c_add_9ea2d_16 : decode cJx4a65c_add_9ea2d 16 = .ok (.aload_n 0, 1) := by decide +kernel
theorem dJx4a65c_add_9ea2d_17 : decode cJx4a65c_add_9ea2d 17 = .ok (.getfield 48, 3) := by decide +kernel
theorem dJx4a65c_add_9ea2d_20 : decode cJx4a65c_add_9ea2d 20 = .ok (.invokevirtual 131, 3) := by decide +kernel
theorem dJx4a65c_add_9ea2d_23 : decode cJx4a65c_add_9ea2d 23 = .ok (.iconst 1, 1) := by decide +kernel
theorem dJx4a65c_add_9ea2d_24 : decode cJx4a65c_add_9ea2d 24 = .ok (.ireturn, 1) := by decide +kernel
theorem dJ7_copyOf_1904c_0 : decode cJ7_copyOf_1904c 0 = .ok (.aload_n 0, 1) := by decide +kernel
theorem dJ7_copyOf_1904c_1 : decode cJ7_copyOf_1904c 1 = .ok (.iload_n 1, 1) := by decide +kernel
theorem dJ7_copyOf_1904c_2 : decode cJ7_copyOf_1904c 2 = .ok (.aload_n 0, 1) := by decide +kernel
theorem dJ7_copyOf_1904c_3 : decode cJ7_copyOf_1904c 3 = .ok (.invokevirtual 86, 3) := by decide +kernel
theorem dJ7_copyOf_1904c_6 : decode cJ7_copyOf_1904c 6 = .ok (.invokestatic 300, 3) := by decide +kernel
theorem dJ7_copyOf_1904c_9 : decode cJ7_copyOf_1904c 9 = .ok (.areturn, 1) := by decide +kernel
theorem dJ7_copyOf_6403c_0 : decode cJ7_copyOf_6403c 0 = .ok (.aload_n 2, 1) := by decide +kernel
theorem dJ7_copyOf_6403c_1 : decode cJ7_copyOf_6403c 1 = .ok (.ldc 110, 2) := by decide +kernel
theorem dJ7_copyOf_6403c_3 : decode cJ7_copyOf_6403c 3 = .ok (.if_acmp .ne 10, 3) := by decide +kernel
theorem dJ7_copyOf_6403c_6 : decode cJ7_copyOf_6403c 6 = .ok (.iload_n 1, 1) := by decide +kernel
theorem dJ7_copyOf_6403c_7 : decode cJ7_copyOf_6403c 7 = .ok (.anewarray 2, 3) := by decide +kernel
theorem dJ7_copyOf_6403c_10 : decode cJ7_copyOf_6403c 10 = .ok (.goto 14, 3) := by decide +kernel
theorem dJ7_copyOf_6403c_13 : decode cJ7_copyOf_6403c 13 = .ok (.aload_n 2, 1) := by decide +kernel
theorem dJ7_copyOf_6403c_14 : decode cJ7_copyOf_6403c 14 = .ok (.invokevirtual 90, 3) := by decide +kernel
theorem dJ7_copyOf_6403c_17 : decode cJ7_copyOf_6403c 17 = .ok (.iload_n 1, 1) := by decide +kernel
theorem dJ7_copyOf_6403c_18 : decode cJ7_copyOf_6403c 18 = .ok (.invokestatic 95, 3) := by decide +kernel
theorem dJ7_copyOf_6403c_21 : decode cJ7_copyOf_6403c 21 = .ok (.checkcast 110, 3) := by decide +kernel
theorem dJ7_copyOf_6403c_24 : decode cJ7_copyOf_6403c 24 = .ok (.astore_n 3, 1) := by decide +kernel
theorem dJ7_copyOf_6403c_25 : decode cJ7_copyOf_6403c 25 = .ok (.aload_n 0, 1) := by decide +kernel
theorem dJ7_copyOf_6403c_26 : decode cJ7_copyOf_6403c 26 = .ok (.iconst 0, 1) := by decide +kernel
theorem dJ7_copyOf_6403c_27 : decode cJ7_copyOf_6403c 27 = .ok (.aload_n 3, 1) := by decide +kernel
theorem dJ7_copyOf_6403c_28 : decode cJ7_copyOf_6403c 28 = .ok (.iconst 0, 1) := by decide +kernel
theorem dJ7_copyOf_6403c_29 : decode cJ7_copyOf_6403c 29 = .ok (.aload_n 0, 1) := by decide +kernel
theorem dJ7_copyOf_6403c_30 : decode cJ7_copyOf_6403c 30 = .ok (.arraylength, 1) := by decide +kernel
theorem dJ7_copyOf_6403c_31 : decode cJ7_copyOf_6403c 31 = .ok (.iload_n 1, 1) := by decide +kernel
theorem dJ7_copyOf_6403c_32 : decode cJ7_copyOf_6403c 32 = .ok (.invokestatic 304, 3) := by decide +kernel
theorem dJ7_copyOf_6403c_35 : decode cJ7_copyOf_6403c 35 = .ok (.invokestatic 150, 3) := by decide +kernel
theorem dJ7_copyOf_6403c_38 : decode cJ7_copyOf_6403c 38 = .ok (.aload_n 3, 1) := by decide +kernel
theorem dJ7_copyOf_6403c_39 : decode cJ7_copyOf_6403c 39 = .ok (.areturn, 1) := by decide +kernel
theorem dJ15_checkIndex_7cf53_0 : decode cJ15_checkIndex_7cf53 0 = .ok (.iload_n 0, 1) := by decide +kernel
theorem dJ15_checkIndex_7cf53_1 : decode cJ15_checkIndex_7cf53 1 = .ok (.iload_n 1, 1) := by decide +kernel
theorem dJ15_checkIndex_7cf53_2 : decode cJ15_checkIndex_7cf53 2 = .ok (.aconst_null, 1) := by decide +kernel
theorem dJ15_checkIndex_7cf53_3 : decode cJ15_checkIndex_7cf53 3 = .ok (.invokestatic 105, 3) := by decide +kernel
theorem dJ15_checkIndex_7cf53_6 : decode cJ15_checkIndex_7cf53 6 = .ok (.ireturn, 1) := by decide +kernel
theorem dJ8_newLength_cabcc_0 : decode cJ8_newLength_cabcc 0 = .ok (.iload_n 0, 1) := by decide +kernel
theorem dJ8_newLength_cabcc_1 : decode cJ8_newLength_cabcc 1 = .ok (.iload_n 1, 1) := by decide +kernel
theorem dJ8_newLength_cabcc_2 : decode cJ8_newLength_cabcc 2 = .ok (.iload_n 2, 1) := by decide +kernel
theorem dJ8_newLength_cabcc_3 : decode cJ8_newLength_cabcc 3 = .ok (.invokestatic 194, 3) := by decide +kernel
theorem dJ8_newLength_cabcc_6 : decode cJ8_newLength_cabcc 6 = .ok (.iadd, 1) := by decide +kernel
theorem dJ8_newLength_cabcc_7 : decode cJ8_newLength_cabcc 7 = .ok (.istore_n 3, 1) := by decide +kernel
theorem dJ8_newLength_cabcc_8 : decode cJ8_newLength_cabcc 8 = .ok (.iconst 0, 1) := by decide +kernel
theorem dJ8_newLength_cabcc_9 : decode cJ8_newLength_cabcc 9 = .ok (.iload_n 3, 1) := by decide +kernel
theorem dJ8_newLength_cabcc_10 : decode cJ8_newLength_cabcc 10 = .ok (.if_icmp .ge 11, 3) := by decide +kernel
theorem dJ8_newLength_cabcc_13 : decode cJ8_newLength_cabcc 13 = .ok (.iload_n 3, 1) := by decide +kernel
theorem dJ8_newLength_cabcc_14 : decode cJ8_newLength_cabcc 14 = .ok (.ldc 200, 2) := by decide +kernel
theorem dJ8_newLength_cabcc_16 : decode cJ8_newLength_cabcc 16 = .ok (.if_icmp .gt 5, 3) := by decide +kernel
theorem dJ8_newLength_cabcc_19 : decode cJ8_newLength_cabcc 19 = .ok (.iload_n 3, 1) := by decide +kernel
theorem dJ8_newLength_cabcc_20 : decode cJ8_newLength_cabcc 20 = .ok (.ireturn, 1) := by decide +kernel
theorem dJ8_newLength_cabcc_21 : decode cJ8_newLength_cabcc 21 = .ok (.iload_n 0, 1) := by decide +kernel
theorem dJ8_newLength_cabcc_22 : decode cJ8_newLength_cabcc 22 = .ok (.iload_n 1, 1) := by decide +kernel
theorem dJ8_newLength_cabcc_23 : decode cJ8_newLength_cabcc 23 = .ok (.invokestatic 201, 3) := by decide +kernel
theorem dJ8_newLength_cabcc_26 : decode cJ8_newLength_cabcc 26 = .ok (.ireturn, 1) := by decide +kernel
theorem dJ8_hugeLength_7cf53_0 : decode cJ8_hugeLength_7cf53 0 = .ok (.iload_n 0, 1) := by decide +kernel
theorem dJ8_hugeLength_7cf53_1 : decode cJ8_hugeLength_7cf53 1 = .ok (.iload_n 1, 1) := by decide +kernel
theorem dJ8_hugeLength_7cf53_2 : decode cJ8_hugeLength_7cf53 2 = .ok (.iadd, 1) := by decide +kernel
theorem dJ8_hugeLength_7cf53_3 : decode cJ8_hugeLength_7cf53 3 = .ok (.istore_n 2, 1) := by decide +kernel
theorem dJ8_hugeLength_7cf53_4 : decode cJ8_hugeLength_7cf53 4 = .ok (.iload_n 2, 1) := by decide +kernel
theorem dJ8_hugeLength_7cf53_5 : decode cJ8_hugeLength_7cf53 5 = .ok (.ifCond .ge 44, 3) := by decide +kernel
theorem dJ8_hugeLength_7cf53_8 : decode cJ8_hugeLength_7cf53 8 = .ok (.new 204, 3) := by decide +kernel
theorem dJ8_hugeLength_7cf53_11 : decode cJ8_hugeLength_7cf53 11 = .ok (.dup, 1) := by decide +kernel
theorem dJ8_hugeLength_7cf53_12 : decode cJ8_hugeLength_7cf53 12 = .ok (.new 89, 3) := by decide +kernel
theorem dJ8_hugeLength_7cf53_15 : decode cJ8_hugeLength_7cf53 15 = .ok (.dup, 1) := by decide +kernel
theorem dJ8_hugeLength_7cf53_16 : decode cJ8_hugeLength_7cf53 16 = .ok (.invokespecial 91, 3) := by decide +kernel
theorem dJ8_hugeLength_7cf53_19 : decode cJ8_hugeLength_7cf53 19 = .ok (.ldc 206, 2) := by decide +kernel
theorem dJ8_hugeLength_7cf53_21 : decode cJ8_hugeLength_7cf53 21 = .ok (.invokevirtual 94, 3) := by decide +kernel
theorem dJ8_hugeLength_7cf53_24 : decode cJ8_hugeLength_7cf53 24 = .ok (.iload_n 0, 1) := by decide +kernel
theorem dJ8_hugeLength_7cf53_25 : decode cJ8_hugeLength_7cf53 25 = .ok (.invokevirtual 98, 3) := by decide +kernel
theorem dJ8_hugeLength_7cf53_28 : decode cJ8_hugeLength_7cf53 28 = .ok (.ldc 208, 2) := by decide +kernel
theorem dJ8_hugeLength_7cf53_30 : decode cJ8_hugeLength_7cf53 30 = .ok (.invokevirtual 94, 3) := by decide +kernel
theorem dJ8_hugeLength_7cf53_33 : decode cJ8_hugeLength_7cf53 33 = .ok (.iload_n 1, 1) := by decide +kernel
theorem dJ8_hugeLength_7cf53_34 : decode cJ8_hugeLength_7cf53 34 = .ok (.invokevirtual 98, 3) := by decide +kernel
theorem dJ8_hugeLength_7cf53_37 : decode cJ8_hugeLength_7cf53 37 = .ok (.ldc 210, 2) := by decide +kernel
theorem dJ8_hugeLength_7cf53_39 : decode cJ8_hugeLength_7cf53 39 = .ok (.invokevirtual 94, 3) := by decide +kernel
theorem dJ8_hugeLength_7cf53_42 : decode cJ8_hugeLength_7cf53 42 = .ok (.invokevirtual 101, 3) := by decide +kernel
theorem dJ8_hugeLength_7cf53_45 : decode cJ8_hugeLength_7cf53 45 = .ok (.invokespecial 212, 3) := by decide +kernel
theorem dJ8_hugeLength_7cf53_48 : decode cJ8_hugeLength_7cf53 48 = .ok (.athrow, 1) := by decide +kernel
theorem dJ8_hugeLength_7cf53_49 : decode cJ8_hugeLength_7cf53 49 = .ok (.iload_n 2, 1) := by decide +kernel
theorem dJ8_hugeLength_7cf53_50 : decode cJ8_hugeLength_7cf53 50 = .ok (.ldc 200, 2) := by decide +kernel
theorem dJ8_hugeLength_7cf53_52 : decode cJ8_hugeLength_7cf53 52 = .ok (.if_icmp .gt 6, 3) := by decide +kernel
theorem dJ8_hugeLength_7cf53_55 : decode cJ8_hugeLength_7cf53 55 = .ok (.ldc 200, 2) := by decide +kernel
theorem dJ8_hugeLength_7cf53_57 : decode cJ8_hugeLength_7cf53 57 = .ok (.ireturn, 1) := by decide +kernel
theorem dJ8_hugeLength_7cf53_58 : decode cJ8_hugeLength_7cf53 58 = .ok (.iload_n 2, 1) := by decide +kernel
theorem dJ8_hugeLength_7cf53_59 : decode cJ8_hugeLength_7cf53 59 = .ok (.ireturn, 1) := by decide +kernel
theorem dJ3_checkIndex_8e157_0 : decode cJ3_checkIndex_8e157 0 = .ok (.iload_n 0, 1) := by decide +kernel
theorem dJ3_checkIndex_8e157_1 : decode cJ3_checkIndex_8e157 1 = .ok (.ifCond .lt 8, 3) := by decide +kernel
theorem dJ3_checkIndex_8e157_4 : decode cJ3_checkIndex_8e157 4 = .ok (.iload_n 0, 1) := by decide +kernel
theorem dJ3_checkIndex_8e157_5 : decode cJ3_checkIndex_8e157 5 = .ok (.iload_n 1, 1) := by decide +kernel
theorem dJ3_checkIndex_8e157_6 : decode cJ3_checkIndex_8e157 6 = .ok (.if_icmp .lt 10, 3) := by decide +kernel
theorem dJ3_checkIndex_8e157_9 : decode cJ3_checkIndex_8e157 9 = .ok (.aload_n 2, 1) := by decide +kernel
theorem dJ3_checkIndex_8e157_10 : decode cJ3_checkIndex_8e157 10 = .ok (.iload_n 0, 1) := by decide +kernel
theorem dJ3_checkIndex_8e157_11 : decode cJ3_checkIndex_8e157 11 = .ok (.iload_n 1, 1) := by decide +kernel
theorem dJ3_checkIndex_8e157_12 : decode cJ3_checkIndex_8e157 12 = .ok (.invokestatic 95, 3) := by decide +kernel
theorem dJ3_checkIndex_8e157_15 : decode cJ3_checkIndex_8e157 15 = .ok (.athrow, 1) := by decide +kernel
theorem dJ3_checkIndex_8e157_16 : decode cJ3_checkIndex_8e157 16 = .ok (.iload_n 0, 1) := by decide +kernel
theorem dJ3_checkIndex_8e157_17 : decode cJ3_checkIndex_8e157 17 = .ok (.ireturn, 1) := by decide +kernel
