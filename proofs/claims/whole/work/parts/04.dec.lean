theorem dX0_init_0 : decode cX0_init 0 = .ok (.aload_n 0, 1) := by decide +kernel
theorem dX0_init_1 : decode cX0_init 1 = .ok (.invokespecial 3, 3) := by decide +kernel
theorem dX0_init_4 : decode cX0_init 4 = .ok (.aload_n 0, 1) := by decide +kernel
theorem dX0_init_5 : decode cX0_init 5 = .ok (.new 9, 3) := by decide +kernel
theorem dX0_init_8 : decode cX0_init 8 = .ok (.dup, 1) := by decide +kernel
theorem dX0_init_9 : decode cX0_init 9 = .ok (.invokespecial 11, 3) := by decide +kernel
theorem dX0_init_12 : decode cX0_init 12 = .ok (.putfield 12, 3) := by decide +kernel
theorem dX0_init_15 : decode cX0_init 15 = .ok (.aload_n 0, 1) := by decide +kernel
theorem dX0_init_16 : decode cX0_init 16 = .ok (.getfield 12, 3) := by decide +kernel
theorem dX0_init_19 : decode cX0_init 19 = .ok (.aload_n 1, 1) := by decide +kernel
theorem dX0_init_20 : decode cX0_init 20 = .ok (.invokevirtual 18, 3) := by decide +kernel
theorem dX0_init_23 : decode cX0_init 23 = .ok (.aload_n 0, 1) := by decide +kernel
theorem dX0_init_24 : decode cX0_init 24 = .ok (.iconst 0, 1) := by decide +kernel
theorem dX0_init_25 : decode cX0_init 25 = .ok (.putfield 22, 3) := by decide +kernel
theorem dX0_init_28 : decode cX0_init 28 = .ok (.return_, 1) := by decide +kernel
theorem dX0_receiptsPriceOf_0 : decode cX0_receiptsPriceOf 0 = .ok (.iconst 0, 1) := by decide +kernel
theorem dX0_receiptsPriceOf_1 : decode cX0_receiptsPriceOf 1 = .ok (.istore_n 2, 1) := by decide +kernel
theorem dX0_receiptsPriceOf_2 : decode cX0_receiptsPriceOf 2 = .ok (.iconst 1, 1) := by decide +kernel
theorem dX0_receiptsPriceOf_3 : decode cX0_receiptsPriceOf 3 = .ok (.istore_n 3, 1) := by decide +kernel
theorem dX0_receiptsPriceOf_4 : decode cX0_receiptsPriceOf 4 = .ok (.iload_n 3, 1) := by decide +kernel
theorem dX0_receiptsPriceOf_5 : decode cX0_receiptsPriceOf 5 = .ok (.aload_n 0, 1) := by decide +kernel
theorem dX0_receiptsPriceOf_6 : decode cX0_receiptsPriceOf 6 = .ok (.getfield 26, 3) := by decide +kernel
theorem dX0_receiptsPriceOf_9 : decode cX0_receiptsPriceOf 9 = .ok (.if_icmp .gt 32, 3) := by decide +kernel
theorem dX0_receiptsPriceOf_12 : decode cX0_receiptsPriceOf 12 = .ok (.aload_n 0, 1) := by decide +kernel
theorem dX0_receiptsPriceOf_13 : decode cX0_receiptsPriceOf 13 = .ok (.getfield 12, 3) := by decide +kernel
theorem dX0_receiptsPriceOf_16 : decode cX0_receiptsPriceOf 16 = .ok (.iload_n 3, 1) := by decide +kernel
theorem dX0_receiptsPriceOf_17 : decode cX0_receiptsPriceOf 17 = .ok (.invokevirtual 29, 3) := by decide +kernel
theorem dX0_receiptsPriceOf_20 : decode cX0_receiptsPriceOf 20 = .ok (.iload_n 1, 1) := by decide +kernel
theorem dX0_receiptsPriceOf_21 : decode cX0_receiptsPriceOf 21 = .ok (.if_icmp .ne 14, 3) := by decide +kernel
theorem dX0_receiptsPriceOf_24 : decode cX0_receiptsPriceOf 24 = .ok (.iload_n 2, 1) := by decide +kernel
theorem dX0_receiptsPriceOf_25 : decode cX0_receiptsPriceOf 25 = .ok (.aload_n 0, 1) := by decide +kernel
theorem dX0_receiptsPriceOf_26 : decode cX0_receiptsPriceOf 26 = .ok (.getfield 12, 3) := by decide +kernel
theorem dX0_receiptsPriceOf_29 : decode cX0_receiptsPriceOf 29 = .ok (.iload_n 3, 1) := by decide +kernel
theorem dX0_receiptsPriceOf_30 : decode cX0_receiptsPriceOf 30 = .ok (.invokevirtual 33, 3) := by decide +kernel
theorem dX0_receiptsPriceOf_33 : decode cX0_receiptsPriceOf 33 = .ok (.iadd, 1) := by decide +kernel
theorem dX0_receiptsPriceOf_34 : decode cX0_receiptsPriceOf 34 = .ok (.istore_n 2, 1) := by decide +kernel
theorem dX0_receiptsPriceOf_35 : decode cX0_receiptsPriceOf 35 = .ok (.iinc 3 1, 3) := by decide +kernel
theorem dX0_receiptsPriceOf_38 : decode cX0_receiptsPriceOf 38 = .ok (.goto (-34), 3) := by decide +kernel
theorem dX0_receiptsPriceOf_41 : decode cX0_receiptsPriceOf 41 = .ok (.iload_n 2, 1) := by decide +kernel
theorem dX0_receiptsPriceOf_42 : decode cX0_receiptsPriceOf 42 = .ok (.ireturn, 1) := by decide +kernel
theorem dX1_init_0 : decode cX1_init 0 = .ok (.aload_n 0, 1) := by decide +kernel
theorem dX1_init_1 : decode cX1_init 1 = .ok (.invokespecial 3, 3) := by decide +kernel
theorem dX1_init_4 : decode cX1_init 4 = .ok (.aload_n 0, 1) := by decide +kernel
theorem dX1_init_5 : decode cX1_init 5 = .ok (.iload_n 1, 1) := by decide +kernel
theorem dX1_init_6 : decode cX1_init 6 = .ok (.putfield 9, 3) := by decide +kernel
theorem dX1_init_9 : decode cX1_init 9 = .ok (.aload_n 0, 1) := by decide +kernel
theorem dX1_init_10 : decode cX1_init 10 = .ok (.iload_n 2, 1) := by decide +kernel
theorem dX1_init_11 : decode cX1_init 11 = .ok (.putfield 15, 3) := by decide +kernel
theorem dX1_init_14 : decode cX1_init 14 = .ok (.aload_n 0, 1) := by decide +kernel
theorem dX1_init_15 : decode cX1_init 15 = .ok (.iload_n 3, 1) := by decide +kernel
theorem dX1_init_16 : decode cX1_init 16 = .ok (.putfield 18, 3) := by decide +kernel
theorem dX1_init_19 : decode cX1_init 19 = .ok (.aload_n 0, 1) := by decide +kernel
theorem dX1_init_20 : decode cX1_init 20 = .ok (.bipush 50, 2) := by decide +kernel
theorem dX1_init_22 : decode cX1_init 22 = .ok (.putfield 21, 3) := by decide +kernel
theorem dX1_init_25 : decode cX1_init 25 = .ok (.aload_n 0, 1) := by decide +kernel
theorem dX1_init_26 : decode cX1_init 26 = .ok (.iconst 0, 1) := by decide +kernel
theorem dX1_init_27 : decode cX1_init 27 = .ok (.putfield 24, 3) := by decide +kernel
theorem dX1_init_30 : decode cX1_init 30 = .ok (.aload_n 0, 1) := by decide +kernel
theorem dX1_init_31 : decode cX1_init 31 = .ok (.iconst (-1), 1) := by decide +kernel
theorem dX1_init_32 : decode cX1_init 32 = .ok (.putfield 27, 3) := by decide +kernel
theorem dX1_init_35 : decode cX1_init 35 = .ok (.return_, 1) := by decide +kernel
theorem dX1_isLinkedTo_0 : decode cX1_isLinkedTo 0 = .ok (.aload_n 0, 1) := by decide +kernel
theorem dX1_isLinkedTo_1 : decode cX1_isLinkedTo 1 = .ok (.getfield 30, 3) := by decide +kernel
theorem dX1_isLinkedTo_4 : decode cX1_isLinkedTo 4 = .ok (.iload_n 1, 1) := by decide +kernel
theorem dX1_isLinkedTo_5 : decode cX1_isLinkedTo 5 = .ok (.ishr, 1) := by decide +kernel
theorem dX1_isLinkedTo_6 : decode cX1_isLinkedTo 6 = .ok (.iconst 1, 1) := by decide +kernel
theorem dX1_isLinkedTo_7 : decode cX1_isLinkedTo 7 = .ok (.iand, 1) := by decide +kernel
theorem dX1_isLinkedTo_8 : decode cX1_isLinkedTo 8 = .ok (.ifCond .eq 7, 3) := by decide +kernel
theorem dX1_isLinkedTo_11 : decode cX1_isLinkedTo 11 = .ok (.iconst 1, 1) := by decide +kernel
theorem dX1_isLinkedTo_12 : decode cX1_isLinkedTo 12 = .ok (.goto 4, 3) := by decide +kernel
theorem dX1_isLinkedTo_15 : decode cX1_isLinkedTo 15 = .ok (.iconst 0, 1) := by decide +kernel
theorem dX1_isLinkedTo_16 : decode cX1_isLinkedTo 16 = .ok (.ireturn, 1) := by decide +kernel
theorem dX1_setLinkTo_0 : decode cX1_setLinkTo 0 = .ok (.iconst 1, 1) := by decide +kernel
theorem dX1_setLinkTo_1 : decode cX1_setLinkTo 1 = .ok (.iload_n 1, 1) := by decide +kernel
theorem dX1_setLinkTo_2 : decode cX1_setLinkTo 2 = .ok (.ishl, 1) := by decide +kernel
theorem dX1_setLinkTo_3 : decode cX1_setLinkTo 3 = .ok (.istore_n 3, 1) := by decide +kernel
theorem dX1_setLinkTo_4 : decode cX1_setLinkTo 4 = .ok (.aload_n 0, 1) := by decide +kernel
theorem dX1_setLinkTo_5 : decode cX1_setLinkTo 5 = .ok (.iload_n 2, 1) := by decide +kernel
theorem dX1_setLinkTo_6 : decode cX1_setLinkTo 6 = .ok (.ifCond .eq 12, 3) := by decide +kernel
theorem dX1_setLinkTo_9 : decode cX1_setLinkTo 9 = .ok (.aload_n 0, 1) := by decide +kernel
theorem dX1_setLinkTo_10 : decode cX1_setLinkTo 10 = .ok (.getfield 30, 3) := by decide +kernel
theorem dX1_setLinkTo_13 : decode cX1_setLinkTo 13 = .ok (.iload_n 3, 1) := by decide +kernel
theorem dX1_setLinkTo_14 : decode cX1_setLinkTo 14 = .ok (.ior, 1) := by decide +kernel
theorem dX1_setLinkTo_15 : decode cX1_setLinkTo 15 = .ok (.goto 11, 3) := by decide +kernel
theorem dX1_setLinkTo_18 : decode cX1_setLinkTo 18 = .ok (.aload_n 0, 1) := by decide +kernel
theorem dX1_setLinkTo_19 : decode cX1_setLinkTo 19 = .ok (.getfield 30, 3) := by decide +kernel
theorem dX1_setLinkTo_22 : decode cX1_setLinkTo 22 = .ok (.iload_n 3, 1) := by decide +kernel
theorem dX1_setLinkTo_23 : decode cX1_setLinkTo 23 = .ok (.iconst (-1), 1) := by decide +kernel
theorem dX1_setLinkTo_24 : decode cX1_setLinkTo 24 = .ok (.ixor, 1) := by decide +kernel
theorem dX1_setLinkTo_25 : decode cX1_setLinkTo 25 = .ok (.iand, 1) := by decide +kernel
theorem dX1_setLinkTo_26 : decode cX1_setLinkTo 26 = .ok (.putfield 30, 3) := by decide +kernel
theorem dX1_setLinkTo_29 : decode cX1_setLinkTo 29 = .ok (.return_, 1) := by decide +kernel
theorem dX1_relays_0 : decode cX1_relays 0 = .ok (.aload_n 0, 1) := by decide +kernel
theorem dX1_relays_1 : decode cX1_relays 1 = .ok (.getfield 24, 3) := by decide +kernel
theorem dX1_relays_4 : decode cX1_relays 4 = .ok (.ifCond .ne 20, 3) := by decide +kernel
theorem dX1_relays_7 : decode cX1_relays 7 = .ok (.aload_n 0, 1) := by decide +kernel
theorem dX1_relays_8 : decode cX1_relays 8 = .ok (.getfield 15, 3) := by decide +kernel
theorem dX1_relays_11 : decode cX1_relays 11 = .ok (.iconst 2, 1) := by decide +kernel
theorem dX1_relays_12 : decode cX1_relays 12 = .ok (.aload_n 0, 1) := by decide +kernel
theorem dX1_relays_13 : decode cX1_relays 13 = .ok (.getfield 18, 3) := by decide +kernel
theorem dX1_relays_16 : decode cX1_relays 16 = .ok (.imul, 1) := by decide +kernel
theorem dX1_relays_17 : decode cX1_relays 17 = .ok (.if_icmp .lt 7, 3) := by decide +kernel
theorem dX1_relays_20 : decode cX1_relays 20 = .ok (.iconst 1, 1) := by decide +kernel
theorem dX1_relays_21 : decode cX1_relays 21 = .ok (.goto 4, 3) := by decide +kernel
theorem dX1_relays_24 : decode cX1_relays 24 = .ok (.iconst 0, 1) := by decide +kernel
theorem dX1_relays_25 : decode cX1_relays 25 = .ok (.ireturn, 1) := by decide +kernel
theorem dX1_weight_0 : decode cX1_weight 0 = .ok (.aload_n 0, 1) := by decide +kernel
theorem dX1_weight_1 : decode cX1_weight 1 = .ok (.getfield 18, 3) := by decide +kernel
theorem dX1_weight_4 : decode cX1_weight 4 = .ok (.bipush 100, 2) := by decide +kernel
theorem dX1_weight_6 : decode cX1_weight 6 = .ok (.aload_n 0, 1) := by decide +kernel
theorem dX1_weight_7 : decode cX1_weight 7 = .ok (.getfield 21, 3) := by decide +kernel
theorem dX1_weight_10 : decode cX1_weight 10 = .ok (.isub, 1) := by decide +kernel
theorem dX1_weight_11 : decode cX1_weight 11 = .ok (.bipush 10, 2) := by decide +kernel
theorem dX1_weight_13 : decode cX1_weight 13 = .ok (.idiv, 1) := by decide +kernel
theorem dX1_weight_14 : decode cX1_weight 14 = .ok (.iadd, 1) := by decide +kernel
theorem dX1_weight_15 : decode cX1_weight 15 = .ok (.ireturn, 1) := by decide +kernel
theorem dX1_moveToStake_0 : decode cX1_moveToStake 0 = .ok (.aload_n 0, 1) := by decide +kernel
theorem dX1_moveToStake_1 : decode cX1_moveToStake 1 = .ok (.dup, 1) := by decide +kernel
theorem dX1_moveToStake_2 : decode cX1_moveToStake 2 = .ok (.getfield 9, 3) := by decide +kernel
theorem dX1_moveToStake_5 : decode cX1_moveToStake 5 = .ok (.iload_n 1, 1) := by decide +kernel
theorem dX1_moveToStake_6 : decode cX1_moveToStake 6 = .ok (.isub, 1) := by decide +kernel
theorem dX1_moveToStake_7 : decode cX1_moveToStake 7 = .ok (.putfield 9, 3) := by decide +kernel
theorem dX1_moveToStake_10 : decode cX1_moveToStake 10 = .ok (.aload_n 0, 1) := by decide +kernel
theorem dX1_moveToStake_11 : decode cX1_moveToStake 11 = .ok (.dup, 1) := by decide +kernel
theorem dX1_moveToStake_12 : decode cX1_moveToStake 12 = .ok (.getfield 15, 3) := by decide +kernel
theorem dX1_moveToStake_15 : decode cX1_moveToStake 15 = .ok (.iload_n 1, 1) := by decide +kernel
theorem dX1_moveToStake_16 : decode cX1_moveToStake 16 = .ok (.iadd, 1) := by decide +kernel
theorem dX1_moveToStake_17 : decode cX1_moveToStake 17 = .ok (.putfield 15, 3) := by decide +kernel
theorem dX1_moveToStake_20 : decode cX1_moveToStake 20 = .ok (.return_, 1) := by decide +kernel
theorem dX1_takeStake_0 : decode cX1_takeStake 0 = .ok (.aload_n 0, 1) := by decide +kernel
theorem dX1_takeStake_1 : decode cX1_takeStake 1 = .ok (.getfield 15, 3) := by decide +kernel
theorem dX1_takeStake_4 : decode cX1_takeStake 4 = .ok (.iload_n 1, 1) := by decide +kernel
theorem dX1_takeStake_5 : decode cX1_takeStake 5 = .ok (.invokestatic 33, 3) := by decide +kernel
theorem dX1_takeStake_8 : decode cX1_takeStake 8 = .ok (.istore_n 2, 1) := by decide +kernel
theorem dX1_takeStake_9 : decode cX1_takeStake 9 = .ok (.aload_n 0, 1) := by decide +kernel
theorem dX1_takeStake_10 : decode cX1_takeStake 10 = .ok (.dup, 1) := by decide +kernel
theorem dX1_takeStake_11 : decode cX1_takeStake 11 = .ok (.getfield 15, 3) := by decide +kernel
theorem dX1_takeStake_14 : decode cX1_takeStake 14 = .ok (.iload_n 2, 1) := by decide +kernel
theorem dX1_takeStake_15 : decode cX1_takeStake 15 = .ok (.isub, 1) := by decide +kernel
theorem dX1_takeStake_16 : decode cX1_takeStake 16 = .ok (.putfield 15, 3) := by decide +kernel
theorem dX1_takeStake_19 : decode cX1_takeStake 19 = .ok (.iload_n 2, 1) := by decide +kernel
theorem dX1_takeStake_20 : decode cX1_takeStake 20 = .ok (.ireturn, 1) := by decide +kernel
theorem dX1_raiseTrust_0 : decode cX1_raiseTrust 0 = .ok (.aload_n 0, 1) := by decide +kernel
theorem dX1_raiseTrust_1 : decode cX1_raiseTrust 1 = .ok (.bipush 100, 2) := by decide +kernel
theorem dX1_raiseTrust_3 : decode cX1_raiseTrust 3 = .ok (.aload_n 0, 1) := by decide +kernel
theorem dX1_raiseTrust_4 : decode cX1_raiseTrust 4 = .ok (.getfield 21, 3) := by decide +kernel
theorem dX1_raiseTrust_7 : decode cX1_raiseTrust 7 = .ok (.iload_n 1, 1) := by decide +kernel
theorem dX1_raiseTrust_8 : decode cX1_raiseTrust 8 = .ok (.iadd, 1) := by decide +kernel
theorem dX1_raiseTrust_9 : decode cX1_raiseTrust 9 = .ok (.invokestatic 33, 3) := by decide +kernel
theorem dX1_raiseTrust_12 : decode cX1_raiseTrust 12 = .ok (.putfield 21, 3) := by decide +kernel
theorem dX1_raiseTrust_15 : decode cX1_raiseTrust 15 = .ok (.return_, 1) := by decide +kernel
theorem dX1_lowerTrust_0 : decode cX1_lowerTrust 0 = .ok (.aload_n 0, 1) := by decide +kernel
theorem dX1_lowerTrust_1 : decode cX1_lowerTrust 1 = .ok (.iconst 0, 1) := by decide +kernel
theorem dX1_lowerTrust_2 : decode cX1_lowerTrust 2 = .ok (.aload_n 0, 1) := by decide +kernel
theorem dX1_lowerTrust_3 : decode cX1_lowerTrust 3 = .ok (.getfield 21, 3) := by decide +kernel
theorem dX1_lowerTrust_6 : decode cX1_lowerTrust 6 = .ok (.iload_n 1, 1) := by decide +kernel
theorem dX1_lowerTrust_7 : decode cX1_lowerTrust 7 = .ok (.isub, 1) := by decide +kernel
theorem dX1_lowerTrust_8 : decode cX1_lowerTrust 8 = .ok (.invokestatic 39, 3) := by decide +kernel
theorem dX1_lowerTrust_11 : decode cX1_lowerTrust 11 = .ok (.putfield 21, 3) := by decide +kernel
theorem dX1_lowerTrust_14 : decode cX1_lowerTrust 14 = .ok (.return_, 1) := by decide +kernel
theorem dX1_beGone_0 : decode cX1_beGone 0 = .ok (.aload_n 0, 1) := by decide +kernel
theorem dX1_beGone_1 : decode cX1_beGone 1 = .ok (.iconst 2, 1) := by decide +kernel
theorem dX1_beGone_2 : decode cX1_beGone 2 = .ok (.putfield 24, 3) := by decide +kernel
theorem dX1_beGone_5 : decode cX1_beGone 5 = .ok (.aload_n 0, 1) := by decide +kernel
theorem dX1_beGone_6 : decode cX1_beGone 6 = .ok (.iconst (-1), 1) := by decide +kernel
theorem dX1_beGone_7 : decode cX1_beGone 7 = .ok (.putfield 27, 3) := by decide +kernel
theorem dX1_beGone_10 : decode cX1_beGone 10 = .ok (.aload_n 0, 1) := by decide +kernel
theorem dX1_beGone_11 : decode cX1_beGone 11 = .ok (.dup, 1) := by decide +kernel
theorem dX1_beGone_12 : decode cX1_beGone 12 = .ok (.getfield 9, 3) := by decide +kernel
theorem dX1_beGone_15 : decode cX1_beGone 15 = .ok (.aload_n 0, 1) := by decide +kernel
theorem dX1_beGone_16 : decode cX1_beGone 16 = .ok (.getfield 15, 3) := by decide +kernel
theorem dX1_beGone_19 : decode cX1_beGone 19 = .ok (.iadd, 1) := by decide +kernel
theorem dX1_beGone_20 : decode cX1_beGone 20 = .ok (.putfield 9, 3) := by decide +kernel
theorem dX1_beGone_23 : decode cX1_beGone 23 = .ok (.aload_n 0, 1) := by decide +kernel
theorem dX1_beGone_24 : decode cX1_beGone 24 = .ok (.iconst 0, 1) := by decide +kernel
theorem dX1_beGone_25 : decode cX1_beGone 25 = .ok (.putfield 15, 3) := by decide +kernel
theorem dX1_beGone_28 : decode cX1_beGone 28 = .ok (.return_, 1) := by decide +kernel
theorem dX2_init_0 : decode cX2_init 0 = .ok (.aload_n 0, 1) := by decide +kernel
theorem dX2_init_1 : decode cX2_init 1 = .ok (.invokespecial 3, 3) := by decide +kernel
theorem dX2_init_4 : decode cX2_init 4 = .ok (.aload_n 0, 1) := by decide +kernel
theorem dX2_init_5 : decode cX2_init 5 = .ok (.bipush 11, 2) := by decide +kernel
theorem dX2_init_7 : decode cX2_init 7 = .ok (.newarray .int, 2) := by decide +kernel
theorem dX2_init_9 : decode cX2_init 9 = .ok (.putfield 11, 3) := by decide +kernel
theorem dX2_init_12 : decode cX2_init 12 = .ok (.aload_n 0, 1) := by decide +kernel
theorem dX2_init_13 : decode cX2_init 13 = .ok (.bipush 11, 2) := by decide +kernel
theorem dX2_init_15 : decode cX2_init 15 = .ok (.newarray .boolean, 2) := by decide +kernel
theorem dX2_init_17 : decode cX2_init 17 = .ok (.putfield 15, 3) := by decide +kernel
theorem dX2_init_20 : decode cX2_init 20 = .ok (.aload_n 0, 1) := by decide +kernel
theorem dX2_init_21 : decode cX2_init 21 = .ok (.bipush 11, 2) := by decide +kernel
theorem dX2_init_23 : decode cX2_init 23 = .ok (.newarray .boolean, 2) := by decide +kernel
theorem dX2_init_25 : decode cX2_init 25 = .ok (.putfield 19, 3) := by decide +kernel
theorem dX2_init_28 : decode cX2_init 28 = .ok (.iconst 0, 1) := by decide +kernel
theorem dX2_init_29 : decode cX2_init 29 = .ok (.istore_n 1, 1) := by decide +kernel
theorem dX2_init_30 : decode cX2_init 30 = .ok (.iload_n 1, 1) := by decide +kernel
theorem dX2_init_31 : decode cX2_init 31 = .ok (.aload_n 0, 1) := by decide +kernel
theorem dX2_init_32 : decode cX2_init 32 = .ok (.getfield 11, 3) := by decide +kernel
theorem dX2_init_35 : decode cX2_init 35 = .ok (.arraylength, 1) := by decide +kernel
theorem dX2_init_36 : decode cX2_init 36 = .ok (.if_icmp .ge 16, 3) := by decide +kernel
theorem dX2_init_39 : decode cX2_init 39 = .ok (.aload_n 0, 1) := by decide +kernel
theorem dX2_init_40 : decode cX2_init 40 = .ok (.getfield 11, 3) := by decide +kernel
theorem dX2_init_43 : decode cX2_init 43 = .ok (.iload_n 1, 1) := by decide +kernel
theorem dX2_init_44 : decode cX2_init 44 = .ok (.iconst (-1), 1) := by decide +kernel
theorem dX2_init_45 : decode cX2_init 45 = .ok (.iastore, 1) := by decide +kernel
theorem dX2_init_46 : decode cX2_init 46 = .ok (.iinc 1 1, 3) := by decide +kernel
theorem dX2_init_49 : decode cX2_init 49 = .ok (.goto (-19), 3) := by decide +kernel
theorem dX2_init_52 : decode cX2_init 52 = .ok (.return_, 1) := by decide +kernel
theorem dX2_begin_0 : decode cX2_begin 0 = .ok (.iload_n 1, 1) := by decide +kernel
theorem dX2_begin_1 : decode cX2_begin 1 = .ok (.invokestatic 22, 3) := by decide +kernel
theorem dX2_begin_4 : decode cX2_begin 4 = .ok (.istore_n 3, 1) := by decide +kernel
theorem dX2_begin_5 : decode cX2_begin 5 = .ok (.aload_n 0, 1) := by decide +kernel
theorem dX2_begin_6 : decode cX2_begin 6 = .ok (.iload_n 3, 1) := by decide +kernel
theorem dX2_begin_7 : decode cX2_begin 7 = .ok (.invokevirtual 26, 3) := by decide +kernel
theorem dX2_begin_10 : decode cX2_begin 10 = .ok (.ifCond .eq 24, 3) := by decide +kernel
theorem dX2_begin_13 : decode cX2_begin 13 = .ok (.aload_n 0, 1) := by decide +kernel
theorem dX2_begin_14 : decode cX2_begin 14 = .ok (.getfield 11, 3) := by decide +kernel
theorem dX2_begin_17 : decode cX2_begin 17 = .ok (.iload_n 3, 1) := by decide +kernel
theorem dX2_begin_18 : decode cX2_begin 18 = .ok (.iload_n 2, 1) := by decide +kernel
theorem dX2_begin_19 : decode cX2_begin 19 = .ok (.iastore, 1) := by decide +kernel
theorem dX2_begin_20 : decode cX2_begin 20 = .ok (.aload_n 0, 1) := by decide +kernel
theorem dX2_begin_21 : decode cX2_begin 21 = .ok (.getfield 15, 3) := by decide +kernel
theorem dX2_begin_24 : decode cX2_begin 24 = .ok (.iload_n 3, 1) := by decide +kernel
theorem dX2_begin_25 : decode cX2_begin 25 = .ok (.iconst 0, 1) := by decide +kernel
theorem dX2_begin_26 : decode cX2_begin 26 = .ok (.bastore, 1) := by decide +kernel
theorem dX2_begin_27 : decode cX2_begin 27 = .ok (.aload_n 0, 1) := by decide +kernel
theorem dX2_begin_28 : decode cX2_begin 28 = .ok (.getfield 19, 3) := by decide +kernel
theorem dX2_begin_31 : decode cX2_begin 31 = .ok (.iload_n 3, 1) := by decide +kernel
theorem dX2_begin_32 : decode cX2_begin 32 = .ok (.iconst 0, 1) := by decide +kernel
theorem dX2_begin_33 : decode cX2_begin 33 = .ok (.bastore, 1) := by decide +kernel
theorem dX2_begin_34 : decode cX2_begin 34 = .ok (.return_, 1) := by decide +kernel
theorem dX2_watcherIn_0 : decode cX2_watcherIn 0 = .ok (.iload_n 1, 1) := by decide +kernel
theorem dX2_watcherIn_1 : decode cX2_watcherIn 1 = .ok (.invokestatic 22, 3) := by decide +kernel
theorem dX2_watcherIn_4 : decode cX2_watcherIn 4 = .ok (.istore_n 2, 1) := by decide +kernel
theorem dX2_watcherIn_5 : decode cX2_watcherIn 5 = .ok (.aload_n 0, 1) := by decide +kernel
theorem dX2_watcherIn_6 : decode cX2_watcherIn 6 = .ok (.iload_n 2, 1) := by decide +kernel
theorem dX2_watcherIn_7 : decode cX2_watcherIn 7 = .ok (.invokevirtual 26, 3) := by decide +kernel
theorem dX2_watcherIn_10 : decode cX2_watcherIn 10 = .ok (.ifCond .eq 12, 3) := by decide +kernel
theorem dX2_watcherIn_13 : decode cX2_watcherIn 13 = .ok (.aload_n 0, 1) := by decide +kernel
theorem dX2_watcherIn_14 : decode cX2_watcherIn 14 = .ok (.getfield 11, 3) := by decide +kernel
theorem dX2_watcherIn_17 : decode cX2_watcherIn 17 = .ok (.iload_n 2, 1) := by decide +kernel
theorem dX2_watcherIn_18 : decode cX2_watcherIn 18 = .ok (.iaload, 1) := by decide +kernel
theorem dX2_watcherIn_19 : decode cX2_watcherIn 19 = .ok (.goto 4, 3) := by decide +kernel
theorem dX2_watcherIn_22 : decode cX2_watcherIn 22 = .ok (.iconst (-1), 1) := by decide +kernel
theorem dX2_watcherIn_23 : decode cX2_watcherIn 23 = .ok (.ireturn, 1) := by decide +kernel
theorem dX2_wasAwake_0 : decode cX2_wasAwake 0 = .ok (.iload_n 1, 1) := by decide +kernel
theorem dX2_wasAwake_1 : decode cX2_wasAwake 1 = .ok (.invokestatic 22, 3) := by decide +kernel
theorem dX2_wasAwake_4 : decode cX2_wasAwake 4 = .ok (.istore_n 2, 1) := by decide +kernel
theorem dX2_wasAwake_5 : decode cX2_wasAwake 5 = .ok (.aload_n 0, 1) := by decide +kernel
theorem dX2_wasAwake_6 : decode cX2_wasAwake 6 = .ok (.iload_n 2, 1) := by decide +kernel
theorem dX2_wasAwake_7 : decode cX2_wasAwake 7 = .ok (.invokevirtual 26, 3) := by decide +kernel
theorem dX2_wasAwake_10 : decode cX2_wasAwake 10 = .ok (.ifCond .eq 16, 3) := by decide +kernel
theorem dX2_wasAwake_13 : decode cX2_wasAwake 13 = .ok (.aload_n 0, 1) := by decide +kernel
theorem dX2_wasAwake_14 : decode cX2_wasAwake 14 = .ok (.getfield 15, 3) := by decide +kernel
theorem dX2_wasAwake_17 : decode cX2_wasAwake 17 = .ok (.iload_n 2, 1) := by decide +kernel
theorem dX2_wasAwake_18 : decode cX2_wasAwake 18 = .ok (.baload, 1) := by decide +kernel
theorem dX2_wasAwake_19 : decode cX2_wasAwake 19 = .ok (.ifCond .eq 7, 3) := by decide +kernel
theorem dX2_wasAwake_22 : decode cX2_wasAwake 22 = .ok (.iconst 1, 1) := by decide +kernel
theorem dX2_wasAwake_23 : decode cX2_wasAwake 23 = .ok (.goto 4, 3) := by decide +kernel
theorem dX2_wasAwake_26 : decode cX2_wasAwake 26 = .ok (.iconst 0, 1) := by decide +kernel
theorem dX2_wasAwake_27 : decode cX2_wasAwake 27 = .ok (.ireturn, 1) := by decide +kernel
theorem dX2_setAwake_0 : decode cX2_setAwake 0 = .ok (.iload_n 1, 1) := by decide +kernel
theorem dX2_setAwake_1 : decode cX2_setAwake 1 = .ok (.invokestatic 22, 3) := by decide +kernel
theorem dX2_setAwake_4 : decode cX2_setAwake 4 = .ok (.istore_n 2, 1) := by decide +kernel
theorem dX2_setAwake_5 : decode cX2_setAwake 5 = .ok (.aload_n 0, 1) := by decide +kernel
theorem dX2_setAwake_6 : decode cX2_setAwake 6 = .ok (.iload_n 2, 1) := by decide +kernel
theorem dX2_setAwake_7 : decode cX2_setAwake 7 = .ok (.invokevirtual 26, 3) := by decide +kernel
theorem dX2_setAwake_10 : decode cX2_setAwake 10 = .ok (.ifCond .eq 10, 3) := by decide +kernel
theorem dX2_setAwake_13 : decode cX2_setAwake 13 = .ok (.aload_n 0, 1) := by decide +kernel
theorem dX2_setAwake_14 : decode cX2_setAwake 14 = .ok (.getfield 15, 3) := by decide +kernel
theorem dX2_setAwake_17 : decode cX2_setAwake 17 = .ok (.iload_n 2, 1) := by decide +kernel
theorem dX2_setAwake_18 : decode cX2_setAwake 18 = .ok (.iconst 1, 1) := by decide +kernel
theorem dX2_setAwake_19 : decode cX2_setAwake 19 = .ok (.bastore, 1) := by decide +kernel
theorem dX2_setAwake_20 : decode cX2_setAwake 20 = .ok (.return_, 1) := by decide +kernel
theorem dX2_wasProven_0 : decode cX2_wasProven 0 = .ok (.iload_n 1, 1) := by decide +kernel
theorem dX2_wasProven_1 : decode cX2_wasProven 1 = .ok (.invokestatic 22, 3) := by decide +kernel
theorem dX2_wasProven_4 : decode cX2_wasProven 4 = .ok (.istore_n 2, 1) := by decide +kernel
theorem dX2_wasProven_5 : decode cX2_wasProven 5 = .ok (.aload_n 0, 1) := by decide +kernel
theorem dX2_wasProven_6 : decode cX2_wasProven 6 = .ok (.iload_n 2, 1) := by decide +kernel
theorem dX2_wasProven_7 : decode cX2_wasProven 7 = .ok (.invokevirtual 26, 3) := by decide +kernel
theorem dX2_wasProven_10 : decode cX2_wasProven 10 = .ok (.ifCond .eq 16, 3) := by decide +kernel
theorem dX2_wasProven_13 : decode cX2_wasProven 13 = .ok (.aload_n 0, 1) := by decide +kernel
theorem dX2_wasProven_14 : decode cX2_wasProven 14 = .ok (.getfield 19, 3) := by decide +kernel
theorem dX2_wasProven_17 : decode cX2_wasProven 17 = .ok (.iload_n 2, 1) := by decide +kernel
theorem dX2_wasProven_18 : decode cX2_wasProven 18 = .ok (.baload, 1) := by decide +kernel
theorem dX2_wasProven_19 : decode cX2_wasProven 19 = .ok (.ifCond .eq 7, 3) := by decide +kernel
theorem dX2_wasProven_22 : decode cX2_wasProven 22 = .ok (.iconst 1, 1) := by decide +kernel
theorem dX2_wasProven_23 : decode cX2_wasProven 23 = .ok (.goto 4, 3) := by decide +kernel
theorem dX2_wasProven_26 : decode cX2_wasProven 26 = .ok (.iconst 0, 1) := by decide +kernel
theorem dX2_wasProven_27 : decode cX2_wasProven 27 = .ok (.ireturn, 1) := by decide +kernel
theorem dX2_setProven_0 : decode cX2_setProven 0 = .ok (.iload_n 1, 1) := by decide +kernel
theorem dX2_setProven_1 : decode cX2_setProven 1 = .ok (.invokestatic 22, 3) := by decide +kernel
theorem dX2_setProven_4 : decode cX2_setProven 4 = .ok (.istore_n 2, 1) := by decide +kernel
theorem dX2_setProven_5 : decode cX2_setProven 5 = .ok (.aload_n 0, 1) := by decide +kernel
theorem dX2_setProven_6 : decode cX2_setProven 6 = .ok (.iload_n 2, 1) := by decide +kernel
theorem dX2_setProven_7 : decode cX2_setProven 7 = .ok (.invokevirtual 26, 3) := by decide +kernel
theorem dX2_setProven_10 : decode cX2_setProven 10 = .ok (.ifCond .eq 10, 3) := by decide +kernel
theorem dX2_setProven_13 : decode cX2_setProven 13 = .ok (.aload_n 0, 1) := by decide +kernel
theorem dX2_setProven_14 : decode cX2_setProven 14 = .ok (.getfield 19, 3) := by decide +kernel
theorem dX2_setProven_17 : decode cX2_setProven 17 = .ok (.iload_n 2, 1) := by decide +kernel
theorem dX2_setProven_18 : decode cX2_setProven 18 = .ok (.iconst 1, 1) := by decide +kernel
theorem dX2_setProven_19 : decode cX2_setProven 19 = .ok (.bastore, 1) := by decide +kernel
theorem dX2_setProven_20 : decode cX2_setProven 20 = .ok (.return_, 1) := by decide +kernel
theorem dX2_nextWatched_0 : decode cX2_nextWatched 0 = .ok (.iload_n 1, 1) := by decide +kernel
theorem dX2_nextWatched_1 : decode cX2_nextWatched 1 = .ok (.iconst 1, 1) := by decide +kernel
theorem dX2_nextWatched_2 : decode cX2_nextWatched 2 = .ok (.iadd, 1) := by decide +kernel
theorem dX2_nextWatched_3 : decode cX2_nextWatched 3 = .ok (.istore_n 3, 1) := by decide +kernel
theorem dX2_nextWatched_4 : decode cX2_nextWatched 4 = .ok (.iload_n 3, 1) := by decide +kernel
theorem dX2_nextWatched_5 : decode cX2_nextWatched 5 = .ok (.iload_n 2, 1) := by decide +kernel
theorem dX2_nextWatched_6 : decode cX2_nextWatched 6 = .ok (.if_icmp .ge 28, 3) := by decide +kernel
theorem dX2_nextWatched_9 : decode cX2_nextWatched 9 = .ok (.iload_n 3, 1) := by decide +kernel
theorem dX2_nextWatched_10 : decode cX2_nextWatched 10 = .ok (.iload_n 1, 1) := by decide +kernel
theorem dX2_nextWatched_11 : decode cX2_nextWatched 11 = .ok (.bipush 10, 2) := by decide +kernel
theorem dX2_nextWatched_13 : decode cX2_nextWatched 13 = .ok (.iadd, 1) := by decide +kernel
theorem dX2_nextWatched_14 : decode cX2_nextWatched 14 = .ok (.if_icmp .gt 20, 3) := by decide +kernel
theorem dX2_nextWatched_17 : decode cX2_nextWatched 17 = .ok (.aload_n 0, 1) := by decide +kernel
theorem dX2_nextWatched_18 : decode cX2_nextWatched 18 = .ok (.iload_n 3, 1) := by decide +kernel
theorem dX2_nextWatched_19 : decode cX2_nextWatched 19 = .ok (.invokevirtual 30, 3) := by decide +kernel
theorem dX2_nextWatched_22 : decode cX2_nextWatched 22 = .ok (.iconst (-1), 1) := by decide +kernel
theorem dX2_nextWatched_23 : decode cX2_nextWatched 23 = .ok (.if_icmp .eq 5, 3) := by decide +kernel
theorem dX2_nextWatched_26 : decode cX2_nextWatched 26 = .ok (.iload_n 3, 1) := by decide +kernel
theorem dX2_nextWatched_27 : decode cX2_nextWatched 27 = .ok (.ireturn, 1) := by decide +kernel
theorem dX2_nextWatched_28 : decode cX2_nextWatched 28 = .ok (.iinc 3 1, 3) := by decide +kernel
theorem dX2_nextWatched_31 : decode cX2_nextWatched 31 = .ok (.goto (-27), 3) := by decide +kernel
theorem dX2_nextWatched_34 : decode cX2_nextWatched 34 = .ok (.iconst (-1), 1) := by decide +kernel
theorem dX2_nextWatched_35 : decode cX2_nextWatched 35 = .ok (.ireturn, 1) := by decide +kernel
theorem dX2_rowOf_0 : decode cX2_rowOf 0 = .ok (.iload_n 0, 1) := by decide +kernel
theorem dX2_rowOf_1 : decode cX2_rowOf 1 = .ok (.bipush 11, 2) := by decide +kernel
theorem dX2_rowOf_3 : decode cX2_rowOf 3 = .ok (.invokestatic 33, 3) := by decide +kernel
theorem dX2_rowOf_6 : decode cX2_rowOf 6 = .ok (.ireturn, 1) := by decide +kernel
theorem dX2_isRow_0 : decode cX2_isRow 0 = .ok (.iload_n 1, 1) := by decide +kernel
theorem dX2_isRow_1 : decode cX2_isRow 1 = .ok (.ifCond .lt 34, 3) := by decide +kernel
theorem dX2_isRow_4 : decode cX2_isRow 4 = .ok (.iload_n 1, 1) := by decide +kernel
theorem dX2_isRow_5 : decode cX2_isRow 5 = .ok (.aload_n 0, 1) := by decide +kernel
theorem dX2_isRow_6 : decode cX2_isRow 6 = .ok (.getfield 11, 3) := by decide +kernel
theorem dX2_isRow_9 : decode cX2_isRow 9 = .ok (.arraylength, 1) := by decide +kernel
theorem dX2_isRow_10 : decode cX2_isRow 10 = .ok (.if_icmp .ge 25, 3) := by decide +kernel
theorem dX2_isRow_13 : decode cX2_isRow 13 = .ok (.iload_n 1, 1) := by decide +kernel
theorem dX2_isRow_14 : decode cX2_isRow 14 = .ok (.aload_n 0, 1) := by decide +kernel
theorem dX2_isRow_15 : decode cX2_isRow 15 = .ok (.getfield 15, 3) := by decide +kernel
theorem dX2_isRow_18 : decode cX2_isRow 18 = .ok (.arraylength, 1) := by decide +kernel
theorem dX2_isRow_19 : decode cX2_isRow 19 = .ok (.if_icmp .ge 16, 3) := by decide +kernel
theorem dX2_isRow_22 : decode cX2_isRow 22 = .ok (.iload_n 1, 1) := by decide +kernel
theorem dX2_isRow_23 : decode cX2_isRow 23 = .ok (.aload_n 0, 1) := by decide +kernel
theorem dX2_isRow_24 : decode cX2_isRow 24 = .ok (.getfield 19, 3) := by decide +kernel
theorem dX2_isRow_27 : decode cX2_isRow 27 = .ok (.arraylength, 1) := by decide +kernel
theorem dX2_isRow_28 : decode cX2_isRow 28 = .ok (.if_icmp .ge 7, 3) := by decide +kernel
theorem dX2_isRow_31 : decode cX2_isRow 31 = .ok (.iconst 1, 1) := by decide +kernel
theorem dX2_isRow_32 : decode cX2_isRow 32 = .ok (.goto 4, 3) := by decide +kernel
theorem dX2_isRow_35 : decode cX2_isRow 35 = .ok (.iconst 0, 1) := by decide +kernel
theorem dX2_isRow_36 : decode cX2_isRow 36 = .ok (.ireturn, 1) := by decide +kernel
theorem dX3_init_0 : decode cX3_init 0 = .ok (.aload_n 0, 1) := by decide +kernel
theorem dX3_init_1 : decode cX3_init 1 = .ok (.invokespecial 3, 3) := by decide +kernel
theorem dX3_init_4 : decode cX3_init 4 = .ok (.aload_n 0, 1) := by decide +kernel
theorem dX3_init_5 : decode cX3_init 5 = .ok (.bipush 12, 2) := by decide +kernel
theorem dX3_init_7 : decode cX3_init 7 = .ok (.newarray .int, 2) := by decide +kernel
theorem dX3_init_9 : decode cX3_init 9 = .ok (.putfield 9, 3) := by decide +kernel
theorem dX3_init_12 : decode cX3_init 12 = .ok (.aload_n 0, 1) := by decide +kernel
theorem dX3_init_13 : decode cX3_init 13 = .ok (.bipush 12, 2) := by decide +kernel
theorem dX3_init_15 : decode cX3_init 15 = .ok (.newarray .int, 2) := by decide +kernel
theorem dX3_init_17 : decode cX3_init 17 = .ok (.putfield 15, 3) := by decide +kernel
theorem dX3_init_20 : decode cX3_init 20 = .ok (.return_, 1) := by decide +kernel
theorem dX3_startAt_0 : decode cX3_startAt 0 = .ok (.aload_n 0, 1) := by decide +kernel
theorem dX3_startAt_1 : decode cX3_startAt 1 = .ok (.iconst (-1), 1) := by decide +kernel
theorem dX3_startAt_2 : decode cX3_startAt 2 = .ok (.putfield 18, 3) := by decide +kernel
theorem dX3_startAt_5 : decode cX3_startAt 5 = .ok (.aload_n 0, 1) := by decide +kernel
theorem dX3_startAt_6 : decode cX3_startAt 6 = .ok (.iconst 0, 1) := by decide +kernel
theorem dX3_startAt_7 : decode cX3_startAt 7 = .ok (.putfield 22, 3) := by decide +kernel
theorem dX3_startAt_10 : decode cX3_startAt 10 = .ok (.aload_n 0, 1) := by decide +kernel
theorem dX3_startAt_11 : decode cX3_startAt 11 = .ok (.iload_n 1, 1) := by decide +kernel
theorem dX3_startAt_12 : decode cX3_startAt 12 = .ok (.iconst 0, 1) := by decide +kernel
theorem dX3_startAt_13 : decode cX3_startAt 13 = .ok (.invokevirtual 25, 3) := by decide +kernel
theorem dX3_startAt_16 : decode cX3_startAt 16 = .ok (.return_, 1) := by decide +kernel
theorem dX3_append_0 : decode cX3_append 0 = .ok (.aload_n 0, 1) := by decide +kernel
theorem dX3_append_1 : decode cX3_append 1 = .ok (.getfield 18, 3) := by decide +kernel
theorem dX3_append_4 : decode cX3_append 4 = .ok (.iconst 1, 1) := by decide +kernel
theorem dX3_append_5 : decode cX3_append 5 = .ok (.iadd, 1) := by decide +kernel
theorem dX3_append_6 : decode cX3_append 6 = .ok (.istore_n 3, 1) := by decide +kernel
theorem dX3_append_7 : decode cX3_append 7 = .ok (.iload_n 3, 1) := by decide +kernel
theorem dX3_append_8 : decode cX3_append 8 = .ok (.ifCond .lt 21, 3) := by decide +kernel
theorem dX3_append_11 : decode cX3_append 11 = .ok (.iload_n 3, 1) := by decide +kernel
theorem dX3_append_12 : decode cX3_append 12 = .ok (.aload_n 0, 1) := by decide +kernel
theorem dX3_append_13 : decode cX3_append 13 = .ok (.getfield 9, 3) := by decide +kernel
theorem dX3_append_16 : decode cX3_append 16 = .ok (.arraylength, 1) := by decide +kernel
theorem dX3_append_17 : decode cX3_append 17 = .ok (.if_icmp .ge 12, 3) := by decide +kernel
theorem dX3_append_20 : decode cX3_append 20 = .ok (.iload_n 3, 1) := by decide +kernel
theorem dX3_append_21 : decode cX3_append 21 = .ok (.aload_n 0, 1) := by decide +kernel
theorem dX3_append_22 : decode cX3_append 22 = .ok (.getfield 15, 3) := by decide +kernel
theorem dX3_append_25 : decode cX3_append 25 = .ok (.arraylength, 1) := by decide +kernel
theorem dX3_append_26 : decode cX3_append 26 = .ok (.if_icmp .lt 4, 3) := by decide +kernel
theorem dX3_append_29 : decode cX3_append 29 = .ok (.return_, 1) := by decide +kernel
theorem dX3_append_30 : decode cX3_append 30 = .ok (.aload_n 0, 1) := by decide +kernel
theorem dX3_append_31 : decode cX3_append 31 = .ok (.iload_n 3, 1) := by decide +kernel
theorem dX3_append_32 : decode cX3_append 32 = .ok (.putfield 18, 3) := by decide +kernel
theorem dX3_append_35 : decode cX3_append 35 = .ok (.aload_n 0, 1) := by decide +kernel
theorem dX3_append_36 : decode cX3_append 36 = .ok (.getfield 9, 3) := by decide +kernel
theorem dX3_append_39 : decode cX3_append 39 = .ok (.iload_n 3, 1) := by decide +kernel
theorem dX3_append_40 : decode cX3_append 40 = .ok (.iload_n 1, 1) := by decide +kernel
theorem dX3_append_41 : decode cX3_append 41 = .ok (.iastore, 1) := by decide +kernel
theorem dX3_append_42 : decode cX3_append 42 = .ok (.aload_n 0, 1) := by decide +kernel
theorem dX3_append_43 : decode cX3_append 43 = .ok (.getfield 15, 3) := by decide +kernel
theorem dX3_append_46 : decode cX3_append 46 = .ok (.iload_n 3, 1) := by decide +kernel
theorem dX3_append_47 : decode cX3_append 47 = .ok (.iload_n 2, 1) := by decide +kernel
theorem dX3_append_48 : decode cX3_append 48 = .ok (.iastore, 1) := by decide +kernel
theorem dX3_append_49 : decode cX3_append 49 = .ok (.aload_n 0, 1) := by decide +kernel
theorem dX3_append_50 : decode cX3_append 50 = .ok (.dup, 1) := by decide +kernel
theorem dX3_append_51 : decode cX3_append 51 = .ok (.getfield 22, 3) := by decide +kernel
theorem dX3_append_54 : decode cX3_append 54 = .ok (.iload_n 2, 1) := by decide +kernel
theorem dX3_append_55 : decode cX3_append 55 = .ok (.iadd, 1) := by decide +kernel
theorem dX3_append_56 : decode cX3_append 56 = .ok (.putfield 22, 3) := by decide +kernel
theorem dX3_append_59 : decode cX3_append 59 = .ok (.return_, 1) := by decide +kernel
theorem dX3_copyFrom_0 : decode cX3_copyFrom 0 = .ok (.aload_n 0, 1) := by decide +kernel
theorem dX3_copyFrom_1 : decode cX3_copyFrom 1 = .ok (.iconst (-1), 1) := by decide +kernel
theorem dX3_copyFrom_2 : decode cX3_copyFrom 2 = .ok (.putfield 18, 3) := by decide +kernel
theorem dX3_copyFrom_5 : decode cX3_copyFrom 5 = .ok (.aload_n 0, 1) := by decide +kernel
theorem dX3_copyFrom_6 : decode cX3_copyFrom 6 = .ok (.iconst 0, 1) := by decide +kernel
theorem dX3_copyFrom_7 : decode cX3_copyFrom 7 = .ok (.putfield 22, 3) := by decide +kernel
theorem dX3_copyFrom_10 : decode cX3_copyFrom 10 = .ok (.iconst 0, 1) := by decide +kernel
theorem dX3_copyFrom_11 : decode cX3_copyFrom 11 = .ok (.istore_n 2, 1) := by decide +kernel
theorem dX3_copyFrom_12 : decode cX3_copyFrom 12 = .ok (.iload_n 2, 1) := by decide +kernel
theorem dX3_copyFrom_13 : decode cX3_copyFrom 13 = .ok (.aload_n 1, 1) := by decide +kernel
theorem dX3_copyFrom_14 : decode cX3_copyFrom 14 = .ok (.getfield 18, 3) := by decide +kernel
theorem dX3_copyFrom_17 : decode cX3_copyFrom 17 = .ok (.if_icmp .gt 23, 3) := by decide +kernel
theorem dX3_copyFrom_20 : decode cX3_copyFrom 20 = .ok (.aload_n 0, 1) := by decide +kernel
theorem dX3_copyFrom_21 : decode cX3_copyFrom 21 = .ok (.aload_n 1, 1) := by decide +kernel
theorem dX3_copyFrom_22 : decode cX3_copyFrom 22 = .ok (.iload_n 2, 1) := by decide +kernel
theorem dX3_copyFrom_23 : decode cX3_copyFrom 23 = .ok (.invokevirtual 29, 3) := by decide +kernel
theorem dX3_copyFrom_26 : decode cX3_copyFrom 26 = .ok (.aload_n 1, 1) := by decide +kernel
theorem dX3_copyFrom_27 : decode cX3_copyFrom 27 = .ok (.iload_n 2, 1) := by decide +kernel
theorem dX3_copyFrom_28 : decode cX3_copyFrom 28 = .ok (.invokevirtual 33, 3) := by decide +kernel
theorem dX3_copyFrom_31 : decode cX3_copyFrom 31 = .ok (.invokevirtual 25, 3) := by decide +kernel
theorem dX3_copyFrom_34 : decode cX3_copyFrom 34 = .ok (.iinc 2 1, 3) := by decide +kernel
theorem dX3_copyFrom_37 : decode cX3_copyFrom 37 = .ok (.goto (-25), 3) := by decide +kernel
theorem dX3_copyFrom_40 : decode cX3_copyFrom 40 = .ok (.return_, 1) := by decide +kernel
theorem dX3_nodeOn_0 : decode cX3_nodeOn 0 = .ok (.iload_n 1, 1) := by decide +kernel
theorem dX3_nodeOn_1 : decode cX3_nodeOn 1 = .ok (.ifCond .lt 20, 3) := by decide +kernel
theorem dX3_nodeOn_4 : decode cX3_nodeOn 4 = .ok (.iload_n 1, 1) := by decide +kernel
theorem dX3_nodeOn_5 : decode cX3_nodeOn 5 = .ok (.aload_n 0, 1) := by decide +kernel
theorem dX3_nodeOn_6 : decode cX3_nodeOn 6 = .ok (.getfield 18, 3) := by decide +kernel
theorem dX3_nodeOn_9 : decode cX3_nodeOn 9 = .ok (.if_icmp .gt 12, 3) := by decide +kernel
theorem dX3_nodeOn_12 : decode cX3_nodeOn 12 = .ok (.iload_n 1, 1) := by decide +kernel
theorem dX3_nodeOn_13 : decode cX3_nodeOn 13 = .ok (.aload_n 0, 1) := by decide +kernel
theorem dX3_nodeOn_14 : decode cX3_nodeOn 14 = .ok (.getfield 9, 3) := by decide +kernel
theorem dX3_nodeOn_17 : decode cX3_nodeOn 17 = .ok (.arraylength, 1) := by decide +kernel
theorem dX3_nodeOn_18 : decode cX3_nodeOn 18 = .ok (.if_icmp .lt 7, 3) := by decide +kernel
theorem dX3_nodeOn_21 : decode cX3_nodeOn 21 = .ok (.iconst (-1), 1) := by decide +kernel
theorem dX3_nodeOn_22 : decode cX3_nodeOn 22 = .ok (.goto 9, 3) := by decide +kernel
theorem dX3_nodeOn_25 : decode cX3_nodeOn 25 = .ok (.aload_n 0, 1) := by decide +kernel
theorem dX3_nodeOn_26 : decode cX3_nodeOn 26 = .ok (.getfield 9, 3) := by decide +kernel
theorem dX3_nodeOn_29 : decode cX3_nodeOn 29 = .ok (.iload_n 1, 1) := by decide +kernel
theorem dX3_nodeOn_30 : decode cX3_nodeOn 30 = .ok (.iaload, 1) := by decide +kernel
theorem dX3_nodeOn_31 : decode cX3_nodeOn 31 = .ok (.ireturn, 1) := by decide +kernel
theorem dX3_priceOn_0 : decode cX3_priceOn 0 = .ok (.iload_n 1, 1) := by decide +kernel
theorem dX3_priceOn_1 : decode cX3_priceOn 1 = .ok (.ifCond .lt 20, 3) := by decide +kernel
theorem dX3_priceOn_4 : decode cX3_priceOn 4 = .ok (.iload_n 1, 1) := by decide +kernel
theorem dX3_priceOn_5 : decode cX3_priceOn 5 = .ok (.aload_n 0, 1) := by decide +kernel
theorem dX3_priceOn_6 : decode cX3_priceOn 6 = .ok (.getfield 18, 3) := by decide +kernel
theorem dX3_priceOn_9 : decode cX3_priceOn 9 = .ok (.if_icmp .gt 12, 3) := by decide +kernel
theorem dX3_priceOn_12 : decode cX3_priceOn 12 = .ok (.iload_n 1, 1) := by decide +kernel
theorem dX3_priceOn_13 : decode cX3_priceOn 13 = .ok (.aload_n 0, 1) := by decide +kernel
theorem dX3_priceOn_14 : decode cX3_priceOn 14 = .ok (.getfield 15, 3) := by decide +kernel
theorem dX3_priceOn_17 : decode cX3_priceOn 17 = .ok (.arraylength, 1) := by decide +kernel
theorem dX3_priceOn_18 : decode cX3_priceOn 18 = .ok (.if_icmp .lt 7, 3) := by decide +kernel
theorem dX3_priceOn_21 : decode cX3_priceOn 21 = .ok (.iconst 0, 1) := by decide +kernel
theorem dX3_priceOn_22 : decode cX3_priceOn 22 = .ok (.goto 9, 3) := by decide +kernel
theorem dX3_priceOn_25 : decode cX3_priceOn 25 = .ok (.aload_n 0, 1) := by decide +kernel
theorem dX3_priceOn_26 : decode cX3_priceOn 26 = .ok (.getfield 15, 3) := by decide +kernel
theorem dX3_priceOn_29 : decode cX3_priceOn 29 = .ok (.iload_n 1, 1) := by decide +kernel
theorem dX3_priceOn_30 : decode cX3_priceOn 30 = .ok (.iaload, 1) := by decide +kernel
theorem dX3_priceOn_31 : decode cX3_priceOn 31 = .ok (.ireturn, 1) := by decide +kernel
theorem dX4_init_0 : decode cX4_init 0 = .ok (.aload_n 0, 1) := by decide +kernel
theorem dX4_init_1 : decode cX4_init 1 = .ok (.invokespecial 3, 3) := by decide +kernel
theorem dX4_init_4 : decode cX4_init 4 = .ok (.aload_n 0, 1) := by decide +kernel
theorem dX4_init_5 : decode cX4_init 5 = .ok (.bipush 12, 2) := by decide +kernel
theorem dX4_init_7 : decode cX4_init 7 = .ok (.newarray .int, 2) := by decide +kernel
theorem dX4_init_9 : decode cX4_init 9 = .ok (.putfield 9, 3) := by decide +kernel
theorem dX4_init_12 : decode cX4_init 12 = .ok (.aload_n 0, 1) := by decide +kernel
theorem dX4_init_13 : decode cX4_init 13 = .ok (.new 15, 3) := by decide +kernel
theorem dX4_init_16 : decode cX4_init 16 = .ok (.dup, 1) := by decide +kernel
theorem dX4_init_17 : decode cX4_init 17 = .ok (.invokespecial 17, 3) := by decide +kernel
theorem dX4_init_20 : decode cX4_init 20 = .ok (.putfield 18, 3) := by decide +kernel
theorem dX4_init_23 : decode cX4_init 23 = .ok (.return_, 1) := by decide +kernel
theorem dX4_find_0 : decode cX4_find 0 = .ok (.aload_n 0, 1) := by decide +kernel
theorem dX4_find_1 : decode cX4_find 1 = .ok (.aload_n 1, 1) := by decide +kernel
theorem dX4_find_2 : decode cX4_find 2 = .ok (.iload_n 3, 1) := by decide +kernel
theorem dX4_find_3 : decode cX4_find 3 = .ok (.invokevirtual 22, 3) := by decide +kernel
theorem dX4_find_6 : decode cX4_find 6 = .ok (.aload_n 0, 1) := by decide +kernel
theorem dX4_find_7 : decode cX4_find 7 = .ok (.iload_n 2, 1) := by decide +kernel
theorem dX4_find_8 : decode cX4_find 8 = .ok (.invokevirtual 26, 3) := by decide +kernel
theorem dX4_find_11 : decode cX4_find 11 = .ok (.ldc 30, 2) := by decide +kernel
theorem dX4_find_13 : decode cX4_find 13 = .ok (.if_icmp .ne 5, 3) := by decide +kernel
theorem dX4_find_16 : decode cX4_find 16 = .ok (.iconst 0, 1) := by decide +kernel
theorem dX4_find_17 : decode cX4_find 17 = .ok (.ireturn, 1) := by decide +kernel
theorem dX4_find_18 : decode cX4_find 18 = .ok (.aload_n 0, 1) := by decide +kernel
theorem dX4_find_19 : decode cX4_find 19 = .ok (.getfield 18, 3) := by decide +kernel
theorem dX4_find_22 : decode cX4_find 22 = .ok (.iload_n 2, 1) := by decide +kernel
theorem dX4_find_23 : decode cX4_find 23 = .ok (.invokevirtual 31, 3) := by decide +kernel
theorem dX4_find_26 : decode cX4_find 26 = .ok (.iload_n 2, 1) := by decide +kernel
theorem dX4_find_27 : decode cX4_find 27 = .ok (.istore 4, 2) := by decide +kernel
theorem dX4_find_29 : decode cX4_find 29 = .ok (.iconst 1, 1) := by decide +kernel
theorem dX4_find_30 : decode cX4_find 30 = .ok (.istore 5, 2) := by decide +kernel
theorem dX4_find_32 : decode cX4_find 32 = .ok (.iload 5, 2) := by decide +kernel
theorem dX4_find_34 : decode cX4_find 34 = .ok (.bipush 12, 2) := by decide +kernel
theorem dX4_find_36 : decode cX4_find 36 = .ok (.if_icmp .ge 50, 3) := by decide +kernel
theorem dX4_find_39 : decode cX4_find 39 = .ok (.iload 4, 2) := by decide +kernel
theorem dX4_find_41 : decode cX4_find 41 = .ok (.iload_n 3, 1) := by decide +kernel
theorem dX4_find_42 : decode cX4_find 42 = .ok (.if_icmp .eq 44, 3) := by decide +kernel
theorem dX4_find_45 : decode cX4_find 45 = .ok (.aload_n 0, 1) := by decide +kernel
theorem dX4_find_46 : decode cX4_find 46 = .ok (.aload_n 1, 1) := by decide +kernel
theorem dX4_find_47 : decode cX4_find 47 = .ok (.iload 4, 2) := by decide +kernel
theorem dX4_find_49 : decode cX4_find 49 = .ok (.iload_n 3, 1) := by decide +kernel
theorem dX4_find_50 : decode cX4_find 50 = .ok (.invokevirtual 35, 3) := by decide +kernel
theorem dX4_find_53 : decode cX4_find 53 = .ok (.istore 4, 2) := by decide +kernel
theorem dX4_find_55 : decode cX4_find 55 = .ok (.aload_n 0, 1) := by decide +kernel
theorem dX4_find_56 : decode cX4_find 56 = .ok (.getfield 18, 3) := by decide +kernel
theorem dX4_find_59 : decode cX4_find 59 = .ok (.iload 4, 2) := by decide +kernel
theorem dX4_find_61 : decode cX4_find 61 = .ok (.iload 4, 2) := by decide +kernel
theorem dX4_find_63 : decode cX4_find 63 = .ok (.iload_n 3, 1) := by decide +kernel
theorem dX4_find_64 : decode cX4_find 64 = .ok (.if_icmp .ne 7, 3) := by decide +kernel
theorem dX4_find_67 : decode cX4_find 67 = .ok (.iconst 0, 1) := by decide +kernel
theorem dX4_find_68 : decode cX4_find 68 = .ok (.goto 9, 3) := by decide +kernel
theorem dX4_find_71 : decode cX4_find 71 = .ok (.aload_n 1, 1) := by decide +kernel
theorem dX4_find_72 : decode cX4_find 72 = .ok (.iload 4, 2) := by decide +kernel
theorem dX4_find_74 : decode cX4_find 74 = .ok (.invokestatic 39, 3) := by decide +kernel
theorem dX4_find_77 : decode cX4_find 77 = .ok (.invokevirtual 43, 3) := by decide +kernel
theorem dX4_find_80 : decode cX4_find 80 = .ok (.iinc 5 1, 3) := by decide +kernel
theorem dX4_find_83 : decode cX4_find 83 = .ok (.goto (-51), 3) := by decide +kernel
theorem dX4_find_86 : decode cX4_find 86 = .ok (.iload 4, 2) := by decide +kernel
theorem dX4_find_88 : decode cX4_find 88 = .ok (.iload_n 3, 1) := by decide +kernel
theorem dX4_find_89 : decode cX4_find 89 = .ok (.if_icmp .ne 7, 3) := by decide +kernel
theorem dX4_find_92 : decode cX4_find 92 = .ok (.iconst 1, 1) := by decide +kernel
theorem dX4_find_93 : decode cX4_find 93 = .ok (.goto 4, 3) := by decide +kernel
theorem dX4_find_96 : decode cX4_find 96 = .ok (.iconst 0, 1) := by decide +kernel
theorem dX4_find_97 : decode cX4_find 97 = .ok (.ireturn, 1) := by decide +kernel
theorem dX4_weighAll_0 : decode cX4_weighAll 0 = .ok (.iconst 0, 1) := by decide +kernel
theorem dX4_weighAll_1 : decode cX4_weighAll 1 = .ok (.istore_n 3, 1) := by decide +kernel
theorem dX4_weighAll_2 : decode cX4_weighAll 2 = .ok (.iload_n 3, 1) := by decide +kernel
theorem dX4_weighAll_3 : decode cX4_weighAll 3 = .ok (.aload_n 0, 1) := by decide +kernel
theorem dX4_weighAll_4 : decode cX4_weighAll 4 = .ok (.getfield 9, 3) := by decide +kernel
theorem dX4_weighAll_7 : decode cX4_weighAll 7 = .ok (.arraylength, 1) := by decide +kernel
theorem dX4_weighAll_8 : decode cX4_weighAll 8 = .ok (.if_icmp .ge 26, 3) := by decide +kernel
theorem dX4_weighAll_11 : decode cX4_weighAll 11 = .ok (.aload_n 0, 1) := by decide +kernel
theorem dX4_weighAll_12 : decode cX4_weighAll 12 = .ok (.getfield 9, 3) := by decide +kernel
theorem dX4_weighAll_15 : decode cX4_weighAll 15 = .ok (.iload_n 3, 1) := by decide +kernel
theorem dX4_weighAll_16 : decode cX4_weighAll 16 = .ok (.iload_n 3, 1) := by decide +kernel
theorem dX4_weighAll_17 : decode cX4_weighAll 17 = .ok (.iload_n 2, 1) := by decide +kernel
theorem dX4_weighAll_18 : decode cX4_weighAll 18 = .ok (.if_icmp .ne 7, 3) := by decide +kernel
theorem dX4_weighAll_21 : decode cX4_weighAll 21 = .ok (.iconst 0, 1) := by decide +kernel
theorem dX4_weighAll_22 : decode cX4_weighAll 22 = .ok (.goto 5, 3) := by decide +kernel
theorem dX4_weighAll_25 : decode cX4_weighAll 25 = .ok (.ldc 30, 2) := by decide +kernel
theorem dX4_weighAll_27 : decode cX4_weighAll 27 = .ok (.iastore, 1) := by decide +kernel
theorem dX4_weighAll_28 : decode cX4_weighAll 28 = .ok (.iinc 3 1, 3) := by decide +kernel
theorem dX4_weighAll_31 : decode cX4_weighAll 31 = .ok (.goto (-29), 3) := by decide +kernel
theorem dX4_weighAll_34 : decode cX4_weighAll 34 = .ok (.iconst 1, 1) := by decide +kernel
theorem dX4_weighAll_35 : decode cX4_weighAll 35 = .ok (.istore_n 3, 1) := by decide +kernel
theorem dX4_weighAll_36 : decode cX4_weighAll 36 = .ok (.iconst 0, 1) := by decide +kernel
theorem dX4_weighAll_37 : decode cX4_weighAll 37 = .ok (.istore 4, 2) := by decide +kernel
theorem dX4_weighAll_39 : decode cX4_weighAll 39 = .ok (.iload 4, 2) := by decide +kernel
theorem dX4_weighAll_41 : decode cX4_weighAll 41 = .ok (.bipush 12, 2) := by decide +kernel
theorem dX4_weighAll_43 : decode cX4_weighAll 43 = .ok (.if_icmp .ge 76, 3) := by decide +kernel
theorem dX4_weighAll_46 : decode cX4_weighAll 46 = .ok (.iload_n 3, 1) := by decide +kernel
theorem dX4_weighAll_47 : decode cX4_weighAll 47 = .ok (.ifCond .eq 72, 3) := by decide +kernel
theorem dX4_weighAll_50 : decode cX4_weighAll 50 = .ok (.iconst 0, 1) := by decide +kernel
theorem dX4_weighAll_51 : decode cX4_weighAll 51 = .ok (.istore_n 3, 1) := by decide +kernel
theorem dX4_weighAll_52 : decode cX4_weighAll 52 = .ok (.iconst 0, 1) := by decide +kernel
theorem dX4_weighAll_53 : decode cX4_weighAll 53 = .ok (.istore 5, 2) := by decide +kernel
theorem dX4_weighAll_55 : decode cX4_weighAll 55 = .ok (.iload 5, 2) := by decide +kernel
theorem dX4_weighAll_57 : decode cX4_weighAll 57 = .ok (.aload_n 1, 1) := by decide +kernel
theorem dX4_weighAll_58 : decode cX4_weighAll 58 = .ok (.invokevirtual 47, 3) := by decide +kernel
theorem dX4_weighAll_61 : decode cX4_weighAll 61 = .ok (.if_icmp .ge 52, 3) := by decide +kernel
theorem dX4_weighAll_64 : decode cX4_weighAll 64 = .ok (.iload 5, 2) := by decide +kernel
theorem dX4_weighAll_66 : decode cX4_weighAll 66 = .ok (.aload_n 0, 1) := by decide +kernel
theorem dX4_weighAll_67 : decode cX4_weighAll 67 = .ok (.getfield 9, 3) := by decide +kernel
theorem dX4_weighAll_70 : decode cX4_weighAll 70 = .ok (.arraylength, 1) := by decide +kernel
theorem dX4_weighAll_71 : decode cX4_weighAll 71 = .ok (.if_icmp .ge 42, 3) := by decide +kernel
theorem dX4_weighAll_74 : decode cX4_weighAll 74 = .ok (.aload_n 0, 1) := by decide +kernel
theorem dX4_weighAll_75 : decode cX4_weighAll 75 = .ok (.aload_n 1, 1) := by decide +kernel
theorem dX4_weighAll_76 : decode cX4_weighAll 76 = .ok (.iload 5, 2) := by decide +kernel
theorem dX4_weighAll_78 : decode cX4_weighAll 78 = .ok (.iload_n 2, 1) := by decide +kernel
theorem dX4_weighAll_79 : decode cX4_weighAll 79 = .ok (.invokevirtual 53, 3) := by decide +kernel
theorem dX4_weighAll_82 : decode cX4_weighAll 82 = .ok (.istore 6, 2) := by decide +kernel
theorem dX4_weighAll_84 : decode cX4_weighAll 84 = .ok (.iload 6, 2) := by decide +kernel
theorem dX4_weighAll_86 : decode cX4_weighAll 86 = .ok (.aload_n 0, 1) := by decide +kernel
theorem dX4_weighAll_87 : decode cX4_weighAll 87 = .ok (.getfield 9, 3) := by decide +kernel
theorem dX4_weighAll_90 : decode cX4_weighAll 90 = .ok (.iload 5, 2) := by decide +kernel
theorem dX4_weighAll_92 : decode cX4_weighAll 92 = .ok (.iaload, 1) := by decide +kernel
theorem dX4_weighAll_93 : decode cX4_weighAll 93 = .ok (.if_icmp .ge 14, 3) := by decide +kernel
theorem dX4_weighAll_96 : decode cX4_weighAll 96 = .ok (.aload_n 0, 1) := by decide +kernel
theorem dX4_weighAll_97 : decode cX4_weighAll 97 = .ok (.getfield 9, 3) := by decide +kernel
theorem dX4_weighAll_100 : decode cX4_weighAll 100 = .ok (.iload 5, 2) := by decide +kernel
theorem dX4_weighAll_102 : decode cX4_weighAll 102 = .ok (.iload 6, 2) := by decide +kernel
theorem dX4_weighAll_104 : decode cX4_weighAll 104 = .ok (.iastore, 1) := by decide +kernel
theorem dX4_weighAll_105 : decode cX4_weighAll 105 = .ok (.iconst 1, 1) := by decide +kernel
theorem dX4_weighAll_106 : decode cX4_weighAll 106 = .ok (.istore_n 3, 1) := by decide +kernel
theorem dX4_weighAll_107 : decode cX4_weighAll 107 = .ok (.iinc 5 1, 3) := by decide +kernel
theorem dX4_weighAll_110 : decode cX4_weighAll 110 = .ok (.goto (-55), 3) := by decide +kernel
theorem dX4_weighAll_113 : decode cX4_weighAll 113 = .ok (.iinc 4 1, 3) := by decide +kernel
theorem dX4_weighAll_116 : decode cX4_weighAll 116 = .ok (.goto (-77), 3) := by decide +kernel
theorem dX4_weighAll_119 : decode cX4_weighAll 119 = .ok (.return_, 1) := by decide +kernel
theorem dX4_leastFrom_0 : decode cX4_leastFrom 0 = .ok (.ldc 30, 2) := by decide +kernel
theorem dX4_leastFrom_2 : decode cX4_leastFrom 2 = .ok (.istore 4, 2) := by decide +kernel
theorem dX4_leastFrom_4 : decode cX4_leastFrom 4 = .ok (.iconst 0, 1) := by decide +kernel
theorem dX4_leastFrom_5 : decode cX4_leastFrom 5 = .ok (.istore 5, 2) := by decide +kernel
theorem dX4_leastFrom_7 : decode cX4_leastFrom 7 = .ok (.iload 5, 2) := by decide +kernel
theorem dX4_leastFrom_9 : decode cX4_leastFrom 9 = .ok (.aload_n 1, 1) := by decide +kernel
theorem dX4_leastFrom_10 : decode cX4_leastFrom 10 = .ok (.invokevirtual 47, 3) := by decide +kernel
theorem dX4_leastFrom_13 : decode cX4_leastFrom 13 = .ok (.if_icmp .ge 25, 3) := by decide +kernel
theorem dX4_leastFrom_16 : decode cX4_leastFrom 16 = .ok (.iload 4, 2) := by decide +kernel
theorem dX4_leastFrom_18 : decode cX4_leastFrom 18 = .ok (.aload_n 0, 1) := by decide +kernel
theorem dX4_leastFrom_19 : decode cX4_leastFrom 19 = .ok (.aload_n 1, 1) := by decide +kernel
theorem dX4_leastFrom_20 : decode cX4_leastFrom 20 = .ok (.iload_n 2, 1) := by decide +kernel
theorem dX4_leastFrom_21 : decode cX4_leastFrom 21 = .ok (.iload 5, 2) := by decide +kernel
theorem dX4_leastFrom_23 : decode cX4_leastFrom 23 = .ok (.iload_n 3, 1) := by decide +kernel
theorem dX4_leastFrom_24 : decode cX4_leastFrom 24 = .ok (.invokevirtual 56, 3) := by decide +kernel
theorem dX4_leastFrom_27 : decode cX4_leastFrom 27 = .ok (.invokestatic 60, 3) := by decide +kernel
theorem dX4_leastFrom_30 : decode cX4_leastFrom 30 = .ok (.istore 4, 2) := by decide +kernel
theorem dX4_leastFrom_32 : decode cX4_leastFrom 32 = .ok (.iinc 5 1, 3) := by decide +kernel
theorem dX4_leastFrom_35 : decode cX4_leastFrom 35 = .ok (.goto (-28), 3) := by decide +kernel
theorem dX4_leastFrom_38 : decode cX4_leastFrom 38 = .ok (.iload 4, 2) := by decide +kernel
theorem dX4_leastFrom_40 : decode cX4_leastFrom 40 = .ok (.ireturn, 1) := by decide +kernel
theorem dX4_lowestNext_0 : decode cX4_lowestNext 0 = .ok (.iconst 0, 1) := by decide +kernel
theorem dX4_lowestNext_1 : decode cX4_lowestNext 1 = .ok (.istore 4, 2) := by decide +kernel
theorem dX4_lowestNext_3 : decode cX4_lowestNext 3 = .ok (.iload 4, 2) := by decide +kernel
theorem dX4_lowestNext_5 : decode cX4_lowestNext 5 = .ok (.aload_n 1, 1) := by decide +kernel
theorem dX4_lowestNext_6 : decode cX4_lowestNext 6 = .ok (.invokevirtual 47, 3) := by decide +kernel
theorem dX4_lowestNext_9 : decode cX4_lowestNext 9 = .ok (.if_icmp .ge 29, 3) := by decide +kernel
theorem dX4_lowestNext_12 : decode cX4_lowestNext 12 = .ok (.aload_n 0, 1) := by decide +kernel
theorem dX4_lowestNext_13 : decode cX4_lowestNext 13 = .ok (.aload_n 1, 1) := by decide +kernel
theorem dX4_lowestNext_14 : decode cX4_lowestNext 14 = .ok (.iload_n 2, 1) := by decide +kernel
theorem dX4_lowestNext_15 : decode cX4_lowestNext 15 = .ok (.iload 4, 2) := by decide +kernel
theorem dX4_lowestNext_17 : decode cX4_lowestNext 17 = .ok (.iload_n 3, 1) := by decide +kernel
theorem dX4_lowestNext_18 : decode cX4_lowestNext 18 = .ok (.invokevirtual 56, 3) := by decide +kernel
theorem dX4_lowestNext_21 : decode cX4_lowestNext 21 = .ok (.aload_n 0, 1) := by decide +kernel
theorem dX4_lowestNext_22 : decode cX4_lowestNext 22 = .ok (.iload_n 2, 1) := by decide +kernel
theorem dX4_lowestNext_23 : decode cX4_lowestNext 23 = .ok (.invokevirtual 26, 3) := by decide +kernel
theorem dX4_lowestNext_26 : decode cX4_lowestNext 26 = .ok (.if_icmp .ne 6, 3) := by decide +kernel
theorem dX4_lowestNext_29 : decode cX4_lowestNext 29 = .ok (.iload 4, 2) := by decide +kernel
theorem dX4_lowestNext_31 : decode cX4_lowestNext 31 = .ok (.ireturn, 1) := by decide +kernel
theorem dX4_lowestNext_32 : decode cX4_lowestNext 32 = .ok (.iinc 4 1, 3) := by decide +kernel
theorem dX4_lowestNext_35 : decode cX4_lowestNext 35 = .ok (.goto (-32), 3) := by decide +kernel
theorem dX4_lowestNext_38 : decode cX4_lowestNext 38 = .ok (.iload_n 3, 1) := by decide +kernel
theorem dX4_lowestNext_39 : decode cX4_lowestNext 39 = .ok (.ireturn, 1) := by decide +kernel
theorem dX4_overNext_0 : decode cX4_overNext 0 = .ok (.iload_n 2, 1) := by decide +kernel
theorem dX4_overNext_1 : decode cX4_overNext 1 = .ok (.ifCond .lt 23, 3) := by decide +kernel
theorem dX4_overNext_4 : decode cX4_overNext 4 = .ok (.iload_n 2, 1) := by decide +kernel
theorem dX4_overNext_5 : decode cX4_overNext 5 = .ok (.aload_n 1, 1) := by decide +kernel
theorem dX4_overNext_6 : decode cX4_overNext 6 = .ok (.invokevirtual 47, 3) := by decide +kernel
theorem dX4_overNext_9 : decode cX4_overNext 9 = .ok (.if_icmp .ge 15, 3) := by decide +kernel
theorem dX4_overNext_12 : decode cX4_overNext 12 = .ok (.iload_n 3, 1) := by decide +kernel
theorem dX4_overNext_13 : decode cX4_overNext 13 = .ok (.ifCond .lt 11, 3) := by decide +kernel
theorem dX4_overNext_16 : decode cX4_overNext 16 = .ok (.iload_n 3, 1) := by decide +kernel
theorem dX4_overNext_17 : decode cX4_overNext 17 = .ok (.aload_n 1, 1) := by decide +kernel
theorem dX4_overNext_18 : decode cX4_overNext 18 = .ok (.invokevirtual 47, 3) := by decide +kernel
theorem dX4_overNext_21 : decode cX4_overNext 21 = .ok (.if_icmp .lt 6, 3) := by decide +kernel
theorem dX4_overNext_24 : decode cX4_overNext 24 = .ok (.ldc 30, 2) := by decide +kernel
theorem dX4_overNext_26 : decode cX4_overNext 26 = .ok (.ireturn, 1) := by decide +kernel
theorem dX4_overNext_27 : decode cX4_overNext 27 = .ok (.aload_n 1, 1) := by decide +kernel
theorem dX4_overNext_28 : decode cX4_overNext 28 = .ok (.iload_n 2, 1) := by decide +kernel
theorem dX4_overNext_29 : decode cX4_overNext 29 = .ok (.invokevirtual 66, 3) := by decide +kernel
theorem dX4_overNext_32 : decode cX4_overNext 32 = .ok (.checkcast 70, 3) := by decide +kernel
theorem dX4_overNext_35 : decode cX4_overNext 35 = .ok (.iload_n 3, 1) := by decide +kernel
theorem dX4_overNext_36 : decode cX4_overNext 36 = .ok (.invokevirtual 72, 3) := by decide +kernel
theorem dX4_overNext_39 : decode cX4_overNext 39 = .ok (.ifCond .ne 6, 3) := by decide +kernel
theorem dX4_overNext_42 : decode cX4_overNext 42 = .ok (.ldc 30, 2) := by decide +kernel
theorem dX4_overNext_44 : decode cX4_overNext 44 = .ok (.ireturn, 1) := by decide +kernel
theorem dX4_overNext_45 : decode cX4_overNext 45 = .ok (.iload_n 3, 1) := by decide +kernel
theorem dX4_overNext_46 : decode cX4_overNext 46 = .ok (.iload 4, 2) := by decide +kernel
theorem dX4_overNext_48 : decode cX4_overNext 48 = .ok (.if_icmp .ne 5, 3) := by decide +kernel
theorem dX4_overNext_51 : decode cX4_overNext 51 = .ok (.iconst 1, 1) := by decide +kernel
theorem dX4_overNext_52 : decode cX4_overNext 52 = .ok (.ireturn, 1) := by decide +kernel
theorem dX4_overNext_53 : decode cX4_overNext 53 = .ok (.aload_n 1, 1) := by decide +kernel
theorem dX4_overNext_54 : decode cX4_overNext 54 = .ok (.iload_n 3, 1) := by decide +kernel
theorem dX4_overNext_55 : decode cX4_overNext 55 = .ok (.invokevirtual 66, 3) := by decide +kernel
theorem dX4_overNext_58 : decode cX4_overNext 58 = .ok (.checkcast 70, 3) := by decide +kernel
theorem dX4_overNext_61 : decode cX4_overNext 61 = .ok (.astore 5, 2) := by decide +kernel
theorem dX4_overNext_63 : decode cX4_overNext 63 = .ok (.aload_n 0, 1) := by decide +kernel
theorem dX4_overNext_64 : decode cX4_overNext 64 = .ok (.iload_n 3, 1) := by decide +kernel
theorem dX4_overNext_65 : decode cX4_overNext 65 = .ok (.invokevirtual 26, 3) := by decide +kernel
theorem dX4_overNext_68 : decode cX4_overNext 68 = .ok (.istore 6, 2) := by decide +kernel
theorem dX4_overNext_70 : decode cX4_overNext 70 = .ok (.aload 5, 2) := by decide +kernel
theorem dX4_overNext_72 : decode cX4_overNext 72 = .ok (.invokevirtual 76, 3) := by decide +kernel
theorem dX4_overNext_75 : decode cX4_overNext 75 = .ok (.ifCond .eq 10, 3) := by decide +kernel
theorem dX4_overNext_78 : decode cX4_overNext 78 = .ok (.iload 6, 2) := by decide +kernel
theorem dX4_overNext_80 : decode cX4_overNext 80 = .ok (.ldc 30, 2) := by decide +kernel
theorem dX4_overNext_82 : decode cX4_overNext 82 = .ok (.if_icmp .ne 6, 3) := by decide +kernel
theorem dX4_overNext_85 : decode cX4_overNext 85 = .ok (.ldc 30, 2) := by decide +kernel
theorem dX4_overNext_87 : decode cX4_overNext 87 = .ok (.ireturn, 1) := by decide +kernel
theorem dX4_overNext_88 : decode cX4_overNext 88 = .ok (.aload 5, 2) := by decide +kernel
theorem dX4_overNext_90 : decode cX4_overNext 90 = .ok (.invokevirtual 80, 3) := by decide +kernel
theorem dX4_overNext_93 : decode cX4_overNext 93 = .ok (.bipush 100, 2) := by decide +kernel
theorem dX4_overNext_95 : decode cX4_overNext 95 = .ok (.imul, 1) := by decide +kernel
theorem dX4_overNext_96 : decode cX4_overNext 96 = .ok (.iconst 1, 1) := by decide +kernel
theorem dX4_overNext_97 : decode cX4_overNext 97 = .ok (.iadd, 1) := by decide +kernel
theorem dX4_overNext_98 : decode cX4_overNext 98 = .ok (.iload 6, 2) := by decide +kernel
theorem dX4_overNext_100 : decode cX4_overNext 100 = .ok (.iadd, 1) := by decide +kernel
theorem dX4_overNext_101 : decode cX4_overNext 101 = .ok (.ireturn, 1) := by decide +kernel
theorem dX4_bestOf_0 : decode cX4_bestOf 0 = .ok (.iload_n 1, 1) := by decide +kernel
theorem dX4_bestOf_1 : decode cX4_bestOf 1 = .ok (.ifCond .lt 12, 3) := by decide +kernel
theorem dX4_bestOf_4 : decode cX4_bestOf 4 = .ok (.iload_n 1, 1) := by decide +kernel
theorem dX4_bestOf_5 : decode cX4_bestOf 5 = .ok (.aload_n 0, 1) := by decide +kernel
theorem dX4_bestOf_6 : decode cX4_bestOf 6 = .ok (.getfield 9, 3) := by decide +kernel
theorem dX4_bestOf_9 : decode cX4_bestOf 9 = .ok (.arraylength, 1) := by decide +kernel
theorem dX4_bestOf_10 : decode cX4_bestOf 10 = .ok (.if_icmp .lt 8, 3) := by decide +kernel
theorem dX4_bestOf_13 : decode cX4_bestOf 13 = .ok (.ldc 30, 2) := by decide +kernel
theorem dX4_bestOf_15 : decode cX4_bestOf 15 = .ok (.goto 9, 3) := by decide +kernel
theorem dX4_bestOf_18 : decode cX4_bestOf 18 = .ok (.aload_n 0, 1) := by decide +kernel
theorem dX4_bestOf_19 : decode cX4_bestOf 19 = .ok (.getfield 9, 3) := by decide +kernel
theorem dX4_bestOf_22 : decode cX4_bestOf 22 = .ok (.iload_n 1, 1) := by decide +kernel
theorem dX4_bestOf_23 : decode cX4_bestOf 23 = .ok (.iaload, 1) := by decide +kernel
theorem dX4_bestOf_24 : decode cX4_bestOf 24 = .ok (.ireturn, 1) := by decide +kernel
theorem dX4_priceOf_0 : decode cX4_priceOf 0 = .ok (.iload_n 1, 1) := by decide +kernel
theorem dX4_priceOf_1 : decode cX4_priceOf 1 = .ok (.ifCond .lt 11, 3) := by decide +kernel
theorem dX4_priceOf_4 : decode cX4_priceOf 4 = .ok (.iload_n 1, 1) := by decide +kernel
theorem dX4_priceOf_5 : decode cX4_priceOf 5 = .ok (.aload_n 0, 1) := by decide +kernel
theorem dX4_priceOf_6 : decode cX4_priceOf 6 = .ok (.invokevirtual 47, 3) := by decide +kernel
theorem dX4_priceOf_9 : decode cX4_priceOf 9 = .ok (.if_icmp .lt 7, 3) := by decide +kernel
theorem dX4_priceOf_12 : decode cX4_priceOf 12 = .ok (.iconst 0, 1) := by decide +kernel
theorem dX4_priceOf_13 : decode cX4_priceOf 13 = .ok (.goto 14, 3) := by decide +kernel
theorem dX4_priceOf_16 : decode cX4_priceOf 16 = .ok (.aload_n 0, 1) := by decide +kernel
theorem dX4_priceOf_17 : decode cX4_priceOf 17 = .ok (.iload_n 1, 1) := by decide +kernel
theorem dX4_priceOf_18 : decode cX4_priceOf 18 = .ok (.invokevirtual 66, 3) := by decide +kernel
theorem dX4_priceOf_21 : decode cX4_priceOf 21 = .ok (.checkcast 70, 3) := by decide +kernel
theorem dX4_priceOf_24 : decode cX4_priceOf 24 = .ok (.getfield 83, 3) := by decide +kernel
theorem dX4_priceOf_27 : decode cX4_priceOf 27 = .ok (.ireturn, 1) := by decide +kernel
theorem dX5_init_0 : decode cX5_init 0 = .ok (.aload_n 0, 1) := by decide +kernel
theorem dX5_init_1 : decode cX5_init 1 = .ok (.invokespecial 1, 3) := by decide +kernel
theorem dX5_init_4 : decode cX5_init 4 = .ok (.aload_n 0, 1) := by decide +kernel
theorem dX5_init_5 : decode cX5_init 5 = .ok (.new 7, 3) := by decide +kernel
theorem dX5_init_8 : decode cX5_init 8 = .ok (.dup, 1) := by decide +kernel
theorem dX5_init_9 : decode cX5_init 9 = .ok (.invokespecial 9, 3) := by decide +kernel
theorem dX5_init_12 : decode cX5_init 12 = .ok (.putfield 10, 3) := by decide +kernel
theorem dX5_init_15 : decode cX5_init 15 = .ok (.aload_n 0, 1) := by decide +kernel
theorem dX5_init_16 : decode cX5_init 16 = .ok (.new 7, 3) := by decide +kernel
theorem dX5_init_19 : decode cX5_init 19 = .ok (.dup, 1) := by decide +kernel
theorem dX5_init_20 : decode cX5_init 20 = .ok (.invokespecial 9, 3) := by decide +kernel
theorem dX5_init_23 : decode cX5_init 23 = .ok (.putfield 16, 3) := by decide +kernel
theorem dX5_init_26 : decode cX5_init 26 = .ok (.aload_n 0, 1) := by decide +kernel
theorem dX5_init_27 : decode cX5_init 27 = .ok (.new 19, 3) := by decide +kernel
theorem dX5_init_30 : decode cX5_init 30 = .ok (.dup, 1) := by decide +kernel
theorem dX5_init_31 : decode cX5_init 31 = .ok (.invokespecial 21, 3) := by decide +kernel
theorem dX5_init_34 : decode cX5_init 34 = .ok (.putfield 22, 3) := by decide +kernel
theorem dX5_init_37 : decode cX5_init 37 = .ok (.aload_n 0, 1) := by decide +kernel
theorem dX5_init_38 : decode cX5_init 38 = .ok (.new 26, 3) := by decide +kernel
theorem dX5_init_41 : decode cX5_init 41 = .ok (.dup, 1) := by decide +kernel
theorem dX5_init_42 : decode cX5_init 42 = .ok (.invokespecial 28, 3) := by decide +kernel
theorem dX5_init_45 : decode cX5_init 45 = .ok (.putfield 29, 3) := by decide +kernel
theorem dX5_init_48 : decode cX5_init 48 = .ok (.aload_n 0, 1) := by decide +kernel
theorem dX5_init_49 : decode cX5_init 49 = .ok (.iconst 0, 1) := by decide +kernel
theorem dX5_init_50 : decode cX5_init 50 = .ok (.putfield 33, 3) := by decide +kernel
theorem dX5_init_53 : decode cX5_init 53 = .ok (.return_, 1) := by decide +kernel
theorem dX5_node_0 : decode cX5_node 0 = .ok (.iload_n 1, 1) := by decide +kernel
theorem dX5_node_1 : decode cX5_node 1 = .ok (.iconst 0, 1) := by decide +kernel
theorem dX5_node_2 : decode cX5_node 2 = .ok (.sipush 9999, 3) := by decide +kernel
theorem dX5_node_5 : decode cX5_node 5 = .ok (.invokestatic 37, 3) := by decide +kernel
theorem dX5_node_8 : decode cX5_node 8 = .ok (.iload_n 2, 1) := by decide +kernel
theorem dX5_node_9 : decode cX5_node 9 = .ok (.iconst 0, 1) := by decide +kernel
theorem dX5_node_10 : decode cX5_node 10 = .ok (.sipush 999, 3) := by decide +kernel
theorem dX5_node_13 : decode cX5_node 13 = .ok (.invokestatic 37, 3) := by decide +kernel
theorem dX5_node_16 : decode cX5_node 16 = .ok (.iload_n 3, 1) := by decide +kernel
theorem dX5_node_17 : decode cX5_node 17 = .ok (.iconst 0, 1) := by decide +kernel
theorem dX5_node_18 : decode cX5_node 18 = .ok (.bipush 50, 2) := by decide +kernel
theorem dX5_node_20 : decode cX5_node 20 = .ok (.invokestatic 37, 3) := by decide +kernel
theorem dX5_node_23 : decode cX5_node 23 = .ok (.aload_n 0, 1) := by decide +kernel
theorem dX5_node_24 : decode cX5_node 24 = .ok (.getfield 10, 3) := by decide +kernel
theorem dX5_node_27 : decode cX5_node 27 = .ok (.invokevirtual 41, 3) := by decide +kernel
theorem dX5_node_30 : decode cX5_node 30 = .ok (.bipush 12, 2) := by decide +kernel
theorem dX5_node_32 : decode cX5_node 32 = .ok (.if_icmp .lt 13, 3) := by decide +kernel
theorem dX5_node_35 : decode cX5_node 35 = .ok (.new 45, 3) := by decide +kernel
theorem dX5_node_38 : decode cX5_node 38 = .ok (.dup, 1) := by decide +kernel
theorem dX5_node_39 : decode cX5_node 39 = .ok (.ldc 47, 2) := by decide +kernel
theorem dX5_node_41 : decode cX5_node 41 = .ok (.invokespecial 49, 3) := by decide +kernel
theorem dX5_node_44 : decode cX5_node 44 = .ok (.athrow, 1) := by decide +kernel
theorem dX5_node_45 : decode cX5_node 45 = .ok (.aload_n 0, 1) := by decide +kernel
theorem dX5_node_46 : decode cX5_node 46 = .ok (.getfield 10, 3) := by decide +kernel
theorem dX5_node_49 : decode cX5_node 49 = .ok (.new 52, 3) := by decide +kernel
theorem dX5_node_52 : decode cX5_node 52 = .ok (.dup, 1) := by decide +kernel
theorem dX5_node_53 : decode cX5_node 53 = .ok (.iload_n 1, 1) := by decide +kernel
theorem dX5_node_54 : decode cX5_node 54 = .ok (.iload_n 2, 1) := by decide +kernel
theorem dX5_node_55 : decode cX5_node 55 = .ok (.iload_n 3, 1) := by decide +kernel
theorem dX5_node_56 : decode cX5_node 56 = .ok (.invokespecial 54, 3) := by decide +kernel
theorem dX5_node_59 : decode cX5_node 59 = .ok (.invokevirtual 56, 3) := by decide +kernel
theorem dX5_node_62 : decode cX5_node 62 = .ok (.pop, 1) := by decide +kernel
theorem dX5_node_63 : decode cX5_node 63 = .ok (.aload_n 0, 1) := by decide +kernel
theorem dX5_node_64 : decode cX5_node 64 = .ok (.getfield 10, 3) := by decide +kernel
theorem dX5_node_67 : decode cX5_node 67 = .ok (.invokevirtual 41, 3) := by decide +kernel
theorem dX5_node_70 : decode cX5_node 70 = .ok (.iconst 1, 1) := by decide +kernel
theorem dX5_node_71 : decode cX5_node 71 = .ok (.isub, 1) := by decide +kernel
theorem dX5_node_72 : decode cX5_node 72 = .ok (.ireturn, 1) := by decide +kernel
theorem dX5_link_0 : decode cX5_link 0 = .ok (.aload_n 0, 1) := by decide +kernel
theorem dX5_link_1 : decode cX5_link 1 = .ok (.iload_n 1, 1) := by decide +kernel
theorem dX5_link_2 : decode cX5_link 2 = .ok (.iload_n 2, 1) := by decide +kernel
theorem dX5_link_3 : decode cX5_link 3 = .ok (.invokevirtual 60, 3) := by decide +kernel
theorem dX5_link_6 : decode cX5_link 6 = .ok (.aload_n 0, 1) := by decide +kernel
theorem dX5_link_7 : decode cX5_link 7 = .ok (.iload_n 1, 1) := by decide +kernel
theorem dX5_link_8 : decode cX5_link 8 = .ok (.invokevirtual 64, 3) := by decide +kernel
theorem dX5_link_11 : decode cX5_link 11 = .ok (.astore 4, 2) := by decide +kernel
theorem dX5_link_13 : decode cX5_link 13 = .ok (.aload 4, 2) := by decide +kernel
theorem dX5_link_15 : decode cX5_link 15 = .ok (.iload_n 2, 1) := by decide +kernel
theorem dX5_link_16 : decode cX5_link 16 = .ok (.invokevirtual 68, 3) := by decide +kernel
theorem dX5_link_19 : decode cX5_link 19 = .ok (.istore 5, 2) := by decide +kernel
theorem dX5_link_21 : decode cX5_link 21 = .ok (.aload 4, 2) := by decide +kernel
theorem dX5_link_23 : decode cX5_link 23 = .ok (.iload_n 2, 1) := by decide +kernel
theorem dX5_link_24 : decode cX5_link 24 = .ok (.iload_n 3, 1) := by decide +kernel
theorem dX5_link_25 : decode cX5_link 25 = .ok (.invokevirtual 72, 3) := by decide +kernel
theorem dX5_link_28 : decode cX5_link 28 = .ok (.aload_n 0, 1) := by decide +kernel
theorem dX5_link_29 : decode cX5_link 29 = .ok (.iload_n 2, 1) := by decide +kernel
theorem dX5_link_30 : decode cX5_link 30 = .ok (.invokevirtual 64, 3) := by decide +kernel
theorem dX5_link_33 : decode cX5_link 33 = .ok (.iload_n 1, 1) := by decide +kernel
theorem dX5_link_34 : decode cX5_link 34 = .ok (.iload_n 3, 1) := by decide +kernel
theorem dX5_link_35 : decode cX5_link 35 = .ok (.invokevirtual 72, 3) := by decide +kernel
theorem dX5_link_38 : decode cX5_link 38 = .ok (.iload 5, 2) := by decide +kernel
theorem dX5_link_40 : decode cX5_link 40 = .ok (.ireturn, 1) := by decide +kernel
theorem dX5_price_0 : decode cX5_price 0 = .ok (.aload_n 0, 1) := by decide +kernel
theorem dX5_price_1 : decode cX5_price 1 = .ok (.iload_n 1, 1) := by decide +kernel
theorem dX5_price_2 : decode cX5_price 2 = .ok (.invokevirtual 64, 3) := by decide +kernel
theorem dX5_price_5 : decode cX5_price 5 = .ok (.astore_n 3, 1) := by decide +kernel
theorem dX5_price_6 : decode cX5_price 6 = .ok (.iload_n 2, 1) := by decide +kernel
theorem dX5_price_7 : decode cX5_price 7 = .ok (.iconst 0, 1) := by decide +kernel
theorem dX5_price_8 : decode cX5_price 8 = .ok (.bipush 50, 2) := by decide +kernel
theorem dX5_price_10 : decode cX5_price 10 = .ok (.invokestatic 37, 3) := by decide +kernel
theorem dX5_price_13 : decode cX5_price 13 = .ok (.aload_n 3, 1) := by decide +kernel
theorem dX5_price_14 : decode cX5_price 14 = .ok (.getfield 76, 3) := by decide +kernel
theorem dX5_price_17 : decode cX5_price 17 = .ok (.istore 4, 2) := by decide +kernel
theorem dX5_price_19 : decode cX5_price 19 = .ok (.aload_n 3, 1) := by decide +kernel
theorem dX5_price_20 : decode cX5_price 20 = .ok (.iload_n 2, 1) := by decide +kernel
theorem dX5_price_21 : decode cX5_price 21 = .ok (.putfield 76, 3) := by decide +kernel
theorem dX5_price_24 : decode cX5_price 24 = .ok (.iload 4, 2) := by decide +kernel
theorem dX5_price_26 : decode cX5_price 26 = .ok (.ireturn, 1) := by decide +kernel
theorem dX5_put_0 : decode cX5_put 0 = .ok (.aload_n 0, 1) := by decide +kernel
theorem dX5_put_1 : decode cX5_put 1 = .ok (.iload_n 1, 1) := by decide +kernel
theorem dX5_put_2 : decode cX5_put 2 = .ok (.invokevirtual 64, 3) := by decide +kernel
theorem dX5_put_5 : decode cX5_put 5 = .ok (.astore_n 3, 1) := by decide +kernel
theorem dX5_put_6 : decode cX5_put 6 = .ok (.iload_n 2, 1) := by decide +kernel
theorem dX5_put_7 : decode cX5_put 7 = .ok (.iconst 1, 1) := by decide +kernel
theorem dX5_put_8 : decode cX5_put 8 = .ok (.sipush 9999, 3) := by decide +kernel
theorem dX5_put_11 : decode cX5_put 11 = .ok (.invokestatic 37, 3) := by decide +kernel
theorem dX5_put_14 : decode cX5_put 14 = .ok (.aload_n 3, 1) := by decide +kernel
theorem dX5_put_15 : decode cX5_put 15 = .ok (.getfield 79, 3) := by decide +kernel
theorem dX5_put_18 : decode cX5_put 18 = .ok (.iconst 2, 1) := by decide +kernel
theorem dX5_put_19 : decode cX5_put 19 = .ok (.if_icmp .ne 13, 3) := by decide +kernel
theorem dX5_put_22 : decode cX5_put 22 = .ok (.new 45, 3) := by decide +kernel
theorem dX5_put_25 : decode cX5_put 25 = .ok (.dup, 1) := by decide +kernel
theorem dX5_put_26 : decode cX5_put 26 = .ok (.ldc 82, 2) := by decide +kernel
theorem dX5_put_28 : decode cX5_put 28 = .ok (.invokespecial 49, 3) := by decide +kernel
theorem dX5_put_31 : decode cX5_put 31 = .ok (.athrow, 1) := by decide +kernel
theorem dX5_put_32 : decode cX5_put 32 = .ok (.aload_n 3, 1) := by decide +kernel
theorem dX5_put_33 : decode cX5_put 33 = .ok (.iload_n 2, 1) := by decide +kernel
theorem dX5_put_34 : decode cX5_put 34 = .ok (.invokestatic 84, 3) := by decide +kernel
theorem dX5_put_37 : decode cX5_put 37 = .ok (.aload_n 3, 1) := by decide +kernel
theorem dX5_put_38 : decode cX5_put 38 = .ok (.iload_n 2, 1) := by decide +kernel
theorem dX5_put_39 : decode cX5_put 39 = .ok (.invokevirtual 88, 3) := by decide +kernel
theorem dX5_put_42 : decode cX5_put 42 = .ok (.aload_n 3, 1) := by decide +kernel
theorem dX5_put_43 : decode cX5_put 43 = .ok (.getfield 92, 3) := by decide +kernel
theorem dX5_put_46 : decode cX5_put 46 = .ok (.ireturn, 1) := by decide +kernel
theorem dX5_leave_0 : decode cX5_leave 0 = .ok (.aload_n 0, 1) := by decide +kernel
theorem dX5_leave_1 : decode cX5_leave 1 = .ok (.iload_n 1, 1) := by decide +kernel
theorem dX5_leave_2 : decode cX5_leave 2 = .ok (.invokevirtual 64, 3) := by decide +kernel
theorem dX5_leave_5 : decode cX5_leave 5 = .ok (.astore_n 2, 1) := by decide +kernel
theorem dX5_leave_6 : decode cX5_leave 6 = .ok (.aload_n 2, 1) := by decide +kernel
theorem dX5_leave_7 : decode cX5_leave 7 = .ok (.getfield 79, 3) := by decide +kernel
theorem dX5_leave_10 : decode cX5_leave 10 = .ok (.ifCond .eq 13, 3) := by decide +kernel
theorem dX5_leave_13 : decode cX5_leave 13 = .ok (.new 45, 3) := by decide +kernel
theorem dX5_leave_16 : decode cX5_leave 16 = .ok (.dup, 1) := by decide +kernel
theorem dX5_leave_17 : decode cX5_leave 17 = .ok (.ldc 95, 2) := by decide +kernel
theorem dX5_leave_19 : decode cX5_leave 19 = .ok (.invokespecial 49, 3) := by decide +kernel
theorem dX5_leave_22 : decode cX5_leave 22 = .ok (.athrow, 1) := by decide +kernel
theorem dX5_leave_23 : decode cX5_leave 23 = .ok (.aload_n 2, 1) := by decide +kernel
theorem dX5_leave_24 : decode cX5_leave 24 = .ok (.iconst 1, 1) := by decide +kernel
theorem dX5_leave_25 : decode cX5_leave 25 = .ok (.putfield 79, 3) := by decide +kernel
theorem dX5_leave_28 : decode cX5_leave 28 = .ok (.aload_n 2, 1) := by decide +kernel
theorem dX5_leave_29 : decode cX5_leave 29 = .ok (.aload_n 0, 1) := by decide +kernel
theorem dX5_leave_30 : decode cX5_leave 30 = .ok (.getfield 33, 3) := by decide +kernel
theorem dX5_leave_33 : decode cX5_leave 33 = .ok (.bipush 15, 2) := by decide +kernel
theorem dX5_leave_35 : decode cX5_leave 35 = .ok (.iadd, 1) := by decide +kernel
theorem dX5_leave_36 : decode cX5_leave 36 = .ok (.putfield 97, 3) := by decide +kernel
theorem dX5_leave_39 : decode cX5_leave 39 = .ok (.aload_n 2, 1) := by decide +kernel
theorem dX5_leave_40 : decode cX5_leave 40 = .ok (.getfield 97, 3) := by decide +kernel
theorem dX5_leave_43 : decode cX5_leave 43 = .ok (.ireturn, 1) := by decide +kernel
theorem dX5_join_0 : decode cX5_join 0 = .ok (.aload_n 0, 1) := by decide +kernel
theorem dX5_join_1 : decode cX5_join 1 = .ok (.iload_n 1, 1) := by decide +kernel
theorem dX5_join_2 : decode cX5_join 2 = .ok (.invokevirtual 64, 3) := by decide +kernel
theorem dX5_join_5 : decode cX5_join 5 = .ok (.astore_n 3, 1) := by decide +kernel
theorem dX5_join_6 : decode cX5_join 6 = .ok (.iload_n 2, 1) := by decide +kernel
theorem dX5_join_7 : decode cX5_join 7 = .ok (.iconst 0, 1) := by decide +kernel
theorem dX5_join_8 : decode cX5_join 8 = .ok (.sipush 9999, 3) := by decide +kernel
theorem dX5_join_11 : decode cX5_join 11 = .ok (.invokestatic 37, 3) := by decide +kernel
theorem dX5_join_14 : decode cX5_join 14 = .ok (.aload_n 3, 1) := by decide +kernel
theorem dX5_join_15 : decode cX5_join 15 = .ok (.getfield 79, 3) := by decide +kernel
theorem dX5_join_18 : decode cX5_join 18 = .ok (.ifCond .ne 13, 3) := by decide +kernel
theorem dX5_join_21 : decode cX5_join 21 = .ok (.new 45, 3) := by decide +kernel
theorem dX5_join_24 : decode cX5_join 24 = .ok (.dup, 1) := by decide +kernel
theorem dX5_join_25 : decode cX5_join 25 = .ok (.ldc 100, 2) := by decide +kernel
theorem dX5_join_27 : decode cX5_join 27 = .ok (.invokespecial 49, 3) := by decide +kernel
theorem dX5_join_30 : decode cX5_join 30 = .ok (.athrow, 1) := by decide +kernel
theorem dX5_join_31 : decode cX5_join 31 = .ok (.aload_n 3, 1) := by decide +kernel
theorem dX5_join_32 : decode cX5_join 32 = .ok (.getfield 79, 3) := by decide +kernel
theorem dX5_join_35 : decode cX5_join 35 = .ok (.iconst 2, 1) := by decide +kernel
theorem dX5_join_36 : decode cX5_join 36 = .ok (.if_icmp .ne 17, 3) := by decide +kernel
theorem dX5_join_39 : decode cX5_join 39 = .ok (.iload_n 2, 1) := by decide +kernel
theorem dX5_join_40 : decode cX5_join 40 = .ok (.ifCond .ne 13, 3) := by decide +kernel
theorem dX5_join_43 : decode cX5_join 43 = .ok (.new 45, 3) := by decide +kernel
theorem dX5_join_46 : decode cX5_join 46 = .ok (.dup, 1) := by decide +kernel
theorem dX5_join_47 : decode cX5_join 47 = .ok (.ldc 102, 2) := by decide +kernel
theorem dX5_join_49 : decode cX5_join 49 = .ok (.invokespecial 49, 3) := by decide +kernel
theorem dX5_join_52 : decode cX5_join 52 = .ok (.athrow, 1) := by decide +kernel
theorem dX5_join_53 : decode cX5_join 53 = .ok (.aload_n 3, 1) := by decide +kernel
theorem dX5_join_54 : decode cX5_join 54 = .ok (.iload_n 2, 1) := by decide +kernel
theorem dX5_join_55 : decode cX5_join 55 = .ok (.invokestatic 84, 3) := by decide +kernel
theorem dX5_join_58 : decode cX5_join 58 = .ok (.aload_n 3, 1) := by decide +kernel
theorem dX5_join_59 : decode cX5_join 59 = .ok (.iload_n 2, 1) := by decide +kernel
theorem dX5_join_60 : decode cX5_join 60 = .ok (.invokevirtual 88, 3) := by decide +kernel
theorem dX5_join_63 : decode cX5_join 63 = .ok (.aload_n 3, 1) := by decide +kernel
theorem dX5_join_64 : decode cX5_join 64 = .ok (.iconst 0, 1) := by decide +kernel
theorem dX5_join_65 : decode cX5_join 65 = .ok (.putfield 79, 3) := by decide +kernel
theorem dX5_join_68 : decode cX5_join 68 = .ok (.aload_n 3, 1) := by decide +kernel
theorem dX5_join_69 : decode cX5_join 69 = .ok (.iconst (-1), 1) := by decide +kernel
theorem dX5_join_70 : decode cX5_join 70 = .ok (.putfield 97, 3) := by decide +kernel
theorem dX5_join_73 : decode cX5_join 73 = .ok (.aload_n 3, 1) := by decide +kernel
theorem dX5_join_74 : decode cX5_join 74 = .ok (.getfield 92, 3) := by decide +kernel
theorem dX5_join_77 : decode cX5_join 77 = .ok (.ireturn, 1) := by decide +kernel
theorem dX5_send_0 : decode cX5_send 0 = .ok (.aload_n 0, 1) := by decide +kernel
theorem dX5_send_1 : decode cX5_send 1 = .ok (.iload_n 1, 1) := by decide +kernel
theorem dX5_send_2 : decode cX5_send 2 = .ok (.iload_n 2, 1) := by decide +kernel
theorem dX5_send_3 : decode cX5_send 3 = .ok (.invokevirtual 60, 3) := by decide +kernel
theorem dX5_send_6 : decode cX5_send 6 = .ok (.aload_n 0, 1) := by decide +kernel
theorem dX5_send_7 : decode cX5_send 7 = .ok (.iload_n 1, 1) := by decide +kernel
theorem dX5_send_8 : decode cX5_send 8 = .ok (.invokevirtual 64, 3) := by decide +kernel
theorem dX5_send_11 : decode cX5_send 11 = .ok (.astore_n 3, 1) := by decide +kernel
theorem dX5_send_12 : decode cX5_send 12 = .ok (.aload_n 0, 1) := by decide +kernel
theorem dX5_send_13 : decode cX5_send 13 = .ok (.getfield 16, 3) := by decide +kernel
theorem dX5_send_16 : decode cX5_send 16 = .ok (.invokevirtual 41, 3) := by decide +kernel
theorem dX5_send_19 : decode cX5_send 19 = .ok (.bipush 60, 2) := by decide +kernel
theorem dX5_send_21 : decode cX5_send 21 = .ok (.if_icmp .lt 13, 3) := by decide +kernel
theorem dX5_send_24 : decode cX5_send 24 = .ok (.new 45, 3) := by decide +kernel
theorem dX5_send_27 : decode cX5_send 27 = .ok (.dup, 1) := by decide +kernel
theorem dX5_send_28 : decode cX5_send 28 = .ok (.ldc 104, 2) := by decide +kernel
theorem dX5_send_30 : decode cX5_send 30 = .ok (.invokespecial 49, 3) := by decide +kernel
theorem dX5_send_33 : decode cX5_send 33 = .ok (.athrow, 1) := by decide +kernel
theorem dX5_send_34 : decode cX5_send 34 = .ok (.aload_n 0, 1) := by decide +kernel
theorem dX5_send_35 : decode cX5_send 35 = .ok (.getfield 22, 3) := by decide +kernel
theorem dX5_send_38 : decode cX5_send 38 = .ok (.aload_n 0, 1) := by decide +kernel
theorem dX5_send_39 : decode cX5_send 39 = .ok (.getfield 10, 3) := by decide +kernel
theorem dX5_send_42 : decode cX5_send 42 = .ok (.iload_n 1, 1) := by decide +kernel
theorem dX5_send_43 : decode cX5_send 43 = .ok (.iload_n 2, 1) := by decide +kernel
theorem dX5_send_44 : decode cX5_send 44 = .ok (.invokevirtual 106, 3) := by decide +kernel
theorem dX5_send_47 : decode cX5_send 47 = .ok (.ifCond .ne 13, 3) := by decide +kernel
theorem dX5_send_50 : decode cX5_send 50 = .ok (.new 45, 3) := by decide +kernel
theorem dX5_send_53 : decode cX5_send 53 = .ok (.dup, 1) := by decide +kernel
theorem dX5_send_54 : decode cX5_send 54 = .ok (.ldc 110, 2) := by decide +kernel
theorem dX5_send_56 : decode cX5_send 56 = .ok (.invokespecial 49, 3) := by decide +kernel
theorem dX5_send_59 : decode cX5_send 59 = .ok (.athrow, 1) := by decide +kernel
theorem dX5_send_60 : decode cX5_send 60 = .ok (.aload_n 3, 1) := by decide +kernel
theorem dX5_send_61 : decode cX5_send 61 = .ok (.aload_n 0, 1) := by decide +kernel
theorem dX5_send_62 : decode cX5_send 62 = .ok (.getfield 22, 3) := by decide +kernel
theorem dX5_send_65 : decode cX5_send 65 = .ok (.getfield 112, 3) := by decide +kernel
theorem dX5_send_68 : decode cX5_send 68 = .ok (.getfield 116, 3) := by decide +kernel
theorem dX5_send_71 : decode cX5_send 71 = .ok (.invokestatic 84, 3) := by decide +kernel
theorem dX5_send_74 : decode cX5_send 74 = .ok (.new 121, 3) := by decide +kernel
theorem dX5_send_77 : decode cX5_send 77 = .ok (.dup, 1) := by decide +kernel
theorem dX5_send_78 : decode cX5_send 78 = .ok (.aload_n 0, 1) := by decide +kernel
theorem dX5_send_79 : decode cX5_send 79 = .ok (.getfield 22, 3) := by decide +kernel
theorem dX5_send_82 : decode cX5_send 82 = .ok (.getfield 112, 3) := by decide +kernel
theorem dX5_send_85 : decode cX5_send 85 = .ok (.invokespecial 123, 3) := by decide +kernel
theorem dX5_send_88 : decode cX5_send 88 = .ok (.astore 4, 2) := by decide +kernel
theorem dX5_send_90 : decode cX5_send 90 = .ok (.aload_n 3, 1) := by decide +kernel
theorem dX5_send_91 : decode cX5_send 91 = .ok (.dup, 1) := by decide +kernel
theorem dX5_send_92 : decode cX5_send 92 = .ok (.getfield 126, 3) := by decide +kernel
theorem dX5_send_95 : decode cX5_send 95 = .ok (.aload 4, 2) := by decide +kernel
theorem dX5_send_97 : decode cX5_send 97 = .ok (.getfield 129, 3) := by decide +kernel
theorem dX5_send_100 : decode cX5_send 100 = .ok (.getfield 116, 3) := by decide +kernel
theorem dX5_send_103 : decode cX5_send 103 = .ok (.isub, 1) := by decide +kernel
theorem dX5_send_104 : decode cX5_send 104 = .ok (.putfield 126, 3) := by decide +kernel
theorem dX5_send_107 : decode cX5_send 107 = .ok (.aload_n 0, 1) := by decide +kernel
theorem dX5_send_108 : decode cX5_send 108 = .ok (.getfield 16, 3) := by decide +kernel
theorem dX5_send_111 : decode cX5_send 111 = .ok (.aload 4, 2) := by decide +kernel
theorem dX5_send_113 : decode cX5_send 113 = .ok (.invokevirtual 56, 3) := by decide +kernel
theorem dX5_send_116 : decode cX5_send 116 = .ok (.pop, 1) := by decide +kernel
theorem dX5_send_117 : decode cX5_send 117 = .ok (.aload_n 0, 1) := by decide +kernel
theorem dX5_send_118 : decode cX5_send 118 = .ok (.getfield 16, 3) := by decide +kernel
theorem dX5_send_121 : decode cX5_send 121 = .ok (.invokevirtual 41, 3) := by decide +kernel
theorem dX5_send_124 : decode cX5_send 124 = .ok (.iconst 1, 1) := by decide +kernel
theorem dX5_send_125 : decode cX5_send 125 = .ok (.isub, 1) := by decide +kernel
theorem dX5_send_126 : decode cX5_send 126 = .ok (.ireturn, 1) := by decide +kernel
theorem dX5_cost_0 : decode cX5_cost 0 = .ok (.aload_n 0, 1) := by decide +kernel
theorem dX5_cost_1 : decode cX5_cost 1 = .ok (.iload_n 1, 1) := by decide +kernel
theorem dX5_cost_2 : decode cX5_cost 2 = .ok (.iload_n 2, 1) := by decide +kernel
theorem dX5_cost_3 : decode cX5_cost 3 = .ok (.invokevirtual 60, 3) := by decide +kernel
theorem dX5_cost_6 : decode cX5_cost 6 = .ok (.aload_n 0, 1) := by decide +kernel
theorem dX5_cost_7 : decode cX5_cost 7 = .ok (.getfield 22, 3) := by decide +kernel
theorem dX5_cost_10 : decode cX5_cost 10 = .ok (.aload_n 0, 1) := by decide +kernel
theorem dX5_cost_11 : decode cX5_cost 11 = .ok (.getfield 10, 3) := by decide +kernel
theorem dX5_cost_14 : decode cX5_cost 14 = .ok (.iload_n 1, 1) := by decide +kernel
theorem dX5_cost_15 : decode cX5_cost 15 = .ok (.iload_n 2, 1) := by decide +kernel
theorem dX5_cost_16 : decode cX5_cost 16 = .ok (.invokevirtual 106, 3) := by decide +kernel
theorem dX5_cost_19 : decode cX5_cost 19 = .ok (.ifCond .eq 16, 3) := by decide +kernel
theorem dX5_cost_22 : decode cX5_cost 22 = .ok (.aload_n 0, 1) := by decide +kernel
theorem dX5_cost_23 : decode cX5_cost 23 = .ok (.getfield 22, 3) := by decide +kernel
theorem dX5_cost_26 : decode cX5_cost 26 = .ok (.getfield 112, 3) := by decide +kernel
theorem dX5_cost_29 : decode cX5_cost 29 = .ok (.getfield 116, 3) := by decide +kernel
theorem dX5_cost_32 : decode cX5_cost 32 = .ok (.goto 4, 3) := by decide +kernel
theorem dX5_cost_35 : decode cX5_cost 35 = .ok (.iconst (-1), 1) := by decide +kernel
theorem dX5_cost_36 : decode cX5_cost 36 = .ok (.ireturn, 1) := by decide +kernel
theorem dX5_lose_0 : decode cX5_lose 0 = .ok (.aload_n 0, 1) := by decide +kernel
theorem dX5_lose_1 : decode cX5_lose 1 = .ok (.iload_n 1, 1) := by decide +kernel
theorem dX5_lose_2 : decode cX5_lose 2 = .ok (.invokevirtual 64, 3) := by decide +kernel
theorem dX5_lose_5 : decode cX5_lose 5 = .ok (.astore_n 3, 1) := by decide +kernel
theorem dX5_lose_6 : decode cX5_lose 6 = .ok (.iload_n 2, 1) := by decide +kernel
theorem dX5_lose_7 : decode cX5_lose 7 = .ok (.iconst 0, 1) := by decide +kernel
theorem dX5_lose_8 : decode cX5_lose 8 = .ok (.bipush 9, 2) := by decide +kernel
theorem dX5_lose_10 : decode cX5_lose 10 = .ok (.invokestatic 37, 3) := by decide +kernel
theorem dX5_lose_13 : decode cX5_lose 13 = .ok (.aload_n 3, 1) := by decide +kernel
theorem dX5_lose_14 : decode cX5_lose 14 = .ok (.getfield 132, 3) := by decide +kernel
theorem dX5_lose_17 : decode cX5_lose 17 = .ok (.istore 4, 2) := by decide +kernel
theorem dX5_lose_19 : decode cX5_lose 19 = .ok (.aload_n 3, 1) := by decide +kernel
theorem dX5_lose_20 : decode cX5_lose 20 = .ok (.iload_n 2, 1) := by decide +kernel
theorem dX5_lose_21 : decode cX5_lose 21 = .ok (.putfield 132, 3) := by decide +kernel
theorem dX5_lose_24 : decode cX5_lose 24 = .ok (.iload 4, 2) := by decide +kernel
theorem dX5_lose_26 : decode cX5_lose 26 = .ok (.ireturn, 1) := by decide +kernel
theorem dX5_message_0 : decode cX5_message 0 = .ok (.aload_n 0, 1) := by decide +kernel
theorem dX5_message_1 : decode cX5_message 1 = .ok (.iload_n 1, 1) := by decide +kernel
theorem dX5_message_2 : decode cX5_message 2 = .ok (.invokevirtual 135, 3) := by decide +kernel
theorem dX5_message_5 : decode cX5_message 5 = .ok (.astore_n 3, 1) := by decide +kernel
theorem dX5_message_6 : decode cX5_message 6 = .ok (.iload_n 2, 1) := by decide +kernel
theorem dX5_message_7 : decode cX5_message 7 = .ok (.iconst 0, 1) := by decide +kernel
theorem dX5_message_8 : decode cX5_message 8 = .ok (.iconst 5, 1) := by decide +kernel
theorem dX5_message_9 : decode cX5_message 9 = .ok (.invokestatic 37, 3) := by decide +kernel
theorem dX5_message_12 : decode cX5_message 12 = .ok (.iload_n 2, 1) := by decide +kernel
theorem dX5_message_13 : decode cX5_message 13 = .ok (.tableswitch 70 0 4 #[35, 40, 52, 60, 65], 35) := by decide +kernel
theorem dX5_message_48 : decode cX5_message 48 = .ok (.aload_n 3, 1) := by decide +kernel
theorem dX5_message_49 : decode cX5_message 49 = .ok (.getfield 139, 3) := by decide +kernel
theorem dX5_message_52 : decode cX5_message 52 = .ok (.ireturn, 1) := by decide +kernel
theorem dX5_message_53 : decode cX5_message 53 = .ok (.aload_n 3, 1) := by decide +kernel
theorem dX5_message_54 : decode cX5_message 54 = .ok (.getfield 129, 3) := by decide +kernel
theorem dX5_message_57 : decode cX5_message 57 = .ok (.aload_n 3, 1) := by decide +kernel
theorem dX5_message_58 : decode cX5_message 58 = .ok (.getfield 140, 3) := by decide +kernel
theorem dX5_message_61 : decode cX5_message 61 = .ok (.invokevirtual 143, 3) := by decide +kernel
theorem dX5_message_64 : decode cX5_message 64 = .ok (.ireturn, 1) := by decide +kernel
theorem dX5_message_65 : decode cX5_message 65 = .ok (.aload_n 3, 1) := by decide +kernel
theorem dX5_message_66 : decode cX5_message 66 = .ok (.getfield 129, 3) := by decide +kernel
theorem dX5_message_69 : decode cX5_message 69 = .ok (.getfield 116, 3) := by decide +kernel
theorem dX5_message_72 : decode cX5_message 72 = .ok (.ireturn, 1) := by decide +kernel
theorem dX5_message_73 : decode cX5_message 73 = .ok (.aload_n 3, 1) := by decide +kernel
theorem dX5_message_74 : decode cX5_message 74 = .ok (.getfield 147, 3) := by decide +kernel
theorem dX5_message_77 : decode cX5_message 77 = .ok (.ireturn, 1) := by decide +kernel
theorem dX5_message_78 : decode cX5_message 78 = .ok (.aload_n 3, 1) := by decide +kernel
theorem dX5_message_79 : decode cX5_message 79 = .ok (.getfield 150, 3) := by decide +kernel
theorem dX5_message_82 : decode cX5_message 82 = .ok (.ireturn, 1) := by decide +kernel
theorem dX5_message_83 : decode cX5_message 83 = .ok (.aload_n 3, 1) := by decide +kernel
theorem dX5_message_84 : decode cX5_message 84 = .ok (.getfield 153, 3) := by decide +kernel
theorem dX5_message_87 : decode cX5_message 87 = .ok (.ireturn, 1) := by decide +kernel
theorem dX5_way_0 : decode cX5_way 0 = .ok (.aload_n 0, 1) := by decide +kernel
theorem dX5_way_1 : decode cX5_way 1 = .ok (.iload_n 1, 1) := by decide +kernel
theorem dX5_way_2 : decode cX5_way 2 = .ok (.invokevirtual 135, 3) := by decide +kernel
theorem dX5_way_5 : decode cX5_way 5 = .ok (.astore_n 3, 1) := by decide +kernel
theorem dX5_way_6 : decode cX5_way 6 = .ok (.iload_n 2, 1) := by decide +kernel
theorem dX5_way_7 : decode cX5_way 7 = .ok (.ifCond .ge 13, 3) := by decide +kernel
theorem dX5_way_10 : decode cX5_way 10 = .ok (.new 156, 3) := by decide +kernel
theorem dX5_way_13 : decode cX5_way 13 = .ok (.dup, 1) := by decide +kernel
theorem dX5_way_14 : decode cX5_way 14 = .ok (.ldc 158, 2) := by decide +kernel
theorem dX5_way_16 : decode cX5_way 16 = .ok (.invokespecial 160, 3) := by decide +kernel
theorem dX5_way_19 : decode cX5_way 19 = .ok (.athrow, 1) := by decide +kernel
theorem dX5_way_20 : decode cX5_way 20 = .ok (.aload_n 3, 1) := by decide +kernel
theorem dX5_way_21 : decode cX5_way 21 = .ok (.getfield 129, 3) := by decide +kernel
theorem dX5_way_24 : decode cX5_way 24 = .ok (.iload_n 2, 1) := by decide +kernel
theorem dX5_way_25 : decode cX5_way 25 = .ok (.invokevirtual 143, 3) := by decide +kernel
theorem dX5_way_28 : decode cX5_way 28 = .ok (.ireturn, 1) := by decide +kernel
theorem dX5_wake_0 : decode cX5_wake 0 = .ok (.aload_n 0, 1) := by decide +kernel
theorem dX5_wake_1 : decode cX5_wake 1 = .ok (.iload_n 1, 1) := by decide +kernel
theorem dX5_wake_2 : decode cX5_wake 2 = .ok (.invokevirtual 64, 3) := by decide +kernel
theorem dX5_wake_5 : decode cX5_wake 5 = .ok (.pop, 1) := by decide +kernel
theorem dX5_wake_6 : decode cX5_wake 6 = .ok (.aload_n 0, 1) := by decide +kernel
theorem dX5_wake_7 : decode cX5_wake 7 = .ok (.getfield 29, 3) := by decide +kernel
theorem dX5_wake_10 : decode cX5_wake 10 = .ok (.aload_n 0, 1) := by decide +kernel
theorem dX5_wake_11 : decode cX5_wake 11 = .ok (.getfield 33, 3) := by decide +kernel
theorem dX5_wake_14 : decode cX5_wake 14 = .ok (.invokevirtual 161, 3) := by decide +kernel
theorem dX5_wake_17 : decode cX5_wake 17 = .ok (.iload_n 1, 1) := by decide +kernel
theorem dX5_wake_18 : decode cX5_wake 18 = .ok (.if_icmp .eq 5, 3) := by decide +kernel
theorem dX5_wake_21 : decode cX5_wake 21 = .ok (.iconst 0, 1) := by decide +kernel
theorem dX5_wake_22 : decode cX5_wake 22 = .ok (.ireturn, 1) := by decide +kernel
theorem dX5_wake_23 : decode cX5_wake 23 = .ok (.aload_n 0, 1) := by decide +kernel
theorem dX5_wake_24 : decode cX5_wake 24 = .ok (.getfield 29, 3) := by decide +kernel
theorem dX5_wake_27 : decode cX5_wake 27 = .ok (.aload_n 0, 1) := by decide +kernel
theorem dX5_wake_28 : decode cX5_wake 28 = .ok (.getfield 33, 3) := by decide +kernel
theorem dX5_wake_31 : decode cX5_wake 31 = .ok (.invokevirtual 164, 3) := by decide +kernel
theorem dX5_wake_34 : decode cX5_wake 34 = .ok (.iconst 1, 1) := by decide +kernel
theorem dX5_wake_35 : decode cX5_wake 35 = .ok (.ireturn, 1) := by decide +kernel
theorem dX5_prove_0 : decode cX5_prove 0 = .ok (.aload_n 0, 1) := by decide +kernel
theorem dX5_prove_1 : decode cX5_prove 1 = .ok (.iload_n 1, 1) := by decide +kernel
theorem dX5_prove_2 : decode cX5_prove 2 = .ok (.invokevirtual 64, 3) := by decide +kernel
theorem dX5_prove_5 : decode cX5_prove 5 = .ok (.astore_n 3, 1) := by decide +kernel
theorem dX5_prove_6 : decode cX5_prove 6 = .ok (.iload_n 2, 1) := by decide +kernel
theorem dX5_prove_7 : decode cX5_prove 7 = .ok (.iconst 0, 1) := by decide +kernel
theorem dX5_prove_8 : decode cX5_prove 8 = .ok (.sipush 9999, 3) := by decide +kernel
theorem dX5_prove_11 : decode cX5_prove 11 = .ok (.invokestatic 37, 3) := by decide +kernel
theorem dX5_prove_14 : decode cX5_prove 14 = .ok (.iload_n 2, 1) := by decide +kernel
theorem dX5_prove_15 : decode cX5_prove 15 = .ok (.aload_n 0, 1) := by decide +kernel
theorem dX5_prove_16 : decode cX5_prove 16 = .ok (.getfield 33, 3) := by decide +kernel
theorem dX5_prove_19 : decode cX5_prove 19 = .ok (.if_icmp .ge 14, 3) := by decide +kernel
theorem dX5_prove_22 : decode cX5_prove 22 = .ok (.iload_n 2, 1) := by decide +kernel
theorem dX5_prove_23 : decode cX5_prove 23 = .ok (.aload_n 0, 1) := by decide +kernel
theorem dX5_prove_24 : decode cX5_prove 24 = .ok (.getfield 33, 3) := by decide +kernel
theorem dX5_prove_27 : decode cX5_prove 27 = .ok (.bipush 10, 2) := by decide +kernel
theorem dX5_prove_29 : decode cX5_prove 29 = .ok (.isub, 1) := by decide +kernel
theorem dX5_prove_30 : decode cX5_prove 30 = .ok (.if_icmp .ge 13, 3) := by decide +kernel
theorem dX5_prove_33 : decode cX5_prove 33 = .ok (.new 45, 3) := by decide +kernel
theorem dX5_prove_36 : decode cX5_prove 36 = .ok (.dup, 1) := by decide +kernel
theorem dX5_prove_37 : decode cX5_prove 37 = .ok (.ldc 167, 2) := by decide +kernel
theorem dX5_prove_39 : decode cX5_prove 39 = .ok (.invokespecial 49, 3) := by decide +kernel
theorem dX5_prove_42 : decode cX5_prove 42 = .ok (.athrow, 1) := by decide +kernel
theorem dX5_prove_43 : decode cX5_prove 43 = .ok (.aload_n 0, 1) := by decide +kernel
theorem dX5_prove_44 : decode cX5_prove 44 = .ok (.iload_n 1, 1) := by decide +kernel
theorem dX5_prove_45 : decode cX5_prove 45 = .ok (.iload_n 2, 1) := by decide +kernel
theorem dX5_prove_46 : decode cX5_prove 46 = .ok (.invokevirtual 169, 3) := by decide +kernel
theorem dX5_prove_49 : decode cX5_prove 49 = .ok (.aload_n 0, 1) := by decide +kernel
theorem dX5_prove_50 : decode cX5_prove 50 = .ok (.iload_n 1, 1) := by decide +kernel
theorem dX5_prove_51 : decode cX5_prove 51 = .ok (.iload_n 2, 1) := by decide +kernel
theorem dX5_prove_52 : decode cX5_prove 52 = .ok (.invokevirtual 172, 3) := by decide +kernel
theorem dX5_prove_55 : decode cX5_prove 55 = .ok (.aload_n 0, 1) := by decide +kernel
theorem dX5_prove_56 : decode cX5_prove 56 = .ok (.aload_n 0, 1) := by decide +kernel
theorem dX5_prove_57 : decode cX5_prove 57 = .ok (.getfield 29, 3) := by decide +kernel
theorem dX5_prove_60 : decode cX5_prove 60 = .ok (.iload_n 2, 1) := by decide +kernel
theorem dX5_prove_61 : decode cX5_prove 61 = .ok (.invokevirtual 161, 3) := by decide +kernel
theorem dX5_prove_64 : decode cX5_prove 64 = .ok (.invokevirtual 64, 3) := by decide +kernel
theorem dX5_prove_67 : decode cX5_prove 67 = .ok (.astore 4, 2) := by decide +kernel
theorem dX5_prove_69 : decode cX5_prove 69 = .ok (.aload 4, 2) := by decide +kernel
theorem dX5_prove_71 : decode cX5_prove 71 = .ok (.bipush 10, 2) := by decide +kernel
theorem dX5_prove_73 : decode cX5_prove 73 = .ok (.invokevirtual 175, 3) := by decide +kernel
theorem dX5_prove_76 : decode cX5_prove 76 = .ok (.istore 5, 2) := by decide +kernel
theorem dX5_prove_78 : decode cX5_prove 78 = .ok (.aload_n 3, 1) := by decide +kernel
theorem dX5_prove_79 : decode cX5_prove 79 = .ok (.dup, 1) := by decide +kernel
theorem dX5_prove_80 : decode cX5_prove 80 = .ok (.getfield 126, 3) := by decide +kernel
theorem dX5_prove_83 : decode cX5_prove 83 = .ok (.iload 5, 2) := by decide +kernel
theorem dX5_prove_85 : decode cX5_prove 85 = .ok (.iadd, 1) := by decide +kernel
theorem dX5_prove_86 : decode cX5_prove 86 = .ok (.putfield 126, 3) := by decide +kernel
theorem dX5_prove_89 : decode cX5_prove 89 = .ok (.aload 4, 2) := by decide +kernel
theorem dX5_prove_91 : decode cX5_prove 91 = .ok (.bipush 10, 2) := by decide +kernel
theorem dX5_prove_93 : decode cX5_prove 93 = .ok (.invokevirtual 178, 3) := by decide +kernel
theorem dX5_prove_96 : decode cX5_prove 96 = .ok (.aload_n 0, 1) := by decide +kernel
theorem dX5_prove_97 : decode cX5_prove 97 = .ok (.getfield 29, 3) := by decide +kernel
theorem dX5_prove_100 : decode cX5_prove 100 = .ok (.iload_n 2, 1) := by decide +kernel
theorem dX5_prove_101 : decode cX5_prove 101 = .ok (.invokevirtual 181, 3) := by decide +kernel
theorem dX5_prove_104 : decode cX5_prove 104 = .ok (.iload 5, 2) := by decide +kernel
theorem dX5_prove_106 : decode cX5_prove 106 = .ok (.ireturn, 1) := by decide +kernel
theorem dX5_watcher_0 : decode cX5_watcher 0 = .ok (.aload_n 0, 1) := by decide +kernel
theorem dX5_watcher_1 : decode cX5_watcher 1 = .ok (.getfield 29, 3) := by decide +kernel
theorem dX5_watcher_4 : decode cX5_watcher 4 = .ok (.aload_n 0, 1) := by decide +kernel
theorem dX5_watcher_5 : decode cX5_watcher 5 = .ok (.getfield 33, 3) := by decide +kernel
theorem dX5_watcher_8 : decode cX5_watcher 8 = .ok (.invokevirtual 161, 3) := by decide +kernel
theorem dX5_watcher_11 : decode cX5_watcher 11 = .ok (.ireturn, 1) := by decide +kernel
theorem dX5_pass_0 : decode cX5_pass 0 = .ok (.iload_n 1, 1) := by decide +kernel
theorem dX5_pass_1 : decode cX5_pass 1 = .ok (.iconst 1, 1) := by decide +kernel
theorem dX5_pass_2 : decode cX5_pass 2 = .ok (.bipush 30, 2) := by decide +kernel
theorem dX5_pass_4 : decode cX5_pass 4 = .ok (.invokestatic 37, 3) := by decide +kernel
theorem dX5_pass_7 : decode cX5_pass 7 = .ok (.iload_n 1, 1) := by decide +kernel
theorem dX5_pass_8 : decode cX5_pass 8 = .ok (.sipush 5000, 3) := by decide +kernel
theorem dX5_pass_11 : decode cX5_pass 11 = .ok (.aload_n 0, 1) := by decide +kernel
theorem dX5_pass_12 : decode cX5_pass 12 = .ok (.getfield 33, 3) := by decide +kernel
theorem dX5_pass_15 : decode cX5_pass 15 = .ok (.isub, 1) := by decide +kernel
theorem dX5_pass_16 : decode cX5_pass 16 = .ok (.if_icmp .le 13, 3) := by decide +kernel
theorem dX5_pass_19 : decode cX5_pass 19 = .ok (.new 45, 3) := by decide +kernel
theorem dX5_pass_22 : decode cX5_pass 22 = .ok (.dup, 1) := by decide +kernel
theorem dX5_pass_23 : decode cX5_pass 23 = .ok (.ldc 184, 2) := by decide +kernel
theorem dX5_pass_25 : decode cX5_pass 25 = .ok (.invokespecial 49, 3) := by decide +kernel
theorem dX5_pass_28 : decode cX5_pass 28 = .ok (.athrow, 1) := by decide +kernel
theorem dX5_pass_29 : decode cX5_pass 29 = .ok (.iconst 0, 1) := by decide +kernel
theorem dX5_pass_30 : decode cX5_pass 30 = .ok (.istore_n 2, 1) := by decide +kernel
theorem dX5_pass_31 : decode cX5_pass 31 = .ok (.iload_n 2, 1) := by decide +kernel
theorem dX5_pass_32 : decode cX5_pass 32 = .ok (.iload_n 1, 1) := by decide +kernel
theorem dX5_pass_33 : decode cX5_pass 33 = .ok (.if_icmp .ge 17, 3) := by decide +kernel
theorem dX5_pass_36 : decode cX5_pass 36 = .ok (.aload_n 0, 1) := by decide +kernel
theorem dX5_pass_37 : decode cX5_pass 37 = .ok (.invokevirtual 186, 3) := by decide +kernel
theorem dX5_pass_40 : decode cX5_pass 40 = .ok (.aload_n 0, 1) := by decide +kernel
theorem dX5_pass_41 : decode cX5_pass 41 = .ok (.invokevirtual 189, 3) := by decide +kernel
theorem dX5_pass_44 : decode cX5_pass 44 = .ok (.iinc 2 1, 3) := by decide +kernel
theorem dX5_pass_47 : decode cX5_pass 47 = .ok (.goto (-16), 3) := by decide +kernel
theorem dX5_pass_50 : decode cX5_pass 50 = .ok (.aload_n 0, 1) := by decide +kernel
theorem dX5_pass_51 : decode cX5_pass 51 = .ok (.getfield 33, 3) := by decide +kernel
theorem dX5_pass_54 : decode cX5_pass 54 = .ok (.ireturn, 1) := by decide +kernel
theorem dX5_nodeIs_0 : decode cX5_nodeIs 0 = .ok (.aload_n 0, 1) := by decide +kernel
theorem dX5_nodeIs_1 : decode cX5_nodeIs 1 = .ok (.iload_n 1, 1) := by decide +kernel
theorem dX5_nodeIs_2 : decode cX5_nodeIs 2 = .ok (.invokevirtual 64, 3) := by decide +kernel
theorem dX5_nodeIs_5 : decode cX5_nodeIs 5 = .ok (.astore_n 3, 1) := by decide +kernel
theorem dX5_nodeIs_6 : decode cX5_nodeIs 6 = .ok (.iload_n 2, 1) := by decide +kernel
theorem dX5_nodeIs_7 : decode cX5_nodeIs 7 = .ok (.iconst 0, 1) := by decide +kernel
theorem dX5_nodeIs_8 : decode cX5_nodeIs 8 = .ok (.bipush 6, 2) := by decide +kernel
theorem dX5_nodeIs_10 : decode cX5_nodeIs 10 = .ok (.invokestatic 37, 3) := by decide +kernel
theorem dX5_nodeIs_13 : decode cX5_nodeIs 13 = .ok (.iload_n 2, 1) := by decide +kernel
theorem dX5_nodeIs_14 : decode cX5_nodeIs 14 = .ok (.tableswitch 68 0 5 #[38, 43, 48, 53, 58, 63], 38) := by decide +kernel
theorem dX5_nodeIs_52 : decode cX5_nodeIs 52 = .ok (.aload_n 3, 1) := by decide +kernel
theorem dX5_nodeIs_53 : decode cX5_nodeIs 53 = .ok (.getfield 126, 3) := by decide +kernel
theorem dX5_nodeIs_56 : decode cX5_nodeIs 56 = .ok (.ireturn, 1) := by decide +kernel
theorem dX5_nodeIs_57 : decode cX5_nodeIs 57 = .ok (.aload_n 3, 1) := by decide +kernel
theorem dX5_nodeIs_58 : decode cX5_nodeIs 58 = .ok (.getfield 92, 3) := by decide +kernel
theorem dX5_nodeIs_61 : decode cX5_nodeIs 61 = .ok (.ireturn, 1) := by decide +kernel
theorem dX5_nodeIs_62 : decode cX5_nodeIs 62 = .ok (.aload_n 3, 1) := by decide +kernel
theorem dX5_nodeIs_63 : decode cX5_nodeIs 63 = .ok (.getfield 192, 3) := by decide +kernel
theorem dX5_nodeIs_66 : decode cX5_nodeIs 66 = .ok (.ireturn, 1) := by decide +kernel
theorem dX5_nodeIs_67 : decode cX5_nodeIs 67 = .ok (.aload_n 3, 1) := by decide +kernel
theorem dX5_nodeIs_68 : decode cX5_nodeIs 68 = .ok (.getfield 79, 3) := by decide +kernel
theorem dX5_nodeIs_71 : decode cX5_nodeIs 71 = .ok (.ireturn, 1) := by decide +kernel
theorem dX5_nodeIs_72 : decode cX5_nodeIs 72 = .ok (.aload_n 3, 1) := by decide +kernel
theorem dX5_nodeIs_73 : decode cX5_nodeIs 73 = .ok (.getfield 195, 3) := by decide +kernel
theorem dX5_nodeIs_76 : decode cX5_nodeIs 76 = .ok (.ireturn, 1) := by decide +kernel
theorem dX5_nodeIs_77 : decode cX5_nodeIs 77 = .ok (.aload_n 3, 1) := by decide +kernel
theorem dX5_nodeIs_78 : decode cX5_nodeIs 78 = .ok (.getfield 198, 3) := by decide +kernel
theorem dX5_nodeIs_81 : decode cX5_nodeIs 81 = .ok (.ireturn, 1) := by decide +kernel
theorem dX5_nodeIs_82 : decode cX5_nodeIs 82 = .ok (.aload_n 3, 1) := by decide +kernel
theorem dX5_nodeIs_83 : decode cX5_nodeIs 83 = .ok (.getfield 97, 3) := by decide +kernel
theorem dX5_nodeIs_86 : decode cX5_nodeIs 86 = .ok (.ireturn, 1) := by decide +kernel
theorem dX5_paidAnew_0 : decode cX5_paidAnew 0 = .ok (.aload_n 0, 1) := by decide +kernel
theorem dX5_paidAnew_1 : decode cX5_paidAnew 1 = .ok (.iload_n 1, 1) := by decide +kernel
theorem dX5_paidAnew_2 : decode cX5_paidAnew 2 = .ok (.invokevirtual 64, 3) := by decide +kernel
theorem dX5_paidAnew_5 : decode cX5_paidAnew 5 = .ok (.pop, 1) := by decide +kernel
theorem dX5_paidAnew_6 : decode cX5_paidAnew 6 = .ok (.iconst 0, 1) := by decide +kernel
theorem dX5_paidAnew_7 : decode cX5_paidAnew 7 = .ok (.istore_n 2, 1) := by decide +kernel
theorem dX5_paidAnew_8 : decode cX5_paidAnew 8 = .ok (.iconst 0, 1) := by decide +kernel
theorem dX5_paidAnew_9 : decode cX5_paidAnew 9 = .ok (.istore_n 3, 1) := by decide +kernel
theorem dX5_paidAnew_10 : decode cX5_paidAnew 10 = .ok (.iload_n 3, 1) := by decide +kernel
theorem dX5_paidAnew_11 : decode cX5_paidAnew 11 = .ok (.aload_n 0, 1) := by decide +kernel
theorem dX5_paidAnew_12 : decode cX5_paidAnew 12 = .ok (.getfield 16, 3) := by decide +kernel
theorem dX5_paidAnew_15 : decode cX5_paidAnew 15 = .ok (.invokevirtual 41, 3) := by decide +kernel
theorem dX5_paidAnew_18 : decode cX5_paidAnew 18 = .ok (.if_icmp .ge 39, 3) := by decide +kernel
theorem dX5_paidAnew_21 : decode cX5_paidAnew 21 = .ok (.aload_n 0, 1) := by decide +kernel
theorem dX5_paidAnew_22 : decode cX5_paidAnew 22 = .ok (.getfield 16, 3) := by decide +kernel
theorem dX5_paidAnew_25 : decode cX5_paidAnew 25 = .ok (.iload_n 3, 1) := by decide +kernel
theorem dX5_paidAnew_26 : decode cX5_paidAnew 26 = .ok (.invokevirtual 199, 3) := by decide +kernel
theorem dX5_paidAnew_29 : decode cX5_paidAnew 29 = .ok (.checkcast 121, 3) := by decide +kernel
theorem dX5_paidAnew_32 : decode cX5_paidAnew 32 = .ok (.astore 4, 2) := by decide +kernel
theorem dX5_paidAnew_34 : decode cX5_paidAnew 34 = .ok (.aload 4, 2) := by decide +kernel
theorem dX5_paidAnew_36 : decode cX5_paidAnew 36 = .ok (.getfield 139, 3) := by decide +kernel
theorem dX5_paidAnew_39 : decode cX5_paidAnew 39 = .ok (.ifCond .eq 12, 3) := by decide +kernel
theorem dX5_paidAnew_42 : decode cX5_paidAnew 42 = .ok (.iload_n 2, 1) := by decide +kernel
theorem dX5_paidAnew_43 : decode cX5_paidAnew 43 = .ok (.aload 4, 2) := by decide +kernel
theorem dX5_paidAnew_45 : decode cX5_paidAnew 45 = .ok (.iload_n 1, 1) := by decide +kernel
theorem dX5_paidAnew_46 : decode cX5_paidAnew 46 = .ok (.invokevirtual 203, 3) := by decide +kernel
theorem dX5_paidAnew_49 : decode cX5_paidAnew 49 = .ok (.iadd, 1) := by decide +kernel
theorem dX5_paidAnew_50 : decode cX5_paidAnew 50 = .ok (.istore_n 2, 1) := by decide +kernel
theorem dX5_paidAnew_51 : decode cX5_paidAnew 51 = .ok (.iinc 3 1, 3) := by decide +kernel
theorem dX5_paidAnew_54 : decode cX5_paidAnew 54 = .ok (.goto (-44), 3) := by decide +kernel
theorem dX5_paidAnew_57 : decode cX5_paidAnew 57 = .ok (.iload_n 2, 1) := by decide +kernel
theorem dX5_paidAnew_58 : decode cX5_paidAnew 58 = .ok (.ireturn, 1) := by decide +kernel
theorem dX5_money_0 : decode cX5_money 0 = .ok (.iconst 0, 1) := by decide +kernel
theorem dX5_money_1 : decode cX5_money 1 = .ok (.istore_n 1, 1) := by decide +kernel
theorem dX5_money_2 : decode cX5_money 2 = .ok (.iconst 0, 1) := by decide +kernel
theorem dX5_money_3 : decode cX5_money 3 = .ok (.istore_n 2, 1) := by decide +kernel
theorem dX5_money_4 : decode cX5_money 4 = .ok (.iload_n 2, 1) := by decide +kernel
theorem dX5_money_5 : decode cX5_money 5 = .ok (.aload_n 0, 1) := by decide +kernel
theorem dX5_money_6 : decode cX5_money 6 = .ok (.getfield 10, 3) := by decide +kernel
theorem dX5_money_9 : decode cX5_money 9 = .ok (.invokevirtual 41, 3) := by decide +kernel
theorem dX5_money_12 : decode cX5_money 12 = .ok (.if_icmp .ge 33, 3) := by decide +kernel
theorem dX5_money_15 : decode cX5_money 15 = .ok (.aload_n 0, 1) := by decide +kernel
theorem dX5_money_16 : decode cX5_money 16 = .ok (.getfield 10, 3) := by decide +kernel
theorem dX5_money_19 : decode cX5_money 19 = .ok (.iload_n 2, 1) := by decide +kernel
theorem dX5_money_20 : decode cX5_money 20 = .ok (.invokevirtual 199, 3) := by decide +kernel
theorem dX5_money_23 : decode cX5_money 23 = .ok (.checkcast 52, 3) := by decide +kernel
theorem dX5_money_26 : decode cX5_money 26 = .ok (.astore_n 3, 1) := by decide +kernel
theorem dX5_money_27 : decode cX5_money 27 = .ok (.iload_n 1, 1) := by decide +kernel
theorem dX5_money_28 : decode cX5_money 28 = .ok (.aload_n 3, 1) := by decide +kernel
theorem dX5_money_29 : decode cX5_money 29 = .ok (.getfield 126, 3) := by decide +kernel
theorem dX5_money_32 : decode cX5_money 32 = .ok (.aload_n 3, 1) := by decide +kernel
theorem dX5_money_33 : decode cX5_money 33 = .ok (.getfield 92, 3) := by decide +kernel
theorem dX5_money_36 : decode cX5_money 36 = .ok (.iadd, 1) := by decide +kernel
theorem dX5_money_37 : decode cX5_money 37 = .ok (.iadd, 1) := by decide +kernel
theorem dX5_money_38 : decode cX5_money 38 = .ok (.istore_n 1, 1) := by decide +kernel
theorem dX5_money_39 : decode cX5_money 39 = .ok (.iinc 2 1, 3) := by decide +kernel
theorem dX5_money_42 : decode cX5_money 42 = .ok (.goto (-38), 3) := by decide +kernel
theorem dX5_money_45 : decode cX5_money 45 = .ok (.iconst 0, 1) := by decide +kernel
theorem dX5_money_46 : decode cX5_money 46 = .ok (.istore_n 2, 1) := by decide +kernel
theorem dX5_money_47 : decode cX5_money 47 = .ok (.iload_n 2, 1) := by decide +kernel
theorem dX5_money_48 : decode cX5_money 48 = .ok (.aload_n 0, 1) := by decide +kernel
theorem dX5_money_49 : decode cX5_money 49 = .ok (.getfield 16, 3) := by decide +kernel
theorem dX5_money_52 : decode cX5_money 52 = .ok (.invokevirtual 41, 3) := by decide +kernel
theorem dX5_money_55 : decode cX5_money 55 = .ok (.if_icmp .ge 38, 3) := by decide +kernel
theorem dX5_money_58 : decode cX5_money 58 = .ok (.aload_n 0, 1) := by decide +kernel
theorem dX5_money_59 : decode cX5_money 59 = .ok (.getfield 16, 3) := by decide +kernel
theorem dX5_money_62 : decode cX5_money 62 = .ok (.iload_n 2, 1) := by decide +kernel
theorem dX5_money_63 : decode cX5_money 63 = .ok (.invokevirtual 199, 3) := by decide +kernel
theorem dX5_money_66 : decode cX5_money 66 = .ok (.checkcast 121, 3) := by decide +kernel
theorem dX5_money_69 : decode cX5_money 69 = .ok (.astore_n 3, 1) := by decide +kernel
theorem dX5_money_70 : decode cX5_money 70 = .ok (.aload_n 3, 1) := by decide +kernel
theorem dX5_money_71 : decode cX5_money 71 = .ok (.getfield 139, 3) := by decide +kernel
theorem dX5_money_74 : decode cX5_money 74 = .ok (.ifCond .ne 13, 3) := by decide +kernel
theorem dX5_money_77 : decode cX5_money 77 = .ok (.iload_n 1, 1) := by decide +kernel
theorem dX5_money_78 : decode cX5_money 78 = .ok (.aload_n 3, 1) := by decide +kernel
theorem dX5_money_79 : decode cX5_money 79 = .ok (.getfield 129, 3) := by decide +kernel
theorem dX5_money_82 : decode cX5_money 82 = .ok (.getfield 116, 3) := by decide +kernel
theorem dX5_money_85 : decode cX5_money 85 = .ok (.iadd, 1) := by decide +kernel
theorem dX5_money_86 : decode cX5_money 86 = .ok (.istore_n 1, 1) := by decide +kernel
theorem dX5_money_87 : decode cX5_money 87 = .ok (.iinc 2 1, 3) := by decide +kernel
theorem dX5_money_90 : decode cX5_money 90 = .ok (.goto (-43), 3) := by decide +kernel
theorem dX5_money_93 : decode cX5_money 93 = .ok (.iload_n 1, 1) := by decide +kernel
theorem dX5_money_94 : decode cX5_money 94 = .ok (.ireturn, 1) := by decide +kernel
theorem dX5_nodeAt_0 : decode cX5_nodeAt 0 = .ok (.iload_n 1, 1) := by decide +kernel
theorem dX5_nodeAt_1 : decode cX5_nodeAt 1 = .ok (.ifCond .lt 14, 3) := by decide +kernel
theorem dX5_nodeAt_4 : decode cX5_nodeAt 4 = .ok (.iload_n 1, 1) := by decide +kernel
theorem dX5_nodeAt_5 : decode cX5_nodeAt 5 = .ok (.aload_n 0, 1) := by decide +kernel
theorem dX5_nodeAt_6 : decode cX5_nodeAt 6 = .ok (.getfield 10, 3) := by decide +kernel
theorem dX5_nodeAt_9 : decode cX5_nodeAt 9 = .ok (.invokevirtual 41, 3) := by decide +kernel
theorem dX5_nodeAt_12 : decode cX5_nodeAt 12 = .ok (.if_icmp .lt 13, 3) := by decide +kernel
theorem dX5_nodeAt_15 : decode cX5_nodeAt 15 = .ok (.new 156, 3) := by decide +kernel
theorem dX5_nodeAt_18 : decode cX5_nodeAt 18 = .ok (.dup, 1) := by decide +kernel
theorem dX5_nodeAt_19 : decode cX5_nodeAt 19 = .ok (.ldc 206, 2) := by decide +kernel
theorem dX5_nodeAt_21 : decode cX5_nodeAt 21 = .ok (.invokespecial 160, 3) := by decide +kernel
theorem dX5_nodeAt_24 : decode cX5_nodeAt 24 = .ok (.athrow, 1) := by decide +kernel
theorem dX5_nodeAt_25 : decode cX5_nodeAt 25 = .ok (.aload_n 0, 1) := by decide +kernel
theorem dX5_nodeAt_26 : decode cX5_nodeAt 26 = .ok (.getfield 10, 3) := by decide +kernel
theorem dX5_nodeAt_29 : decode cX5_nodeAt 29 = .ok (.iload_n 1, 1) := by decide +kernel
theorem dX5_nodeAt_30 : decode cX5_nodeAt 30 = .ok (.invokevirtual 199, 3) := by decide +kernel
theorem dX5_nodeAt_33 : decode cX5_nodeAt 33 = .ok (.checkcast 52, 3) := by decide +kernel
theorem dX5_nodeAt_36 : decode cX5_nodeAt 36 = .ok (.areturn, 1) := by decide +kernel
theorem dX5_messageAt_0 : decode cX5_messageAt 0 = .ok (.iload_n 1, 1) := by decide +kernel
theorem dX5_messageAt_1 : decode cX5_messageAt 1 = .ok (.ifCond .lt 14, 3) := by decide +kernel
theorem dX5_messageAt_4 : decode cX5_messageAt 4 = .ok (.iload_n 1, 1) := by decide +kernel
theorem dX5_messageAt_5 : decode cX5_messageAt 5 = .ok (.aload_n 0, 1) := by decide +kernel
theorem dX5_messageAt_6 : decode cX5_messageAt 6 = .ok (.getfield 16, 3) := by decide +kernel
theorem dX5_messageAt_9 : decode cX5_messageAt 9 = .ok (.invokevirtual 41, 3) := by decide +kernel
theorem dX5_messageAt_12 : decode cX5_messageAt 12 = .ok (.if_icmp .lt 13, 3) := by decide +kernel
theorem dX5_messageAt_15 : decode cX5_messageAt 15 = .ok (.new 156, 3) := by decide +kernel
theorem dX5_messageAt_18 : decode cX5_messageAt 18 = .ok (.dup, 1) := by decide +kernel
theorem dX5_messageAt_19 : decode cX5_messageAt 19 = .ok (.ldc 208, 2) := by decide +kernel
theorem dX5_messageAt_21 : decode cX5_messageAt 21 = .ok (.invokespecial 160, 3) := by decide +kernel
theorem dX5_messageAt_24 : decode cX5_messageAt 24 = .ok (.athrow, 1) := by decide +kernel
theorem dX5_messageAt_25 : decode cX5_messageAt 25 = .ok (.aload_n 0, 1) := by decide +kernel
theorem dX5_messageAt_26 : decode cX5_messageAt 26 = .ok (.getfield 16, 3) := by decide +kernel
theorem dX5_messageAt_29 : decode cX5_messageAt 29 = .ok (.iload_n 1, 1) := by decide +kernel
theorem dX5_messageAt_30 : decode cX5_messageAt 30 = .ok (.invokevirtual 199, 3) := by decide +kernel
theorem dX5_messageAt_33 : decode cX5_messageAt 33 = .ok (.checkcast 121, 3) := by decide +kernel
theorem dX5_messageAt_36 : decode cX5_messageAt 36 = .ok (.areturn, 1) := by decide +kernel
theorem dX5_checkPair_0 : decode cX5_checkPair 0 = .ok (.aload_n 0, 1) := by decide +kernel
theorem dX5_checkPair_1 : decode cX5_checkPair 1 = .ok (.iload_n 1, 1) := by decide +kernel
theorem dX5_checkPair_2 : decode cX5_checkPair 2 = .ok (.invokevirtual 64, 3) := by decide +kernel
theorem dX5_checkPair_5 : decode cX5_checkPair 5 = .ok (.pop, 1) := by decide +kernel
theorem dX5_checkPair_6 : decode cX5_checkPair 6 = .ok (.aload_n 0, 1) := by decide +kernel
theorem dX5_checkPair_7 : decode cX5_checkPair 7 = .ok (.iload_n 2, 1) := by decide +kernel
theorem dX5_checkPair_8 : decode cX5_checkPair 8 = .ok (.invokevirtual 64, 3) := by decide +kernel
theorem dX5_checkPair_11 : decode cX5_checkPair 11 = .ok (.pop, 1) := by decide +kernel
theorem dX5_checkPair_12 : decode cX5_checkPair 12 = .ok (.iload_n 1, 1) := by decide +kernel
theorem dX5_checkPair_13 : decode cX5_checkPair 13 = .ok (.iload_n 2, 1) := by decide +kernel
theorem dX5_checkPair_14 : decode cX5_checkPair 14 = .ok (.if_icmp .ne 13, 3) := by decide +kernel
theorem dX5_checkPair_17 : decode cX5_checkPair 17 = .ok (.new 210, 3) := by decide +kernel
theorem dX5_checkPair_20 : decode cX5_checkPair 20 = .ok (.dup, 1) := by decide +kernel
theorem dX5_checkPair_21 : decode cX5_checkPair 21 = .ok (.ldc 212, 2) := by decide +kernel
theorem dX5_checkPair_23 : decode cX5_checkPair 23 = .ok (.invokespecial 214, 3) := by decide +kernel
theorem dX5_checkPair_26 : decode cX5_checkPair 26 = .ok (.athrow, 1) := by decide +kernel
theorem dX5_checkPair_27 : decode cX5_checkPair 27 = .ok (.return_, 1) := by decide +kernel
theorem dX5_checkRange_0 : decode cX5_checkRange 0 = .ok (.iload_n 0, 1) := by decide +kernel
theorem dX5_checkRange_1 : decode cX5_checkRange 1 = .ok (.iload_n 1, 1) := by decide +kernel
theorem dX5_checkRange_2 : decode cX5_checkRange 2 = .ok (.if_icmp .lt 8, 3) := by decide +kernel
theorem dX5_checkRange_5 : decode cX5_checkRange 5 = .ok (.iload_n 0, 1) := by decide +kernel
theorem dX5_checkRange_6 : decode cX5_checkRange 6 = .ok (.iload_n 2, 1) := by decide +kernel
theorem dX5_checkRange_7 : decode cX5_checkRange 7 = .ok (.if_icmp .le 13, 3) := by decide +kernel
theorem dX5_checkRange_10 : decode cX5_checkRange 10 = .ok (.new 210, 3) := by decide +kernel
theorem dX5_checkRange_13 : decode cX5_checkRange 13 = .ok (.dup, 1) := by decide +kernel
theorem dX5_checkRange_14 : decode cX5_checkRange 14 = .ok (.ldc 215, 2) := by decide +kernel
theorem dX5_checkRange_16 : decode cX5_checkRange 16 = .ok (.invokespecial 214, 3) := by decide +kernel
theorem dX5_checkRange_19 : decode cX5_checkRange 19 = .ok (.athrow, 1) := by decide +kernel
theorem dX5_checkRange_20 : decode cX5_checkRange 20 = .ok (.return_, 1) := by decide +kernel
theorem dX5_checkPurse_0 : decode cX5_checkPurse 0 = .ok (.aload_n 0, 1) := by decide +kernel
theorem dX5_checkPurse_1 : decode cX5_checkPurse 1 = .ok (.getfield 126, 3) := by decide +kernel
theorem dX5_checkPurse_4 : decode cX5_checkPurse 4 = .ok (.iload_n 1, 1) := by decide +kernel
theorem dX5_checkPurse_5 : decode cX5_checkPurse 5 = .ok (.if_icmp .ge 13, 3) := by decide +kernel
theorem dX5_checkPurse_8 : decode cX5_checkPurse 8 = .ok (.new 45, 3) := by decide +kernel
theorem dX5_checkPurse_11 : decode cX5_checkPurse 11 = .ok (.dup, 1) := by decide +kernel
theorem dX5_checkPurse_12 : decode cX5_checkPurse 12 = .ok (.ldc 217, 2) := by decide +kernel
theorem dX5_checkPurse_14 : decode cX5_checkPurse 14 = .ok (.invokespecial 49, 3) := by decide +kernel
theorem dX5_checkPurse_17 : decode cX5_checkPurse 17 = .ok (.athrow, 1) := by decide +kernel
theorem dX5_checkPurse_18 : decode cX5_checkPurse 18 = .ok (.return_, 1) := by decide +kernel
theorem dX5_checkSlept_0 : decode cX5_checkSlept 0 = .ok (.aload_n 0, 1) := by decide +kernel
theorem dX5_checkSlept_1 : decode cX5_checkSlept 1 = .ok (.getfield 29, 3) := by decide +kernel
theorem dX5_checkSlept_4 : decode cX5_checkSlept 4 = .ok (.iload_n 2, 1) := by decide +kernel
theorem dX5_checkSlept_5 : decode cX5_checkSlept 5 = .ok (.invokevirtual 161, 3) := by decide +kernel
theorem dX5_checkSlept_8 : decode cX5_checkSlept 8 = .ok (.istore_n 3, 1) := by decide +kernel
theorem dX5_checkSlept_9 : decode cX5_checkSlept 9 = .ok (.iload_n 3, 1) := by decide +kernel
theorem dX5_checkSlept_10 : decode cX5_checkSlept 10 = .ok (.iconst (-1), 1) := by decide +kernel
theorem dX5_checkSlept_11 : decode cX5_checkSlept 11 = .ok (.if_icmp .ne 13, 3) := by decide +kernel
theorem dX5_checkSlept_14 : decode cX5_checkSlept 14 = .ok (.new 45, 3) := by decide +kernel
theorem dX5_checkSlept_17 : decode cX5_checkSlept 17 = .ok (.dup, 1) := by decide +kernel
theorem dX5_checkSlept_18 : decode cX5_checkSlept 18 = .ok (.ldc 219, 2) := by decide +kernel
theorem dX5_checkSlept_20 : decode cX5_checkSlept 20 = .ok (.invokespecial 49, 3) := by decide +kernel
theorem dX5_checkSlept_23 : decode cX5_checkSlept 23 = .ok (.athrow, 1) := by decide +kernel
theorem dX5_checkSlept_24 : decode cX5_checkSlept 24 = .ok (.iload_n 3, 1) := by decide +kernel
theorem dX5_checkSlept_25 : decode cX5_checkSlept 25 = .ok (.iload_n 1, 1) := by decide +kernel
theorem dX5_checkSlept_26 : decode cX5_checkSlept 26 = .ok (.if_icmp .ne 13, 3) := by decide +kernel
theorem dX5_checkSlept_29 : decode cX5_checkSlept 29 = .ok (.new 45, 3) := by decide +kernel
theorem dX5_checkSlept_32 : decode cX5_checkSlept 32 = .ok (.dup, 1) := by decide +kernel
theorem dX5_checkSlept_33 : decode cX5_checkSlept 33 = .ok (.ldc 221, 2) := by decide +kernel
theorem dX5_checkSlept_35 : decode cX5_checkSlept 35 = .ok (.invokespecial 49, 3) := by decide +kernel
theorem dX5_checkSlept_38 : decode cX5_checkSlept 38 = .ok (.athrow, 1) := by decide +kernel
theorem dX5_checkSlept_39 : decode cX5_checkSlept 39 = .ok (.aload_n 0, 1) := by decide +kernel
theorem dX5_checkSlept_40 : decode cX5_checkSlept 40 = .ok (.getfield 29, 3) := by decide +kernel
theorem dX5_checkSlept_43 : decode cX5_checkSlept 43 = .ok (.iload_n 2, 1) := by decide +kernel
theorem dX5_checkSlept_44 : decode cX5_checkSlept 44 = .ok (.invokevirtual 223, 3) := by decide +kernel
theorem dX5_checkSlept_47 : decode cX5_checkSlept 47 = .ok (.ifCond .eq 13, 3) := by decide +kernel
theorem dX5_checkSlept_50 : decode cX5_checkSlept 50 = .ok (.new 45, 3) := by decide +kernel
theorem dX5_checkSlept_53 : decode cX5_checkSlept 53 = .ok (.dup, 1) := by decide +kernel
theorem dX5_checkSlept_54 : decode cX5_checkSlept 54 = .ok (.ldc 226, 2) := by decide +kernel
theorem dX5_checkSlept_56 : decode cX5_checkSlept 56 = .ok (.invokespecial 49, 3) := by decide +kernel
theorem dX5_checkSlept_59 : decode cX5_checkSlept 59 = .ok (.athrow, 1) := by decide +kernel
theorem dX5_checkSlept_60 : decode cX5_checkSlept 60 = .ok (.aload_n 0, 1) := by decide +kernel
theorem dX5_checkSlept_61 : decode cX5_checkSlept 61 = .ok (.getfield 29, 3) := by decide +kernel
theorem dX5_checkSlept_64 : decode cX5_checkSlept 64 = .ok (.iload_n 2, 1) := by decide +kernel
theorem dX5_checkSlept_65 : decode cX5_checkSlept 65 = .ok (.invokevirtual 228, 3) := by decide +kernel
theorem dX5_checkSlept_68 : decode cX5_checkSlept 68 = .ok (.ifCond .eq 13, 3) := by decide +kernel
theorem dX5_checkSlept_71 : decode cX5_checkSlept 71 = .ok (.new 45, 3) := by decide +kernel
theorem dX5_checkSlept_74 : decode cX5_checkSlept 74 = .ok (.dup, 1) := by decide +kernel
theorem dX5_checkSlept_75 : decode cX5_checkSlept 75 = .ok (.ldc 231, 2) := by decide +kernel
theorem dX5_checkSlept_77 : decode cX5_checkSlept 77 = .ok (.invokespecial 49, 3) := by decide +kernel
theorem dX5_checkSlept_80 : decode cX5_checkSlept 80 = .ok (.athrow, 1) := by decide +kernel
theorem dX5_checkSlept_81 : decode cX5_checkSlept 81 = .ok (.return_, 1) := by decide +kernel
theorem dX5_checkWatchedBehind_0 : decode cX5_checkWatchedBehind 0 = .ok (.aload_n 0, 1) := by decide +kernel
theorem dX5_checkWatchedBehind_1 : decode cX5_checkWatchedBehind 1 = .ok (.getfield 29, 3) := by decide +kernel
theorem dX5_checkWatchedBehind_4 : decode cX5_checkWatchedBehind 4 = .ok (.iload_n 2, 1) := by decide +kernel
theorem dX5_checkWatchedBehind_5 : decode cX5_checkWatchedBehind 5 = .ok (.aload_n 0, 1) := by decide +kernel
theorem dX5_checkWatchedBehind_6 : decode cX5_checkWatchedBehind 6 = .ok (.getfield 33, 3) := by decide +kernel
theorem dX5_checkWatchedBehind_9 : decode cX5_checkWatchedBehind 9 = .ok (.invokevirtual 233, 3) := by decide +kernel
theorem dX5_checkWatchedBehind_12 : decode cX5_checkWatchedBehind 12 = .ok (.istore_n 3, 1) := by decide +kernel
theorem dX5_checkWatchedBehind_13 : decode cX5_checkWatchedBehind 13 = .ok (.iload_n 3, 1) := by decide +kernel
theorem dX5_checkWatchedBehind_14 : decode cX5_checkWatchedBehind 14 = .ok (.iconst (-1), 1) := by decide +kernel
theorem dX5_checkWatchedBehind_15 : decode cX5_checkWatchedBehind 15 = .ok (.if_icmp .eq 26, 3) := by decide +kernel
theorem dX5_checkWatchedBehind_18 : decode cX5_checkWatchedBehind 18 = .ok (.aload_n 0, 1) := by decide +kernel
theorem dX5_checkWatchedBehind_19 : decode cX5_checkWatchedBehind 19 = .ok (.getfield 29, 3) := by decide +kernel
theorem dX5_checkWatchedBehind_22 : decode cX5_checkWatchedBehind 22 = .ok (.iload_n 3, 1) := by decide +kernel
theorem dX5_checkWatchedBehind_23 : decode cX5_checkWatchedBehind 23 = .ok (.invokevirtual 161, 3) := by decide +kernel
theorem dX5_checkWatchedBehind_26 : decode cX5_checkWatchedBehind 26 = .ok (.iload_n 1, 1) := by decide +kernel
theorem dX5_checkWatchedBehind_27 : decode cX5_checkWatchedBehind 27 = .ok (.if_icmp .ne 14, 3) := by decide +kernel
theorem dX5_checkWatchedBehind_30 : decode cX5_checkWatchedBehind 30 = .ok (.aload_n 0, 1) := by decide +kernel
theorem dX5_checkWatchedBehind_31 : decode cX5_checkWatchedBehind 31 = .ok (.getfield 29, 3) := by decide +kernel
theorem dX5_checkWatchedBehind_34 : decode cX5_checkWatchedBehind 34 = .ok (.iload_n 3, 1) := by decide +kernel
theorem dX5_checkWatchedBehind_35 : decode cX5_checkWatchedBehind 35 = .ok (.invokevirtual 223, 3) := by decide +kernel
theorem dX5_checkWatchedBehind_38 : decode cX5_checkWatchedBehind 38 = .ok (.ifCond .ne 13, 3) := by decide +kernel
theorem dX5_checkWatchedBehind_41 : decode cX5_checkWatchedBehind 41 = .ok (.new 45, 3) := by decide +kernel
theorem dX5_checkWatchedBehind_44 : decode cX5_checkWatchedBehind 44 = .ok (.dup, 1) := by decide +kernel
theorem dX5_checkWatchedBehind_45 : decode cX5_checkWatchedBehind 45 = .ok (.ldc 237, 2) := by decide +kernel
theorem dX5_checkWatchedBehind_47 : decode cX5_checkWatchedBehind 47 = .ok (.invokespecial 49, 3) := by decide +kernel
theorem dX5_checkWatchedBehind_50 : decode cX5_checkWatchedBehind 50 = .ok (.athrow, 1) := by decide +kernel
theorem dX5_checkWatchedBehind_51 : decode cX5_checkWatchedBehind 51 = .ok (.return_, 1) := by decide +kernel
theorem dX5_moveMessages_0 : decode cX5_moveMessages 0 = .ok (.iconst 0, 1) := by decide +kernel
theorem dX5_moveMessages_1 : decode cX5_moveMessages 1 = .ok (.istore_n 1, 1) := by decide +kernel
theorem dX5_moveMessages_2 : decode cX5_moveMessages 2 = .ok (.iload_n 1, 1) := by decide +kernel
theorem dX5_moveMessages_3 : decode cX5_moveMessages 3 = .ok (.aload_n 0, 1) := by decide +kernel
theorem dX5_moveMessages_4 : decode cX5_moveMessages 4 = .ok (.getfield 16, 3) := by decide +kernel
theorem dX5_moveMessages_7 : decode cX5_moveMessages 7 = .ok (.invokevirtual 41, 3) := by decide +kernel
theorem dX5_moveMessages_10 : decode cX5_moveMessages 10 = .ok (.if_icmp .ge 33, 3) := by decide +kernel
theorem dX5_moveMessages_13 : decode cX5_moveMessages 13 = .ok (.aload_n 0, 1) := by decide +kernel
theorem dX5_moveMessages_14 : decode cX5_moveMessages 14 = .ok (.getfield 16, 3) := by decide +kernel
theorem dX5_moveMessages_17 : decode cX5_moveMessages 17 = .ok (.iload_n 1, 1) := by decide +kernel
theorem dX5_moveMessages_18 : decode cX5_moveMessages 18 = .ok (.invokevirtual 199, 3) := by decide +kernel
theorem dX5_moveMessages_21 : decode cX5_moveMessages 21 = .ok (.checkcast 121, 3) := by decide +kernel
theorem dX5_moveMessages_24 : decode cX5_moveMessages 24 = .ok (.astore_n 2, 1) := by decide +kernel
theorem dX5_moveMessages_25 : decode cX5_moveMessages 25 = .ok (.aload_n 2, 1) := by decide +kernel
theorem dX5_moveMessages_26 : decode cX5_moveMessages 26 = .ok (.getfield 139, 3) := by decide +kernel
theorem dX5_moveMessages_29 : decode cX5_moveMessages 29 = .ok (.ifCond .ne 8, 3) := by decide +kernel
theorem dX5_moveMessages_32 : decode cX5_moveMessages 32 = .ok (.aload_n 0, 1) := by decide +kernel
theorem dX5_moveMessages_33 : decode cX5_moveMessages 33 = .ok (.aload_n 2, 1) := by decide +kernel
theorem dX5_moveMessages_34 : decode cX5_moveMessages 34 = .ok (.invokevirtual 239, 3) := by decide +kernel
theorem dX5_moveMessages_37 : decode cX5_moveMessages 37 = .ok (.iinc 1 1, 3) := by decide +kernel
theorem dX5_moveMessages_40 : decode cX5_moveMessages 40 = .ok (.goto (-38), 3) := by decide +kernel
theorem dX5_moveMessages_43 : decode cX5_moveMessages 43 = .ok (.return_, 1) := by decide +kernel
theorem dX5_moveOn_0 : decode cX5_moveOn 0 = .ok (.aload_n 1, 1) := by decide +kernel
theorem dX5_moveOn_1 : decode cX5_moveOn 1 = .ok (.dup, 1) := by decide +kernel
theorem dX5_moveOn_2 : decode cX5_moveOn 2 = .ok (.getfield 140, 3) := by decide +kernel
theorem dX5_moveOn_5 : decode cX5_moveOn 5 = .ok (.iconst 1, 1) := by decide +kernel
theorem dX5_moveOn_6 : decode cX5_moveOn 6 = .ok (.iadd, 1) := by decide +kernel
theorem dX5_moveOn_7 : decode cX5_moveOn 7 = .ok (.putfield 140, 3) := by decide +kernel
theorem dX5_moveOn_10 : decode cX5_moveOn 10 = .ok (.aload_n 1, 1) := by decide +kernel
theorem dX5_moveOn_11 : decode cX5_moveOn 11 = .ok (.getfield 140, 3) := by decide +kernel
theorem dX5_moveOn_14 : decode cX5_moveOn 14 = .ok (.aload_n 1, 1) := by decide +kernel
theorem dX5_moveOn_15 : decode cX5_moveOn 15 = .ok (.getfield 129, 3) := by decide +kernel
theorem dX5_moveOn_18 : decode cX5_moveOn 18 = .ok (.getfield 243, 3) := by decide +kernel
theorem dX5_moveOn_21 : decode cX5_moveOn 21 = .ok (.if_icmp .lt 9, 3) := by decide +kernel
theorem dX5_moveOn_24 : decode cX5_moveOn 24 = .ok (.aload_n 0, 1) := by decide +kernel
theorem dX5_moveOn_25 : decode cX5_moveOn 25 = .ok (.aload_n 1, 1) := by decide +kernel
theorem dX5_moveOn_26 : decode cX5_moveOn 26 = .ok (.invokevirtual 246, 3) := by decide +kernel
theorem dX5_moveOn_29 : decode cX5_moveOn 29 = .ok (.return_, 1) := by decide +kernel
theorem dX5_moveOn_30 : decode cX5_moveOn 30 = .ok (.aload_n 0, 1) := by decide +kernel
theorem dX5_moveOn_31 : decode cX5_moveOn 31 = .ok (.aload_n 1, 1) := by decide +kernel
theorem dX5_moveOn_32 : decode cX5_moveOn 32 = .ok (.getfield 129, 3) := by decide +kernel
theorem dX5_moveOn_35 : decode cX5_moveOn 35 = .ok (.aload_n 1, 1) := by decide +kernel
theorem dX5_moveOn_36 : decode cX5_moveOn 36 = .ok (.getfield 140, 3) := by decide +kernel
theorem dX5_moveOn_39 : decode cX5_moveOn 39 = .ok (.invokevirtual 143, 3) := by decide +kernel
theorem dX5_moveOn_42 : decode cX5_moveOn 42 = .ok (.invokevirtual 64, 3) := by decide +kernel
theorem dX5_moveOn_45 : decode cX5_moveOn 45 = .ok (.astore_n 2, 1) := by decide +kernel
theorem dX5_moveOn_46 : decode cX5_moveOn 46 = .ok (.aload_n 2, 1) := by decide +kernel
theorem dX5_moveOn_47 : decode cX5_moveOn 47 = .ok (.getfield 132, 3) := by decide +kernel
theorem dX5_moveOn_50 : decode cX5_moveOn 50 = .ok (.ifCond .le 22, 3) := by decide +kernel
theorem dX5_moveOn_53 : decode cX5_moveOn 53 = .ok (.aload_n 2, 1) := by decide +kernel
theorem dX5_moveOn_54 : decode cX5_moveOn 54 = .ok (.dup, 1) := by decide +kernel
theorem dX5_moveOn_55 : decode cX5_moveOn 55 = .ok (.getfield 132, 3) := by decide +kernel
theorem dX5_moveOn_58 : decode cX5_moveOn 58 = .ok (.iconst 1, 1) := by decide +kernel
theorem dX5_moveOn_59 : decode cX5_moveOn 59 = .ok (.isub, 1) := by decide +kernel
theorem dX5_moveOn_60 : decode cX5_moveOn 60 = .ok (.putfield 132, 3) := by decide +kernel
theorem dX5_moveOn_63 : decode cX5_moveOn 63 = .ok (.aload_n 0, 1) := by decide +kernel
theorem dX5_moveOn_64 : decode cX5_moveOn 64 = .ok (.aload_n 1, 1) := by decide +kernel
theorem dX5_moveOn_65 : decode cX5_moveOn 65 = .ok (.aload_n 2, 1) := by decide +kernel
theorem dX5_moveOn_66 : decode cX5_moveOn 66 = .ok (.invokevirtual 249, 3) := by decide +kernel
theorem dX5_moveOn_69 : decode cX5_moveOn 69 = .ok (.goto 23, 3) := by decide +kernel
theorem dX5_moveOn_72 : decode cX5_moveOn 72 = .ok (.aload_n 1, 1) := by decide +kernel
theorem dX5_moveOn_73 : decode cX5_moveOn 73 = .ok (.dup, 1) := by decide +kernel
theorem dX5_moveOn_74 : decode cX5_moveOn 74 = .ok (.getfield 150, 3) := by decide +kernel
theorem dX5_moveOn_77 : decode cX5_moveOn 77 = .ok (.iconst 1, 1) := by decide +kernel
theorem dX5_moveOn_78 : decode cX5_moveOn 78 = .ok (.iadd, 1) := by decide +kernel
theorem dX5_moveOn_79 : decode cX5_moveOn 79 = .ok (.putfield 150, 3) := by decide +kernel
theorem dX5_moveOn_82 : decode cX5_moveOn 82 = .ok (.aload_n 2, 1) := by decide +kernel
theorem dX5_moveOn_83 : decode cX5_moveOn 83 = .ok (.dup, 1) := by decide +kernel
theorem dX5_moveOn_84 : decode cX5_moveOn 84 = .ok (.getfield 198, 3) := by decide +kernel
theorem dX5_moveOn_87 : decode cX5_moveOn 87 = .ok (.iconst 1, 1) := by decide +kernel
theorem dX5_moveOn_88 : decode cX5_moveOn 88 = .ok (.iadd, 1) := by decide +kernel
theorem dX5_moveOn_89 : decode cX5_moveOn 89 = .ok (.putfield 198, 3) := by decide +kernel
theorem dX5_moveOn_92 : decode cX5_moveOn 92 = .ok (.return_, 1) := by decide +kernel
theorem dX5_deliver_0 : decode cX5_deliver 0 = .ok (.aload_n 1, 1) := by decide +kernel
theorem dX5_deliver_1 : decode cX5_deliver 1 = .ok (.iconst 1, 1) := by decide +kernel
theorem dX5_deliver_2 : decode cX5_deliver 2 = .ok (.putfield 139, 3) := by decide +kernel
theorem dX5_deliver_5 : decode cX5_deliver 5 = .ok (.aload_n 0, 1) := by decide +kernel
theorem dX5_deliver_6 : decode cX5_deliver 6 = .ok (.aload_n 1, 1) := by decide +kernel
theorem dX5_deliver_7 : decode cX5_deliver 7 = .ok (.invokevirtual 253, 3) := by decide +kernel
theorem dX5_deliver_10 : decode cX5_deliver 10 = .ok (.pop, 1) := by decide +kernel
theorem dX5_deliver_11 : decode cX5_deliver 11 = .ok (.iconst 1, 1) := by decide +kernel
theorem dX5_deliver_12 : decode cX5_deliver 12 = .ok (.istore_n 2, 1) := by decide +kernel
theorem dX5_deliver_13 : decode cX5_deliver 13 = .ok (.iload_n 2, 1) := by decide +kernel
theorem dX5_deliver_14 : decode cX5_deliver 14 = .ok (.aload_n 1, 1) := by decide +kernel
theorem dX5_deliver_15 : decode cX5_deliver 15 = .ok (.getfield 150, 3) := by decide +kernel
theorem dX5_deliver_18 : decode cX5_deliver 18 = .ok (.if_icmp .gt 25, 3) := by decide +kernel
theorem dX5_deliver_21 : decode cX5_deliver 21 = .ok (.aload_n 0, 1) := by decide +kernel
theorem dX5_deliver_22 : decode cX5_deliver 22 = .ok (.aload_n 1, 1) := by decide +kernel
theorem dX5_deliver_23 : decode cX5_deliver 23 = .ok (.getfield 129, 3) := by decide +kernel
theorem dX5_deliver_26 : decode cX5_deliver 26 = .ok (.iload_n 2, 1) := by decide +kernel
theorem dX5_deliver_27 : decode cX5_deliver 27 = .ok (.invokevirtual 143, 3) := by decide +kernel
theorem dX5_deliver_30 : decode cX5_deliver 30 = .ok (.invokevirtual 64, 3) := by decide +kernel
theorem dX5_deliver_33 : decode cX5_deliver 33 = .ok (.iconst 1, 1) := by decide +kernel
theorem dX5_deliver_34 : decode cX5_deliver 34 = .ok (.invokevirtual 257, 3) := by decide +kernel
theorem dX5_deliver_37 : decode cX5_deliver 37 = .ok (.iinc 2 1, 3) := by decide +kernel
theorem dX5_deliver_40 : decode cX5_deliver 40 = .ok (.goto (-27), 3) := by decide +kernel
theorem dX5_deliver_43 : decode cX5_deliver 43 = .ok (.return_, 1) := by decide +kernel
theorem dX5_loseAt_0 : decode cX5_loseAt 0 = .ok (.aload_n 1, 1) := by decide +kernel
theorem dX5_loseAt_1 : decode cX5_loseAt 1 = .ok (.iconst 2, 1) := by decide +kernel
theorem dX5_loseAt_2 : decode cX5_loseAt 2 = .ok (.putfield 139, 3) := by decide +kernel
theorem dX5_loseAt_5 : decode cX5_loseAt 5 = .ok (.aload_n 0, 1) := by decide +kernel
theorem dX5_loseAt_6 : decode cX5_loseAt 6 = .ok (.aload_n 1, 1) := by decide +kernel
theorem dX5_loseAt_7 : decode cX5_loseAt 7 = .ok (.invokevirtual 253, 3) := by decide +kernel
theorem dX5_loseAt_10 : decode cX5_loseAt 10 = .ok (.istore_n 3, 1) := by decide +kernel
theorem dX5_loseAt_11 : decode cX5_loseAt 11 = .ok (.aload_n 1, 1) := by decide +kernel
theorem dX5_loseAt_12 : decode cX5_loseAt 12 = .ok (.aload_n 1, 1) := by decide +kernel
theorem dX5_loseAt_13 : decode cX5_loseAt 13 = .ok (.getfield 129, 3) := by decide +kernel
theorem dX5_loseAt_16 : decode cX5_loseAt 16 = .ok (.getfield 116, 3) := by decide +kernel
theorem dX5_loseAt_19 : decode cX5_loseAt 19 = .ok (.iload_n 3, 1) := by decide +kernel
theorem dX5_loseAt_20 : decode cX5_loseAt 20 = .ok (.isub, 1) := by decide +kernel
theorem dX5_loseAt_21 : decode cX5_loseAt 21 = .ok (.putfield 147, 3) := by decide +kernel
theorem dX5_loseAt_24 : decode cX5_loseAt 24 = .ok (.aload_n 1, 1) := by decide +kernel
theorem dX5_loseAt_25 : decode cX5_loseAt 25 = .ok (.aload_n 2, 1) := by decide +kernel
theorem dX5_loseAt_26 : decode cX5_loseAt 26 = .ok (.iload_n 3, 1) := by decide +kernel
theorem dX5_loseAt_27 : decode cX5_loseAt 27 = .ok (.invokevirtual 175, 3) := by decide +kernel
theorem dX5_loseAt_30 : decode cX5_loseAt 30 = .ok (.putfield 153, 3) := by decide +kernel
theorem dX5_loseAt_33 : decode cX5_loseAt 33 = .ok (.aload_n 0, 1) := by decide +kernel
theorem dX5_loseAt_34 : decode cX5_loseAt 34 = .ok (.aload_n 1, 1) := by decide +kernel
theorem dX5_loseAt_35 : decode cX5_loseAt 35 = .ok (.getfield 129, 3) := by decide +kernel
theorem dX5_loseAt_38 : decode cX5_loseAt 38 = .ok (.iconst 0, 1) := by decide +kernel
theorem dX5_loseAt_39 : decode cX5_loseAt 39 = .ok (.invokevirtual 143, 3) := by decide +kernel
theorem dX5_loseAt_42 : decode cX5_loseAt 42 = .ok (.invokevirtual 64, 3) := by decide +kernel
theorem dX5_loseAt_45 : decode cX5_loseAt 45 = .ok (.dup, 1) := by decide +kernel
theorem dX5_loseAt_46 : decode cX5_loseAt 46 = .ok (.getfield 126, 3) := by decide +kernel
theorem dX5_loseAt_49 : decode cX5_loseAt 49 = .ok (.aload_n 1, 1) := by decide +kernel
theorem dX5_loseAt_50 : decode cX5_loseAt 50 = .ok (.getfield 147, 3) := by decide +kernel
theorem dX5_loseAt_53 : decode cX5_loseAt 53 = .ok (.aload_n 1, 1) := by decide +kernel
theorem dX5_loseAt_54 : decode cX5_loseAt 54 = .ok (.getfield 153, 3) := by decide +kernel
theorem dX5_loseAt_57 : decode cX5_loseAt 57 = .ok (.iadd, 1) := by decide +kernel
theorem dX5_loseAt_58 : decode cX5_loseAt 58 = .ok (.iadd, 1) := by decide +kernel
theorem dX5_loseAt_59 : decode cX5_loseAt 59 = .ok (.putfield 126, 3) := by decide +kernel
theorem dX5_loseAt_62 : decode cX5_loseAt 62 = .ok (.aload_n 2, 1) := by decide +kernel
theorem dX5_loseAt_63 : decode cX5_loseAt 63 = .ok (.bipush 20, 2) := by decide +kernel
theorem dX5_loseAt_65 : decode cX5_loseAt 65 = .ok (.invokevirtual 178, 3) := by decide +kernel
theorem dX5_loseAt_68 : decode cX5_loseAt 68 = .ok (.return_, 1) := by decide +kernel
theorem dX5_payReceipts_0 : decode cX5_payReceipts 0 = .ok (.iconst 0, 1) := by decide +kernel
theorem dX5_payReceipts_1 : decode cX5_payReceipts 1 = .ok (.istore_n 2, 1) := by decide +kernel
theorem dX5_payReceipts_2 : decode cX5_payReceipts 2 = .ok (.iconst 1, 1) := by decide +kernel
theorem dX5_payReceipts_3 : decode cX5_payReceipts 3 = .ok (.istore_n 3, 1) := by decide +kernel
theorem dX5_payReceipts_4 : decode cX5_payReceipts 4 = .ok (.iload_n 3, 1) := by decide +kernel
theorem dX5_payReceipts_5 : decode cX5_payReceipts 5 = .ok (.aload_n 1, 1) := by decide +kernel
theorem dX5_payReceipts_6 : decode cX5_payReceipts 6 = .ok (.getfield 150, 3) := by decide +kernel
theorem dX5_payReceipts_9 : decode cX5_payReceipts 9 = .ok (.if_icmp .gt 62, 3) := by decide +kernel
theorem dX5_payReceipts_12 : decode cX5_payReceipts 12 = .ok (.aload_n 1, 1) := by decide +kernel
theorem dX5_payReceipts_13 : decode cX5_payReceipts 13 = .ok (.getfield 129, 3) := by decide +kernel
theorem dX5_payReceipts_16 : decode cX5_payReceipts 16 = .ok (.iload_n 3, 1) := by decide +kernel
theorem dX5_payReceipts_17 : decode cX5_payReceipts 17 = .ok (.invokevirtual 260, 3) := by decide +kernel
theorem dX5_payReceipts_20 : decode cX5_payReceipts 20 = .ok (.istore 4, 2) := by decide +kernel
theorem dX5_payReceipts_22 : decode cX5_payReceipts 22 = .ok (.aload_n 0, 1) := by decide +kernel
theorem dX5_payReceipts_23 : decode cX5_payReceipts 23 = .ok (.aload_n 1, 1) := by decide +kernel
theorem dX5_payReceipts_24 : decode cX5_payReceipts 24 = .ok (.getfield 129, 3) := by decide +kernel
theorem dX5_payReceipts_27 : decode cX5_payReceipts 27 = .ok (.iload_n 3, 1) := by decide +kernel
theorem dX5_payReceipts_28 : decode cX5_payReceipts 28 = .ok (.invokevirtual 143, 3) := by decide +kernel
theorem dX5_payReceipts_31 : decode cX5_payReceipts 31 = .ok (.invokevirtual 64, 3) := by decide +kernel
theorem dX5_payReceipts_34 : decode cX5_payReceipts 34 = .ok (.astore 5, 2) := by decide +kernel
theorem dX5_payReceipts_36 : decode cX5_payReceipts 36 = .ok (.aload 5, 2) := by decide +kernel
theorem dX5_payReceipts_38 : decode cX5_payReceipts 38 = .ok (.dup, 1) := by decide +kernel
theorem dX5_payReceipts_39 : decode cX5_payReceipts 39 = .ok (.getfield 126, 3) := by decide +kernel
theorem dX5_payReceipts_42 : decode cX5_payReceipts 42 = .ok (.iload 4, 2) := by decide +kernel
theorem dX5_payReceipts_44 : decode cX5_payReceipts 44 = .ok (.iadd, 1) := by decide +kernel
theorem dX5_payReceipts_45 : decode cX5_payReceipts 45 = .ok (.putfield 126, 3) := by decide +kernel
theorem dX5_payReceipts_48 : decode cX5_payReceipts 48 = .ok (.aload 5, 2) := by decide +kernel
theorem dX5_payReceipts_50 : decode cX5_payReceipts 50 = .ok (.dup, 1) := by decide +kernel
theorem dX5_payReceipts_51 : decode cX5_payReceipts 51 = .ok (.getfield 195, 3) := by decide +kernel
theorem dX5_payReceipts_54 : decode cX5_payReceipts 54 = .ok (.iload 4, 2) := by decide +kernel
theorem dX5_payReceipts_56 : decode cX5_payReceipts 56 = .ok (.iadd, 1) := by decide +kernel
theorem dX5_payReceipts_57 : decode cX5_payReceipts 57 = .ok (.putfield 195, 3) := by decide +kernel
theorem dX5_payReceipts_60 : decode cX5_payReceipts 60 = .ok (.iload_n 2, 1) := by decide +kernel
theorem dX5_payReceipts_61 : decode cX5_payReceipts 61 = .ok (.iload 4, 2) := by decide +kernel
theorem dX5_payReceipts_63 : decode cX5_payReceipts 63 = .ok (.iadd, 1) := by decide +kernel
theorem dX5_payReceipts_64 : decode cX5_payReceipts 64 = .ok (.istore_n 2, 1) := by decide +kernel
theorem dX5_payReceipts_65 : decode cX5_payReceipts 65 = .ok (.iinc 3 1, 3) := by decide +kernel
theorem dX5_payReceipts_68 : decode cX5_payReceipts 68 = .ok (.goto (-64), 3) := by decide +kernel
theorem dX5_payReceipts_71 : decode cX5_payReceipts 71 = .ok (.iload_n 2, 1) := by decide +kernel
theorem dX5_payReceipts_72 : decode cX5_payReceipts 72 = .ok (.ireturn, 1) := by decide +kernel
theorem dX5_beginTick_0 : decode cX5_beginTick 0 = .ok (.aload_n 0, 1) := by decide +kernel
theorem dX5_beginTick_1 : decode cX5_beginTick 1 = .ok (.dup, 1) := by decide +kernel
theorem dX5_beginTick_2 : decode cX5_beginTick 2 = .ok (.getfield 33, 3) := by decide +kernel
theorem dX5_beginTick_5 : decode cX5_beginTick 5 = .ok (.iconst 1, 1) := by decide +kernel
theorem dX5_beginTick_6 : decode cX5_beginTick 6 = .ok (.iadd, 1) := by decide +kernel
theorem dX5_beginTick_7 : decode cX5_beginTick 7 = .ok (.putfield 33, 3) := by decide +kernel
theorem dX5_beginTick_10 : decode cX5_beginTick 10 = .ok (.iconst 0, 1) := by decide +kernel
theorem dX5_beginTick_11 : decode cX5_beginTick 11 = .ok (.istore_n 1, 1) := by decide +kernel
theorem dX5_beginTick_12 : decode cX5_beginTick 12 = .ok (.iload_n 1, 1) := by decide +kernel
theorem dX5_beginTick_13 : decode cX5_beginTick 13 = .ok (.aload_n 0, 1) := by decide +kernel
theorem dX5_beginTick_14 : decode cX5_beginTick 14 = .ok (.getfield 10, 3) := by decide +kernel
theorem dX5_beginTick_17 : decode cX5_beginTick 17 = .ok (.invokevirtual 41, 3) := by decide +kernel
theorem dX5_beginTick_20 : decode cX5_beginTick 20 = .ok (.if_icmp .ge 44, 3) := by decide +kernel
theorem dX5_beginTick_23 : decode cX5_beginTick 23 = .ok (.aload_n 0, 1) := by decide +kernel
theorem dX5_beginTick_24 : decode cX5_beginTick 24 = .ok (.getfield 10, 3) := by decide +kernel
theorem dX5_beginTick_27 : decode cX5_beginTick 27 = .ok (.iload_n 1, 1) := by decide +kernel
theorem dX5_beginTick_28 : decode cX5_beginTick 28 = .ok (.invokevirtual 199, 3) := by decide +kernel
theorem dX5_beginTick_31 : decode cX5_beginTick 31 = .ok (.checkcast 52, 3) := by decide +kernel
theorem dX5_beginTick_34 : decode cX5_beginTick 34 = .ok (.astore_n 2, 1) := by decide +kernel
theorem dX5_beginTick_35 : decode cX5_beginTick 35 = .ok (.aload_n 2, 1) := by decide +kernel
theorem dX5_beginTick_36 : decode cX5_beginTick 36 = .ok (.getfield 79, 3) := by decide +kernel
theorem dX5_beginTick_39 : decode cX5_beginTick 39 = .ok (.iconst 1, 1) := by decide +kernel
theorem dX5_beginTick_40 : decode cX5_beginTick 40 = .ok (.if_icmp .ne 18, 3) := by decide +kernel
theorem dX5_beginTick_43 : decode cX5_beginTick 43 = .ok (.aload_n 2, 1) := by decide +kernel
theorem dX5_beginTick_44 : decode cX5_beginTick 44 = .ok (.getfield 97, 3) := by decide +kernel
theorem dX5_beginTick_47 : decode cX5_beginTick 47 = .ok (.aload_n 0, 1) := by decide +kernel
theorem dX5_beginTick_48 : decode cX5_beginTick 48 = .ok (.getfield 33, 3) := by decide +kernel
theorem dX5_beginTick_51 : decode cX5_beginTick 51 = .ok (.if_icmp .gt 7, 3) := by decide +kernel
theorem dX5_beginTick_54 : decode cX5_beginTick 54 = .ok (.aload_n 2, 1) := by decide +kernel
theorem dX5_beginTick_55 : decode cX5_beginTick 55 = .ok (.invokevirtual 263, 3) := by decide +kernel
theorem dX5_beginTick_58 : decode cX5_beginTick 58 = .ok (.iinc 1 1, 3) := by decide +kernel
theorem dX5_beginTick_61 : decode cX5_beginTick 61 = .ok (.goto (-49), 3) := by decide +kernel
theorem dX5_beginTick_64 : decode cX5_beginTick 64 = .ok (.aload_n 0, 1) := by decide +kernel
theorem dX5_beginTick_65 : decode cX5_beginTick 65 = .ok (.getfield 29, 3) := by decide +kernel
theorem dX5_beginTick_68 : decode cX5_beginTick 68 = .ok (.aload_n 0, 1) := by decide +kernel
theorem dX5_beginTick_69 : decode cX5_beginTick 69 = .ok (.getfield 33, 3) := by decide +kernel
theorem dX5_beginTick_72 : decode cX5_beginTick 72 = .ok (.aload_n 0, 1) := by decide +kernel
theorem dX5_beginTick_73 : decode cX5_beginTick 73 = .ok (.invokevirtual 266, 3) := by decide +kernel
theorem dX5_beginTick_76 : decode cX5_beginTick 76 = .ok (.invokevirtual 269, 3) := by decide +kernel
theorem dX5_beginTick_79 : decode cX5_beginTick 79 = .ok (.return_, 1) := by decide +kernel
theorem dX5_chooseWatcher_0 : decode cX5_chooseWatcher 0 = .ok (.iconst 0, 1) := by decide +kernel
theorem dX5_chooseWatcher_1 : decode cX5_chooseWatcher 1 = .ok (.istore_n 1, 1) := by decide +kernel
theorem dX5_chooseWatcher_2 : decode cX5_chooseWatcher 2 = .ok (.iconst 0, 1) := by decide +kernel
theorem dX5_chooseWatcher_3 : decode cX5_chooseWatcher 3 = .ok (.istore_n 2, 1) := by decide +kernel
theorem dX5_chooseWatcher_4 : decode cX5_chooseWatcher 4 = .ok (.iload_n 2, 1) := by decide +kernel
theorem dX5_chooseWatcher_5 : decode cX5_chooseWatcher 5 = .ok (.aload_n 0, 1) := by decide +kernel
theorem dX5_chooseWatcher_6 : decode cX5_chooseWatcher 6 = .ok (.getfield 10, 3) := by decide +kernel
theorem dX5_chooseWatcher_9 : decode cX5_chooseWatcher 9 = .ok (.invokevirtual 41, 3) := by decide +kernel
theorem dX5_chooseWatcher_12 : decode cX5_chooseWatcher 12 = .ok (.if_icmp .ge 29, 3) := by decide +kernel
theorem dX5_chooseWatcher_15 : decode cX5_chooseWatcher 15 = .ok (.aload_n 0, 1) := by decide +kernel
theorem dX5_chooseWatcher_16 : decode cX5_chooseWatcher 16 = .ok (.getfield 10, 3) := by decide +kernel
theorem dX5_chooseWatcher_19 : decode cX5_chooseWatcher 19 = .ok (.iload_n 2, 1) := by decide +kernel
theorem dX5_chooseWatcher_20 : decode cX5_chooseWatcher 20 = .ok (.invokevirtual 199, 3) := by decide +kernel
theorem dX5_chooseWatcher_23 : decode cX5_chooseWatcher 23 = .ok (.checkcast 52, 3) := by decide +kernel
theorem dX5_chooseWatcher_26 : decode cX5_chooseWatcher 26 = .ok (.getfield 79, 3) := by decide +kernel
theorem dX5_chooseWatcher_29 : decode cX5_chooseWatcher 29 = .ok (.ifCond .ne 6, 3) := by decide +kernel
theorem dX5_chooseWatcher_32 : decode cX5_chooseWatcher 32 = .ok (.iinc 1 1, 3) := by decide +kernel
theorem dX5_chooseWatcher_35 : decode cX5_chooseWatcher 35 = .ok (.iinc 2 1, 3) := by decide +kernel
theorem dX5_chooseWatcher_38 : decode cX5_chooseWatcher 38 = .ok (.goto (-34), 3) := by decide +kernel
theorem dX5_chooseWatcher_41 : decode cX5_chooseWatcher 41 = .ok (.iload_n 1, 1) := by decide +kernel
theorem dX5_chooseWatcher_42 : decode cX5_chooseWatcher 42 = .ok (.ifCond .ne 5, 3) := by decide +kernel
theorem dX5_chooseWatcher_45 : decode cX5_chooseWatcher 45 = .ok (.iconst (-1), 1) := by decide +kernel
theorem dX5_chooseWatcher_46 : decode cX5_chooseWatcher 46 = .ok (.ireturn, 1) := by decide +kernel
theorem dX5_chooseWatcher_47 : decode cX5_chooseWatcher 47 = .ok (.aload_n 0, 1) := by decide +kernel
theorem dX5_chooseWatcher_48 : decode cX5_chooseWatcher 48 = .ok (.getfield 33, 3) := by decide +kernel
theorem dX5_chooseWatcher_51 : decode cX5_chooseWatcher 51 = .ok (.iload_n 1, 1) := by decide +kernel
theorem dX5_chooseWatcher_52 : decode cX5_chooseWatcher 52 = .ok (.irem, 1) := by decide +kernel
theorem dX5_chooseWatcher_53 : decode cX5_chooseWatcher 53 = .ok (.istore_n 2, 1) := by decide +kernel
theorem dX5_chooseWatcher_54 : decode cX5_chooseWatcher 54 = .ok (.iconst 0, 1) := by decide +kernel
theorem dX5_chooseWatcher_55 : decode cX5_chooseWatcher 55 = .ok (.istore_n 3, 1) := by decide +kernel
theorem dX5_chooseWatcher_56 : decode cX5_chooseWatcher 56 = .ok (.iload_n 3, 1) := by decide +kernel
theorem dX5_chooseWatcher_57 : decode cX5_chooseWatcher 57 = .ok (.aload_n 0, 1) := by decide +kernel
theorem dX5_chooseWatcher_58 : decode cX5_chooseWatcher 58 = .ok (.getfield 10, 3) := by decide +kernel
theorem dX5_chooseWatcher_61 : decode cX5_chooseWatcher 61 = .ok (.invokevirtual 41, 3) := by decide +kernel
theorem dX5_chooseWatcher_64 : decode cX5_chooseWatcher 64 = .ok (.if_icmp .ge 35, 3) := by decide +kernel
theorem dX5_chooseWatcher_67 : decode cX5_chooseWatcher 67 = .ok (.aload_n 0, 1) := by decide +kernel
theorem dX5_chooseWatcher_68 : decode cX5_chooseWatcher 68 = .ok (.getfield 10, 3) := by decide +kernel
theorem dX5_chooseWatcher_71 : decode cX5_chooseWatcher 71 = .ok (.iload_n 3, 1) := by decide +kernel
theorem dX5_chooseWatcher_72 : decode cX5_chooseWatcher 72 = .ok (.invokevirtual 199, 3) := by decide +kernel
theorem dX5_chooseWatcher_75 : decode cX5_chooseWatcher 75 = .ok (.checkcast 52, 3) := by decide +kernel
theorem dX5_chooseWatcher_78 : decode cX5_chooseWatcher 78 = .ok (.getfield 79, 3) := by decide +kernel
theorem dX5_chooseWatcher_81 : decode cX5_chooseWatcher 81 = .ok (.ifCond .ne 12, 3) := by decide +kernel
theorem dX5_chooseWatcher_84 : decode cX5_chooseWatcher 84 = .ok (.iload_n 2, 1) := by decide +kernel
theorem dX5_chooseWatcher_85 : decode cX5_chooseWatcher 85 = .ok (.ifCond .ne 5, 3) := by decide +kernel
theorem dX5_chooseWatcher_88 : decode cX5_chooseWatcher 88 = .ok (.iload_n 3, 1) := by decide +kernel
theorem dX5_chooseWatcher_89 : decode cX5_chooseWatcher 89 = .ok (.ireturn, 1) := by decide +kernel
theorem dX5_chooseWatcher_90 : decode cX5_chooseWatcher 90 = .ok (.iinc 2 (-1), 3) := by decide +kernel
theorem dX5_chooseWatcher_93 : decode cX5_chooseWatcher 93 = .ok (.iinc 3 1, 3) := by decide +kernel
theorem dX5_chooseWatcher_96 : decode cX5_chooseWatcher 96 = .ok (.goto (-40), 3) := by decide +kernel
theorem dX5_chooseWatcher_99 : decode cX5_chooseWatcher 99 = .ok (.iconst (-1), 1) := by decide +kernel
theorem dX5_chooseWatcher_100 : decode cX5_chooseWatcher 100 = .ok (.ireturn, 1) := by decide +kernel
theorem dX6_init_0 : decode cX6_init 0 = .ok (.aload_n 0, 1) := by decide +kernel
theorem dX6_init_1 : decode cX6_init 1 = .ok (.invokespecial 1, 3) := by decide +kernel
theorem dX6_init_4 : decode cX6_init 4 = .ok (.aload_n 0, 1) := by decide +kernel
theorem dX6_init_5 : decode cX6_init 5 = .ok (.bipush 12, 2) := by decide +kernel
theorem dX6_init_7 : decode cX6_init 7 = .ok (.newarray .int, 2) := by decide +kernel
theorem dX6_init_9 : decode cX6_init 9 = .ok (.putfield 7, 3) := by decide +kernel
theorem dX6_init_12 : decode cX6_init 12 = .ok (.aload_n 0, 1) := by decide +kernel
theorem dX6_init_13 : decode cX6_init 13 = .ok (.bipush 12, 2) := by decide +kernel
theorem dX6_init_15 : decode cX6_init 15 = .ok (.newarray .int, 2) := by decide +kernel
theorem dX6_init_17 : decode cX6_init 17 = .ok (.putfield 13, 3) := by decide +kernel
theorem dX6_init_20 : decode cX6_init 20 = .ok (.aload_n 0, 1) := by decide +kernel
theorem dX6_init_21 : decode cX6_init 21 = .ok (.bipush 12, 2) := by decide +kernel
theorem dX6_init_23 : decode cX6_init 23 = .ok (.newarray .int, 2) := by decide +kernel
theorem dX6_init_25 : decode cX6_init 25 = .ok (.putfield 16, 3) := by decide +kernel
theorem dX6_init_28 : decode cX6_init 28 = .ok (.aload_n 0, 1) := by decide +kernel
theorem dX6_init_29 : decode cX6_init 29 = .ok (.bipush 12, 2) := by decide +kernel
theorem dX6_init_31 : decode cX6_init 31 = .ok (.newarray .int, 2) := by decide +kernel
theorem dX6_init_33 : decode cX6_init 33 = .ok (.putfield 19, 3) := by decide +kernel
theorem dX6_init_36 : decode cX6_init 36 = .ok (.aload_n 0, 1) := by decide +kernel
theorem dX6_init_37 : decode cX6_init 37 = .ok (.bipush 12, 2) := by decide +kernel
theorem dX6_init_39 : decode cX6_init 39 = .ok (.newarray .int, 2) := by decide +kernel
theorem dX6_init_41 : decode cX6_init 41 = .ok (.putfield 22, 3) := by decide +kernel
theorem dX6_init_44 : decode cX6_init 44 = .ok (.aload_n 0, 1) := by decide +kernel
theorem dX6_init_45 : decode cX6_init 45 = .ok (.bipush 12, 2) := by decide +kernel
theorem dX6_init_47 : decode cX6_init 47 = .ok (.newarray .int, 2) := by decide +kernel
theorem dX6_init_49 : decode cX6_init 49 = .ok (.putfield 25, 3) := by decide +kernel
theorem dX6_init_52 : decode cX6_init 52 = .ok (.aload_n 0, 1) := by decide +kernel
theorem dX6_init_53 : decode cX6_init 53 = .ok (.bipush 12, 2) := by decide +kernel
theorem dX6_init_55 : decode cX6_init 55 = .ok (.newarray .int, 2) := by decide +kernel
theorem dX6_init_57 : decode cX6_init 57 = .ok (.putfield 28, 3) := by decide +kernel
theorem dX6_init_60 : decode cX6_init 60 = .ok (.aload_n 0, 1) := by decide +kernel
theorem dX6_init_61 : decode cX6_init 61 = .ok (.bipush 12, 2) := by decide +kernel
theorem dX6_init_63 : decode cX6_init 63 = .ok (.newarray .int, 2) := by decide +kernel
theorem dX6_init_65 : decode cX6_init 65 = .ok (.putfield 31, 3) := by decide +kernel
theorem dX6_init_68 : decode cX6_init 68 = .ok (.aload_n 0, 1) := by decide +kernel
theorem dX6_init_69 : decode cX6_init 69 = .ok (.bipush 12, 2) := by decide +kernel
theorem dX6_init_71 : decode cX6_init 71 = .ok (.newarray .int, 2) := by decide +kernel
theorem dX6_init_73 : decode cX6_init 73 = .ok (.putfield 34, 3) := by decide +kernel
theorem dX6_init_76 : decode cX6_init 76 = .ok (.aload_n 0, 1) := by decide +kernel
theorem dX6_init_77 : decode cX6_init 77 = .ok (.sipush 144, 3) := by decide +kernel
theorem dX6_init_80 : decode cX6_init 80 = .ok (.newarray .boolean, 2) := by decide +kernel
theorem dX6_init_82 : decode cX6_init 82 = .ok (.putfield 37, 3) := by decide +kernel
theorem dX6_init_85 : decode cX6_init 85 = .ok (.aload_n 0, 1) := by decide +kernel
theorem dX6_init_86 : decode cX6_init 86 = .ok (.bipush 60, 2) := by decide +kernel
theorem dX6_init_88 : decode cX6_init 88 = .ok (.newarray .int, 2) := by decide +kernel
theorem dX6_init_90 : decode cX6_init 90 = .ok (.putfield 41, 3) := by decide +kernel
theorem dX6_init_93 : decode cX6_init 93 = .ok (.aload_n 0, 1) := by decide +kernel
theorem dX6_init_94 : decode cX6_init 94 = .ok (.bipush 60, 2) := by decide +kernel
theorem dX6_init_96 : decode cX6_init 96 = .ok (.newarray .int, 2) := by decide +kernel
theorem dX6_init_98 : decode cX6_init 98 = .ok (.putfield 44, 3) := by decide +kernel
theorem dX6_init_101 : decode cX6_init 101 = .ok (.aload_n 0, 1) := by decide +kernel
theorem dX6_init_102 : decode cX6_init 102 = .ok (.bipush 60, 2) := by decide +kernel
theorem dX6_init_104 : decode cX6_init 104 = .ok (.newarray .int, 2) := by decide +kernel
theorem dX6_init_106 : decode cX6_init 106 = .ok (.putfield 47, 3) := by decide +kernel
theorem dX6_init_109 : decode cX6_init 109 = .ok (.aload_n 0, 1) := by decide +kernel
theorem dX6_init_110 : decode cX6_init 110 = .ok (.bipush 60, 2) := by decide +kernel
theorem dX6_init_112 : decode cX6_init 112 = .ok (.newarray .int, 2) := by decide +kernel
theorem dX6_init_114 : decode cX6_init 114 = .ok (.putfield 50, 3) := by decide +kernel
theorem dX6_init_117 : decode cX6_init 117 = .ok (.aload_n 0, 1) := by decide +kernel
theorem dX6_init_118 : decode cX6_init 118 = .ok (.bipush 60, 2) := by decide +kernel
theorem dX6_init_120 : decode cX6_init 120 = .ok (.newarray .int, 2) := by decide +kernel
theorem dX6_init_122 : decode cX6_init 122 = .ok (.putfield 53, 3) := by decide +kernel
theorem dX6_init_125 : decode cX6_init 125 = .ok (.aload_n 0, 1) := by decide +kernel
theorem dX6_init_126 : decode cX6_init 126 = .ok (.bipush 60, 2) := by decide +kernel
theorem dX6_init_128 : decode cX6_init 128 = .ok (.newarray .int, 2) := by decide +kernel
theorem dX6_init_130 : decode cX6_init 130 = .ok (.putfield 56, 3) := by decide +kernel
theorem dX6_init_133 : decode cX6_init 133 = .ok (.aload_n 0, 1) := by decide +kernel
theorem dX6_init_134 : decode cX6_init 134 = .ok (.sipush 780, 3) := by decide +kernel
theorem dX6_init_137 : decode cX6_init 137 = .ok (.newarray .int, 2) := by decide +kernel
theorem dX6_init_139 : decode cX6_init 139 = .ok (.putfield 59, 3) := by decide +kernel
theorem dX6_init_142 : decode cX6_init 142 = .ok (.aload_n 0, 1) := by decide +kernel
theorem dX6_init_143 : decode cX6_init 143 = .ok (.sipush 780, 3) := by decide +kernel
theorem dX6_init_146 : decode cX6_init 146 = .ok (.newarray .int, 2) := by decide +kernel
theorem dX6_init_148 : decode cX6_init 148 = .ok (.putfield 62, 3) := by decide +kernel
theorem dX6_init_151 : decode cX6_init 151 = .ok (.aload_n 0, 1) := by decide +kernel
theorem dX6_init_152 : decode cX6_init 152 = .ok (.sipush 5001, 3) := by decide +kernel
theorem dX6_init_155 : decode cX6_init 155 = .ok (.newarray .int, 2) := by decide +kernel
theorem dX6_init_157 : decode cX6_init 157 = .ok (.putfield 65, 3) := by decide +kernel
theorem dX6_init_160 : decode cX6_init 160 = .ok (.aload_n 0, 1) := by decide +kernel
theorem dX6_init_161 : decode cX6_init 161 = .ok (.sipush 5001, 3) := by decide +kernel
theorem dX6_init_164 : decode cX6_init 164 = .ok (.newarray .boolean, 2) := by decide +kernel
theorem dX6_init_166 : decode cX6_init 166 = .ok (.putfield 68, 3) := by decide +kernel
theorem dX6_init_169 : decode cX6_init 169 = .ok (.aload_n 0, 1) := by decide +kernel
theorem dX6_init_170 : decode cX6_init 170 = .ok (.sipush 5001, 3) := by decide +kernel
theorem dX6_init_173 : decode cX6_init 173 = .ok (.newarray .boolean, 2) := by decide +kernel
theorem dX6_init_175 : decode cX6_init 175 = .ok (.putfield 71, 3) := by decide +kernel
theorem dX6_init_178 : decode cX6_init 178 = .ok (.aload_n 0, 1) := by decide +kernel
theorem dX6_init_179 : decode cX6_init 179 = .ok (.bipush 12, 2) := by decide +kernel
theorem dX6_init_181 : decode cX6_init 181 = .ok (.newarray .int, 2) := by decide +kernel
theorem dX6_init_183 : decode cX6_init 183 = .ok (.putfield 74, 3) := by decide +kernel
theorem dX6_init_186 : decode cX6_init 186 = .ok (.aload_n 0, 1) := by decide +kernel
theorem dX6_init_187 : decode cX6_init 187 = .ok (.bipush 12, 2) := by decide +kernel
theorem dX6_init_189 : decode cX6_init 189 = .ok (.newarray .int, 2) := by decide +kernel
theorem dX6_init_191 : decode cX6_init 191 = .ok (.putfield 77, 3) := by decide +kernel
theorem dX6_init_194 : decode cX6_init 194 = .ok (.return_, 1) := by decide +kernel
theorem dX6_thrown_0 : decode cX6_thrown 0 = .ok (.aload_n 0, 1) := by decide +kernel
theorem dX6_thrown_1 : decode cX6_thrown 1 = .ok (.getfield 80, 3) := by decide +kernel
theorem dX6_thrown_4 : decode cX6_thrown 4 = .ok (.ireturn, 1) := by decide +kernel
theorem dX6_can_0 : decode cX6_can 0 = .ok (.aload_n 0, 1) := by decide +kernel
theorem dX6_can_1 : decode cX6_can 1 = .ok (.iload_n 1, 1) := by decide +kernel
theorem dX6_can_2 : decode cX6_can 2 = .ok (.putfield 80, 3) := by decide +kernel
theorem dX6_can_5 : decode cX6_can 5 = .ok (.iload_n 1, 1) := by decide +kernel
theorem dX6_can_6 : decode cX6_can 6 = .ok (.ifCond .ne 7, 3) := by decide +kernel
theorem dX6_can_9 : decode cX6_can 9 = .ok (.iconst 1, 1) := by decide +kernel
theorem dX6_can_10 : decode cX6_can 10 = .ok (.goto 4, 3) := by decide +kernel
theorem dX6_can_13 : decode cX6_can 13 = .ok (.iconst 0, 1) := by decide +kernel
theorem dX6_can_14 : decode cX6_can 14 = .ok (.ireturn, 1) := by decide +kernel
theorem dX6_isIn_0 : decode cX6_isIn 0 = .ok (.iload_n 0, 1) := by decide +kernel
theorem dX6_isIn_1 : decode cX6_isIn 1 = .ok (.iload_n 1, 1) := by decide +kernel
theorem dX6_isIn_2 : decode cX6_isIn 2 = .ok (.if_icmp .lt 12, 3) := by decide +kernel
theorem dX6_isIn_5 : decode cX6_isIn 5 = .ok (.iload_n 0, 1) := by decide +kernel
theorem dX6_isIn_6 : decode cX6_isIn 6 = .ok (.iload_n 2, 1) := by decide +kernel
theorem dX6_isIn_7 : decode cX6_isIn 7 = .ok (.if_icmp .gt 7, 3) := by decide +kernel
theorem dX6_isIn_10 : decode cX6_isIn 10 = .ok (.iconst 1, 1) := by decide +kernel
theorem dX6_isIn_11 : decode cX6_isIn 11 = .ok (.goto 4, 3) := by decide +kernel
theorem dX6_isIn_14 : decode cX6_isIn 14 = .ok (.iconst 0, 1) := by decide +kernel
theorem dX6_isIn_15 : decode cX6_isIn 15 = .ok (.ireturn, 1) := by decide +kernel
theorem dX6_isNode_0 : decode cX6_isNode 0 = .ok (.iload_n 1, 1) := by decide +kernel
theorem dX6_isNode_1 : decode cX6_isNode 1 = .ok (.iconst 0, 1) := by decide +kernel
theorem dX6_isNode_2 : decode cX6_isNode 2 = .ok (.aload_n 0, 1) := by decide +kernel
theorem dX6_isNode_3 : decode cX6_isNode 3 = .ok (.getfield 84, 3) := by decide +kernel
theorem dX6_isNode_6 : decode cX6_isNode 6 = .ok (.iconst 1, 1) := by decide +kernel
theorem dX6_isNode_7 : decode cX6_isNode 7 = .ok (.isub, 1) := by decide +kernel
theorem dX6_isNode_8 : decode cX6_isNode 8 = .ok (.invokestatic 87, 3) := by decide +kernel
theorem dX6_isNode_11 : decode cX6_isNode 11 = .ok (.ireturn, 1) := by decide +kernel
theorem dX6_lesser_0 : decode cX6_lesser 0 = .ok (.iload_n 0, 1) := by decide +kernel
theorem dX6_lesser_1 : decode cX6_lesser 1 = .ok (.iload_n 1, 1) := by decide +kernel
theorem dX6_lesser_2 : decode cX6_lesser 2 = .ok (.if_icmp .ge 7, 3) := by decide +kernel
theorem dX6_lesser_5 : decode cX6_lesser 5 = .ok (.iload_n 0, 1) := by decide +kernel
theorem dX6_lesser_6 : decode cX6_lesser 6 = .ok (.goto 4, 3) := by decide +kernel
theorem dX6_lesser_9 : decode cX6_lesser 9 = .ok (.iload_n 1, 1) := by decide +kernel
theorem dX6_lesser_10 : decode cX6_lesser 10 = .ok (.ireturn, 1) := by decide +kernel
theorem dX6_node_0 : decode cX6_node 0 = .ok (.iload_n 1, 1) := by decide +kernel
theorem dX6_node_1 : decode cX6_node 1 = .ok (.iconst 0, 1) := by decide +kernel
theorem dX6_node_2 : decode cX6_node 2 = .ok (.sipush 9999, 3) := by decide +kernel
theorem dX6_node_5 : decode cX6_node 5 = .ok (.invokestatic 87, 3) := by decide +kernel
theorem dX6_node_8 : decode cX6_node 8 = .ok (.ifCond .eq 28, 3) := by decide +kernel
theorem dX6_node_11 : decode cX6_node 11 = .ok (.iload_n 2, 1) := by decide +kernel
theorem dX6_node_12 : decode cX6_node 12 = .ok (.iconst 0, 1) := by decide +kernel
theorem dX6_node_13 : decode cX6_node 13 = .ok (.sipush 999, 3) := by decide +kernel
theorem dX6_node_16 : decode cX6_node 16 = .ok (.invokestatic 87, 3) := by decide +kernel
theorem dX6_node_19 : decode cX6_node 19 = .ok (.ifCond .eq 17, 3) := by decide +kernel
theorem dX6_node_22 : decode cX6_node 22 = .ok (.iload_n 3, 1) := by decide +kernel
theorem dX6_node_23 : decode cX6_node 23 = .ok (.iconst 0, 1) := by decide +kernel
theorem dX6_node_24 : decode cX6_node 24 = .ok (.bipush 50, 2) := by decide +kernel
theorem dX6_node_26 : decode cX6_node 26 = .ok (.invokestatic 87, 3) := by decide +kernel
theorem dX6_node_29 : decode cX6_node 29 = .ok (.ifCond .eq 7, 3) := by decide +kernel
theorem dX6_node_32 : decode cX6_node 32 = .ok (.iconst 1, 1) := by decide +kernel
theorem dX6_node_33 : decode cX6_node 33 = .ok (.goto 4, 3) := by decide +kernel
theorem dX6_node_36 : decode cX6_node 36 = .ok (.iconst 0, 1) := by decide +kernel
theorem dX6_node_37 : decode cX6_node 37 = .ok (.istore 4, 2) := by decide +kernel
theorem dX6_node_39 : decode cX6_node 39 = .ok (.aload_n 0, 1) := by decide +kernel
theorem dX6_node_40 : decode cX6_node 40 = .ok (.iload 4, 2) := by decide +kernel
theorem dX6_node_42 : decode cX6_node 42 = .ok (.ifCond .ne 7, 3) := by decide +kernel
theorem dX6_node_45 : decode cX6_node 45 = .ok (.iconst 1, 1) := by decide +kernel
theorem dX6_node_46 : decode cX6_node 46 = .ok (.goto 17, 3) := by decide +kernel
theorem dX6_node_49 : decode cX6_node 49 = .ok (.aload_n 0, 1) := by decide +kernel
theorem dX6_node_50 : decode cX6_node 50 = .ok (.getfield 84, 3) := by decide +kernel
theorem dX6_node_53 : decode cX6_node 53 = .ok (.bipush 12, 2) := by decide +kernel
theorem dX6_node_55 : decode cX6_node 55 = .ok (.if_icmp .ne 7, 3) := by decide +kernel
theorem dX6_node_58 : decode cX6_node 58 = .ok (.iconst 2, 1) := by decide +kernel
theorem dX6_node_59 : decode cX6_node 59 = .ok (.goto 4, 3) := by decide +kernel
theorem dX6_node_62 : decode cX6_node 62 = .ok (.iconst 0, 1) := by decide +kernel
theorem dX6_node_63 : decode cX6_node 63 = .ok (.invokevirtual 91, 3) := by decide +kernel
theorem dX6_node_66 : decode cX6_node 66 = .ok (.ifCond .ne 5, 3) := by decide +kernel
theorem dX6_node_69 : decode cX6_node 69 = .ok (.iconst 0, 1) := by decide +kernel
theorem dX6_node_70 : decode cX6_node 70 = .ok (.ireturn, 1) := by decide +kernel
theorem dX6_node_71 : decode cX6_node 71 = .ok (.aload_n 0, 1) := by decide +kernel
theorem dX6_node_72 : decode cX6_node 72 = .ok (.getfield 7, 3) := by decide +kernel
theorem dX6_node_75 : decode cX6_node 75 = .ok (.aload_n 0, 1) := by decide +kernel
theorem dX6_node_76 : decode cX6_node 76 = .ok (.getfield 84, 3) := by decide +kernel
theorem dX6_node_79 : decode cX6_node 79 = .ok (.iload_n 1, 1) := by decide +kernel
theorem dX6_node_80 : decode cX6_node 80 = .ok (.iastore, 1) := by decide +kernel
theorem dX6_node_81 : decode cX6_node 81 = .ok (.aload_n 0, 1) := by decide +kernel
theorem dX6_node_82 : decode cX6_node 82 = .ok (.getfield 13, 3) := by decide +kernel
theorem dX6_node_85 : decode cX6_node 85 = .ok (.aload_n 0, 1) := by decide +kernel
theorem dX6_node_86 : decode cX6_node 86 = .ok (.getfield 84, 3) := by decide +kernel
theorem dX6_node_89 : decode cX6_node 89 = .ok (.iload_n 2, 1) := by decide +kernel
theorem dX6_node_90 : decode cX6_node 90 = .ok (.iastore, 1) := by decide +kernel
theorem dX6_node_91 : decode cX6_node 91 = .ok (.aload_n 0, 1) := by decide +kernel
theorem dX6_node_92 : decode cX6_node 92 = .ok (.getfield 16, 3) := by decide +kernel
theorem dX6_node_95 : decode cX6_node 95 = .ok (.aload_n 0, 1) := by decide +kernel
theorem dX6_node_96 : decode cX6_node 96 = .ok (.getfield 84, 3) := by decide +kernel
theorem dX6_node_99 : decode cX6_node 99 = .ok (.iload_n 3, 1) := by decide +kernel
theorem dX6_node_100 : decode cX6_node 100 = .ok (.iastore, 1) := by decide +kernel
theorem dX6_node_101 : decode cX6_node 101 = .ok (.aload_n 0, 1) := by decide +kernel
theorem dX6_node_102 : decode cX6_node 102 = .ok (.getfield 19, 3) := by decide +kernel
theorem dX6_node_105 : decode cX6_node 105 = .ok (.aload_n 0, 1) := by decide +kernel
theorem dX6_node_106 : decode cX6_node 106 = .ok (.getfield 84, 3) := by decide +kernel
theorem dX6_node_109 : decode cX6_node 109 = .ok (.bipush 50, 2) := by decide +kernel
theorem dX6_node_111 : decode cX6_node 111 = .ok (.iastore, 1) := by decide +kernel
theorem dX6_node_112 : decode cX6_node 112 = .ok (.aload_n 0, 1) := by decide +kernel
theorem dX6_node_113 : decode cX6_node 113 = .ok (.dup, 1) := by decide +kernel
theorem dX6_node_114 : decode cX6_node 114 = .ok (.getfield 84, 3) := by decide +kernel
theorem dX6_node_117 : decode cX6_node 117 = .ok (.iconst 1, 1) := by decide +kernel
theorem dX6_node_118 : decode cX6_node 118 = .ok (.iadd, 1) := by decide +kernel
theorem dX6_node_119 : decode cX6_node 119 = .ok (.putfield 84, 3) := by decide +kernel
theorem dX6_node_122 : decode cX6_node 122 = .ok (.aload_n 0, 1) := by decide +kernel
theorem dX6_node_123 : decode cX6_node 123 = .ok (.getfield 84, 3) := by decide +kernel
theorem dX6_node_126 : decode cX6_node 126 = .ok (.iconst 1, 1) := by decide +kernel
theorem dX6_node_127 : decode cX6_node 127 = .ok (.isub, 1) := by decide +kernel
theorem dX6_node_128 : decode cX6_node 128 = .ok (.ireturn, 1) := by decide +kernel
theorem dX6_link_0 : decode cX6_link 0 = .ok (.aload_n 0, 1) := by decide +kernel
theorem dX6_link_1 : decode cX6_link 1 = .ok (.iload_n 1, 1) := by decide +kernel
theorem dX6_link_2 : decode cX6_link 2 = .ok (.invokevirtual 95, 3) := by decide +kernel
theorem dX6_link_5 : decode cX6_link 5 = .ok (.ifCond .eq 15, 3) := by decide +kernel
theorem dX6_link_8 : decode cX6_link 8 = .ok (.aload_n 0, 1) := by decide +kernel
theorem dX6_link_9 : decode cX6_link 9 = .ok (.iload_n 2, 1) := by decide +kernel
theorem dX6_link_10 : decode cX6_link 10 = .ok (.invokevirtual 95, 3) := by decide +kernel
theorem dX6_link_13 : decode cX6_link 13 = .ok (.ifCond .eq 7, 3) := by decide +kernel
theorem dX6_link_16 : decode cX6_link 16 = .ok (.iconst 1, 1) := by decide +kernel
theorem dX6_link_17 : decode cX6_link 17 = .ok (.goto 4, 3) := by decide +kernel
theorem dX6_link_20 : decode cX6_link 20 = .ok (.iconst 0, 1) := by decide +kernel
theorem dX6_link_21 : decode cX6_link 21 = .ok (.istore 4, 2) := by decide +kernel
theorem dX6_link_23 : decode cX6_link 23 = .ok (.aload_n 0, 1) := by decide +kernel
theorem dX6_link_24 : decode cX6_link 24 = .ok (.iload 4, 2) := by decide +kernel
theorem dX6_link_26 : decode cX6_link 26 = .ok (.ifCond .ne 7, 3) := by decide +kernel
theorem dX6_link_29 : decode cX6_link 29 = .ok (.iconst 1, 1) := by decide +kernel
theorem dX6_link_30 : decode cX6_link 30 = .ok (.goto 13, 3) := by decide +kernel
theorem dX6_link_33 : decode cX6_link 33 = .ok (.iload_n 1, 1) := by decide +kernel
theorem dX6_link_34 : decode cX6_link 34 = .ok (.iload_n 2, 1) := by decide +kernel
theorem dX6_link_35 : decode cX6_link 35 = .ok (.if_icmp .ne 7, 3) := by decide +kernel
theorem dX6_link_38 : decode cX6_link 38 = .ok (.iconst 2, 1) := by decide +kernel
theorem dX6_link_39 : decode cX6_link 39 = .ok (.goto 4, 3) := by decide +kernel
theorem dX6_link_42 : decode cX6_link 42 = .ok (.iconst 0, 1) := by decide +kernel
theorem dX6_link_43 : decode cX6_link 43 = .ok (.invokevirtual 91, 3) := by decide +kernel
theorem dX6_link_46 : decode cX6_link 46 = .ok (.ifCond .ne 5, 3) := by decide +kernel
theorem dX6_link_49 : decode cX6_link 49 = .ok (.iconst 0, 1) := by decide +kernel
theorem dX6_link_50 : decode cX6_link 50 = .ok (.ireturn, 1) := by decide +kernel
theorem dX6_link_51 : decode cX6_link 51 = .ok (.aload_n 0, 1) := by decide +kernel
theorem dX6_link_52 : decode cX6_link 52 = .ok (.getfield 37, 3) := by decide +kernel
theorem dX6_link_55 : decode cX6_link 55 = .ok (.bipush 12, 2) := by decide +kernel
theorem dX6_link_57 : decode cX6_link 57 = .ok (.iload_n 1, 1) := by decide +kernel
theorem dX6_link_58 : decode cX6_link 58 = .ok (.imul, 1) := by decide +kernel
theorem dX6_link_59 : decode cX6_link 59 = .ok (.iload_n 2, 1) := by decide +kernel
theorem dX6_link_60 : decode cX6_link 60 = .ok (.iadd, 1) := by decide +kernel
theorem dX6_link_61 : decode cX6_link 61 = .ok (.baload, 1) := by decide +kernel
theorem dX6_link_62 : decode cX6_link 62 = .ok (.istore 5, 2) := by decide +kernel
theorem dX6_link_64 : decode cX6_link 64 = .ok (.aload_n 0, 1) := by decide +kernel
theorem dX6_link_65 : decode cX6_link 65 = .ok (.getfield 37, 3) := by decide +kernel
theorem dX6_link_68 : decode cX6_link 68 = .ok (.bipush 12, 2) := by decide +kernel
theorem dX6_link_70 : decode cX6_link 70 = .ok (.iload_n 1, 1) := by decide +kernel
theorem dX6_link_71 : decode cX6_link 71 = .ok (.imul, 1) := by decide +kernel
theorem dX6_link_72 : decode cX6_link 72 = .ok (.iload_n 2, 1) := by decide +kernel
theorem dX6_link_73 : decode cX6_link 73 = .ok (.iadd, 1) := by decide +kernel
theorem dX6_link_74 : decode cX6_link 74 = .ok (.iload_n 3, 1) := by decide +kernel
theorem dX6_link_75 : decode cX6_link 75 = .ok (.bastore, 1) := by decide +kernel
theorem dX6_link_76 : decode cX6_link 76 = .ok (.aload_n 0, 1) := by decide +kernel
theorem dX6_link_77 : decode cX6_link 77 = .ok (.getfield 37, 3) := by decide +kernel
theorem dX6_link_80 : decode cX6_link 80 = .ok (.bipush 12, 2) := by decide +kernel
theorem dX6_link_82 : decode cX6_link 82 = .ok (.iload_n 2, 1) := by decide +kernel
theorem dX6_link_83 : decode cX6_link 83 = .ok (.imul, 1) := by decide +kernel
theorem dX6_link_84 : decode cX6_link 84 = .ok (.iload_n 1, 1) := by decide +kernel
theorem dX6_link_85 : decode cX6_link 85 = .ok (.iadd, 1) := by decide +kernel
theorem dX6_link_86 : decode cX6_link 86 = .ok (.iload_n 3, 1) := by decide +kernel
theorem dX6_link_87 : decode cX6_link 87 = .ok (.bastore, 1) := by decide +kernel
theorem dX6_link_88 : decode cX6_link 88 = .ok (.iload 5, 2) := by decide +kernel
theorem dX6_link_90 : decode cX6_link 90 = .ok (.ireturn, 1) := by decide +kernel
theorem dX6_price_0 : decode cX6_price 0 = .ok (.aload_n 0, 1) := by decide +kernel
theorem dX6_price_1 : decode cX6_price 1 = .ok (.aload_n 0, 1) := by decide +kernel
theorem dX6_price_2 : decode cX6_price 2 = .ok (.iload_n 1, 1) := by decide +kernel
theorem dX6_price_3 : decode cX6_price 3 = .ok (.invokevirtual 95, 3) := by decide +kernel
theorem dX6_price_6 : decode cX6_price 6 = .ok (.ifCond .ne 7, 3) := by decide +kernel
theorem dX6_price_9 : decode cX6_price 9 = .ok (.iconst 1, 1) := by decide +kernel
theorem dX6_price_10 : decode cX6_price 10 = .ok (.goto 18, 3) := by decide +kernel
theorem dX6_price_13 : decode cX6_price 13 = .ok (.iload_n 2, 1) := by decide +kernel
theorem dX6_price_14 : decode cX6_price 14 = .ok (.iconst 0, 1) := by decide +kernel
theorem dX6_price_15 : decode cX6_price 15 = .ok (.bipush 50, 2) := by decide +kernel
theorem dX6_price_17 : decode cX6_price 17 = .ok (.invokestatic 87, 3) := by decide +kernel
theorem dX6_price_20 : decode cX6_price 20 = .ok (.ifCond .eq 7, 3) := by decide +kernel
theorem dX6_price_23 : decode cX6_price 23 = .ok (.iconst 0, 1) := by decide +kernel
theorem dX6_price_24 : decode cX6_price 24 = .ok (.goto 4, 3) := by decide +kernel
theorem dX6_price_27 : decode cX6_price 27 = .ok (.iconst 2, 1) := by decide +kernel
theorem dX6_price_28 : decode cX6_price 28 = .ok (.invokevirtual 91, 3) := by decide +kernel
theorem dX6_price_31 : decode cX6_price 31 = .ok (.ifCond .ne 5, 3) := by decide +kernel
theorem dX6_price_34 : decode cX6_price 34 = .ok (.iconst 0, 1) := by decide +kernel
theorem dX6_price_35 : decode cX6_price 35 = .ok (.ireturn, 1) := by decide +kernel
theorem dX6_price_36 : decode cX6_price 36 = .ok (.aload_n 0, 1) := by decide +kernel
theorem dX6_price_37 : decode cX6_price 37 = .ok (.getfield 16, 3) := by decide +kernel
theorem dX6_price_40 : decode cX6_price 40 = .ok (.iload_n 1, 1) := by decide +kernel
theorem dX6_price_41 : decode cX6_price 41 = .ok (.iaload, 1) := by decide +kernel
theorem dX6_price_42 : decode cX6_price 42 = .ok (.istore_n 3, 1) := by decide +kernel
theorem dX6_price_43 : decode cX6_price 43 = .ok (.aload_n 0, 1) := by decide +kernel
theorem dX6_price_44 : decode cX6_price 44 = .ok (.getfield 16, 3) := by decide +kernel
theorem dX6_price_47 : decode cX6_price 47 = .ok (.iload_n 1, 1) := by decide +kernel
theorem dX6_price_48 : decode cX6_price 48 = .ok (.iload_n 2, 1) := by decide +kernel
theorem dX6_price_49 : decode cX6_price 49 = .ok (.iastore, 1) := by decide +kernel
theorem dX6_price_50 : decode cX6_price 50 = .ok (.iload_n 3, 1) := by decide +kernel
theorem dX6_price_51 : decode cX6_price 51 = .ok (.ireturn, 1) := by decide +kernel
theorem dX6_stakes_0 : decode cX6_stakes 0 = .ok (.aload_n 0, 1) := by decide +kernel
theorem dX6_stakes_1 : decode cX6_stakes 1 = .ok (.getfield 7, 3) := by decide +kernel
theorem dX6_stakes_4 : decode cX6_stakes 4 = .ok (.iload_n 1, 1) := by decide +kernel
theorem dX6_stakes_5 : decode cX6_stakes 5 = .ok (.dup2, 1) := by decide +kernel
theorem dX6_stakes_6 : decode cX6_stakes 6 = .ok (.iaload, 1) := by decide +kernel
theorem dX6_stakes_7 : decode cX6_stakes 7 = .ok (.iload_n 2, 1) := by decide +kernel
theorem dX6_stakes_8 : decode cX6_stakes 8 = .ok (.isub, 1) := by decide +kernel
theorem dX6_stakes_9 : decode cX6_stakes 9 = .ok (.iastore, 1) := by decide +kernel
theorem dX6_stakes_10 : decode cX6_stakes 10 = .ok (.aload_n 0, 1) := by decide +kernel
theorem dX6_stakes_11 : decode cX6_stakes 11 = .ok (.getfield 13, 3) := by decide +kernel
theorem dX6_stakes_14 : decode cX6_stakes 14 = .ok (.iload_n 1, 1) := by decide +kernel
theorem dX6_stakes_15 : decode cX6_stakes 15 = .ok (.dup2, 1) := by decide +kernel
theorem dX6_stakes_16 : decode cX6_stakes 16 = .ok (.iaload, 1) := by decide +kernel
theorem dX6_stakes_17 : decode cX6_stakes 17 = .ok (.iload_n 2, 1) := by decide +kernel
theorem dX6_stakes_18 : decode cX6_stakes 18 = .ok (.iadd, 1) := by decide +kernel
theorem dX6_stakes_19 : decode cX6_stakes 19 = .ok (.iastore, 1) := by decide +kernel
theorem dX6_stakes_20 : decode cX6_stakes 20 = .ok (.aload_n 0, 1) := by decide +kernel
theorem dX6_stakes_21 : decode cX6_stakes 21 = .ok (.getfield 13, 3) := by decide +kernel
theorem dX6_stakes_24 : decode cX6_stakes 24 = .ok (.iload_n 1, 1) := by decide +kernel
theorem dX6_stakes_25 : decode cX6_stakes 25 = .ok (.iaload, 1) := by decide +kernel
theorem dX6_stakes_26 : decode cX6_stakes 26 = .ok (.ireturn, 1) := by decide +kernel
theorem dX6_put_0 : decode cX6_put 0 = .ok (.aload_n 0, 1) := by decide +kernel
theorem dX6_put_1 : decode cX6_put 1 = .ok (.iload_n 1, 1) := by decide +kernel
theorem dX6_put_2 : decode cX6_put 2 = .ok (.invokevirtual 95, 3) := by decide +kernel
theorem dX6_put_5 : decode cX6_put 5 = .ok (.istore_n 3, 1) := by decide +kernel
theorem dX6_put_6 : decode cX6_put 6 = .ok (.aload_n 0, 1) := by decide +kernel
theorem dX6_put_7 : decode cX6_put 7 = .ok (.iload_n 3, 1) := by decide +kernel
theorem dX6_put_8 : decode cX6_put 8 = .ok (.ifCond .ne 7, 3) := by decide +kernel
theorem dX6_put_11 : decode cX6_put 11 = .ok (.iconst 1, 1) := by decide +kernel
theorem dX6_put_12 : decode cX6_put 12 = .ok (.goto 43, 3) := by decide +kernel
theorem dX6_put_15 : decode cX6_put 15 = .ok (.iload_n 2, 1) := by decide +kernel
theorem dX6_put_16 : decode cX6_put 16 = .ok (.iconst 1, 1) := by decide +kernel
theorem dX6_put_17 : decode cX6_put 17 = .ok (.sipush 9999, 3) := by decide +kernel
theorem dX6_put_20 : decode cX6_put 20 = .ok (.invokestatic 87, 3) := by decide +kernel
theorem dX6_put_23 : decode cX6_put 23 = .ok (.ifCond .ne 7, 3) := by decide +kernel
theorem dX6_put_26 : decode cX6_put 26 = .ok (.iconst 2, 1) := by decide +kernel
theorem dX6_put_27 : decode cX6_put 27 = .ok (.goto 28, 3) := by decide +kernel
theorem dX6_put_30 : decode cX6_put 30 = .ok (.aload_n 0, 1) := by decide +kernel
theorem dX6_put_31 : decode cX6_put 31 = .ok (.getfield 7, 3) := by decide +kernel
theorem dX6_put_34 : decode cX6_put 34 = .ok (.iload_n 1, 1) := by decide +kernel
theorem dX6_put_35 : decode cX6_put 35 = .ok (.iaload, 1) := by decide +kernel
theorem dX6_put_36 : decode cX6_put 36 = .ok (.iload_n 2, 1) := by decide +kernel
theorem dX6_put_37 : decode cX6_put 37 = .ok (.if_icmp .lt 13, 3) := by decide +kernel
theorem dX6_put_40 : decode cX6_put 40 = .ok (.aload_n 0, 1) := by decide +kernel
theorem dX6_put_41 : decode cX6_put 41 = .ok (.getfield 22, 3) := by decide +kernel
theorem dX6_put_44 : decode cX6_put 44 = .ok (.iload_n 1, 1) := by decide +kernel
theorem dX6_put_45 : decode cX6_put 45 = .ok (.iaload, 1) := by decide +kernel
theorem dX6_put_46 : decode cX6_put 46 = .ok (.iconst 2, 1) := by decide +kernel
theorem dX6_put_47 : decode cX6_put 47 = .ok (.if_icmp .ne 7, 3) := by decide +kernel
theorem dX6_put_50 : decode cX6_put 50 = .ok (.iconst 3, 1) := by decide +kernel
theorem dX6_put_51 : decode cX6_put 51 = .ok (.goto 4, 3) := by decide +kernel
theorem dX6_put_54 : decode cX6_put 54 = .ok (.iconst 0, 1) := by decide +kernel
theorem dX6_put_55 : decode cX6_put 55 = .ok (.invokevirtual 91, 3) := by decide +kernel
theorem dX6_put_58 : decode cX6_put 58 = .ok (.ifCond .ne 5, 3) := by decide +kernel
theorem dX6_put_61 : decode cX6_put 61 = .ok (.iconst 0, 1) := by decide +kernel
theorem dX6_put_62 : decode cX6_put 62 = .ok (.ireturn, 1) := by decide +kernel
theorem dX6_put_63 : decode cX6_put 63 = .ok (.aload_n 0, 1) := by decide +kernel
theorem dX6_put_64 : decode cX6_put 64 = .ok (.iload_n 1, 1) := by decide +kernel
theorem dX6_put_65 : decode cX6_put 65 = .ok (.iload_n 2, 1) := by decide +kernel
theorem dX6_put_66 : decode cX6_put 66 = .ok (.invokevirtual 98, 3) := by decide +kernel
theorem dX6_put_69 : decode cX6_put 69 = .ok (.ireturn, 1) := by decide +kernel
theorem dX6_leave_0 : decode cX6_leave 0 = .ok (.aload_n 0, 1) := by decide +kernel
theorem dX6_leave_1 : decode cX6_leave 1 = .ok (.iload_n 1, 1) := by decide +kernel
theorem dX6_leave_2 : decode cX6_leave 2 = .ok (.invokevirtual 95, 3) := by decide +kernel
theorem dX6_leave_5 : decode cX6_leave 5 = .ok (.istore_n 2, 1) := by decide +kernel
theorem dX6_leave_6 : decode cX6_leave 6 = .ok (.aload_n 0, 1) := by decide +kernel
theorem dX6_leave_7 : decode cX6_leave 7 = .ok (.iload_n 2, 1) := by decide +kernel
theorem dX6_leave_8 : decode cX6_leave 8 = .ok (.ifCond .ne 7, 3) := by decide +kernel
theorem dX6_leave_11 : decode cX6_leave 11 = .ok (.iconst 1, 1) := by decide +kernel
theorem dX6_leave_12 : decode cX6_leave 12 = .ok (.goto 17, 3) := by decide +kernel
theorem dX6_leave_15 : decode cX6_leave 15 = .ok (.aload_n 0, 1) := by decide +kernel
theorem dX6_leave_16 : decode cX6_leave 16 = .ok (.getfield 22, 3) := by decide +kernel
theorem dX6_leave_19 : decode cX6_leave 19 = .ok (.iload_n 1, 1) := by decide +kernel
theorem dX6_leave_20 : decode cX6_leave 20 = .ok (.iaload, 1) := by decide +kernel
theorem dX6_leave_21 : decode cX6_leave 21 = .ok (.ifCond .eq 7, 3) := by decide +kernel
theorem dX6_leave_24 : decode cX6_leave 24 = .ok (.iconst 2, 1) := by decide +kernel
theorem dX6_leave_25 : decode cX6_leave 25 = .ok (.goto 4, 3) := by decide +kernel
theorem dX6_leave_28 : decode cX6_leave 28 = .ok (.iconst 0, 1) := by decide +kernel
theorem dX6_leave_29 : decode cX6_leave 29 = .ok (.invokevirtual 91, 3) := by decide +kernel
theorem dX6_leave_32 : decode cX6_leave 32 = .ok (.ifCond .ne 5, 3) := by decide +kernel
theorem dX6_leave_35 : decode cX6_leave 35 = .ok (.iconst 0, 1) := by decide +kernel
theorem dX6_leave_36 : decode cX6_leave 36 = .ok (.ireturn, 1) := by decide +kernel
theorem dX6_leave_37 : decode cX6_leave 37 = .ok (.aload_n 0, 1) := by decide +kernel
theorem dX6_leave_38 : decode cX6_leave 38 = .ok (.getfield 22, 3) := by decide +kernel
theorem dX6_leave_41 : decode cX6_leave 41 = .ok (.iload_n 1, 1) := by decide +kernel
theorem dX6_leave_42 : decode cX6_leave 42 = .ok (.iconst 1, 1) := by decide +kernel
theorem dX6_leave_43 : decode cX6_leave 43 = .ok (.iastore, 1) := by decide +kernel
theorem dX6_leave_44 : decode cX6_leave 44 = .ok (.aload_n 0, 1) := by decide +kernel
theorem dX6_leave_45 : decode cX6_leave 45 = .ok (.getfield 25, 3) := by decide +kernel
theorem dX6_leave_48 : decode cX6_leave 48 = .ok (.iload_n 1, 1) := by decide +kernel
theorem dX6_leave_49 : decode cX6_leave 49 = .ok (.aload_n 0, 1) := by decide +kernel
theorem dX6_leave_50 : decode cX6_leave 50 = .ok (.getfield 102, 3) := by decide +kernel
theorem dX6_leave_53 : decode cX6_leave 53 = .ok (.bipush 15, 2) := by decide +kernel
theorem dX6_leave_55 : decode cX6_leave 55 = .ok (.iadd, 1) := by decide +kernel
theorem dX6_leave_56 : decode cX6_leave 56 = .ok (.iastore, 1) := by decide +kernel
theorem dX6_leave_57 : decode cX6_leave 57 = .ok (.aload_n 0, 1) := by decide +kernel
theorem dX6_leave_58 : decode cX6_leave 58 = .ok (.getfield 25, 3) := by decide +kernel
theorem dX6_leave_61 : decode cX6_leave 61 = .ok (.iload_n 1, 1) := by decide +kernel
theorem dX6_leave_62 : decode cX6_leave 62 = .ok (.iaload, 1) := by decide +kernel
theorem dX6_leave_63 : decode cX6_leave 63 = .ok (.ireturn, 1) := by decide +kernel
theorem dX6_join_0 : decode cX6_join 0 = .ok (.aload_n 0, 1) := by decide +kernel
theorem dX6_join_1 : decode cX6_join 1 = .ok (.iload_n 1, 1) := by decide +kernel
theorem dX6_join_2 : decode cX6_join 2 = .ok (.invokevirtual 95, 3) := by decide +kernel
theorem dX6_join_5 : decode cX6_join 5 = .ok (.istore_n 3, 1) := by decide +kernel
theorem dX6_join_6 : decode cX6_join 6 = .ok (.iload_n 3, 1) := by decide +kernel
theorem dX6_join_7 : decode cX6_join 7 = .ok (.ifCond .eq 40, 3) := by decide +kernel
theorem dX6_join_10 : decode cX6_join 10 = .ok (.aload_n 0, 1) := by decide +kernel
theorem dX6_join_11 : decode cX6_join 11 = .ok (.getfield 22, 3) := by decide +kernel
theorem dX6_join_14 : decode cX6_join 14 = .ok (.iload_n 1, 1) := by decide +kernel
theorem dX6_join_15 : decode cX6_join 15 = .ok (.iaload, 1) := by decide +kernel
theorem dX6_join_16 : decode cX6_join 16 = .ok (.ifCond .eq 31, 3) := by decide +kernel
theorem dX6_join_19 : decode cX6_join 19 = .ok (.aload_n 0, 1) := by decide +kernel
theorem dX6_join_20 : decode cX6_join 20 = .ok (.getfield 7, 3) := by decide +kernel
theorem dX6_join_23 : decode cX6_join 23 = .ok (.iload_n 1, 1) := by decide +kernel
theorem dX6_join_24 : decode cX6_join 24 = .ok (.iaload, 1) := by decide +kernel
theorem dX6_join_25 : decode cX6_join 25 = .ok (.iload_n 2, 1) := by decide +kernel
theorem dX6_join_26 : decode cX6_join 26 = .ok (.if_icmp .lt 21, 3) := by decide +kernel
theorem dX6_join_29 : decode cX6_join 29 = .ok (.aload_n 0, 1) := by decide +kernel
theorem dX6_join_30 : decode cX6_join 30 = .ok (.getfield 22, 3) := by decide +kernel
theorem dX6_join_33 : decode cX6_join 33 = .ok (.iload_n 1, 1) := by decide +kernel
theorem dX6_join_34 : decode cX6_join 34 = .ok (.iaload, 1) := by decide +kernel
theorem dX6_join_35 : decode cX6_join 35 = .ok (.iconst 1, 1) := by decide +kernel
theorem dX6_join_36 : decode cX6_join 36 = .ok (.if_icmp .eq 7, 3) := by decide +kernel
theorem dX6_join_39 : decode cX6_join 39 = .ok (.iload_n 2, 1) := by decide +kernel
theorem dX6_join_40 : decode cX6_join 40 = .ok (.ifCond .le 7, 3) := by decide +kernel
theorem dX6_join_43 : decode cX6_join 43 = .ok (.iconst 1, 1) := by decide +kernel
theorem dX6_join_44 : decode cX6_join 44 = .ok (.goto 4, 3) := by decide +kernel
theorem dX6_join_47 : decode cX6_join 47 = .ok (.iconst 0, 1) := by decide +kernel
theorem dX6_join_48 : decode cX6_join 48 = .ok (.istore 4, 2) := by decide +kernel
theorem dX6_join_50 : decode cX6_join 50 = .ok (.aload_n 0, 1) := by decide +kernel
theorem dX6_join_51 : decode cX6_join 51 = .ok (.iload_n 3, 1) := by decide +kernel
theorem dX6_join_52 : decode cX6_join 52 = .ok (.ifCond .ne 7, 3) := by decide +kernel
theorem dX6_join_55 : decode cX6_join 55 = .ok (.iconst 1, 1) := by decide +kernel
theorem dX6_join_56 : decode cX6_join 56 = .ok (.goto 28, 3) := by decide +kernel
theorem dX6_join_59 : decode cX6_join 59 = .ok (.iload_n 2, 1) := by decide +kernel
theorem dX6_join_60 : decode cX6_join 60 = .ok (.iconst 0, 1) := by decide +kernel
theorem dX6_join_61 : decode cX6_join 61 = .ok (.sipush 9999, 3) := by decide +kernel
theorem dX6_join_64 : decode cX6_join 64 = .ok (.invokestatic 87, 3) := by decide +kernel
theorem dX6_join_67 : decode cX6_join 67 = .ok (.ifCond .ne 7, 3) := by decide +kernel
theorem dX6_join_70 : decode cX6_join 70 = .ok (.iconst 2, 1) := by decide +kernel
theorem dX6_join_71 : decode cX6_join 71 = .ok (.goto 13, 3) := by decide +kernel
theorem dX6_join_74 : decode cX6_join 74 = .ok (.iload 4, 2) := by decide +kernel
theorem dX6_join_76 : decode cX6_join 76 = .ok (.ifCond .eq 7, 3) := by decide +kernel
theorem dX6_join_79 : decode cX6_join 79 = .ok (.iconst 0, 1) := by decide +kernel
theorem dX6_join_80 : decode cX6_join 80 = .ok (.goto 4, 3) := by decide +kernel
theorem dX6_join_83 : decode cX6_join 83 = .ok (.iconst 3, 1) := by decide +kernel
theorem dX6_join_84 : decode cX6_join 84 = .ok (.invokevirtual 91, 3) := by decide +kernel
theorem dX6_join_87 : decode cX6_join 87 = .ok (.ifCond .ne 5, 3) := by decide +kernel
theorem dX6_join_90 : decode cX6_join 90 = .ok (.iconst 0, 1) := by decide +kernel
theorem dX6_join_91 : decode cX6_join 91 = .ok (.ireturn, 1) := by decide +kernel
theorem dX6_join_92 : decode cX6_join 92 = .ok (.aload_n 0, 1) := by decide +kernel
theorem dX6_join_93 : decode cX6_join 93 = .ok (.getfield 22, 3) := by decide +kernel
theorem dX6_join_96 : decode cX6_join 96 = .ok (.iload_n 1, 1) := by decide +kernel
theorem dX6_join_97 : decode cX6_join 97 = .ok (.iconst 0, 1) := by decide +kernel
theorem dX6_join_98 : decode cX6_join 98 = .ok (.iastore, 1) := by decide +kernel
theorem dX6_join_99 : decode cX6_join 99 = .ok (.aload_n 0, 1) := by decide +kernel
theorem dX6_join_100 : decode cX6_join 100 = .ok (.iload_n 1, 1) := by decide +kernel
theorem dX6_join_101 : decode cX6_join 101 = .ok (.iload_n 2, 1) := by decide +kernel
theorem dX6_join_102 : decode cX6_join 102 = .ok (.invokevirtual 98, 3) := by decide +kernel
theorem dX6_join_105 : decode cX6_join 105 = .ok (.ireturn, 1) := by decide +kernel
theorem dX6_relays_0 : decode cX6_relays 0 = .ok (.aload_n 0, 1) := by decide +kernel
theorem dX6_relays_1 : decode cX6_relays 1 = .ok (.getfield 22, 3) := by decide +kernel
theorem dX6_relays_4 : decode cX6_relays 4 = .ok (.iload_n 1, 1) := by decide +kernel
theorem dX6_relays_5 : decode cX6_relays 5 = .ok (.iaload, 1) := by decide +kernel
theorem dX6_relays_6 : decode cX6_relays 6 = .ok (.ifCond .ne 24, 3) := by decide +kernel
theorem dX6_relays_9 : decode cX6_relays 9 = .ok (.aload_n 0, 1) := by decide +kernel
theorem dX6_relays_10 : decode cX6_relays 10 = .ok (.getfield 13, 3) := by decide +kernel
theorem dX6_relays_13 : decode cX6_relays 13 = .ok (.iload_n 1, 1) := by decide +kernel
theorem dX6_relays_14 : decode cX6_relays 14 = .ok (.iaload, 1) := by decide +kernel
theorem dX6_relays_15 : decode cX6_relays 15 = .ok (.iconst 2, 1) := by decide +kernel
theorem dX6_relays_16 : decode cX6_relays 16 = .ok (.aload_n 0, 1) := by decide +kernel
theorem dX6_relays_17 : decode cX6_relays 17 = .ok (.getfield 16, 3) := by decide +kernel
theorem dX6_relays_20 : decode cX6_relays 20 = .ok (.iload_n 1, 1) := by decide +kernel
theorem dX6_relays_21 : decode cX6_relays 21 = .ok (.iaload, 1) := by decide +kernel
theorem dX6_relays_22 : decode cX6_relays 22 = .ok (.imul, 1) := by decide +kernel
theorem dX6_relays_23 : decode cX6_relays 23 = .ok (.if_icmp .lt 7, 3) := by decide +kernel
theorem dX6_relays_26 : decode cX6_relays 26 = .ok (.iconst 1, 1) := by decide +kernel
theorem dX6_relays_27 : decode cX6_relays 27 = .ok (.goto 4, 3) := by decide +kernel
theorem dX6_relays_30 : decode cX6_relays 30 = .ok (.iconst 0, 1) := by decide +kernel
theorem dX6_relays_31 : decode cX6_relays 31 = .ok (.ireturn, 1) := by decide +kernel
theorem dX6_step_0 : decode cX6_step 0 = .ok (.iload_n 1, 1) := by decide +kernel
theorem dX6_step_1 : decode cX6_step 1 = .ok (.iload_n 2, 1) := by decide +kernel
theorem dX6_step_2 : decode cX6_step 2 = .ok (.if_icmp .ne 7, 3) := by decide +kernel
theorem dX6_step_5 : decode cX6_step 5 = .ok (.iconst 0, 1) := by decide +kernel
theorem dX6_step_6 : decode cX6_step 6 = .ok (.goto 35, 3) := by decide +kernel
theorem dX6_step_9 : decode cX6_step 9 = .ok (.aload_n 0, 1) := by decide +kernel
theorem dX6_step_10 : decode cX6_step 10 = .ok (.iload_n 1, 1) := by decide +kernel
theorem dX6_step_11 : decode cX6_step 11 = .ok (.invokevirtual 105, 3) := by decide +kernel
theorem dX6_step_14 : decode cX6_step 14 = .ok (.ifCond .eq 25, 3) := by decide +kernel
theorem dX6_step_17 : decode cX6_step 17 = .ok (.aload_n 0, 1) := by decide +kernel
theorem dX6_step_18 : decode cX6_step 18 = .ok (.getfield 16, 3) := by decide +kernel
theorem dX6_step_21 : decode cX6_step 21 = .ok (.iload_n 1, 1) := by decide +kernel
theorem dX6_step_22 : decode cX6_step 22 = .ok (.iaload, 1) := by decide +kernel
theorem dX6_step_23 : decode cX6_step 23 = .ok (.bipush 100, 2) := by decide +kernel
theorem dX6_step_25 : decode cX6_step 25 = .ok (.aload_n 0, 1) := by decide +kernel
theorem dX6_step_26 : decode cX6_step 26 = .ok (.getfield 19, 3) := by decide +kernel
theorem dX6_step_29 : decode cX6_step 29 = .ok (.iload_n 1, 1) := by decide +kernel
theorem dX6_step_30 : decode cX6_step 30 = .ok (.iaload, 1) := by decide +kernel
theorem dX6_step_31 : decode cX6_step 31 = .ok (.isub, 1) := by decide +kernel
theorem dX6_step_32 : decode cX6_step 32 = .ok (.bipush 10, 2) := by decide +kernel
theorem dX6_step_34 : decode cX6_step 34 = .ok (.idiv, 1) := by decide +kernel
theorem dX6_step_35 : decode cX6_step 35 = .ok (.iadd, 1) := by decide +kernel
theorem dX6_step_36 : decode cX6_step 36 = .ok (.goto 5, 3) := by decide +kernel
theorem dX6_step_39 : decode cX6_step 39 = .ok (.ldc 108, 2) := by decide +kernel
theorem dX6_step_41 : decode cX6_step 41 = .ok (.ireturn, 1) := by decide +kernel
theorem dX6_finds_0 : decode cX6_finds 0 = .ok (.iconst 0, 1) := by decide +kernel
theorem dX6_finds_1 : decode cX6_finds 1 = .ok (.istore_n 2, 1) := by decide +kernel
theorem dX6_finds_2 : decode cX6_finds 2 = .ok (.iload_n 2, 1) := by decide +kernel
theorem dX6_finds_3 : decode cX6_finds 3 = .ok (.aload_n 0, 1) := by decide +kernel
theorem dX6_finds_4 : decode cX6_finds 4 = .ok (.getfield 84, 3) := by decide +kernel
theorem dX6_finds_7 : decode cX6_finds 7 = .ok (.if_icmp .ge 33, 3) := by decide +kernel
theorem dX6_finds_10 : decode cX6_finds 10 = .ok (.aload_n 0, 1) := by decide +kernel
theorem dX6_finds_11 : decode cX6_finds 11 = .ok (.getfield 74, 3) := by decide +kernel
theorem dX6_finds_14 : decode cX6_finds 14 = .ok (.iload_n 2, 1) := by decide +kernel
theorem dX6_finds_15 : decode cX6_finds 15 = .ok (.iload_n 2, 1) := by decide +kernel
theorem dX6_finds_16 : decode cX6_finds 16 = .ok (.iload_n 1, 1) := by decide +kernel
theorem dX6_finds_17 : decode cX6_finds 17 = .ok (.if_icmp .ne 7, 3) := by decide +kernel
theorem dX6_finds_20 : decode cX6_finds 20 = .ok (.iconst 0, 1) := by decide +kernel
theorem dX6_finds_21 : decode cX6_finds 21 = .ok (.goto 5, 3) := by decide +kernel
theorem dX6_finds_24 : decode cX6_finds 24 = .ok (.ldc 108, 2) := by decide +kernel
theorem dX6_finds_26 : decode cX6_finds 26 = .ok (.iastore, 1) := by decide +kernel
theorem dX6_finds_27 : decode cX6_finds 27 = .ok (.aload_n 0, 1) := by decide +kernel
theorem dX6_finds_28 : decode cX6_finds 28 = .ok (.getfield 77, 3) := by decide +kernel
theorem dX6_finds_31 : decode cX6_finds 31 = .ok (.iload_n 2, 1) := by decide +kernel
theorem dX6_finds_32 : decode cX6_finds 32 = .ok (.iconst 0, 1) := by decide +kernel
theorem dX6_finds_33 : decode cX6_finds 33 = .ok (.iastore, 1) := by decide +kernel
theorem dX6_finds_34 : decode cX6_finds 34 = .ok (.iinc 2 1, 3) := by decide +kernel
theorem dX6_finds_37 : decode cX6_finds 37 = .ok (.goto (-35), 3) := by decide +kernel
theorem dX6_finds_40 : decode cX6_finds 40 = .ok (.iconst 0, 1) := by decide +kernel
theorem dX6_finds_41 : decode cX6_finds 41 = .ok (.istore_n 2, 1) := by decide +kernel
theorem dX6_finds_42 : decode cX6_finds 42 = .ok (.iload_n 2, 1) := by decide +kernel
theorem dX6_finds_43 : decode cX6_finds 43 = .ok (.aload_n 0, 1) := by decide +kernel
theorem dX6_finds_44 : decode cX6_finds 44 = .ok (.getfield 84, 3) := by decide +kernel
theorem dX6_finds_47 : decode cX6_finds 47 = .ok (.if_icmp .ge 202, 3) := by decide +kernel
theorem dX6_finds_50 : decode cX6_finds 50 = .ok (.iconst 0, 1) := by decide +kernel
theorem dX6_finds_51 : decode cX6_finds 51 = .ok (.istore_n 3, 1) := by decide +kernel
theorem dX6_finds_52 : decode cX6_finds 52 = .ok (.iload_n 3, 1) := by decide +kernel
theorem dX6_finds_53 : decode cX6_finds 53 = .ok (.aload_n 0, 1) := by decide +kernel
theorem dX6_finds_54 : decode cX6_finds 54 = .ok (.getfield 84, 3) := by decide +kernel
theorem dX6_finds_57 : decode cX6_finds 57 = .ok (.if_icmp .ge 186, 3) := by decide +kernel
theorem dX6_finds_60 : decode cX6_finds 60 = .ok (.iconst 0, 1) := by decide +kernel
theorem dX6_finds_61 : decode cX6_finds 61 = .ok (.istore 4, 2) := by decide +kernel
theorem dX6_finds_63 : decode cX6_finds 63 = .ok (.iload 4, 2) := by decide +kernel
theorem dX6_finds_65 : decode cX6_finds 65 = .ok (.aload_n 0, 1) := by decide +kernel
theorem dX6_finds_66 : decode cX6_finds 66 = .ok (.getfield 84, 3) := by decide +kernel
theorem dX6_finds_69 : decode cX6_finds 69 = .ok (.if_icmp .ge 168, 3) := by decide +kernel
theorem dX6_finds_72 : decode cX6_finds 72 = .ok (.iload_n 3, 1) := by decide +kernel
theorem dX6_finds_73 : decode cX6_finds 73 = .ok (.iload_n 1, 1) := by decide +kernel
theorem dX6_finds_74 : decode cX6_finds 74 = .ok (.if_icmp .eq 163, 3) := by decide +kernel
theorem dX6_finds_77 : decode cX6_finds 77 = .ok (.aload_n 0, 1) := by decide +kernel
theorem dX6_finds_78 : decode cX6_finds 78 = .ok (.getfield 37, 3) := by decide +kernel
theorem dX6_finds_81 : decode cX6_finds 81 = .ok (.bipush 12, 2) := by decide +kernel
theorem dX6_finds_83 : decode cX6_finds 83 = .ok (.iload_n 3, 1) := by decide +kernel
theorem dX6_finds_84 : decode cX6_finds 84 = .ok (.imul, 1) := by decide +kernel
theorem dX6_finds_85 : decode cX6_finds 85 = .ok (.iload 4, 2) := by decide +kernel
theorem dX6_finds_87 : decode cX6_finds 87 = .ok (.iadd, 1) := by decide +kernel
theorem dX6_finds_88 : decode cX6_finds 88 = .ok (.baload, 1) := by decide +kernel
theorem dX6_finds_89 : decode cX6_finds 89 = .ok (.ifCond .eq 142, 3) := by decide +kernel
theorem dX6_finds_92 : decode cX6_finds 92 = .ok (.aload_n 0, 1) := by decide +kernel
theorem dX6_finds_93 : decode cX6_finds 93 = .ok (.getfield 74, 3) := by decide +kernel
theorem dX6_finds_96 : decode cX6_finds 96 = .ok (.iload 4, 2) := by decide +kernel
theorem dX6_finds_98 : decode cX6_finds 98 = .ok (.iaload, 1) := by decide +kernel
theorem dX6_finds_99 : decode cX6_finds 99 = .ok (.ldc 108, 2) := by decide +kernel
theorem dX6_finds_101 : decode cX6_finds 101 = .ok (.if_icmp .ge 130, 3) := by decide +kernel
theorem dX6_finds_104 : decode cX6_finds 104 = .ok (.aload_n 0, 1) := by decide +kernel
theorem dX6_finds_105 : decode cX6_finds 105 = .ok (.iload 4, 2) := by decide +kernel
theorem dX6_finds_107 : decode cX6_finds 107 = .ok (.iload_n 1, 1) := by decide +kernel
theorem dX6_finds_108 : decode cX6_finds 108 = .ok (.invokevirtual 109, 3) := by decide +kernel
theorem dX6_finds_111 : decode cX6_finds 111 = .ok (.ldc 108, 2) := by decide +kernel
theorem dX6_finds_113 : decode cX6_finds 113 = .ok (.if_icmp .ge 118, 3) := by decide +kernel
theorem dX6_finds_116 : decode cX6_finds 116 = .ok (.aload_n 0, 1) := by decide +kernel
theorem dX6_finds_117 : decode cX6_finds 117 = .ok (.getfield 74, 3) := by decide +kernel
theorem dX6_finds_120 : decode cX6_finds 120 = .ok (.iload 4, 2) := by decide +kernel
theorem dX6_finds_122 : decode cX6_finds 122 = .ok (.iaload, 1) := by decide +kernel
theorem dX6_finds_123 : decode cX6_finds 123 = .ok (.aload_n 0, 1) := by decide +kernel
theorem dX6_finds_124 : decode cX6_finds 124 = .ok (.iload 4, 2) := by decide +kernel
theorem dX6_finds_126 : decode cX6_finds 126 = .ok (.iload_n 1, 1) := by decide +kernel
theorem dX6_finds_127 : decode cX6_finds 127 = .ok (.invokevirtual 109, 3) := by decide +kernel
theorem dX6_finds_130 : decode cX6_finds 130 = .ok (.iadd, 1) := by decide +kernel
theorem dX6_finds_131 : decode cX6_finds 131 = .ok (.istore 5, 2) := by decide +kernel
theorem dX6_finds_133 : decode cX6_finds 133 = .ok (.iload 5, 2) := by decide +kernel
theorem dX6_finds_135 : decode cX6_finds 135 = .ok (.aload_n 0, 1) := by decide +kernel
theorem dX6_finds_136 : decode cX6_finds 136 = .ok (.getfield 74, 3) := by decide +kernel
theorem dX6_finds_139 : decode cX6_finds 139 = .ok (.iload_n 3, 1) := by decide +kernel
theorem dX6_finds_140 : decode cX6_finds 140 = .ok (.iaload, 1) := by decide +kernel
theorem dX6_finds_141 : decode cX6_finds 141 = .ok (.if_icmp .lt 32, 3) := by decide +kernel
theorem dX6_finds_144 : decode cX6_finds 144 = .ok (.iload 5, 2) := by decide +kernel
theorem dX6_finds_146 : decode cX6_finds 146 = .ok (.aload_n 0, 1) := by decide +kernel
theorem dX6_finds_147 : decode cX6_finds 147 = .ok (.getfield 74, 3) := by decide +kernel
theorem dX6_finds_150 : decode cX6_finds 150 = .ok (.iload_n 3, 1) := by decide +kernel
theorem dX6_finds_151 : decode cX6_finds 151 = .ok (.iaload, 1) := by decide +kernel
theorem dX6_finds_152 : decode cX6_finds 152 = .ok (.if_icmp .ne 25, 3) := by decide +kernel
theorem dX6_finds_155 : decode cX6_finds 155 = .ok (.aload_n 0, 1) := by decide +kernel
theorem dX6_finds_156 : decode cX6_finds 156 = .ok (.getfield 77, 3) := by decide +kernel
theorem dX6_finds_159 : decode cX6_finds 159 = .ok (.iload 4, 2) := by decide +kernel
theorem dX6_finds_161 : decode cX6_finds 161 = .ok (.iaload, 1) := by decide +kernel
theorem dX6_finds_162 : decode cX6_finds 162 = .ok (.iconst 1, 1) := by decide +kernel
theorem dX6_finds_163 : decode cX6_finds 163 = .ok (.iadd, 1) := by decide +kernel
theorem dX6_finds_164 : decode cX6_finds 164 = .ok (.aload_n 0, 1) := by decide +kernel
theorem dX6_finds_165 : decode cX6_finds 165 = .ok (.getfield 77, 3) := by decide +kernel
theorem dX6_finds_168 : decode cX6_finds 168 = .ok (.iload_n 3, 1) := by decide +kernel
theorem dX6_finds_169 : decode cX6_finds 169 = .ok (.iaload, 1) := by decide +kernel
theorem dX6_finds_170 : decode cX6_finds 170 = .ok (.if_icmp .ge 7, 3) := by decide +kernel
theorem dX6_finds_173 : decode cX6_finds 173 = .ok (.iconst 1, 1) := by decide +kernel
theorem dX6_finds_174 : decode cX6_finds 174 = .ok (.goto 4, 3) := by decide +kernel
theorem dX6_finds_177 : decode cX6_finds 177 = .ok (.iconst 0, 1) := by decide +kernel
theorem dX6_finds_178 : decode cX6_finds 178 = .ok (.istore 6, 2) := by decide +kernel
theorem dX6_finds_180 : decode cX6_finds 180 = .ok (.aload_n 0, 1) := by decide +kernel
theorem dX6_finds_181 : decode cX6_finds 181 = .ok (.getfield 77, 3) := by decide +kernel
theorem dX6_finds_184 : decode cX6_finds 184 = .ok (.iload_n 3, 1) := by decide +kernel
theorem dX6_finds_185 : decode cX6_finds 185 = .ok (.iload 6, 2) := by decide +kernel
theorem dX6_finds_187 : decode cX6_finds 187 = .ok (.ifCond .eq 15, 3) := by decide +kernel
theorem dX6_finds_190 : decode cX6_finds 190 = .ok (.aload_n 0, 1) := by decide +kernel
theorem dX6_finds_191 : decode cX6_finds 191 = .ok (.getfield 77, 3) := by decide +kernel
theorem dX6_finds_194 : decode cX6_finds 194 = .ok (.iload 4, 2) := by decide +kernel
theorem dX6_finds_196 : decode cX6_finds 196 = .ok (.iaload, 1) := by decide +kernel
theorem dX6_finds_197 : decode cX6_finds 197 = .ok (.iconst 1, 1) := by decide +kernel
theorem dX6_finds_198 : decode cX6_finds 198 = .ok (.iadd, 1) := by decide +kernel
theorem dX6_finds_199 : decode cX6_finds 199 = .ok (.goto 9, 3) := by decide +kernel
theorem dX6_finds_202 : decode cX6_finds 202 = .ok (.aload_n 0, 1) := by decide +kernel
theorem dX6_finds_203 : decode cX6_finds 203 = .ok (.getfield 77, 3) := by decide +kernel
theorem dX6_finds_206 : decode cX6_finds 206 = .ok (.iload_n 3, 1) := by decide +kernel
theorem dX6_finds_207 : decode cX6_finds 207 = .ok (.iaload, 1) := by decide +kernel
theorem dX6_finds_208 : decode cX6_finds 208 = .ok (.iastore, 1) := by decide +kernel
theorem dX6_finds_209 : decode cX6_finds 209 = .ok (.aload_n 0, 1) := by decide +kernel
theorem dX6_finds_210 : decode cX6_finds 210 = .ok (.getfield 74, 3) := by decide +kernel
theorem dX6_finds_213 : decode cX6_finds 213 = .ok (.iload_n 3, 1) := by decide +kernel
theorem dX6_finds_214 : decode cX6_finds 214 = .ok (.iload 6, 2) := by decide +kernel
theorem dX6_finds_216 : decode cX6_finds 216 = .ok (.ifCond .eq 8, 3) := by decide +kernel
theorem dX6_finds_219 : decode cX6_finds 219 = .ok (.iload 5, 2) := by decide +kernel
theorem dX6_finds_221 : decode cX6_finds 221 = .ok (.goto 9, 3) := by decide +kernel
theorem dX6_finds_224 : decode cX6_finds 224 = .ok (.aload_n 0, 1) := by decide +kernel
theorem dX6_finds_225 : decode cX6_finds 225 = .ok (.getfield 74, 3) := by decide +kernel
theorem dX6_finds_228 : decode cX6_finds 228 = .ok (.iload_n 3, 1) := by decide +kernel
theorem dX6_finds_229 : decode cX6_finds 229 = .ok (.iaload, 1) := by decide +kernel
theorem dX6_finds_230 : decode cX6_finds 230 = .ok (.iastore, 1) := by decide +kernel
theorem dX6_finds_231 : decode cX6_finds 231 = .ok (.iinc 4 1, 3) := by decide +kernel
theorem dX6_finds_234 : decode cX6_finds 234 = .ok (.goto (-171), 3) := by decide +kernel
theorem dX6_finds_237 : decode cX6_finds 237 = .ok (.iinc 3 1, 3) := by decide +kernel
theorem dX6_finds_240 : decode cX6_finds 240 = .ok (.goto (-188), 3) := by decide +kernel
theorem dX6_finds_243 : decode cX6_finds 243 = .ok (.iinc 2 1, 3) := by decide +kernel
theorem dX6_finds_246 : decode cX6_finds 246 = .ok (.goto (-204), 3) := by decide +kernel
theorem dX6_finds_249 : decode cX6_finds 249 = .ok (.return_, 1) := by decide +kernel
theorem dX6_next_0 : decode cX6_next 0 = .ok (.iconst (-1), 1) := by decide +kernel
theorem dX6_next_1 : decode cX6_next 1 = .ok (.istore_n 3, 1) := by decide +kernel
theorem dX6_next_2 : decode cX6_next 2 = .ok (.aload_n 0, 1) := by decide +kernel
theorem dX6_next_3 : decode cX6_next 3 = .ok (.getfield 84, 3) := by decide +kernel
theorem dX6_next_6 : decode cX6_next 6 = .ok (.iconst 1, 1) := by decide +kernel
theorem dX6_next_7 : decode cX6_next 7 = .ok (.isub, 1) := by decide +kernel
theorem dX6_next_8 : decode cX6_next 8 = .ok (.istore 4, 2) := by decide +kernel
theorem dX6_next_10 : decode cX6_next 10 = .ok (.iload 4, 2) := by decide +kernel
theorem dX6_next_12 : decode cX6_next 12 = .ok (.ifCond .lt 109, 3) := by decide +kernel
theorem dX6_next_15 : decode cX6_next 15 = .ok (.aload_n 0, 1) := by decide +kernel
theorem dX6_next_16 : decode cX6_next 16 = .ok (.getfield 37, 3) := by decide +kernel
theorem dX6_next_19 : decode cX6_next 19 = .ok (.bipush 12, 2) := by decide +kernel
theorem dX6_next_21 : decode cX6_next 21 = .ok (.iload_n 1, 1) := by decide +kernel
theorem dX6_next_22 : decode cX6_next 22 = .ok (.imul, 1) := by decide +kernel
theorem dX6_next_23 : decode cX6_next 23 = .ok (.iload 4, 2) := by decide +kernel
theorem dX6_next_25 : decode cX6_next 25 = .ok (.iadd, 1) := by decide +kernel
theorem dX6_next_26 : decode cX6_next 26 = .ok (.baload, 1) := by decide +kernel
theorem dX6_next_27 : decode cX6_next 27 = .ok (.ifCond .eq 31, 3) := by decide +kernel
theorem dX6_next_30 : decode cX6_next 30 = .ok (.aload_n 0, 1) := by decide +kernel
theorem dX6_next_31 : decode cX6_next 31 = .ok (.getfield 74, 3) := by decide +kernel
theorem dX6_next_34 : decode cX6_next 34 = .ok (.iload 4, 2) := by decide +kernel
theorem dX6_next_36 : decode cX6_next 36 = .ok (.iaload, 1) := by decide +kernel
theorem dX6_next_37 : decode cX6_next 37 = .ok (.ldc 108, 2) := by decide +kernel
theorem dX6_next_39 : decode cX6_next 39 = .ok (.if_icmp .ge 19, 3) := by decide +kernel
theorem dX6_next_42 : decode cX6_next 42 = .ok (.aload_n 0, 1) := by decide +kernel
theorem dX6_next_43 : decode cX6_next 43 = .ok (.iload 4, 2) := by decide +kernel
theorem dX6_next_45 : decode cX6_next 45 = .ok (.iload_n 2, 1) := by decide +kernel
theorem dX6_next_46 : decode cX6_next 46 = .ok (.invokevirtual 109, 3) := by decide +kernel
theorem dX6_next_49 : decode cX6_next 49 = .ok (.ldc 108, 2) := by decide +kernel
theorem dX6_next_51 : decode cX6_next 51 = .ok (.if_icmp .ge 7, 3) := by decide +kernel
theorem dX6_next_54 : decode cX6_next 54 = .ok (.iconst 1, 1) := by decide +kernel
theorem dX6_next_55 : decode cX6_next 55 = .ok (.goto 4, 3) := by decide +kernel
theorem dX6_next_58 : decode cX6_next 58 = .ok (.iconst 0, 1) := by decide +kernel
theorem dX6_next_59 : decode cX6_next 59 = .ok (.istore 5, 2) := by decide +kernel
theorem dX6_next_61 : decode cX6_next 61 = .ok (.iload 5, 2) := by decide +kernel
theorem dX6_next_63 : decode cX6_next 63 = .ok (.ifCond .eq 50, 3) := by decide +kernel
theorem dX6_next_66 : decode cX6_next 66 = .ok (.aload_n 0, 1) := by decide +kernel
theorem dX6_next_67 : decode cX6_next 67 = .ok (.getfield 74, 3) := by decide +kernel
theorem dX6_next_70 : decode cX6_next 70 = .ok (.iload 4, 2) := by decide +kernel
theorem dX6_next_72 : decode cX6_next 72 = .ok (.iaload, 1) := by decide +kernel
theorem dX6_next_73 : decode cX6_next 73 = .ok (.aload_n 0, 1) := by decide +kernel
theorem dX6_next_74 : decode cX6_next 74 = .ok (.iload 4, 2) := by decide +kernel
theorem dX6_next_76 : decode cX6_next 76 = .ok (.iload_n 2, 1) := by decide +kernel
theorem dX6_next_77 : decode cX6_next 77 = .ok (.invokevirtual 109, 3) := by decide +kernel
theorem dX6_next_80 : decode cX6_next 80 = .ok (.iadd, 1) := by decide +kernel
theorem dX6_next_81 : decode cX6_next 81 = .ok (.aload_n 0, 1) := by decide +kernel
theorem dX6_next_82 : decode cX6_next 82 = .ok (.getfield 74, 3) := by decide +kernel
theorem dX6_next_85 : decode cX6_next 85 = .ok (.iload_n 1, 1) := by decide +kernel
theorem dX6_next_86 : decode cX6_next 86 = .ok (.iaload, 1) := by decide +kernel
theorem dX6_next_87 : decode cX6_next 87 = .ok (.if_icmp .ne 26, 3) := by decide +kernel
theorem dX6_next_90 : decode cX6_next 90 = .ok (.aload_n 0, 1) := by decide +kernel
theorem dX6_next_91 : decode cX6_next 91 = .ok (.getfield 77, 3) := by decide +kernel
theorem dX6_next_94 : decode cX6_next 94 = .ok (.iload 4, 2) := by decide +kernel
theorem dX6_next_96 : decode cX6_next 96 = .ok (.iaload, 1) := by decide +kernel
theorem dX6_next_97 : decode cX6_next 97 = .ok (.iconst 1, 1) := by decide +kernel
theorem dX6_next_98 : decode cX6_next 98 = .ok (.iadd, 1) := by decide +kernel
theorem dX6_next_99 : decode cX6_next 99 = .ok (.aload_n 0, 1) := by decide +kernel
theorem dX6_next_100 : decode cX6_next 100 = .ok (.getfield 77, 3) := by decide +kernel
theorem dX6_next_103 : decode cX6_next 103 = .ok (.iload_n 1, 1) := by decide +kernel
theorem dX6_next_104 : decode cX6_next 104 = .ok (.iaload, 1) := by decide +kernel
theorem dX6_next_105 : decode cX6_next 105 = .ok (.if_icmp .ne 8, 3) := by decide +kernel
theorem dX6_next_108 : decode cX6_next 108 = .ok (.iload 4, 2) := by decide +kernel
theorem dX6_next_110 : decode cX6_next 110 = .ok (.goto 4, 3) := by decide +kernel
theorem dX6_next_113 : decode cX6_next 113 = .ok (.iload_n 3, 1) := by decide +kernel
theorem dX6_next_114 : decode cX6_next 114 = .ok (.istore_n 3, 1) := by decide +kernel
theorem dX6_next_115 : decode cX6_next 115 = .ok (.iinc 4 (-1), 3) := by decide +kernel
theorem dX6_next_118 : decode cX6_next 118 = .ok (.goto (-108), 3) := by decide +kernel
theorem dX6_next_121 : decode cX6_next 121 = .ok (.iload_n 3, 1) := by decide +kernel
theorem dX6_next_122 : decode cX6_next 122 = .ok (.ireturn, 1) := by decide +kernel
theorem dX6_lays_0 : decode cX6_lays 0 = .ok (.iconst 0, 1) := by decide +kernel
theorem dX6_lays_1 : decode cX6_lays 1 = .ok (.istore 4, 2) := by decide +kernel
theorem dX6_lays_3 : decode cX6_lays 3 = .ok (.iload_n 2, 1) := by decide +kernel
theorem dX6_lays_4 : decode cX6_lays 4 = .ok (.istore 5, 2) := by decide +kernel
theorem dX6_lays_6 : decode cX6_lays 6 = .ok (.iconst 0, 1) := by decide +kernel
theorem dX6_lays_7 : decode cX6_lays 7 = .ok (.istore 6, 2) := by decide +kernel
theorem dX6_lays_9 : decode cX6_lays 9 = .ok (.aload_n 0, 1) := by decide +kernel
theorem dX6_lays_10 : decode cX6_lays 10 = .ok (.getfield 59, 3) := by decide +kernel
theorem dX6_lays_13 : decode cX6_lays 13 = .ok (.bipush 13, 2) := by decide +kernel
theorem dX6_lays_15 : decode cX6_lays 15 = .ok (.iload_n 1, 1) := by decide +kernel
theorem dX6_lays_16 : decode cX6_lays 16 = .ok (.imul, 1) := by decide +kernel
theorem dX6_lays_17 : decode cX6_lays 17 = .ok (.iload_n 2, 1) := by decide +kernel
theorem dX6_lays_18 : decode cX6_lays 18 = .ok (.iastore, 1) := by decide +kernel
theorem dX6_lays_19 : decode cX6_lays 19 = .ok (.iload 5, 2) := by decide +kernel
theorem dX6_lays_21 : decode cX6_lays 21 = .ok (.iload_n 3, 1) := by decide +kernel
theorem dX6_lays_22 : decode cX6_lays 22 = .ok (.if_icmp .eq 72, 3) := by decide +kernel
theorem dX6_lays_25 : decode cX6_lays 25 = .ok (.aload_n 0, 1) := by decide +kernel
theorem dX6_lays_26 : decode cX6_lays 26 = .ok (.iload 5, 2) := by decide +kernel
theorem dX6_lays_28 : decode cX6_lays 28 = .ok (.iload_n 3, 1) := by decide +kernel
theorem dX6_lays_29 : decode cX6_lays 29 = .ok (.invokevirtual 112, 3) := by decide +kernel
theorem dX6_lays_32 : decode cX6_lays 32 = .ok (.istore 5, 2) := by decide +kernel
theorem dX6_lays_34 : decode cX6_lays 34 = .ok (.iinc 6 1, 3) := by decide +kernel
theorem dX6_lays_37 : decode cX6_lays 37 = .ok (.iload 5, 2) := by decide +kernel
theorem dX6_lays_39 : decode cX6_lays 39 = .ok (.iload_n 3, 1) := by decide +kernel
theorem dX6_lays_40 : decode cX6_lays 40 = .ok (.if_icmp .ne 7, 3) := by decide +kernel
theorem dX6_lays_43 : decode cX6_lays 43 = .ok (.iconst 0, 1) := by decide +kernel
theorem dX6_lays_44 : decode cX6_lays 44 = .ok (.goto 10, 3) := by decide +kernel
theorem dX6_lays_47 : decode cX6_lays 47 = .ok (.aload_n 0, 1) := by decide +kernel
theorem dX6_lays_48 : decode cX6_lays 48 = .ok (.getfield 16, 3) := by decide +kernel
theorem dX6_lays_51 : decode cX6_lays 51 = .ok (.iload 5, 2) := by decide +kernel
theorem dX6_lays_53 : decode cX6_lays 53 = .ok (.iaload, 1) := by decide +kernel
theorem dX6_lays_54 : decode cX6_lays 54 = .ok (.istore 7, 2) := by decide +kernel
theorem dX6_lays_56 : decode cX6_lays 56 = .ok (.aload_n 0, 1) := by decide +kernel
theorem dX6_lays_57 : decode cX6_lays 57 = .ok (.getfield 59, 3) := by decide +kernel
theorem dX6_lays_60 : decode cX6_lays 60 = .ok (.bipush 13, 2) := by decide +kernel
theorem dX6_lays_62 : decode cX6_lays 62 = .ok (.iload_n 1, 1) := by decide +kernel
theorem dX6_lays_63 : decode cX6_lays 63 = .ok (.imul, 1) := by decide +kernel
theorem dX6_lays_64 : decode cX6_lays 64 = .ok (.iload 6, 2) := by decide +kernel
theorem dX6_lays_66 : decode cX6_lays 66 = .ok (.iadd, 1) := by decide +kernel
theorem dX6_lays_67 : decode cX6_lays 67 = .ok (.iload 5, 2) := by decide +kernel
theorem dX6_lays_69 : decode cX6_lays 69 = .ok (.iastore, 1) := by decide +kernel
theorem dX6_lays_70 : decode cX6_lays 70 = .ok (.aload_n 0, 1) := by decide +kernel
theorem dX6_lays_71 : decode cX6_lays 71 = .ok (.getfield 62, 3) := by decide +kernel
theorem dX6_lays_74 : decode cX6_lays 74 = .ok (.bipush 13, 2) := by decide +kernel
theorem dX6_lays_76 : decode cX6_lays 76 = .ok (.iload_n 1, 1) := by decide +kernel
theorem dX6_lays_77 : decode cX6_lays 77 = .ok (.imul, 1) := by decide +kernel
theorem dX6_lays_78 : decode cX6_lays 78 = .ok (.iload 6, 2) := by decide +kernel
theorem dX6_lays_80 : decode cX6_lays 80 = .ok (.iadd, 1) := by decide +kernel
theorem dX6_lays_81 : decode cX6_lays 81 = .ok (.iload 7, 2) := by decide +kernel
theorem dX6_lays_83 : decode cX6_lays 83 = .ok (.iastore, 1) := by decide +kernel
theorem dX6_lays_84 : decode cX6_lays 84 = .ok (.iload 4, 2) := by decide +kernel
theorem dX6_lays_86 : decode cX6_lays 86 = .ok (.iload 7, 2) := by decide +kernel
theorem dX6_lays_88 : decode cX6_lays 88 = .ok (.iadd, 1) := by decide +kernel
theorem dX6_lays_89 : decode cX6_lays 89 = .ok (.istore 4, 2) := by decide +kernel
theorem dX6_lays_91 : decode cX6_lays 91 = .ok (.goto (-72), 3) := by decide +kernel
theorem dX6_lays_94 : decode cX6_lays 94 = .ok (.aload_n 0, 1) := by decide +kernel
theorem dX6_lays_95 : decode cX6_lays 95 = .ok (.getfield 44, 3) := by decide +kernel
theorem dX6_lays_98 : decode cX6_lays 98 = .ok (.iload_n 1, 1) := by decide +kernel
theorem dX6_lays_99 : decode cX6_lays 99 = .ok (.iload 6, 2) := by decide +kernel
theorem dX6_lays_101 : decode cX6_lays 101 = .ok (.iastore, 1) := by decide +kernel
theorem dX6_lays_102 : decode cX6_lays 102 = .ok (.iload 4, 2) := by decide +kernel
theorem dX6_lays_104 : decode cX6_lays 104 = .ok (.ireturn, 1) := by decide +kernel
theorem dX6_costNow_0 : decode cX6_costNow 0 = .ok (.aload_n 0, 1) := by decide +kernel
theorem dX6_costNow_1 : decode cX6_costNow 1 = .ok (.iload_n 2, 1) := by decide +kernel
theorem dX6_costNow_2 : decode cX6_costNow 2 = .ok (.invokevirtual 115, 3) := by decide +kernel
theorem dX6_costNow_5 : decode cX6_costNow 5 = .ok (.iconst 0, 1) := by decide +kernel
theorem dX6_costNow_6 : decode cX6_costNow 6 = .ok (.istore_n 3, 1) := by decide +kernel
theorem dX6_costNow_7 : decode cX6_costNow 7 = .ok (.iload_n 1, 1) := by decide +kernel
theorem dX6_costNow_8 : decode cX6_costNow 8 = .ok (.istore 4, 2) := by decide +kernel
theorem dX6_costNow_10 : decode cX6_costNow 10 = .ok (.aload_n 0, 1) := by decide +kernel
theorem dX6_costNow_11 : decode cX6_costNow 11 = .ok (.getfield 74, 3) := by decide +kernel
theorem dX6_costNow_14 : decode cX6_costNow 14 = .ok (.iload_n 1, 1) := by decide +kernel
theorem dX6_costNow_15 : decode cX6_costNow 15 = .ok (.iaload, 1) := by decide +kernel
theorem dX6_costNow_16 : decode cX6_costNow 16 = .ok (.ldc 108, 2) := by decide +kernel
theorem dX6_costNow_18 : decode cX6_costNow 18 = .ok (.if_icmp .lt 5, 3) := by decide +kernel
theorem dX6_costNow_21 : decode cX6_costNow 21 = .ok (.iconst (-1), 1) := by decide +kernel
theorem dX6_costNow_22 : decode cX6_costNow 22 = .ok (.ireturn, 1) := by decide +kernel
theorem dX6_costNow_23 : decode cX6_costNow 23 = .ok (.iload 4, 2) := by decide +kernel
theorem dX6_costNow_25 : decode cX6_costNow 25 = .ok (.iload_n 2, 1) := by decide +kernel
theorem dX6_costNow_26 : decode cX6_costNow 26 = .ok (.if_icmp .eq 35, 3) := by decide +kernel
theorem dX6_costNow_29 : decode cX6_costNow 29 = .ok (.aload_n 0, 1) := by decide +kernel
theorem dX6_costNow_30 : decode cX6_costNow 30 = .ok (.iload 4, 2) := by decide +kernel
theorem dX6_costNow_32 : decode cX6_costNow 32 = .ok (.iload_n 2, 1) := by decide +kernel
theorem dX6_costNow_33 : decode cX6_costNow 33 = .ok (.invokevirtual 112, 3) := by decide +kernel
theorem dX6_costNow_36 : decode cX6_costNow 36 = .ok (.istore 4, 2) := by decide +kernel
theorem dX6_costNow_38 : decode cX6_costNow 38 = .ok (.iload_n 3, 1) := by decide +kernel
theorem dX6_costNow_39 : decode cX6_costNow 39 = .ok (.iload 4, 2) := by decide +kernel
theorem dX6_costNow_41 : decode cX6_costNow 41 = .ok (.iload_n 2, 1) := by decide +kernel
theorem dX6_costNow_42 : decode cX6_costNow 42 = .ok (.if_icmp .ne 7, 3) := by decide +kernel
theorem dX6_costNow_45 : decode cX6_costNow 45 = .ok (.iconst 0, 1) := by decide +kernel
theorem dX6_costNow_46 : decode cX6_costNow 46 = .ok (.goto 10, 3) := by decide +kernel
theorem dX6_costNow_49 : decode cX6_costNow 49 = .ok (.aload_n 0, 1) := by decide +kernel
theorem dX6_costNow_50 : decode cX6_costNow 50 = .ok (.getfield 16, 3) := by decide +kernel
theorem dX6_costNow_53 : decode cX6_costNow 53 = .ok (.iload 4, 2) := by decide +kernel
theorem dX6_costNow_55 : decode cX6_costNow 55 = .ok (.iaload, 1) := by decide +kernel
theorem dX6_costNow_56 : decode cX6_costNow 56 = .ok (.iadd, 1) := by decide +kernel
theorem dX6_costNow_57 : decode cX6_costNow 57 = .ok (.istore_n 3, 1) := by decide +kernel
theorem dX6_costNow_58 : decode cX6_costNow 58 = .ok (.goto (-35), 3) := by decide +kernel
theorem dX6_costNow_61 : decode cX6_costNow 61 = .ok (.iload_n 3, 1) := by decide +kernel
theorem dX6_costNow_62 : decode cX6_costNow 62 = .ok (.ireturn, 1) := by decide +kernel
theorem dX6_wrong_0 : decode cX6_wrong 0 = .ok (.aload_n 0, 1) := by decide +kernel
theorem dX6_wrong_1 : decode cX6_wrong 1 = .ok (.iload_n 1, 1) := by decide +kernel
theorem dX6_wrong_2 : decode cX6_wrong 2 = .ok (.invokevirtual 95, 3) := by decide +kernel
theorem dX6_wrong_5 : decode cX6_wrong 5 = .ok (.ifCond .eq 11, 3) := by decide +kernel
theorem dX6_wrong_8 : decode cX6_wrong 8 = .ok (.aload_n 0, 1) := by decide +kernel
theorem dX6_wrong_9 : decode cX6_wrong 9 = .ok (.iload_n 2, 1) := by decide +kernel
theorem dX6_wrong_10 : decode cX6_wrong 10 = .ok (.invokevirtual 95, 3) := by decide +kernel
theorem dX6_wrong_13 : decode cX6_wrong 13 = .ok (.ifCond .ne 7, 3) := by decide +kernel
theorem dX6_wrong_16 : decode cX6_wrong 16 = .ok (.iconst 1, 1) := by decide +kernel
theorem dX6_wrong_17 : decode cX6_wrong 17 = .ok (.goto 13, 3) := by decide +kernel
theorem dX6_wrong_20 : decode cX6_wrong 20 = .ok (.iload_n 1, 1) := by decide +kernel
theorem dX6_wrong_21 : decode cX6_wrong 21 = .ok (.iload_n 2, 1) := by decide +kernel
theorem dX6_wrong_22 : decode cX6_wrong 22 = .ok (.if_icmp .ne 7, 3) := by decide +kernel
theorem dX6_wrong_25 : decode cX6_wrong 25 = .ok (.iconst 2, 1) := by decide +kernel
theorem dX6_wrong_26 : decode cX6_wrong 26 = .ok (.goto 4, 3) := by decide +kernel
theorem dX6_wrong_29 : decode cX6_wrong 29 = .ok (.iconst 0, 1) := by decide +kernel
theorem dX6_wrong_30 : decode cX6_wrong 30 = .ok (.ireturn, 1) := by decide +kernel
theorem dX6_send_0 : decode cX6_send 0 = .ok (.aload_n 0, 1) := by decide +kernel
theorem dX6_send_1 : decode cX6_send 1 = .ok (.iload_n 1, 1) := by decide +kernel
theorem dX6_send_2 : decode cX6_send 2 = .ok (.iload_n 2, 1) := by decide +kernel
theorem dX6_send_3 : decode cX6_send 3 = .ok (.invokevirtual 119, 3) := by decide +kernel
theorem dX6_send_6 : decode cX6_send 6 = .ok (.istore_n 3, 1) := by decide +kernel
theorem dX6_send_7 : decode cX6_send 7 = .ok (.iload_n 3, 1) := by decide +kernel
theorem dX6_send_8 : decode cX6_send 8 = .ok (.ifCond .le 7, 3) := by decide +kernel
theorem dX6_send_11 : decode cX6_send 11 = .ok (.iconst (-1), 1) := by decide +kernel
theorem dX6_send_12 : decode cX6_send 12 = .ok (.goto 9, 3) := by decide +kernel
theorem dX6_send_15 : decode cX6_send 15 = .ok (.aload_n 0, 1) := by decide +kernel
theorem dX6_send_16 : decode cX6_send 16 = .ok (.iload_n 1, 1) := by decide +kernel
theorem dX6_send_17 : decode cX6_send 17 = .ok (.iload_n 2, 1) := by decide +kernel
theorem dX6_send_18 : decode cX6_send 18 = .ok (.invokevirtual 122, 3) := by decide +kernel
theorem dX6_send_21 : decode cX6_send 21 = .ok (.istore 4, 2) := by decide +kernel
theorem dX6_send_23 : decode cX6_send 23 = .ok (.aload_n 0, 1) := by decide +kernel
theorem dX6_send_24 : decode cX6_send 24 = .ok (.iload_n 3, 1) := by decide +kernel
theorem dX6_send_25 : decode cX6_send 25 = .ok (.ifCond .le 7, 3) := by decide +kernel
theorem dX6_send_28 : decode cX6_send 28 = .ok (.iload_n 3, 1) := by decide +kernel
theorem dX6_send_29 : decode cX6_send 29 = .ok (.goto 34, 3) := by decide +kernel
theorem dX6_send_32 : decode cX6_send 32 = .ok (.aload_n 0, 1) := by decide +kernel
theorem dX6_send_33 : decode cX6_send 33 = .ok (.getfield 125, 3) := by decide +kernel
theorem dX6_send_36 : decode cX6_send 36 = .ok (.bipush 60, 2) := by decide +kernel
theorem dX6_send_38 : decode cX6_send 38 = .ok (.if_icmp .eq 20, 3) := by decide +kernel
theorem dX6_send_41 : decode cX6_send 41 = .ok (.iload 4, 2) := by decide +kernel
theorem dX6_send_43 : decode cX6_send 43 = .ok (.iconst (-1), 1) := by decide +kernel
theorem dX6_send_44 : decode cX6_send 44 = .ok (.if_icmp .eq 14, 3) := by decide +kernel
theorem dX6_send_47 : decode cX6_send 47 = .ok (.aload_n 0, 1) := by decide +kernel
theorem dX6_send_48 : decode cX6_send 48 = .ok (.getfield 7, 3) := by decide +kernel
theorem dX6_send_51 : decode cX6_send 51 = .ok (.iload_n 1, 1) := by decide +kernel
theorem dX6_send_52 : decode cX6_send 52 = .ok (.iaload, 1) := by decide +kernel
theorem dX6_send_53 : decode cX6_send 53 = .ok (.iload 4, 2) := by decide +kernel
theorem dX6_send_55 : decode cX6_send 55 = .ok (.if_icmp .ge 7, 3) := by decide +kernel
theorem dX6_send_58 : decode cX6_send 58 = .ok (.iconst 3, 1) := by decide +kernel
theorem dX6_send_59 : decode cX6_send 59 = .ok (.goto 4, 3) := by decide +kernel
theorem dX6_send_62 : decode cX6_send 62 = .ok (.iconst 0, 1) := by decide +kernel
theorem dX6_send_63 : decode cX6_send 63 = .ok (.invokevirtual 91, 3) := by decide +kernel
theorem dX6_send_66 : decode cX6_send 66 = .ok (.ifCond .ne 5, 3) := by decide +kernel
theorem dX6_send_69 : decode cX6_send 69 = .ok (.iconst 0, 1) := by decide +kernel
theorem dX6_send_70 : decode cX6_send 70 = .ok (.ireturn, 1) := by decide +kernel
theorem dX6_send_71 : decode cX6_send 71 = .ok (.aload_n 0, 1) := by decide +kernel
theorem dX6_send_72 : decode cX6_send 72 = .ok (.getfield 50, 3) := by decide +kernel
theorem dX6_send_75 : decode cX6_send 75 = .ok (.aload_n 0, 1) := by decide +kernel
theorem dX6_send_76 : decode cX6_send 76 = .ok (.getfield 125, 3) := by decide +kernel
theorem dX6_send_79 : decode cX6_send 79 = .ok (.aload_n 0, 1) := by decide +kernel
theorem dX6_send_80 : decode cX6_send 80 = .ok (.aload_n 0, 1) := by decide +kernel
theorem dX6_send_81 : decode cX6_send 81 = .ok (.getfield 125, 3) := by decide +kernel
theorem dX6_send_84 : decode cX6_send 84 = .ok (.iload_n 1, 1) := by decide +kernel
theorem dX6_send_85 : decode cX6_send 85 = .ok (.iload_n 2, 1) := by decide +kernel
theorem dX6_send_86 : decode cX6_send 86 = .ok (.invokevirtual 128, 3) := by decide +kernel
theorem dX6_send_89 : decode cX6_send 89 = .ok (.iastore, 1) := by decide +kernel
theorem dX6_send_90 : decode cX6_send 90 = .ok (.aload_n 0, 1) := by decide +kernel
theorem dX6_send_91 : decode cX6_send 91 = .ok (.getfield 7, 3) := by decide +kernel
theorem dX6_send_94 : decode cX6_send 94 = .ok (.iload_n 1, 1) := by decide +kernel
theorem dX6_send_95 : decode cX6_send 95 = .ok (.dup2, 1) := by decide +kernel
theorem dX6_send_96 : decode cX6_send 96 = .ok (.iaload, 1) := by decide +kernel
theorem dX6_send_97 : decode cX6_send 97 = .ok (.iload 4, 2) := by decide +kernel
theorem dX6_send_99 : decode cX6_send 99 = .ok (.isub, 1) := by decide +kernel
theorem dX6_send_100 : decode cX6_send 100 = .ok (.iastore, 1) := by decide +kernel
theorem dX6_send_101 : decode cX6_send 101 = .ok (.aload_n 0, 1) := by decide +kernel
theorem dX6_send_102 : decode cX6_send 102 = .ok (.getfield 47, 3) := by decide +kernel
theorem dX6_send_105 : decode cX6_send 105 = .ok (.aload_n 0, 1) := by decide +kernel
theorem dX6_send_106 : decode cX6_send 106 = .ok (.getfield 125, 3) := by decide +kernel
theorem dX6_send_109 : decode cX6_send 109 = .ok (.iconst 0, 1) := by decide +kernel
theorem dX6_send_110 : decode cX6_send 110 = .ok (.iastore, 1) := by decide +kernel
theorem dX6_send_111 : decode cX6_send 111 = .ok (.aload_n 0, 1) := by decide +kernel
theorem dX6_send_112 : decode cX6_send 112 = .ok (.dup, 1) := by decide +kernel
theorem dX6_send_113 : decode cX6_send 113 = .ok (.getfield 125, 3) := by decide +kernel
theorem dX6_send_116 : decode cX6_send 116 = .ok (.iconst 1, 1) := by decide +kernel
theorem dX6_send_117 : decode cX6_send 117 = .ok (.iadd, 1) := by decide +kernel
theorem dX6_send_118 : decode cX6_send 118 = .ok (.putfield 125, 3) := by decide +kernel
theorem dX6_send_121 : decode cX6_send 121 = .ok (.aload_n 0, 1) := by decide +kernel
theorem dX6_send_122 : decode cX6_send 122 = .ok (.getfield 125, 3) := by decide +kernel
theorem dX6_send_125 : decode cX6_send 125 = .ok (.iconst 1, 1) := by decide +kernel
theorem dX6_send_126 : decode cX6_send 126 = .ok (.isub, 1) := by decide +kernel
theorem dX6_send_127 : decode cX6_send 127 = .ok (.ireturn, 1) := by decide +kernel
theorem dX6_cost_0 : decode cX6_cost 0 = .ok (.aload_n 0, 1) := by decide +kernel
theorem dX6_cost_1 : decode cX6_cost 1 = .ok (.aload_n 0, 1) := by decide +kernel
theorem dX6_cost_2 : decode cX6_cost 2 = .ok (.iload_n 1, 1) := by decide +kernel
theorem dX6_cost_3 : decode cX6_cost 3 = .ok (.iload_n 2, 1) := by decide +kernel
theorem dX6_cost_4 : decode cX6_cost 4 = .ok (.invokevirtual 119, 3) := by decide +kernel
theorem dX6_cost_7 : decode cX6_cost 7 = .ok (.invokevirtual 91, 3) := by decide +kernel
theorem dX6_cost_10 : decode cX6_cost 10 = .ok (.ifCond .eq 12, 3) := by decide +kernel
theorem dX6_cost_13 : decode cX6_cost 13 = .ok (.aload_n 0, 1) := by decide +kernel
theorem dX6_cost_14 : decode cX6_cost 14 = .ok (.iload_n 1, 1) := by decide +kernel
theorem dX6_cost_15 : decode cX6_cost 15 = .ok (.iload_n 2, 1) := by decide +kernel
theorem dX6_cost_16 : decode cX6_cost 16 = .ok (.invokevirtual 122, 3) := by decide +kernel
theorem dX6_cost_19 : decode cX6_cost 19 = .ok (.goto 4, 3) := by decide +kernel
theorem dX6_cost_22 : decode cX6_cost 22 = .ok (.iconst 0, 1) := by decide +kernel
theorem dX6_cost_23 : decode cX6_cost 23 = .ok (.ireturn, 1) := by decide +kernel
theorem dX6_lose_0 : decode cX6_lose 0 = .ok (.aload_n 0, 1) := by decide +kernel
theorem dX6_lose_1 : decode cX6_lose 1 = .ok (.aload_n 0, 1) := by decide +kernel
theorem dX6_lose_2 : decode cX6_lose 2 = .ok (.iload_n 1, 1) := by decide +kernel
theorem dX6_lose_3 : decode cX6_lose 3 = .ok (.invokevirtual 95, 3) := by decide +kernel
theorem dX6_lose_6 : decode cX6_lose 6 = .ok (.ifCond .ne 7, 3) := by decide +kernel
theorem dX6_lose_9 : decode cX6_lose 9 = .ok (.iconst 1, 1) := by decide +kernel
theorem dX6_lose_10 : decode cX6_lose 10 = .ok (.goto 18, 3) := by decide +kernel
theorem dX6_lose_13 : decode cX6_lose 13 = .ok (.iload_n 2, 1) := by decide +kernel
theorem dX6_lose_14 : decode cX6_lose 14 = .ok (.iconst 0, 1) := by decide +kernel
theorem dX6_lose_15 : decode cX6_lose 15 = .ok (.bipush 9, 2) := by decide +kernel
theorem dX6_lose_17 : decode cX6_lose 17 = .ok (.invokestatic 87, 3) := by decide +kernel
theorem dX6_lose_20 : decode cX6_lose 20 = .ok (.ifCond .eq 7, 3) := by decide +kernel
theorem dX6_lose_23 : decode cX6_lose 23 = .ok (.iconst 0, 1) := by decide +kernel
theorem dX6_lose_24 : decode cX6_lose 24 = .ok (.goto 4, 3) := by decide +kernel
theorem dX6_lose_27 : decode cX6_lose 27 = .ok (.iconst 2, 1) := by decide +kernel
theorem dX6_lose_28 : decode cX6_lose 28 = .ok (.invokevirtual 91, 3) := by decide +kernel
theorem dX6_lose_31 : decode cX6_lose 31 = .ok (.ifCond .ne 5, 3) := by decide +kernel
theorem dX6_lose_34 : decode cX6_lose 34 = .ok (.iconst 0, 1) := by decide +kernel
theorem dX6_lose_35 : decode cX6_lose 35 = .ok (.ireturn, 1) := by decide +kernel
theorem dX6_lose_36 : decode cX6_lose 36 = .ok (.aload_n 0, 1) := by decide +kernel
theorem dX6_lose_37 : decode cX6_lose 37 = .ok (.getfield 28, 3) := by decide +kernel
theorem dX6_lose_40 : decode cX6_lose 40 = .ok (.iload_n 1, 1) := by decide +kernel
theorem dX6_lose_41 : decode cX6_lose 41 = .ok (.iaload, 1) := by decide +kernel
theorem dX6_lose_42 : decode cX6_lose 42 = .ok (.istore_n 3, 1) := by decide +kernel
theorem dX6_lose_43 : decode cX6_lose 43 = .ok (.aload_n 0, 1) := by decide +kernel
theorem dX6_lose_44 : decode cX6_lose 44 = .ok (.getfield 28, 3) := by decide +kernel
theorem dX6_lose_47 : decode cX6_lose 47 = .ok (.iload_n 1, 1) := by decide +kernel
theorem dX6_lose_48 : decode cX6_lose 48 = .ok (.iload_n 2, 1) := by decide +kernel
theorem dX6_lose_49 : decode cX6_lose 49 = .ok (.iastore, 1) := by decide +kernel
theorem dX6_lose_50 : decode cX6_lose 50 = .ok (.iload_n 3, 1) := by decide +kernel
theorem dX6_lose_51 : decode cX6_lose 51 = .ok (.ireturn, 1) := by decide +kernel
theorem dX6_pays_0 : decode cX6_pays 0 = .ok (.iconst 0, 1) := by decide +kernel
theorem dX6_pays_1 : decode cX6_pays 1 = .ok (.istore 4, 2) := by decide +kernel
theorem dX6_pays_3 : decode cX6_pays 3 = .ok (.iconst 1, 1) := by decide +kernel
theorem dX6_pays_4 : decode cX6_pays 4 = .ok (.istore 5, 2) := by decide +kernel
theorem dX6_pays_6 : decode cX6_pays 6 = .ok (.iload 5, 2) := by decide +kernel
theorem dX6_pays_8 : decode cX6_pays 8 = .ok (.iload_n 2, 1) := by decide +kernel
theorem dX6_pays_9 : decode cX6_pays 9 = .ok (.if_icmp .ge 105, 3) := by decide +kernel
theorem dX6_pays_12 : decode cX6_pays 12 = .ok (.aload_n 0, 1) := by decide +kernel
theorem dX6_pays_13 : decode cX6_pays 13 = .ok (.getfield 59, 3) := by decide +kernel
theorem dX6_pays_16 : decode cX6_pays 16 = .ok (.bipush 13, 2) := by decide +kernel
theorem dX6_pays_18 : decode cX6_pays 18 = .ok (.iload_n 1, 1) := by decide +kernel
theorem dX6_pays_19 : decode cX6_pays 19 = .ok (.imul, 1) := by decide +kernel
theorem dX6_pays_20 : decode cX6_pays 20 = .ok (.iload 5, 2) := by decide +kernel
theorem dX6_pays_22 : decode cX6_pays 22 = .ok (.iadd, 1) := by decide +kernel
theorem dX6_pays_23 : decode cX6_pays 23 = .ok (.iaload, 1) := by decide +kernel
theorem dX6_pays_24 : decode cX6_pays 24 = .ok (.istore 6, 2) := by decide +kernel
theorem dX6_pays_26 : decode cX6_pays 26 = .ok (.aload_n 0, 1) := by decide +kernel
theorem dX6_pays_27 : decode cX6_pays 27 = .ok (.getfield 7, 3) := by decide +kernel
theorem dX6_pays_30 : decode cX6_pays 30 = .ok (.iload 6, 2) := by decide +kernel
theorem dX6_pays_32 : decode cX6_pays 32 = .ok (.dup2, 1) := by decide +kernel
theorem dX6_pays_33 : decode cX6_pays 33 = .ok (.iaload, 1) := by decide +kernel
theorem dX6_pays_34 : decode cX6_pays 34 = .ok (.aload_n 0, 1) := by decide +kernel
theorem dX6_pays_35 : decode cX6_pays 35 = .ok (.getfield 62, 3) := by decide +kernel
theorem dX6_pays_38 : decode cX6_pays 38 = .ok (.bipush 13, 2) := by decide +kernel
theorem dX6_pays_40 : decode cX6_pays 40 = .ok (.iload_n 1, 1) := by decide +kernel
theorem dX6_pays_41 : decode cX6_pays 41 = .ok (.imul, 1) := by decide +kernel
theorem dX6_pays_42 : decode cX6_pays 42 = .ok (.iload 5, 2) := by decide +kernel
theorem dX6_pays_44 : decode cX6_pays 44 = .ok (.iadd, 1) := by decide +kernel
theorem dX6_pays_45 : decode cX6_pays 45 = .ok (.iaload, 1) := by decide +kernel
theorem dX6_pays_46 : decode cX6_pays 46 = .ok (.iadd, 1) := by decide +kernel
theorem dX6_pays_47 : decode cX6_pays 47 = .ok (.iastore, 1) := by decide +kernel
theorem dX6_pays_48 : decode cX6_pays 48 = .ok (.aload_n 0, 1) := by decide +kernel
theorem dX6_pays_49 : decode cX6_pays 49 = .ok (.getfield 31, 3) := by decide +kernel
theorem dX6_pays_52 : decode cX6_pays 52 = .ok (.iload 6, 2) := by decide +kernel
theorem dX6_pays_54 : decode cX6_pays 54 = .ok (.dup2, 1) := by decide +kernel
theorem dX6_pays_55 : decode cX6_pays 55 = .ok (.iaload, 1) := by decide +kernel
theorem dX6_pays_56 : decode cX6_pays 56 = .ok (.aload_n 0, 1) := by decide +kernel
theorem dX6_pays_57 : decode cX6_pays 57 = .ok (.getfield 62, 3) := by decide +kernel
theorem dX6_pays_60 : decode cX6_pays 60 = .ok (.bipush 13, 2) := by decide +kernel
theorem dX6_pays_62 : decode cX6_pays 62 = .ok (.iload_n 1, 1) := by decide +kernel
theorem dX6_pays_63 : decode cX6_pays 63 = .ok (.imul, 1) := by decide +kernel
theorem dX6_pays_64 : decode cX6_pays 64 = .ok (.iload 5, 2) := by decide +kernel
theorem dX6_pays_66 : decode cX6_pays 66 = .ok (.iadd, 1) := by decide +kernel
theorem dX6_pays_67 : decode cX6_pays 67 = .ok (.iaload, 1) := by decide +kernel
theorem dX6_pays_68 : decode cX6_pays 68 = .ok (.iadd, 1) := by decide +kernel
theorem dX6_pays_69 : decode cX6_pays 69 = .ok (.iastore, 1) := by decide +kernel
theorem dX6_pays_70 : decode cX6_pays 70 = .ok (.aload_n 0, 1) := by decide +kernel
theorem dX6_pays_71 : decode cX6_pays 71 = .ok (.getfield 19, 3) := by decide +kernel
theorem dX6_pays_74 : decode cX6_pays 74 = .ok (.iload 6, 2) := by decide +kernel
theorem dX6_pays_76 : decode cX6_pays 76 = .ok (.aload_n 0, 1) := by decide +kernel
theorem dX6_pays_77 : decode cX6_pays 77 = .ok (.getfield 19, 3) := by decide +kernel
theorem dX6_pays_80 : decode cX6_pays 80 = .ok (.iload 6, 2) := by decide +kernel
theorem dX6_pays_82 : decode cX6_pays 82 = .ok (.iaload, 1) := by decide +kernel
theorem dX6_pays_83 : decode cX6_pays 83 = .ok (.iload_n 3, 1) := by decide +kernel
theorem dX6_pays_84 : decode cX6_pays 84 = .ok (.iadd, 1) := by decide +kernel
theorem dX6_pays_85 : decode cX6_pays 85 = .ok (.bipush 100, 2) := by decide +kernel
theorem dX6_pays_87 : decode cX6_pays 87 = .ok (.invokestatic 132, 3) := by decide +kernel
theorem dX6_pays_90 : decode cX6_pays 90 = .ok (.iastore, 1) := by decide +kernel
theorem dX6_pays_91 : decode cX6_pays 91 = .ok (.iload 4, 2) := by decide +kernel
theorem dX6_pays_93 : decode cX6_pays 93 = .ok (.aload_n 0, 1) := by decide +kernel
theorem dX6_pays_94 : decode cX6_pays 94 = .ok (.getfield 62, 3) := by decide +kernel
theorem dX6_pays_97 : decode cX6_pays 97 = .ok (.bipush 13, 2) := by decide +kernel
theorem dX6_pays_99 : decode cX6_pays 99 = .ok (.iload_n 1, 1) := by decide +kernel
theorem dX6_pays_100 : decode cX6_pays 100 = .ok (.imul, 1) := by decide +kernel
theorem dX6_pays_101 : decode cX6_pays 101 = .ok (.iload 5, 2) := by decide +kernel
theorem dX6_pays_103 : decode cX6_pays 103 = .ok (.iadd, 1) := by decide +kernel
theorem dX6_pays_104 : decode cX6_pays 104 = .ok (.iaload, 1) := by decide +kernel
theorem dX6_pays_105 : decode cX6_pays 105 = .ok (.iadd, 1) := by decide +kernel
theorem dX6_pays_106 : decode cX6_pays 106 = .ok (.istore 4, 2) := by decide +kernel
theorem dX6_pays_108 : decode cX6_pays 108 = .ok (.iinc 5 1, 3) := by decide +kernel
theorem dX6_pays_111 : decode cX6_pays 111 = .ok (.goto (-105), 3) := by decide +kernel
theorem dX6_pays_114 : decode cX6_pays 114 = .ok (.iload 4, 2) := by decide +kernel
theorem dX6_pays_116 : decode cX6_pays 116 = .ok (.ireturn, 1) := by decide +kernel
theorem dX6_lessTrust_0 : decode cX6_lessTrust 0 = .ok (.aload_n 0, 1) := by decide +kernel
theorem dX6_lessTrust_1 : decode cX6_lessTrust 1 = .ok (.getfield 19, 3) := by decide +kernel
theorem dX6_lessTrust_4 : decode cX6_lessTrust 4 = .ok (.iload_n 1, 1) := by decide +kernel
theorem dX6_lessTrust_5 : decode cX6_lessTrust 5 = .ok (.aload_n 0, 1) := by decide +kernel
theorem dX6_lessTrust_6 : decode cX6_lessTrust 6 = .ok (.getfield 19, 3) := by decide +kernel
theorem dX6_lessTrust_9 : decode cX6_lessTrust 9 = .ok (.iload_n 1, 1) := by decide +kernel
theorem dX6_lessTrust_10 : decode cX6_lessTrust 10 = .ok (.iaload, 1) := by decide +kernel
theorem dX6_lessTrust_11 : decode cX6_lessTrust 11 = .ok (.iload_n 2, 1) := by decide +kernel
theorem dX6_lessTrust_12 : decode cX6_lessTrust 12 = .ok (.if_icmp .ge 7, 3) := by decide +kernel
theorem dX6_lessTrust_15 : decode cX6_lessTrust 15 = .ok (.iconst 0, 1) := by decide +kernel
theorem dX6_lessTrust_16 : decode cX6_lessTrust 16 = .ok (.goto 11, 3) := by decide +kernel
theorem dX6_lessTrust_19 : decode cX6_lessTrust 19 = .ok (.aload_n 0, 1) := by decide +kernel
theorem dX6_lessTrust_20 : decode cX6_lessTrust 20 = .ok (.getfield 19, 3) := by decide +kernel
theorem dX6_lessTrust_23 : decode cX6_lessTrust 23 = .ok (.iload_n 1, 1) := by decide +kernel
theorem dX6_lessTrust_24 : decode cX6_lessTrust 24 = .ok (.iaload, 1) := by decide +kernel
theorem dX6_lessTrust_25 : decode cX6_lessTrust 25 = .ok (.iload_n 2, 1) := by decide +kernel
theorem dX6_lessTrust_26 : decode cX6_lessTrust 26 = .ok (.isub, 1) := by decide +kernel
theorem dX6_lessTrust_27 : decode cX6_lessTrust 27 = .ok (.iastore, 1) := by decide +kernel
theorem dX6_lessTrust_28 : decode cX6_lessTrust 28 = .ok (.return_, 1) := by decide +kernel
theorem dX6_goes_0 : decode cX6_goes 0 = .ok (.aload_n 0, 1) := by decide +kernel
theorem dX6_goes_1 : decode cX6_goes 1 = .ok (.getfield 47, 3) := by decide +kernel
theorem dX6_goes_4 : decode cX6_goes 4 = .ok (.iload_n 1, 1) := by decide +kernel
theorem dX6_goes_5 : decode cX6_goes 5 = .ok (.dup2, 1) := by decide +kernel
theorem dX6_goes_6 : decode cX6_goes 6 = .ok (.iaload, 1) := by decide +kernel
theorem dX6_goes_7 : decode cX6_goes 7 = .ok (.iconst 1, 1) := by decide +kernel
theorem dX6_goes_8 : decode cX6_goes 8 = .ok (.iadd, 1) := by decide +kernel
theorem dX6_goes_9 : decode cX6_goes 9 = .ok (.iastore, 1) := by decide +kernel
theorem dX6_goes_10 : decode cX6_goes 10 = .ok (.aload_n 0, 1) := by decide +kernel
theorem dX6_goes_11 : decode cX6_goes 11 = .ok (.getfield 59, 3) := by decide +kernel
theorem dX6_goes_14 : decode cX6_goes 14 = .ok (.bipush 13, 2) := by decide +kernel
theorem dX6_goes_16 : decode cX6_goes 16 = .ok (.iload_n 1, 1) := by decide +kernel
theorem dX6_goes_17 : decode cX6_goes 17 = .ok (.imul, 1) := by decide +kernel
theorem dX6_goes_18 : decode cX6_goes 18 = .ok (.aload_n 0, 1) := by decide +kernel
theorem dX6_goes_19 : decode cX6_goes 19 = .ok (.getfield 47, 3) := by decide +kernel
theorem dX6_goes_22 : decode cX6_goes 22 = .ok (.iload_n 1, 1) := by decide +kernel
theorem dX6_goes_23 : decode cX6_goes 23 = .ok (.iaload, 1) := by decide +kernel
theorem dX6_goes_24 : decode cX6_goes 24 = .ok (.iadd, 1) := by decide +kernel
theorem dX6_goes_25 : decode cX6_goes 25 = .ok (.iaload, 1) := by decide +kernel
theorem dX6_goes_26 : decode cX6_goes 26 = .ok (.istore_n 2, 1) := by decide +kernel
theorem dX6_goes_27 : decode cX6_goes 27 = .ok (.aload_n 0, 1) := by decide +kernel
theorem dX6_goes_28 : decode cX6_goes 28 = .ok (.getfield 47, 3) := by decide +kernel
theorem dX6_goes_31 : decode cX6_goes 31 = .ok (.iload_n 1, 1) := by decide +kernel
theorem dX6_goes_32 : decode cX6_goes 32 = .ok (.iaload, 1) := by decide +kernel
theorem dX6_goes_33 : decode cX6_goes 33 = .ok (.aload_n 0, 1) := by decide +kernel
theorem dX6_goes_34 : decode cX6_goes 34 = .ok (.getfield 44, 3) := by decide +kernel
theorem dX6_goes_37 : decode cX6_goes 37 = .ok (.iload_n 1, 1) := by decide +kernel
theorem dX6_goes_38 : decode cX6_goes 38 = .ok (.iaload, 1) := by decide +kernel
theorem dX6_goes_39 : decode cX6_goes 39 = .ok (.if_icmp .ne 26, 3) := by decide +kernel
theorem dX6_goes_42 : decode cX6_goes 42 = .ok (.aload_n 0, 1) := by decide +kernel
theorem dX6_goes_43 : decode cX6_goes 43 = .ok (.getfield 41, 3) := by decide +kernel
theorem dX6_goes_46 : decode cX6_goes 46 = .ok (.iload_n 1, 1) := by decide +kernel
theorem dX6_goes_47 : decode cX6_goes 47 = .ok (.iconst 1, 1) := by decide +kernel
theorem dX6_goes_48 : decode cX6_goes 48 = .ok (.iastore, 1) := by decide +kernel
theorem dX6_goes_49 : decode cX6_goes 49 = .ok (.aload_n 0, 1) := by decide +kernel
theorem dX6_goes_50 : decode cX6_goes 50 = .ok (.iload_n 1, 1) := by decide +kernel
theorem dX6_goes_51 : decode cX6_goes 51 = .ok (.aload_n 0, 1) := by decide +kernel
theorem dX6_goes_52 : decode cX6_goes 52 = .ok (.getfield 44, 3) := by decide +kernel
theorem dX6_goes_55 : decode cX6_goes 55 = .ok (.iload_n 1, 1) := by decide +kernel
theorem dX6_goes_56 : decode cX6_goes 56 = .ok (.iaload, 1) := by decide +kernel
theorem dX6_goes_57 : decode cX6_goes 57 = .ok (.iconst 1, 1) := by decide +kernel
theorem dX6_goes_58 : decode cX6_goes 58 = .ok (.invokevirtual 135, 3) := by decide +kernel
theorem dX6_goes_61 : decode cX6_goes 61 = .ok (.pop, 1) := by decide +kernel
theorem dX6_goes_62 : decode cX6_goes 62 = .ok (.goto 142, 3) := by decide +kernel
theorem dX6_goes_65 : decode cX6_goes 65 = .ok (.aload_n 0, 1) := by decide +kernel
theorem dX6_goes_66 : decode cX6_goes 66 = .ok (.getfield 28, 3) := by decide +kernel
theorem dX6_goes_69 : decode cX6_goes 69 = .ok (.iload_n 2, 1) := by decide +kernel
theorem dX6_goes_70 : decode cX6_goes 70 = .ok (.iaload, 1) := by decide +kernel
theorem dX6_goes_71 : decode cX6_goes 71 = .ok (.ifCond .le 123, 3) := by decide +kernel
theorem dX6_goes_74 : decode cX6_goes 74 = .ok (.aload_n 0, 1) := by decide +kernel
theorem dX6_goes_75 : decode cX6_goes 75 = .ok (.getfield 28, 3) := by decide +kernel
theorem dX6_goes_78 : decode cX6_goes 78 = .ok (.iload_n 2, 1) := by decide +kernel
theorem dX6_goes_79 : decode cX6_goes 79 = .ok (.dup2, 1) := by decide +kernel
theorem dX6_goes_80 : decode cX6_goes 80 = .ok (.iaload, 1) := by decide +kernel
theorem dX6_goes_81 : decode cX6_goes 81 = .ok (.iconst 1, 1) := by decide +kernel
theorem dX6_goes_82 : decode cX6_goes 82 = .ok (.isub, 1) := by decide +kernel
theorem dX6_goes_83 : decode cX6_goes 83 = .ok (.iastore, 1) := by decide +kernel
theorem dX6_goes_84 : decode cX6_goes 84 = .ok (.aload_n 0, 1) := by decide +kernel
theorem dX6_goes_85 : decode cX6_goes 85 = .ok (.getfield 41, 3) := by decide +kernel
theorem dX6_goes_88 : decode cX6_goes 88 = .ok (.iload_n 1, 1) := by decide +kernel
theorem dX6_goes_89 : decode cX6_goes 89 = .ok (.iconst 2, 1) := by decide +kernel
theorem dX6_goes_90 : decode cX6_goes 90 = .ok (.iastore, 1) := by decide +kernel
theorem dX6_goes_91 : decode cX6_goes 91 = .ok (.aload_n 0, 1) := by decide +kernel
theorem dX6_goes_92 : decode cX6_goes 92 = .ok (.getfield 59, 3) := by decide +kernel
theorem dX6_goes_95 : decode cX6_goes 95 = .ok (.bipush 13, 2) := by decide +kernel
theorem dX6_goes_97 : decode cX6_goes 97 = .ok (.iload_n 1, 1) := by decide +kernel
theorem dX6_goes_98 : decode cX6_goes 98 = .ok (.imul, 1) := by decide +kernel
theorem dX6_goes_99 : decode cX6_goes 99 = .ok (.iaload, 1) := by decide +kernel
theorem dX6_goes_100 : decode cX6_goes 100 = .ok (.istore_n 3, 1) := by decide +kernel
theorem dX6_goes_101 : decode cX6_goes 101 = .ok (.aload_n 0, 1) := by decide +kernel
theorem dX6_goes_102 : decode cX6_goes 102 = .ok (.iload_n 1, 1) := by decide +kernel
theorem dX6_goes_103 : decode cX6_goes 103 = .ok (.aload_n 0, 1) := by decide +kernel
theorem dX6_goes_104 : decode cX6_goes 104 = .ok (.getfield 47, 3) := by decide +kernel
theorem dX6_goes_107 : decode cX6_goes 107 = .ok (.iload_n 1, 1) := by decide +kernel
theorem dX6_goes_108 : decode cX6_goes 108 = .ok (.iaload, 1) := by decide +kernel
theorem dX6_goes_109 : decode cX6_goes 109 = .ok (.iconst 0, 1) := by decide +kernel
theorem dX6_goes_110 : decode cX6_goes 110 = .ok (.invokevirtual 135, 3) := by decide +kernel
theorem dX6_goes_113 : decode cX6_goes 113 = .ok (.istore 4, 2) := by decide +kernel
theorem dX6_goes_115 : decode cX6_goes 115 = .ok (.aload_n 0, 1) := by decide +kernel
theorem dX6_goes_116 : decode cX6_goes 116 = .ok (.getfield 53, 3) := by decide +kernel
theorem dX6_goes_119 : decode cX6_goes 119 = .ok (.iload_n 1, 1) := by decide +kernel
theorem dX6_goes_120 : decode cX6_goes 120 = .ok (.aload_n 0, 1) := by decide +kernel
theorem dX6_goes_121 : decode cX6_goes 121 = .ok (.getfield 50, 3) := by decide +kernel
theorem dX6_goes_124 : decode cX6_goes 124 = .ok (.iload_n 1, 1) := by decide +kernel
theorem dX6_goes_125 : decode cX6_goes 125 = .ok (.iaload, 1) := by decide +kernel
theorem dX6_goes_126 : decode cX6_goes 126 = .ok (.iload 4, 2) := by decide +kernel
theorem dX6_goes_128 : decode cX6_goes 128 = .ok (.isub, 1) := by decide +kernel
theorem dX6_goes_129 : decode cX6_goes 129 = .ok (.iastore, 1) := by decide +kernel
theorem dX6_goes_130 : decode cX6_goes 130 = .ok (.aload_n 0, 1) := by decide +kernel
theorem dX6_goes_131 : decode cX6_goes 131 = .ok (.getfield 56, 3) := by decide +kernel
theorem dX6_goes_134 : decode cX6_goes 134 = .ok (.iload_n 1, 1) := by decide +kernel
theorem dX6_goes_135 : decode cX6_goes 135 = .ok (.iload 4, 2) := by decide +kernel
theorem dX6_goes_137 : decode cX6_goes 137 = .ok (.aload_n 0, 1) := by decide +kernel
theorem dX6_goes_138 : decode cX6_goes 138 = .ok (.getfield 13, 3) := by decide +kernel
theorem dX6_goes_141 : decode cX6_goes 141 = .ok (.iload_n 2, 1) := by decide +kernel
theorem dX6_goes_142 : decode cX6_goes 142 = .ok (.iaload, 1) := by decide +kernel
theorem dX6_goes_143 : decode cX6_goes 143 = .ok (.invokestatic 132, 3) := by decide +kernel
theorem dX6_goes_146 : decode cX6_goes 146 = .ok (.iastore, 1) := by decide +kernel
theorem dX6_goes_147 : decode cX6_goes 147 = .ok (.aload_n 0, 1) := by decide +kernel
theorem dX6_goes_148 : decode cX6_goes 148 = .ok (.getfield 13, 3) := by decide +kernel
theorem dX6_goes_151 : decode cX6_goes 151 = .ok (.iload_n 2, 1) := by decide +kernel
theorem dX6_goes_152 : decode cX6_goes 152 = .ok (.dup2, 1) := by decide +kernel
theorem dX6_goes_153 : decode cX6_goes 153 = .ok (.iaload, 1) := by decide +kernel
theorem dX6_goes_154 : decode cX6_goes 154 = .ok (.aload_n 0, 1) := by decide +kernel
theorem dX6_goes_155 : decode cX6_goes 155 = .ok (.getfield 56, 3) := by decide +kernel
theorem dX6_goes_158 : decode cX6_goes 158 = .ok (.iload_n 1, 1) := by decide +kernel
theorem dX6_goes_159 : decode cX6_goes 159 = .ok (.iaload, 1) := by decide +kernel
theorem dX6_goes_160 : decode cX6_goes 160 = .ok (.isub, 1) := by decide +kernel
theorem dX6_goes_161 : decode cX6_goes 161 = .ok (.iastore, 1) := by decide +kernel
theorem dX6_goes_162 : decode cX6_goes 162 = .ok (.aload_n 0, 1) := by decide +kernel
theorem dX6_goes_163 : decode cX6_goes 163 = .ok (.getfield 7, 3) := by decide +kernel
theorem dX6_goes_166 : decode cX6_goes 166 = .ok (.iload_n 3, 1) := by decide +kernel
theorem dX6_goes_167 : decode cX6_goes 167 = .ok (.dup2, 1) := by decide +kernel
theorem dX6_goes_168 : decode cX6_goes 168 = .ok (.iaload, 1) := by decide +kernel
theorem dX6_goes_169 : decode cX6_goes 169 = .ok (.aload_n 0, 1) := by decide +kernel
theorem dX6_goes_170 : decode cX6_goes 170 = .ok (.getfield 53, 3) := by decide +kernel
theorem dX6_goes_173 : decode cX6_goes 173 = .ok (.iload_n 1, 1) := by decide +kernel
theorem dX6_goes_174 : decode cX6_goes 174 = .ok (.iaload, 1) := by decide +kernel
theorem dX6_goes_175 : decode cX6_goes 175 = .ok (.aload_n 0, 1) := by decide +kernel
theorem dX6_goes_176 : decode cX6_goes 176 = .ok (.getfield 56, 3) := by decide +kernel
theorem dX6_goes_179 : decode cX6_goes 179 = .ok (.iload_n 1, 1) := by decide +kernel
theorem dX6_goes_180 : decode cX6_goes 180 = .ok (.iaload, 1) := by decide +kernel
theorem dX6_goes_181 : decode cX6_goes 181 = .ok (.iadd, 1) := by decide +kernel
theorem dX6_goes_182 : decode cX6_goes 182 = .ok (.iadd, 1) := by decide +kernel
theorem dX6_goes_183 : decode cX6_goes 183 = .ok (.iastore, 1) := by decide +kernel
theorem dX6_goes_184 : decode cX6_goes 184 = .ok (.aload_n 0, 1) := by decide +kernel
theorem dX6_goes_185 : decode cX6_goes 185 = .ok (.iload_n 2, 1) := by decide +kernel
theorem dX6_goes_186 : decode cX6_goes 186 = .ok (.bipush 20, 2) := by decide +kernel
theorem dX6_goes_188 : decode cX6_goes 188 = .ok (.invokevirtual 138, 3) := by decide +kernel
theorem dX6_goes_191 : decode cX6_goes 191 = .ok (.goto 13, 3) := by decide +kernel
theorem dX6_goes_194 : decode cX6_goes 194 = .ok (.aload_n 0, 1) := by decide +kernel
theorem dX6_goes_195 : decode cX6_goes 195 = .ok (.getfield 34, 3) := by decide +kernel
theorem dX6_goes_198 : decode cX6_goes 198 = .ok (.iload_n 2, 1) := by decide +kernel
theorem dX6_goes_199 : decode cX6_goes 199 = .ok (.dup2, 1) := by decide +kernel
theorem dX6_goes_200 : decode cX6_goes 200 = .ok (.iaload, 1) := by decide +kernel
theorem dX6_goes_201 : decode cX6_goes 201 = .ok (.iconst 1, 1) := by decide +kernel
theorem dX6_goes_202 : decode cX6_goes 202 = .ok (.iadd, 1) := by decide +kernel
theorem dX6_goes_203 : decode cX6_goes 203 = .ok (.iastore, 1) := by decide +kernel
theorem dX6_goes_204 : decode cX6_goes 204 = .ok (.return_, 1) := by decide +kernel
theorem dX6_message_0 : decode cX6_message 0 = .ok (.aload_n 0, 1) := by decide +kernel
theorem dX6_message_1 : decode cX6_message 1 = .ok (.iload_n 1, 1) := by decide +kernel
theorem dX6_message_2 : decode cX6_message 2 = .ok (.iconst 0, 1) := by decide +kernel
theorem dX6_message_3 : decode cX6_message 3 = .ok (.aload_n 0, 1) := by decide +kernel
theorem dX6_message_4 : decode cX6_message 4 = .ok (.getfield 125, 3) := by decide +kernel
theorem dX6_message_7 : decode cX6_message 7 = .ok (.iconst 1, 1) := by decide +kernel
theorem dX6_message_8 : decode cX6_message 8 = .ok (.isub, 1) := by decide +kernel
theorem dX6_message_9 : decode cX6_message 9 = .ok (.invokestatic 87, 3) := by decide +kernel
theorem dX6_message_12 : decode cX6_message 12 = .ok (.ifCond .ne 7, 3) := by decide +kernel
theorem dX6_message_15 : decode cX6_message 15 = .ok (.iconst 1, 1) := by decide +kernel
theorem dX6_message_16 : decode cX6_message 16 = .ok (.goto 17, 3) := by decide +kernel
theorem dX6_message_19 : decode cX6_message 19 = .ok (.iload_n 2, 1) := by decide +kernel
theorem dX6_message_20 : decode cX6_message 20 = .ok (.iconst 0, 1) := by decide +kernel
theorem dX6_message_21 : decode cX6_message 21 = .ok (.iconst 5, 1) := by decide +kernel
theorem dX6_message_22 : decode cX6_message 22 = .ok (.invokestatic 87, 3) := by decide +kernel
theorem dX6_message_25 : decode cX6_message 25 = .ok (.ifCond .eq 7, 3) := by decide +kernel
theorem dX6_message_28 : decode cX6_message 28 = .ok (.iconst 0, 1) := by decide +kernel
theorem dX6_message_29 : decode cX6_message 29 = .ok (.goto 4, 3) := by decide +kernel
theorem dX6_message_32 : decode cX6_message 32 = .ok (.iconst 2, 1) := by decide +kernel
theorem dX6_message_33 : decode cX6_message 33 = .ok (.invokevirtual 91, 3) := by decide +kernel
theorem dX6_message_36 : decode cX6_message 36 = .ok (.ifCond .ne 5, 3) := by decide +kernel
theorem dX6_message_39 : decode cX6_message 39 = .ok (.iconst 0, 1) := by decide +kernel
theorem dX6_message_40 : decode cX6_message 40 = .ok (.ireturn, 1) := by decide +kernel
theorem dX6_message_41 : decode cX6_message 41 = .ok (.iload_n 2, 1) := by decide +kernel
theorem dX6_message_42 : decode cX6_message 42 = .ok (.tableswitch 99 0 4 #[34, 41, 58, 65, 72], 34) := by decide +kernel
theorem dX6_message_76 : decode cX6_message 76 = .ok (.aload_n 0, 1) := by decide +kernel
theorem dX6_message_77 : decode cX6_message 77 = .ok (.getfield 41, 3) := by decide +kernel
theorem dX6_message_80 : decode cX6_message 80 = .ok (.iload_n 1, 1) := by decide +kernel
theorem dX6_message_81 : decode cX6_message 81 = .ok (.iaload, 1) := by decide +kernel
theorem dX6_message_82 : decode cX6_message 82 = .ok (.ireturn, 1) := by decide +kernel
theorem dX6_message_83 : decode cX6_message 83 = .ok (.aload_n 0, 1) := by decide +kernel
theorem dX6_message_84 : decode cX6_message 84 = .ok (.getfield 59, 3) := by decide +kernel
theorem dX6_message_87 : decode cX6_message 87 = .ok (.bipush 13, 2) := by decide +kernel
theorem dX6_message_89 : decode cX6_message 89 = .ok (.iload_n 1, 1) := by decide +kernel
theorem dX6_message_90 : decode cX6_message 90 = .ok (.imul, 1) := by decide +kernel
theorem dX6_message_91 : decode cX6_message 91 = .ok (.aload_n 0, 1) := by decide +kernel
theorem dX6_message_92 : decode cX6_message 92 = .ok (.getfield 47, 3) := by decide +kernel
theorem dX6_message_95 : decode cX6_message 95 = .ok (.iload_n 1, 1) := by decide +kernel
theorem dX6_message_96 : decode cX6_message 96 = .ok (.iaload, 1) := by decide +kernel
theorem dX6_message_97 : decode cX6_message 97 = .ok (.iadd, 1) := by decide +kernel
theorem dX6_message_98 : decode cX6_message 98 = .ok (.iaload, 1) := by decide +kernel
theorem dX6_message_99 : decode cX6_message 99 = .ok (.ireturn, 1) := by decide +kernel
theorem dX6_message_100 : decode cX6_message 100 = .ok (.aload_n 0, 1) := by decide +kernel
theorem dX6_message_101 : decode cX6_message 101 = .ok (.getfield 50, 3) := by decide +kernel
theorem dX6_message_104 : decode cX6_message 104 = .ok (.iload_n 1, 1) := by decide +kernel
theorem dX6_message_105 : decode cX6_message 105 = .ok (.iaload, 1) := by decide +kernel
theorem dX6_message_106 : decode cX6_message 106 = .ok (.ireturn, 1) := by decide +kernel
theorem dX6_message_107 : decode cX6_message 107 = .ok (.aload_n 0, 1) := by decide +kernel
theorem dX6_message_108 : decode cX6_message 108 = .ok (.getfield 53, 3) := by decide +kernel
theorem dX6_message_111 : decode cX6_message 111 = .ok (.iload_n 1, 1) := by decide +kernel
theorem dX6_message_112 : decode cX6_message 112 = .ok (.iaload, 1) := by decide +kernel
theorem dX6_message_113 : decode cX6_message 113 = .ok (.ireturn, 1) := by decide +kernel
theorem dX6_message_114 : decode cX6_message 114 = .ok (.aload_n 0, 1) := by decide +kernel
theorem dX6_message_115 : decode cX6_message 115 = .ok (.getfield 41, 3) := by decide +kernel
theorem dX6_message_118 : decode cX6_message 118 = .ok (.iload_n 1, 1) := by decide +kernel
theorem dX6_message_119 : decode cX6_message 119 = .ok (.iaload, 1) := by decide +kernel
theorem dX6_message_120 : decode cX6_message 120 = .ok (.ifCond .ne 12, 3) := by decide +kernel
theorem dX6_message_123 : decode cX6_message 123 = .ok (.aload_n 0, 1) := by decide +kernel
theorem dX6_message_124 : decode cX6_message 124 = .ok (.getfield 47, 3) := by decide +kernel
theorem dX6_message_127 : decode cX6_message 127 = .ok (.iload_n 1, 1) := by decide +kernel
theorem dX6_message_128 : decode cX6_message 128 = .ok (.iaload, 1) := by decide +kernel
theorem dX6_message_129 : decode cX6_message 129 = .ok (.goto 11, 3) := by decide +kernel
theorem dX6_message_132 : decode cX6_message 132 = .ok (.aload_n 0, 1) := by decide +kernel
theorem dX6_message_133 : decode cX6_message 133 = .ok (.getfield 47, 3) := by decide +kernel
theorem dX6_message_136 : decode cX6_message 136 = .ok (.iload_n 1, 1) := by decide +kernel
theorem dX6_message_137 : decode cX6_message 137 = .ok (.iaload, 1) := by decide +kernel
theorem dX6_message_138 : decode cX6_message 138 = .ok (.iconst 1, 1) := by decide +kernel
theorem dX6_message_139 : decode cX6_message 139 = .ok (.isub, 1) := by decide +kernel
theorem dX6_message_140 : decode cX6_message 140 = .ok (.ireturn, 1) := by decide +kernel
theorem dX6_message_141 : decode cX6_message 141 = .ok (.aload_n 0, 1) := by decide +kernel
theorem dX6_message_142 : decode cX6_message 142 = .ok (.getfield 56, 3) := by decide +kernel
theorem dX6_message_145 : decode cX6_message 145 = .ok (.iload_n 1, 1) := by decide +kernel
theorem dX6_message_146 : decode cX6_message 146 = .ok (.iaload, 1) := by decide +kernel
theorem dX6_message_147 : decode cX6_message 147 = .ok (.ireturn, 1) := by decide +kernel
theorem dX6_way_0 : decode cX6_way 0 = .ok (.aload_n 0, 1) := by decide +kernel
theorem dX6_way_1 : decode cX6_way 1 = .ok (.iload_n 1, 1) := by decide +kernel
theorem dX6_way_2 : decode cX6_way 2 = .ok (.iconst 0, 1) := by decide +kernel
theorem dX6_way_3 : decode cX6_way 3 = .ok (.aload_n 0, 1) := by decide +kernel
theorem dX6_way_4 : decode cX6_way 4 = .ok (.getfield 125, 3) := by decide +kernel
theorem dX6_way_7 : decode cX6_way 7 = .ok (.iconst 1, 1) := by decide +kernel
theorem dX6_way_8 : decode cX6_way 8 = .ok (.isub, 1) := by decide +kernel
theorem dX6_way_9 : decode cX6_way 9 = .ok (.invokestatic 87, 3) := by decide +kernel
theorem dX6_way_12 : decode cX6_way 12 = .ok (.ifCond .eq 11, 3) := by decide +kernel
theorem dX6_way_15 : decode cX6_way 15 = .ok (.iload_n 2, 1) := by decide +kernel
theorem dX6_way_16 : decode cX6_way 16 = .ok (.ifCond .lt 7, 3) := by decide +kernel
theorem dX6_way_19 : decode cX6_way 19 = .ok (.iconst 0, 1) := by decide +kernel
theorem dX6_way_20 : decode cX6_way 20 = .ok (.goto 4, 3) := by decide +kernel
theorem dX6_way_23 : decode cX6_way 23 = .ok (.iconst 1, 1) := by decide +kernel
theorem dX6_way_24 : decode cX6_way 24 = .ok (.invokevirtual 91, 3) := by decide +kernel
theorem dX6_way_27 : decode cX6_way 27 = .ok (.ifCond .ne 5, 3) := by decide +kernel
theorem dX6_way_30 : decode cX6_way 30 = .ok (.iconst 0, 1) := by decide +kernel
theorem dX6_way_31 : decode cX6_way 31 = .ok (.ireturn, 1) := by decide +kernel
theorem dX6_way_32 : decode cX6_way 32 = .ok (.iload_n 2, 1) := by decide +kernel
theorem dX6_way_33 : decode cX6_way 33 = .ok (.aload_n 0, 1) := by decide +kernel
theorem dX6_way_34 : decode cX6_way 34 = .ok (.getfield 44, 3) := by decide +kernel
theorem dX6_way_37 : decode cX6_way 37 = .ok (.iload_n 1, 1) := by decide +kernel
theorem dX6_way_38 : decode cX6_way 38 = .ok (.iaload, 1) := by decide +kernel
theorem dX6_way_39 : decode cX6_way 39 = .ok (.if_icmp .le 7, 3) := by decide +kernel
theorem dX6_way_42 : decode cX6_way 42 = .ok (.iconst (-1), 1) := by decide +kernel
theorem dX6_way_43 : decode cX6_way 43 = .ok (.goto 14, 3) := by decide +kernel
theorem dX6_way_46 : decode cX6_way 46 = .ok (.aload_n 0, 1) := by decide +kernel
theorem dX6_way_47 : decode cX6_way 47 = .ok (.getfield 59, 3) := by decide +kernel
theorem dX6_way_50 : decode cX6_way 50 = .ok (.bipush 13, 2) := by decide +kernel
theorem dX6_way_52 : decode cX6_way 52 = .ok (.iload_n 1, 1) := by decide +kernel
theorem dX6_way_53 : decode cX6_way 53 = .ok (.imul, 1) := by decide +kernel
theorem dX6_way_54 : decode cX6_way 54 = .ok (.iload_n 2, 1) := by decide +kernel
theorem dX6_way_55 : decode cX6_way 55 = .ok (.iadd, 1) := by decide +kernel
theorem dX6_way_56 : decode cX6_way 56 = .ok (.iaload, 1) := by decide +kernel
theorem dX6_way_57 : decode cX6_way 57 = .ok (.ireturn, 1) := by decide +kernel
theorem dX6_wake_0 : decode cX6_wake 0 = .ok (.aload_n 0, 1) := by decide +kernel
theorem dX6_wake_1 : decode cX6_wake 1 = .ok (.aload_n 0, 1) := by decide +kernel
theorem dX6_wake_2 : decode cX6_wake 2 = .ok (.iload_n 1, 1) := by decide +kernel
theorem dX6_wake_3 : decode cX6_wake 3 = .ok (.invokevirtual 95, 3) := by decide +kernel
theorem dX6_wake_6 : decode cX6_wake 6 = .ok (.ifCond .eq 7, 3) := by decide +kernel
theorem dX6_wake_9 : decode cX6_wake 9 = .ok (.iconst 0, 1) := by decide +kernel
theorem dX6_wake_10 : decode cX6_wake 10 = .ok (.goto 4, 3) := by decide +kernel
theorem dX6_wake_13 : decode cX6_wake 13 = .ok (.iconst 1, 1) := by decide +kernel
theorem dX6_wake_14 : decode cX6_wake 14 = .ok (.invokevirtual 91, 3) := by decide +kernel
theorem dX6_wake_17 : decode cX6_wake 17 = .ok (.ifCond .ne 5, 3) := by decide +kernel
theorem dX6_wake_20 : decode cX6_wake 20 = .ok (.iconst 0, 1) := by decide +kernel
theorem dX6_wake_21 : decode cX6_wake 21 = .ok (.ireturn, 1) := by decide +kernel
theorem dX6_wake_22 : decode cX6_wake 22 = .ok (.aload_n 0, 1) := by decide +kernel
theorem dX6_wake_23 : decode cX6_wake 23 = .ok (.getfield 65, 3) := by decide +kernel
theorem dX6_wake_26 : decode cX6_wake 26 = .ok (.aload_n 0, 1) := by decide +kernel
theorem dX6_wake_27 : decode cX6_wake 27 = .ok (.getfield 102, 3) := by decide +kernel
theorem dX6_wake_30 : decode cX6_wake 30 = .ok (.iaload, 1) := by decide +kernel
theorem dX6_wake_31 : decode cX6_wake 31 = .ok (.iload_n 1, 1) := by decide +kernel
theorem dX6_wake_32 : decode cX6_wake 32 = .ok (.iconst 1, 1) := by decide +kernel
theorem dX6_wake_33 : decode cX6_wake 33 = .ok (.iadd, 1) := by decide +kernel
theorem dX6_wake_34 : decode cX6_wake 34 = .ok (.if_icmp .ne 7, 3) := by decide +kernel
theorem dX6_wake_37 : decode cX6_wake 37 = .ok (.iconst 1, 1) := by decide +kernel
theorem dX6_wake_38 : decode cX6_wake 38 = .ok (.goto 4, 3) := by decide +kernel
theorem dX6_wake_41 : decode cX6_wake 41 = .ok (.iconst 0, 1) := by decide +kernel
theorem dX6_wake_42 : decode cX6_wake 42 = .ok (.istore_n 2, 1) := by decide +kernel
theorem dX6_wake_43 : decode cX6_wake 43 = .ok (.aload_n 0, 1) := by decide +kernel
theorem dX6_wake_44 : decode cX6_wake 44 = .ok (.getfield 68, 3) := by decide +kernel
theorem dX6_wake_47 : decode cX6_wake 47 = .ok (.aload_n 0, 1) := by decide +kernel
theorem dX6_wake_48 : decode cX6_wake 48 = .ok (.getfield 102, 3) := by decide +kernel
theorem dX6_wake_51 : decode cX6_wake 51 = .ok (.aload_n 0, 1) := by decide +kernel
theorem dX6_wake_52 : decode cX6_wake 52 = .ok (.getfield 68, 3) := by decide +kernel
theorem dX6_wake_55 : decode cX6_wake 55 = .ok (.aload_n 0, 1) := by decide +kernel
theorem dX6_wake_56 : decode cX6_wake 56 = .ok (.getfield 102, 3) := by decide +kernel
theorem dX6_wake_59 : decode cX6_wake 59 = .ok (.baload, 1) := by decide +kernel
theorem dX6_wake_60 : decode cX6_wake 60 = .ok (.ifCond .ne 7, 3) := by decide +kernel
theorem dX6_wake_63 : decode cX6_wake 63 = .ok (.iload_n 2, 1) := by decide +kernel
theorem dX6_wake_64 : decode cX6_wake 64 = .ok (.ifCond .eq 7, 3) := by decide +kernel
theorem dX6_wake_67 : decode cX6_wake 67 = .ok (.iconst 1, 1) := by decide +kernel
theorem dX6_wake_68 : decode cX6_wake 68 = .ok (.goto 4, 3) := by decide +kernel
theorem dX6_wake_71 : decode cX6_wake 71 = .ok (.iconst 0, 1) := by decide +kernel
theorem dX6_wake_72 : decode cX6_wake 72 = .ok (.bastore, 1) := by decide +kernel
theorem dX6_wake_73 : decode cX6_wake 73 = .ok (.iload_n 2, 1) := by decide +kernel
theorem dX6_wake_74 : decode cX6_wake 74 = .ok (.ireturn, 1) := by decide +kernel
theorem dX6_wasAwake_0 : decode cX6_wasAwake 0 = .ok (.iload_n 2, 1) := by decide +kernel
theorem dX6_wasAwake_1 : decode cX6_wasAwake 1 = .ok (.iconst 1, 1) := by decide +kernel
theorem dX6_wasAwake_2 : decode cX6_wasAwake 2 = .ok (.iadd, 1) := by decide +kernel
theorem dX6_wasAwake_3 : decode cX6_wasAwake 3 = .ok (.istore_n 3, 1) := by decide +kernel
theorem dX6_wasAwake_4 : decode cX6_wasAwake 4 = .ok (.iload_n 3, 1) := by decide +kernel
theorem dX6_wasAwake_5 : decode cX6_wasAwake 5 = .ok (.aload_n 0, 1) := by decide +kernel
theorem dX6_wasAwake_6 : decode cX6_wasAwake 6 = .ok (.getfield 102, 3) := by decide +kernel
theorem dX6_wasAwake_9 : decode cX6_wasAwake 9 = .ok (.if_icmp .ge 18, 3) := by decide +kernel
theorem dX6_wasAwake_12 : decode cX6_wasAwake 12 = .ok (.aload_n 0, 1) := by decide +kernel
theorem dX6_wasAwake_13 : decode cX6_wasAwake 13 = .ok (.getfield 65, 3) := by decide +kernel
theorem dX6_wasAwake_16 : decode cX6_wasAwake 16 = .ok (.iload_n 3, 1) := by decide +kernel
theorem dX6_wasAwake_17 : decode cX6_wasAwake 17 = .ok (.iaload, 1) := by decide +kernel
theorem dX6_wasAwake_18 : decode cX6_wasAwake 18 = .ok (.ifCond .ne 9, 3) := by decide +kernel
theorem dX6_wasAwake_21 : decode cX6_wasAwake 21 = .ok (.iinc 3 1, 3) := by decide +kernel
theorem dX6_wasAwake_24 : decode cX6_wasAwake 24 = .ok (.goto (-20), 3) := by decide +kernel
theorem dX6_wasAwake_27 : decode cX6_wasAwake 27 = .ok (.iload_n 3, 1) := by decide +kernel
theorem dX6_wasAwake_28 : decode cX6_wasAwake 28 = .ok (.aload_n 0, 1) := by decide +kernel
theorem dX6_wasAwake_29 : decode cX6_wasAwake 29 = .ok (.getfield 102, 3) := by decide +kernel
theorem dX6_wasAwake_32 : decode cX6_wasAwake 32 = .ok (.if_icmp .ge 28, 3) := by decide +kernel
theorem dX6_wasAwake_35 : decode cX6_wasAwake 35 = .ok (.aload_n 0, 1) := by decide +kernel
theorem dX6_wasAwake_36 : decode cX6_wasAwake 36 = .ok (.getfield 65, 3) := by decide +kernel
theorem dX6_wasAwake_39 : decode cX6_wasAwake 39 = .ok (.iload_n 3, 1) := by decide +kernel
theorem dX6_wasAwake_40 : decode cX6_wasAwake 40 = .ok (.iaload, 1) := by decide +kernel
theorem dX6_wasAwake_41 : decode cX6_wasAwake 41 = .ok (.iload_n 1, 1) := by decide +kernel
theorem dX6_wasAwake_42 : decode cX6_wasAwake 42 = .ok (.iconst 1, 1) := by decide +kernel
theorem dX6_wasAwake_43 : decode cX6_wasAwake 43 = .ok (.iadd, 1) := by decide +kernel
theorem dX6_wasAwake_44 : decode cX6_wasAwake 44 = .ok (.if_icmp .ne 16, 3) := by decide +kernel
theorem dX6_wasAwake_47 : decode cX6_wasAwake 47 = .ok (.aload_n 0, 1) := by decide +kernel
theorem dX6_wasAwake_48 : decode cX6_wasAwake 48 = .ok (.getfield 68, 3) := by decide +kernel
theorem dX6_wasAwake_51 : decode cX6_wasAwake 51 = .ok (.iload_n 3, 1) := by decide +kernel
theorem dX6_wasAwake_52 : decode cX6_wasAwake 52 = .ok (.baload, 1) := by decide +kernel
theorem dX6_wasAwake_53 : decode cX6_wasAwake 53 = .ok (.ifCond .eq 7, 3) := by decide +kernel
theorem dX6_wasAwake_56 : decode cX6_wasAwake 56 = .ok (.iconst 1, 1) := by decide +kernel
theorem dX6_wasAwake_57 : decode cX6_wasAwake 57 = .ok (.goto 4, 3) := by decide +kernel
theorem dX6_wasAwake_60 : decode cX6_wasAwake 60 = .ok (.iconst 0, 1) := by decide +kernel
theorem dX6_wasAwake_61 : decode cX6_wasAwake 61 = .ok (.ireturn, 1) := by decide +kernel
theorem dX6_prove_0 : decode cX6_prove 0 = .ok (.aload_n 0, 1) := by decide +kernel
theorem dX6_prove_1 : decode cX6_prove 1 = .ok (.iload_n 1, 1) := by decide +kernel
theorem dX6_prove_2 : decode cX6_prove 2 = .ok (.invokevirtual 95, 3) := by decide +kernel
theorem dX6_prove_5 : decode cX6_prove 5 = .ok (.istore_n 3, 1) := by decide +kernel
theorem dX6_prove_6 : decode cX6_prove 6 = .ok (.iload_n 2, 1) := by decide +kernel
theorem dX6_prove_7 : decode cX6_prove 7 = .ok (.iconst 0, 1) := by decide +kernel
theorem dX6_prove_8 : decode cX6_prove 8 = .ok (.sipush 9999, 3) := by decide +kernel
theorem dX6_prove_11 : decode cX6_prove 11 = .ok (.invokestatic 87, 3) := by decide +kernel
theorem dX6_prove_14 : decode cX6_prove 14 = .ok (.istore 4, 2) := by decide +kernel
theorem dX6_prove_16 : decode cX6_prove 16 = .ok (.iload 4, 2) := by decide +kernel
theorem dX6_prove_18 : decode cX6_prove 18 = .ok (.ifCond .eq 26, 3) := by decide +kernel
theorem dX6_prove_21 : decode cX6_prove 21 = .ok (.iload_n 2, 1) := by decide +kernel
theorem dX6_prove_22 : decode cX6_prove 22 = .ok (.aload_n 0, 1) := by decide +kernel
theorem dX6_prove_23 : decode cX6_prove 23 = .ok (.getfield 102, 3) := by decide +kernel
theorem dX6_prove_26 : decode cX6_prove 26 = .ok (.if_icmp .ge 18, 3) := by decide +kernel
theorem dX6_prove_29 : decode cX6_prove 29 = .ok (.iload_n 2, 1) := by decide +kernel
theorem dX6_prove_30 : decode cX6_prove 30 = .ok (.aload_n 0, 1) := by decide +kernel
theorem dX6_prove_31 : decode cX6_prove 31 = .ok (.getfield 102, 3) := by decide +kernel
theorem dX6_prove_34 : decode cX6_prove 34 = .ok (.bipush 10, 2) := by decide +kernel
theorem dX6_prove_36 : decode cX6_prove 36 = .ok (.isub, 1) := by decide +kernel
theorem dX6_prove_37 : decode cX6_prove 37 = .ok (.if_icmp .lt 7, 3) := by decide +kernel
theorem dX6_prove_40 : decode cX6_prove 40 = .ok (.iconst 1, 1) := by decide +kernel
theorem dX6_prove_41 : decode cX6_prove 41 = .ok (.goto 4, 3) := by decide +kernel
theorem dX6_prove_44 : decode cX6_prove 44 = .ok (.iconst 0, 1) := by decide +kernel
theorem dX6_prove_45 : decode cX6_prove 45 = .ok (.istore 5, 2) := by decide +kernel
theorem dX6_prove_47 : decode cX6_prove 47 = .ok (.iload 5, 2) := by decide +kernel
theorem dX6_prove_49 : decode cX6_prove 49 = .ok (.ifCond .eq 34, 3) := by decide +kernel
theorem dX6_prove_52 : decode cX6_prove 52 = .ok (.aload_n 0, 1) := by decide +kernel
theorem dX6_prove_53 : decode cX6_prove 53 = .ok (.getfield 65, 3) := by decide +kernel
theorem dX6_prove_56 : decode cX6_prove 56 = .ok (.iload_n 2, 1) := by decide +kernel
theorem dX6_prove_57 : decode cX6_prove 57 = .ok (.iaload, 1) := by decide +kernel
theorem dX6_prove_58 : decode cX6_prove 58 = .ok (.ifCond .le 25, 3) := by decide +kernel
theorem dX6_prove_61 : decode cX6_prove 61 = .ok (.aload_n 0, 1) := by decide +kernel
theorem dX6_prove_62 : decode cX6_prove 62 = .ok (.getfield 68, 3) := by decide +kernel
theorem dX6_prove_65 : decode cX6_prove 65 = .ok (.iload_n 2, 1) := by decide +kernel
theorem dX6_prove_66 : decode cX6_prove 66 = .ok (.baload, 1) := by decide +kernel
theorem dX6_prove_67 : decode cX6_prove 67 = .ok (.ifCond .ne 16, 3) := by decide +kernel
theorem dX6_prove_70 : decode cX6_prove 70 = .ok (.aload_n 0, 1) := by decide +kernel
theorem dX6_prove_71 : decode cX6_prove 71 = .ok (.getfield 71, 3) := by decide +kernel
theorem dX6_prove_74 : decode cX6_prove 74 = .ok (.iload_n 2, 1) := by decide +kernel
theorem dX6_prove_75 : decode cX6_prove 75 = .ok (.baload, 1) := by decide +kernel
theorem dX6_prove_76 : decode cX6_prove 76 = .ok (.ifCond .ne 7, 3) := by decide +kernel
theorem dX6_prove_79 : decode cX6_prove 79 = .ok (.iconst 1, 1) := by decide +kernel
theorem dX6_prove_80 : decode cX6_prove 80 = .ok (.goto 4, 3) := by decide +kernel
theorem dX6_prove_83 : decode cX6_prove 83 = .ok (.iconst 0, 1) := by decide +kernel
theorem dX6_prove_84 : decode cX6_prove 84 = .ok (.istore 6, 2) := by decide +kernel
theorem dX6_prove_86 : decode cX6_prove 86 = .ok (.iload_n 3, 1) := by decide +kernel
theorem dX6_prove_87 : decode cX6_prove 87 = .ok (.ifCond .eq 33, 3) := by decide +kernel
theorem dX6_prove_90 : decode cX6_prove 90 = .ok (.iload 6, 2) := by decide +kernel
theorem dX6_prove_92 : decode cX6_prove 92 = .ok (.ifCond .eq 28, 3) := by decide +kernel
theorem dX6_prove_95 : decode cX6_prove 95 = .ok (.aload_n 0, 1) := by decide +kernel
theorem dX6_prove_96 : decode cX6_prove 96 = .ok (.getfield 65, 3) := by decide +kernel
theorem dX6_prove_99 : decode cX6_prove 99 = .ok (.iload_n 2, 1) := by decide +kernel
theorem dX6_prove_100 : decode cX6_prove 100 = .ok (.iaload, 1) := by decide +kernel
theorem dX6_prove_101 : decode cX6_prove 101 = .ok (.iload_n 1, 1) := by decide +kernel
theorem dX6_prove_102 : decode cX6_prove 102 = .ok (.iconst 1, 1) := by decide +kernel
theorem dX6_prove_103 : decode cX6_prove 103 = .ok (.iadd, 1) := by decide +kernel
theorem dX6_prove_104 : decode cX6_prove 104 = .ok (.if_icmp .eq 16, 3) := by decide +kernel
theorem dX6_prove_107 : decode cX6_prove 107 = .ok (.aload_n 0, 1) := by decide +kernel
theorem dX6_prove_108 : decode cX6_prove 108 = .ok (.iload_n 1, 1) := by decide +kernel
theorem dX6_prove_109 : decode cX6_prove 109 = .ok (.iload_n 2, 1) := by decide +kernel
theorem dX6_prove_110 : decode cX6_prove 110 = .ok (.invokevirtual 142, 3) := by decide +kernel
theorem dX6_prove_113 : decode cX6_prove 113 = .ok (.ifCond .eq 7, 3) := by decide +kernel
theorem dX6_prove_116 : decode cX6_prove 116 = .ok (.iconst 1, 1) := by decide +kernel
theorem dX6_prove_117 : decode cX6_prove 117 = .ok (.goto 4, 3) := by decide +kernel
theorem dX6_prove_120 : decode cX6_prove 120 = .ok (.iconst 0, 1) := by decide +kernel
theorem dX6_prove_121 : decode cX6_prove 121 = .ok (.istore 7, 2) := by decide +kernel
theorem dX6_prove_123 : decode cX6_prove 123 = .ok (.aload_n 0, 1) := by decide +kernel
theorem dX6_prove_124 : decode cX6_prove 124 = .ok (.iload_n 3, 1) := by decide +kernel
theorem dX6_prove_125 : decode cX6_prove 125 = .ok (.ifCond .ne 7, 3) := by decide +kernel
theorem dX6_prove_128 : decode cX6_prove 128 = .ok (.iconst 1, 1) := by decide +kernel
theorem dX6_prove_129 : decode cX6_prove 129 = .ok (.goto 22, 3) := by decide +kernel
theorem dX6_prove_132 : decode cX6_prove 132 = .ok (.iload 4, 2) := by decide +kernel
theorem dX6_prove_134 : decode cX6_prove 134 = .ok (.ifCond .ne 7, 3) := by decide +kernel
theorem dX6_prove_137 : decode cX6_prove 137 = .ok (.iconst 2, 1) := by decide +kernel
theorem dX6_prove_138 : decode cX6_prove 138 = .ok (.goto 13, 3) := by decide +kernel
theorem dX6_prove_141 : decode cX6_prove 141 = .ok (.iload 7, 2) := by decide +kernel
theorem dX6_prove_143 : decode cX6_prove 143 = .ok (.ifCond .eq 7, 3) := by decide +kernel
theorem dX6_prove_146 : decode cX6_prove 146 = .ok (.iconst 0, 1) := by decide +kernel
theorem dX6_prove_147 : decode cX6_prove 147 = .ok (.goto 4, 3) := by decide +kernel
theorem dX6_prove_150 : decode cX6_prove 150 = .ok (.iconst 3, 1) := by decide +kernel
theorem dX6_prove_151 : decode cX6_prove 151 = .ok (.invokevirtual 91, 3) := by decide +kernel
theorem dX6_prove_154 : decode cX6_prove 154 = .ok (.ifCond .ne 5, 3) := by decide +kernel
theorem dX6_prove_157 : decode cX6_prove 157 = .ok (.iconst 0, 1) := by decide +kernel
theorem dX6_prove_158 : decode cX6_prove 158 = .ok (.ireturn, 1) := by decide +kernel
theorem dX6_prove_159 : decode cX6_prove 159 = .ok (.aload_n 0, 1) := by decide +kernel
theorem dX6_prove_160 : decode cX6_prove 160 = .ok (.getfield 65, 3) := by decide +kernel
theorem dX6_prove_163 : decode cX6_prove 163 = .ok (.iload_n 2, 1) := by decide +kernel
theorem dX6_prove_164 : decode cX6_prove 164 = .ok (.iaload, 1) := by decide +kernel
theorem dX6_prove_165 : decode cX6_prove 165 = .ok (.iconst 1, 1) := by decide +kernel
theorem dX6_prove_166 : decode cX6_prove 166 = .ok (.isub, 1) := by decide +kernel
theorem dX6_prove_167 : decode cX6_prove 167 = .ok (.istore 8, 2) := by decide +kernel
theorem dX6_prove_169 : decode cX6_prove 169 = .ok (.bipush 10, 2) := by decide +kernel
theorem dX6_prove_171 : decode cX6_prove 171 = .ok (.aload_n 0, 1) := by decide +kernel
theorem dX6_prove_172 : decode cX6_prove 172 = .ok (.getfield 13, 3) := by decide +kernel
theorem dX6_prove_175 : decode cX6_prove 175 = .ok (.iload 8, 2) := by decide +kernel
theorem dX6_prove_177 : decode cX6_prove 177 = .ok (.iaload, 1) := by decide +kernel
theorem dX6_prove_178 : decode cX6_prove 178 = .ok (.invokestatic 132, 3) := by decide +kernel
theorem dX6_prove_181 : decode cX6_prove 181 = .ok (.istore 9, 2) := by decide +kernel
theorem dX6_prove_183 : decode cX6_prove 183 = .ok (.aload_n 0, 1) := by decide +kernel
theorem dX6_prove_184 : decode cX6_prove 184 = .ok (.getfield 71, 3) := by decide +kernel
theorem dX6_prove_187 : decode cX6_prove 187 = .ok (.iload_n 2, 1) := by decide +kernel
theorem dX6_prove_188 : decode cX6_prove 188 = .ok (.iconst 1, 1) := by decide +kernel
theorem dX6_prove_189 : decode cX6_prove 189 = .ok (.bastore, 1) := by decide +kernel
theorem dX6_prove_190 : decode cX6_prove 190 = .ok (.aload_n 0, 1) := by decide +kernel
theorem dX6_prove_191 : decode cX6_prove 191 = .ok (.getfield 13, 3) := by decide +kernel
theorem dX6_prove_194 : decode cX6_prove 194 = .ok (.iload 8, 2) := by decide +kernel
theorem dX6_prove_196 : decode cX6_prove 196 = .ok (.dup2, 1) := by decide +kernel
theorem dX6_prove_197 : decode cX6_prove 197 = .ok (.iaload, 1) := by decide +kernel
theorem dX6_prove_198 : decode cX6_prove 198 = .ok (.iload 9, 2) := by decide +kernel
theorem dX6_prove_200 : decode cX6_prove 200 = .ok (.isub, 1) := by decide +kernel
theorem dX6_prove_201 : decode cX6_prove 201 = .ok (.iastore, 1) := by decide +kernel
theorem dX6_prove_202 : decode cX6_prove 202 = .ok (.aload_n 0, 1) := by decide +kernel
theorem dX6_prove_203 : decode cX6_prove 203 = .ok (.getfield 7, 3) := by decide +kernel
theorem dX6_prove_206 : decode cX6_prove 206 = .ok (.iload_n 1, 1) := by decide +kernel
theorem dX6_prove_207 : decode cX6_prove 207 = .ok (.dup2, 1) := by decide +kernel
theorem dX6_prove_208 : decode cX6_prove 208 = .ok (.iaload, 1) := by decide +kernel
theorem dX6_prove_209 : decode cX6_prove 209 = .ok (.iload 9, 2) := by decide +kernel
theorem dX6_prove_211 : decode cX6_prove 211 = .ok (.iadd, 1) := by decide +kernel
theorem dX6_prove_212 : decode cX6_prove 212 = .ok (.iastore, 1) := by decide +kernel
theorem dX6_prove_213 : decode cX6_prove 213 = .ok (.aload_n 0, 1) := by decide +kernel
theorem dX6_prove_214 : decode cX6_prove 214 = .ok (.iload 8, 2) := by decide +kernel
theorem dX6_prove_216 : decode cX6_prove 216 = .ok (.bipush 10, 2) := by decide +kernel
theorem dX6_prove_218 : decode cX6_prove 218 = .ok (.invokevirtual 138, 3) := by decide +kernel
theorem dX6_prove_221 : decode cX6_prove 221 = .ok (.iload 9, 2) := by decide +kernel
theorem dX6_prove_223 : decode cX6_prove 223 = .ok (.ireturn, 1) := by decide +kernel
theorem dX6_watcher_0 : decode cX6_watcher 0 = .ok (.aload_n 0, 1) := by decide +kernel
theorem dX6_watcher_1 : decode cX6_watcher 1 = .ok (.iconst 0, 1) := by decide +kernel
theorem dX6_watcher_2 : decode cX6_watcher 2 = .ok (.putfield 80, 3) := by decide +kernel
theorem dX6_watcher_5 : decode cX6_watcher 5 = .ok (.aload_n 0, 1) := by decide +kernel
theorem dX6_watcher_6 : decode cX6_watcher 6 = .ok (.getfield 65, 3) := by decide +kernel
theorem dX6_watcher_9 : decode cX6_watcher 9 = .ok (.aload_n 0, 1) := by decide +kernel
theorem dX6_watcher_10 : decode cX6_watcher 10 = .ok (.getfield 102, 3) := by decide +kernel
theorem dX6_watcher_13 : decode cX6_watcher 13 = .ok (.iaload, 1) := by decide +kernel
theorem dX6_watcher_14 : decode cX6_watcher 14 = .ok (.iconst 1, 1) := by decide +kernel
theorem dX6_watcher_15 : decode cX6_watcher 15 = .ok (.isub, 1) := by decide +kernel
theorem dX6_watcher_16 : decode cX6_watcher 16 = .ok (.ireturn, 1) := by decide +kernel
theorem dX6_chooses_0 : decode cX6_chooses 0 = .ok (.iconst 0, 1) := by decide +kernel
theorem dX6_chooses_1 : decode cX6_chooses 1 = .ok (.istore_n 1, 1) := by decide +kernel
theorem dX6_chooses_2 : decode cX6_chooses 2 = .ok (.iconst 0, 1) := by decide +kernel
theorem dX6_chooses_3 : decode cX6_chooses 3 = .ok (.istore_n 2, 1) := by decide +kernel
theorem dX6_chooses_4 : decode cX6_chooses 4 = .ok (.iload_n 2, 1) := by decide +kernel
theorem dX6_chooses_5 : decode cX6_chooses 5 = .ok (.aload_n 0, 1) := by decide +kernel
theorem dX6_chooses_6 : decode cX6_chooses 6 = .ok (.getfield 84, 3) := by decide +kernel
theorem dX6_chooses_9 : decode cX6_chooses 9 = .ok (.if_icmp .ge 26, 3) := by decide +kernel
theorem dX6_chooses_12 : decode cX6_chooses 12 = .ok (.iload_n 1, 1) := by decide +kernel
theorem dX6_chooses_13 : decode cX6_chooses 13 = .ok (.aload_n 0, 1) := by decide +kernel
theorem dX6_chooses_14 : decode cX6_chooses 14 = .ok (.getfield 22, 3) := by decide +kernel
theorem dX6_chooses_17 : decode cX6_chooses 17 = .ok (.iload_n 2, 1) := by decide +kernel
theorem dX6_chooses_18 : decode cX6_chooses 18 = .ok (.iaload, 1) := by decide +kernel
theorem dX6_chooses_19 : decode cX6_chooses 19 = .ok (.ifCond .ne 7, 3) := by decide +kernel
theorem dX6_chooses_22 : decode cX6_chooses 22 = .ok (.iconst 1, 1) := by decide +kernel
theorem dX6_chooses_23 : decode cX6_chooses 23 = .ok (.goto 4, 3) := by decide +kernel
theorem dX6_chooses_26 : decode cX6_chooses 26 = .ok (.iconst 0, 1) := by decide +kernel
theorem dX6_chooses_27 : decode cX6_chooses 27 = .ok (.iadd, 1) := by decide +kernel
theorem dX6_chooses_28 : decode cX6_chooses 28 = .ok (.istore_n 1, 1) := by decide +kernel
theorem dX6_chooses_29 : decode cX6_chooses 29 = .ok (.iinc 2 1, 3) := by decide +kernel
theorem dX6_chooses_32 : decode cX6_chooses 32 = .ok (.goto (-28), 3) := by decide +kernel
theorem dX6_chooses_35 : decode cX6_chooses 35 = .ok (.iload_n 1, 1) := by decide +kernel
theorem dX6_chooses_36 : decode cX6_chooses 36 = .ok (.ifCond .ne 7, 3) := by decide +kernel
theorem dX6_chooses_39 : decode cX6_chooses 39 = .ok (.iconst 0, 1) := by decide +kernel
theorem dX6_chooses_40 : decode cX6_chooses 40 = .ok (.goto 9, 3) := by decide +kernel
theorem dX6_chooses_43 : decode cX6_chooses 43 = .ok (.aload_n 0, 1) := by decide +kernel
theorem dX6_chooses_44 : decode cX6_chooses 44 = .ok (.getfield 102, 3) := by decide +kernel
theorem dX6_chooses_47 : decode cX6_chooses 47 = .ok (.iload_n 1, 1) := by decide +kernel
theorem dX6_chooses_48 : decode cX6_chooses 48 = .ok (.irem, 1) := by decide +kernel
theorem dX6_chooses_49 : decode cX6_chooses 49 = .ok (.istore_n 2, 1) := by decide +kernel
theorem dX6_chooses_50 : decode cX6_chooses 50 = .ok (.iconst 0, 1) := by decide +kernel
theorem dX6_chooses_51 : decode cX6_chooses 51 = .ok (.istore_n 3, 1) := by decide +kernel
theorem dX6_chooses_52 : decode cX6_chooses 52 = .ok (.iload_n 3, 1) := by decide +kernel
theorem dX6_chooses_53 : decode cX6_chooses 53 = .ok (.aload_n 0, 1) := by decide +kernel
theorem dX6_chooses_54 : decode cX6_chooses 54 = .ok (.getfield 84, 3) := by decide +kernel
theorem dX6_chooses_57 : decode cX6_chooses 57 = .ok (.if_icmp .ge 29, 3) := by decide +kernel
theorem dX6_chooses_60 : decode cX6_chooses 60 = .ok (.aload_n 0, 1) := by decide +kernel
theorem dX6_chooses_61 : decode cX6_chooses 61 = .ok (.getfield 22, 3) := by decide +kernel
theorem dX6_chooses_64 : decode cX6_chooses 64 = .ok (.iload_n 3, 1) := by decide +kernel
theorem dX6_chooses_65 : decode cX6_chooses 65 = .ok (.iaload, 1) := by decide +kernel
theorem dX6_chooses_66 : decode cX6_chooses 66 = .ok (.ifCond .ne 14, 3) := by decide +kernel
theorem dX6_chooses_69 : decode cX6_chooses 69 = .ok (.iload_n 2, 1) := by decide +kernel
theorem dX6_chooses_70 : decode cX6_chooses 70 = .ok (.ifCond .ne 7, 3) := by decide +kernel
theorem dX6_chooses_73 : decode cX6_chooses 73 = .ok (.iload_n 3, 1) := by decide +kernel
theorem dX6_chooses_74 : decode cX6_chooses 74 = .ok (.iconst 1, 1) := by decide +kernel
theorem dX6_chooses_75 : decode cX6_chooses 75 = .ok (.iadd, 1) := by decide +kernel
theorem dX6_chooses_76 : decode cX6_chooses 76 = .ok (.ireturn, 1) := by decide +kernel
theorem dX6_chooses_77 : decode cX6_chooses 77 = .ok (.iinc 2 (-1), 3) := by decide +kernel
theorem dX6_chooses_80 : decode cX6_chooses 80 = .ok (.iinc 3 1, 3) := by decide +kernel
theorem dX6_chooses_83 : decode cX6_chooses 83 = .ok (.goto (-31), 3) := by decide +kernel
theorem dX6_chooses_86 : decode cX6_chooses 86 = .ok (.iconst 0, 1) := by decide +kernel
theorem dX6_chooses_87 : decode cX6_chooses 87 = .ok (.ireturn, 1) := by decide +kernel
theorem dX6_passes_0 : decode cX6_passes 0 = .ok (.iconst 0, 1) := by decide +kernel
theorem dX6_passes_1 : decode cX6_passes 1 = .ok (.istore_n 1, 1) := by decide +kernel
theorem dX6_passes_2 : decode cX6_passes 2 = .ok (.iload_n 1, 1) := by decide +kernel
theorem dX6_passes_3 : decode cX6_passes 3 = .ok (.aload_n 0, 1) := by decide +kernel
theorem dX6_passes_4 : decode cX6_passes 4 = .ok (.getfield 125, 3) := by decide +kernel
theorem dX6_passes_7 : decode cX6_passes 7 = .ok (.if_icmp .ge 23, 3) := by decide +kernel
theorem dX6_passes_10 : decode cX6_passes 10 = .ok (.aload_n 0, 1) := by decide +kernel
theorem dX6_passes_11 : decode cX6_passes 11 = .ok (.getfield 41, 3) := by decide +kernel
theorem dX6_passes_14 : decode cX6_passes 14 = .ok (.iload_n 1, 1) := by decide +kernel
theorem dX6_passes_15 : decode cX6_passes 15 = .ok (.iaload, 1) := by decide +kernel
theorem dX6_passes_16 : decode cX6_passes 16 = .ok (.ifCond .ne 8, 3) := by decide +kernel
theorem dX6_passes_19 : decode cX6_passes 19 = .ok (.aload_n 0, 1) := by decide +kernel
theorem dX6_passes_20 : decode cX6_passes 20 = .ok (.iload_n 1, 1) := by decide +kernel
theorem dX6_passes_21 : decode cX6_passes 21 = .ok (.invokevirtual 146, 3) := by decide +kernel
theorem dX6_passes_24 : decode cX6_passes 24 = .ok (.iinc 1 1, 3) := by decide +kernel
theorem dX6_passes_27 : decode cX6_passes 27 = .ok (.goto (-25), 3) := by decide +kernel
theorem dX6_passes_30 : decode cX6_passes 30 = .ok (.aload_n 0, 1) := by decide +kernel
theorem dX6_passes_31 : decode cX6_passes 31 = .ok (.dup, 1) := by decide +kernel
theorem dX6_passes_32 : decode cX6_passes 32 = .ok (.getfield 102, 3) := by decide +kernel
theorem dX6_passes_35 : decode cX6_passes 35 = .ok (.iconst 1, 1) := by decide +kernel
theorem dX6_passes_36 : decode cX6_passes 36 = .ok (.iadd, 1) := by decide +kernel
theorem dX6_passes_37 : decode cX6_passes 37 = .ok (.putfield 102, 3) := by decide +kernel
theorem dX6_passes_40 : decode cX6_passes 40 = .ok (.iconst 0, 1) := by decide +kernel
theorem dX6_passes_41 : decode cX6_passes 41 = .ok (.istore_n 1, 1) := by decide +kernel
theorem dX6_passes_42 : decode cX6_passes 42 = .ok (.iload_n 1, 1) := by decide +kernel
theorem dX6_passes_43 : decode cX6_passes 43 = .ok (.aload_n 0, 1) := by decide +kernel
theorem dX6_passes_44 : decode cX6_passes 44 = .ok (.getfield 84, 3) := by decide +kernel
theorem dX6_passes_47 : decode cX6_passes 47 = .ok (.if_icmp .ge 61, 3) := by decide +kernel
theorem dX6_passes_50 : decode cX6_passes 50 = .ok (.aload_n 0, 1) := by decide +kernel
theorem dX6_passes_51 : decode cX6_passes 51 = .ok (.getfield 22, 3) := by decide +kernel
theorem dX6_passes_54 : decode cX6_passes 54 = .ok (.iload_n 1, 1) := by decide +kernel
theorem dX6_passes_55 : decode cX6_passes 55 = .ok (.iaload, 1) := by decide +kernel
theorem dX6_passes_56 : decode cX6_passes 56 = .ok (.iconst 1, 1) := by decide +kernel
theorem dX6_passes_57 : decode cX6_passes 57 = .ok (.if_icmp .ne 45, 3) := by decide +kernel
theorem dX6_passes_60 : decode cX6_passes 60 = .ok (.aload_n 0, 1) := by decide +kernel
theorem dX6_passes_61 : decode cX6_passes 61 = .ok (.getfield 25, 3) := by decide +kernel
theorem dX6_passes_64 : decode cX6_passes 64 = .ok (.iload_n 1, 1) := by decide +kernel
theorem dX6_passes_65 : decode cX6_passes 65 = .ok (.iaload, 1) := by decide +kernel
theorem dX6_passes_66 : decode cX6_passes 66 = .ok (.aload_n 0, 1) := by decide +kernel
theorem dX6_passes_67 : decode cX6_passes 67 = .ok (.getfield 102, 3) := by decide +kernel
theorem dX6_passes_70 : decode cX6_passes 70 = .ok (.if_icmp .ne 32, 3) := by decide +kernel
theorem dX6_passes_73 : decode cX6_passes 73 = .ok (.aload_n 0, 1) := by decide +kernel
theorem dX6_passes_74 : decode cX6_passes 74 = .ok (.getfield 22, 3) := by decide +kernel
theorem dX6_passes_77 : decode cX6_passes 77 = .ok (.iload_n 1, 1) := by decide +kernel
theorem dX6_passes_78 : decode cX6_passes 78 = .ok (.iconst 2, 1) := by decide +kernel
theorem dX6_passes_79 : decode cX6_passes 79 = .ok (.iastore, 1) := by decide +kernel
theorem dX6_passes_80 : decode cX6_passes 80 = .ok (.aload_n 0, 1) := by decide +kernel
theorem dX6_passes_81 : decode cX6_passes 81 = .ok (.getfield 7, 3) := by decide +kernel
theorem dX6_passes_84 : decode cX6_passes 84 = .ok (.iload_n 1, 1) := by decide +kernel
theorem dX6_passes_85 : decode cX6_passes 85 = .ok (.dup2, 1) := by decide +kernel
theorem dX6_passes_86 : decode cX6_passes 86 = .ok (.iaload, 1) := by decide +kernel
theorem dX6_passes_87 : decode cX6_passes 87 = .ok (.aload_n 0, 1) := by decide +kernel
theorem dX6_passes_88 : decode cX6_passes 88 = .ok (.getfield 13, 3) := by decide +kernel
theorem dX6_passes_91 : decode cX6_passes 91 = .ok (.iload_n 1, 1) := by decide +kernel
theorem dX6_passes_92 : decode cX6_passes 92 = .ok (.iaload, 1) := by decide +kernel
theorem dX6_passes_93 : decode cX6_passes 93 = .ok (.iadd, 1) := by decide +kernel
theorem dX6_passes_94 : decode cX6_passes 94 = .ok (.iastore, 1) := by decide +kernel
theorem dX6_passes_95 : decode cX6_passes 95 = .ok (.aload_n 0, 1) := by decide +kernel
theorem dX6_passes_96 : decode cX6_passes 96 = .ok (.getfield 13, 3) := by decide +kernel
theorem dX6_passes_99 : decode cX6_passes 99 = .ok (.iload_n 1, 1) := by decide +kernel
theorem dX6_passes_100 : decode cX6_passes 100 = .ok (.iconst 0, 1) := by decide +kernel
theorem dX6_passes_101 : decode cX6_passes 101 = .ok (.iastore, 1) := by decide +kernel
theorem dX6_passes_102 : decode cX6_passes 102 = .ok (.iinc 1 1, 3) := by decide +kernel
theorem dX6_passes_105 : decode cX6_passes 105 = .ok (.goto (-63), 3) := by decide +kernel
theorem dX6_passes_108 : decode cX6_passes 108 = .ok (.aload_n 0, 1) := by decide +kernel
theorem dX6_passes_109 : decode cX6_passes 109 = .ok (.getfield 65, 3) := by decide +kernel
theorem dX6_passes_112 : decode cX6_passes 112 = .ok (.aload_n 0, 1) := by decide +kernel
theorem dX6_passes_113 : decode cX6_passes 113 = .ok (.getfield 102, 3) := by decide +kernel
theorem dX6_passes_116 : decode cX6_passes 116 = .ok (.aload_n 0, 1) := by decide +kernel
theorem dX6_passes_117 : decode cX6_passes 117 = .ok (.invokevirtual 149, 3) := by decide +kernel
theorem dX6_passes_120 : decode cX6_passes 120 = .ok (.iastore, 1) := by decide +kernel
theorem dX6_passes_121 : decode cX6_passes 121 = .ok (.return_, 1) := by decide +kernel
theorem dX6_pass_0 : decode cX6_pass 0 = .ok (.aload_n 0, 1) := by decide +kernel
theorem dX6_pass_1 : decode cX6_pass 1 = .ok (.iload_n 1, 1) := by decide +kernel
theorem dX6_pass_2 : decode cX6_pass 2 = .ok (.iconst 1, 1) := by decide +kernel
theorem dX6_pass_3 : decode cX6_pass 3 = .ok (.bipush 30, 2) := by decide +kernel
theorem dX6_pass_5 : decode cX6_pass 5 = .ok (.invokestatic 87, 3) := by decide +kernel
theorem dX6_pass_8 : decode cX6_pass 8 = .ok (.ifCond .ne 7, 3) := by decide +kernel
theorem dX6_pass_11 : decode cX6_pass 11 = .ok (.iconst 1, 1) := by decide +kernel
theorem dX6_pass_12 : decode cX6_pass 12 = .ok (.goto 20, 3) := by decide +kernel
theorem dX6_pass_15 : decode cX6_pass 15 = .ok (.aload_n 0, 1) := by decide +kernel
theorem dX6_pass_16 : decode cX6_pass 16 = .ok (.getfield 102, 3) := by decide +kernel
theorem dX6_pass_19 : decode cX6_pass 19 = .ok (.iload_n 1, 1) := by decide +kernel
theorem dX6_pass_20 : decode cX6_pass 20 = .ok (.iadd, 1) := by decide +kernel
theorem dX6_pass_21 : decode cX6_pass 21 = .ok (.sipush 5000, 3) := by decide +kernel
theorem dX6_pass_24 : decode cX6_pass 24 = .ok (.if_icmp .le 7, 3) := by decide +kernel
theorem dX6_pass_27 : decode cX6_pass 27 = .ok (.iconst 2, 1) := by decide +kernel
theorem dX6_pass_28 : decode cX6_pass 28 = .ok (.goto 4, 3) := by decide +kernel
theorem dX6_pass_31 : decode cX6_pass 31 = .ok (.iconst 0, 1) := by decide +kernel
theorem dX6_pass_32 : decode cX6_pass 32 = .ok (.invokevirtual 91, 3) := by decide +kernel
theorem dX6_pass_35 : decode cX6_pass 35 = .ok (.ifCond .ne 5, 3) := by decide +kernel
theorem dX6_pass_38 : decode cX6_pass 38 = .ok (.iconst 0, 1) := by decide +kernel
theorem dX6_pass_39 : decode cX6_pass 39 = .ok (.ireturn, 1) := by decide +kernel
theorem dX6_pass_40 : decode cX6_pass 40 = .ok (.iconst 0, 1) := by decide +kernel
theorem dX6_pass_41 : decode cX6_pass 41 = .ok (.istore_n 2, 1) := by decide +kernel
theorem dX6_pass_42 : decode cX6_pass 42 = .ok (.iload_n 2, 1) := by decide +kernel
theorem dX6_pass_43 : decode cX6_pass 43 = .ok (.iload_n 1, 1) := by decide +kernel
theorem dX6_pass_44 : decode cX6_pass 44 = .ok (.if_icmp .ge 13, 3) := by decide +kernel
theorem dX6_pass_47 : decode cX6_pass 47 = .ok (.aload_n 0, 1) := by decide +kernel
theorem dX6_pass_48 : decode cX6_pass 48 = .ok (.invokevirtual 153, 3) := by decide +kernel
theorem dX6_pass_51 : decode cX6_pass 51 = .ok (.iinc 2 1, 3) := by decide +kernel
theorem dX6_pass_54 : decode cX6_pass 54 = .ok (.goto (-12), 3) := by decide +kernel
theorem dX6_pass_57 : decode cX6_pass 57 = .ok (.aload_n 0, 1) := by decide +kernel
theorem dX6_pass_58 : decode cX6_pass 58 = .ok (.getfield 102, 3) := by decide +kernel
theorem dX6_pass_61 : decode cX6_pass 61 = .ok (.ireturn, 1) := by decide +kernel
theorem dX6_nodeIs_0 : decode cX6_nodeIs 0 = .ok (.aload_n 0, 1) := by decide +kernel
theorem dX6_nodeIs_1 : decode cX6_nodeIs 1 = .ok (.aload_n 0, 1) := by decide +kernel
theorem dX6_nodeIs_2 : decode cX6_nodeIs 2 = .ok (.iload_n 1, 1) := by decide +kernel
theorem dX6_nodeIs_3 : decode cX6_nodeIs 3 = .ok (.invokevirtual 95, 3) := by decide +kernel
theorem dX6_nodeIs_6 : decode cX6_nodeIs 6 = .ok (.ifCond .ne 7, 3) := by decide +kernel
theorem dX6_nodeIs_9 : decode cX6_nodeIs 9 = .ok (.iconst 1, 1) := by decide +kernel
theorem dX6_nodeIs_10 : decode cX6_nodeIs 10 = .ok (.goto 18, 3) := by decide +kernel
theorem dX6_nodeIs_13 : decode cX6_nodeIs 13 = .ok (.iload_n 2, 1) := by decide +kernel
theorem dX6_nodeIs_14 : decode cX6_nodeIs 14 = .ok (.iconst 0, 1) := by decide +kernel
theorem dX6_nodeIs_15 : decode cX6_nodeIs 15 = .ok (.bipush 6, 2) := by decide +kernel
theorem dX6_nodeIs_17 : decode cX6_nodeIs 17 = .ok (.invokestatic 87, 3) := by decide +kernel
theorem dX6_nodeIs_20 : decode cX6_nodeIs 20 = .ok (.ifCond .eq 7, 3) := by decide +kernel
theorem dX6_nodeIs_23 : decode cX6_nodeIs 23 = .ok (.iconst 0, 1) := by decide +kernel
theorem dX6_nodeIs_24 : decode cX6_nodeIs 24 = .ok (.goto 4, 3) := by decide +kernel
theorem dX6_nodeIs_27 : decode cX6_nodeIs 27 = .ok (.iconst 2, 1) := by decide +kernel
theorem dX6_nodeIs_28 : decode cX6_nodeIs 28 = .ok (.invokevirtual 91, 3) := by decide +kernel
theorem dX6_nodeIs_31 : decode cX6_nodeIs 31 = .ok (.ifCond .ne 5, 3) := by decide +kernel
theorem dX6_nodeIs_34 : decode cX6_nodeIs 34 = .ok (.iconst 0, 1) := by decide +kernel
theorem dX6_nodeIs_35 : decode cX6_nodeIs 35 = .ok (.ireturn, 1) := by decide +kernel
theorem dX6_nodeIs_36 : decode cX6_nodeIs 36 = .ok (.iload_n 2, 1) := by decide +kernel
theorem dX6_nodeIs_37 : decode cX6_nodeIs 37 = .ok (.tableswitch 81 0 5 #[39, 46, 53, 60, 67, 74], 39) := by decide +kernel
theorem dX6_nodeIs_76 : decode cX6_nodeIs 76 = .ok (.aload_n 0, 1) := by decide +kernel
theorem dX6_nodeIs_77 : decode cX6_nodeIs 77 = .ok (.getfield 7, 3) := by decide +kernel
theorem dX6_nodeIs_80 : decode cX6_nodeIs 80 = .ok (.iload_n 1, 1) := by decide +kernel
theorem dX6_nodeIs_81 : decode cX6_nodeIs 81 = .ok (.iaload, 1) := by decide +kernel
theorem dX6_nodeIs_82 : decode cX6_nodeIs 82 = .ok (.ireturn, 1) := by decide +kernel
theorem dX6_nodeIs_83 : decode cX6_nodeIs 83 = .ok (.aload_n 0, 1) := by decide +kernel
theorem dX6_nodeIs_84 : decode cX6_nodeIs 84 = .ok (.getfield 13, 3) := by decide +kernel
theorem dX6_nodeIs_87 : decode cX6_nodeIs 87 = .ok (.iload_n 1, 1) := by decide +kernel
theorem dX6_nodeIs_88 : decode cX6_nodeIs 88 = .ok (.iaload, 1) := by decide +kernel
theorem dX6_nodeIs_89 : decode cX6_nodeIs 89 = .ok (.ireturn, 1) := by decide +kernel
theorem dX6_nodeIs_90 : decode cX6_nodeIs 90 = .ok (.aload_n 0, 1) := by decide +kernel
theorem dX6_nodeIs_91 : decode cX6_nodeIs 91 = .ok (.getfield 19, 3) := by decide +kernel
theorem dX6_nodeIs_94 : decode cX6_nodeIs 94 = .ok (.iload_n 1, 1) := by decide +kernel
theorem dX6_nodeIs_95 : decode cX6_nodeIs 95 = .ok (.iaload, 1) := by decide +kernel
theorem dX6_nodeIs_96 : decode cX6_nodeIs 96 = .ok (.ireturn, 1) := by decide +kernel
theorem dX6_nodeIs_97 : decode cX6_nodeIs 97 = .ok (.aload_n 0, 1) := by decide +kernel
theorem dX6_nodeIs_98 : decode cX6_nodeIs 98 = .ok (.getfield 22, 3) := by decide +kernel
theorem dX6_nodeIs_101 : decode cX6_nodeIs 101 = .ok (.iload_n 1, 1) := by decide +kernel
theorem dX6_nodeIs_102 : decode cX6_nodeIs 102 = .ok (.iaload, 1) := by decide +kernel
theorem dX6_nodeIs_103 : decode cX6_nodeIs 103 = .ok (.ireturn, 1) := by decide +kernel
theorem dX6_nodeIs_104 : decode cX6_nodeIs 104 = .ok (.aload_n 0, 1) := by decide +kernel
theorem dX6_nodeIs_105 : decode cX6_nodeIs 105 = .ok (.getfield 31, 3) := by decide +kernel
theorem dX6_nodeIs_108 : decode cX6_nodeIs 108 = .ok (.iload_n 1, 1) := by decide +kernel
theorem dX6_nodeIs_109 : decode cX6_nodeIs 109 = .ok (.iaload, 1) := by decide +kernel
theorem dX6_nodeIs_110 : decode cX6_nodeIs 110 = .ok (.ireturn, 1) := by decide +kernel
theorem dX6_nodeIs_111 : decode cX6_nodeIs 111 = .ok (.aload_n 0, 1) := by decide +kernel
theorem dX6_nodeIs_112 : decode cX6_nodeIs 112 = .ok (.getfield 34, 3) := by decide +kernel
theorem dX6_nodeIs_115 : decode cX6_nodeIs 115 = .ok (.iload_n 1, 1) := by decide +kernel
theorem dX6_nodeIs_116 : decode cX6_nodeIs 116 = .ok (.iaload, 1) := by decide +kernel
theorem dX6_nodeIs_117 : decode cX6_nodeIs 117 = .ok (.ireturn, 1) := by decide +kernel
theorem dX6_nodeIs_118 : decode cX6_nodeIs 118 = .ok (.aload_n 0, 1) := by decide +kernel
theorem dX6_nodeIs_119 : decode cX6_nodeIs 119 = .ok (.getfield 22, 3) := by decide +kernel
theorem dX6_nodeIs_122 : decode cX6_nodeIs 122 = .ok (.iload_n 1, 1) := by decide +kernel
theorem dX6_nodeIs_123 : decode cX6_nodeIs 123 = .ok (.iaload, 1) := by decide +kernel
theorem dX6_nodeIs_124 : decode cX6_nodeIs 124 = .ok (.iconst 1, 1) := by decide +kernel
theorem dX6_nodeIs_125 : decode cX6_nodeIs 125 = .ok (.if_icmp .ne 12, 3) := by decide +kernel
theorem dX6_nodeIs_128 : decode cX6_nodeIs 128 = .ok (.aload_n 0, 1) := by decide +kernel
theorem dX6_nodeIs_129 : decode cX6_nodeIs 129 = .ok (.getfield 25, 3) := by decide +kernel
theorem dX6_nodeIs_132 : decode cX6_nodeIs 132 = .ok (.iload_n 1, 1) := by decide +kernel
theorem dX6_nodeIs_133 : decode cX6_nodeIs 133 = .ok (.iaload, 1) := by decide +kernel
theorem dX6_nodeIs_134 : decode cX6_nodeIs 134 = .ok (.goto 4, 3) := by decide +kernel
theorem dX6_nodeIs_137 : decode cX6_nodeIs 137 = .ok (.iconst (-1), 1) := by decide +kernel
theorem dX6_nodeIs_138 : decode cX6_nodeIs 138 = .ok (.ireturn, 1) := by decide +kernel
theorem dX6_paidAnew_0 : decode cX6_paidAnew 0 = .ok (.aload_n 0, 1) := by decide +kernel
theorem dX6_paidAnew_1 : decode cX6_paidAnew 1 = .ok (.aload_n 0, 1) := by decide +kernel
theorem dX6_paidAnew_2 : decode cX6_paidAnew 2 = .ok (.iload_n 1, 1) := by decide +kernel
theorem dX6_paidAnew_3 : decode cX6_paidAnew 3 = .ok (.invokevirtual 95, 3) := by decide +kernel
theorem dX6_paidAnew_6 : decode cX6_paidAnew 6 = .ok (.ifCond .eq 7, 3) := by decide +kernel
theorem dX6_paidAnew_9 : decode cX6_paidAnew 9 = .ok (.iconst 0, 1) := by decide +kernel
theorem dX6_paidAnew_10 : decode cX6_paidAnew 10 = .ok (.goto 4, 3) := by decide +kernel
theorem dX6_paidAnew_13 : decode cX6_paidAnew 13 = .ok (.iconst 1, 1) := by decide +kernel
theorem dX6_paidAnew_14 : decode cX6_paidAnew 14 = .ok (.invokevirtual 91, 3) := by decide +kernel
theorem dX6_paidAnew_17 : decode cX6_paidAnew 17 = .ok (.ifCond .eq 12, 3) := by decide +kernel
theorem dX6_paidAnew_20 : decode cX6_paidAnew 20 = .ok (.aload_n 0, 1) := by decide +kernel
theorem dX6_paidAnew_21 : decode cX6_paidAnew 21 = .ok (.getfield 31, 3) := by decide +kernel
theorem dX6_paidAnew_24 : decode cX6_paidAnew 24 = .ok (.iload_n 1, 1) := by decide +kernel
theorem dX6_paidAnew_25 : decode cX6_paidAnew 25 = .ok (.iaload, 1) := by decide +kernel
theorem dX6_paidAnew_26 : decode cX6_paidAnew 26 = .ok (.goto 4, 3) := by decide +kernel
theorem dX6_paidAnew_29 : decode cX6_paidAnew 29 = .ok (.iconst 0, 1) := by decide +kernel
theorem dX6_paidAnew_30 : decode cX6_paidAnew 30 = .ok (.ireturn, 1) := by decide +kernel
theorem dX6_money_0 : decode cX6_money 0 = .ok (.aload_n 0, 1) := by decide +kernel
theorem dX6_money_1 : decode cX6_money 1 = .ok (.iconst 0, 1) := by decide +kernel
theorem dX6_money_2 : decode cX6_money 2 = .ok (.putfield 80, 3) := by decide +kernel
theorem dX6_money_5 : decode cX6_money 5 = .ok (.iconst 0, 1) := by decide +kernel
theorem dX6_money_6 : decode cX6_money 6 = .ok (.istore_n 1, 1) := by decide +kernel
theorem dX6_money_7 : decode cX6_money 7 = .ok (.iconst 0, 1) := by decide +kernel
theorem dX6_money_8 : decode cX6_money 8 = .ok (.istore_n 2, 1) := by decide +kernel
theorem dX6_money_9 : decode cX6_money 9 = .ok (.iload_n 2, 1) := by decide +kernel
theorem dX6_money_10 : decode cX6_money 10 = .ok (.aload_n 0, 1) := by decide +kernel
theorem dX6_money_11 : decode cX6_money 11 = .ok (.getfield 84, 3) := by decide +kernel
theorem dX6_money_14 : decode cX6_money 14 = .ok (.if_icmp .ge 25, 3) := by decide +kernel
theorem dX6_money_17 : decode cX6_money 17 = .ok (.iload_n 1, 1) := by decide +kernel
theorem dX6_money_18 : decode cX6_money 18 = .ok (.aload_n 0, 1) := by decide +kernel
theorem dX6_money_19 : decode cX6_money 19 = .ok (.getfield 7, 3) := by decide +kernel
theorem dX6_money_22 : decode cX6_money 22 = .ok (.iload_n 2, 1) := by decide +kernel
theorem dX6_money_23 : decode cX6_money 23 = .ok (.iaload, 1) := by decide +kernel
theorem dX6_money_24 : decode cX6_money 24 = .ok (.aload_n 0, 1) := by decide +kernel
theorem dX6_money_25 : decode cX6_money 25 = .ok (.getfield 13, 3) := by decide +kernel
theorem dX6_money_28 : decode cX6_money 28 = .ok (.iload_n 2, 1) := by decide +kernel
theorem dX6_money_29 : decode cX6_money 29 = .ok (.iaload, 1) := by decide +kernel
theorem dX6_money_30 : decode cX6_money 30 = .ok (.iadd, 1) := by decide +kernel
theorem dX6_money_31 : decode cX6_money 31 = .ok (.iadd, 1) := by decide +kernel
theorem dX6_money_32 : decode cX6_money 32 = .ok (.istore_n 1, 1) := by decide +kernel
theorem dX6_money_33 : decode cX6_money 33 = .ok (.iinc 2 1, 3) := by decide +kernel
theorem dX6_money_36 : decode cX6_money 36 = .ok (.goto (-27), 3) := by decide +kernel
theorem dX6_money_39 : decode cX6_money 39 = .ok (.iconst 0, 1) := by decide +kernel
theorem dX6_money_40 : decode cX6_money 40 = .ok (.istore_n 2, 1) := by decide +kernel
theorem dX6_money_41 : decode cX6_money 41 = .ok (.iload_n 2, 1) := by decide +kernel
theorem dX6_money_42 : decode cX6_money 42 = .ok (.aload_n 0, 1) := by decide +kernel
theorem dX6_money_43 : decode cX6_money 43 = .ok (.getfield 125, 3) := by decide +kernel
theorem dX6_money_46 : decode cX6_money 46 = .ok (.if_icmp .ge 31, 3) := by decide +kernel
theorem dX6_money_49 : decode cX6_money 49 = .ok (.iload_n 1, 1) := by decide +kernel
theorem dX6_money_50 : decode cX6_money 50 = .ok (.aload_n 0, 1) := by decide +kernel
theorem dX6_money_51 : decode cX6_money 51 = .ok (.getfield 41, 3) := by decide +kernel
theorem dX6_money_54 : decode cX6_money 54 = .ok (.iload_n 2, 1) := by decide +kernel
theorem dX6_money_55 : decode cX6_money 55 = .ok (.iaload, 1) := by decide +kernel
theorem dX6_money_56 : decode cX6_money 56 = .ok (.ifCond .ne 12, 3) := by decide +kernel
theorem dX6_money_59 : decode cX6_money 59 = .ok (.aload_n 0, 1) := by decide +kernel
theorem dX6_money_60 : decode cX6_money 60 = .ok (.getfield 50, 3) := by decide +kernel
theorem dX6_money_63 : decode cX6_money 63 = .ok (.iload_n 2, 1) := by decide +kernel
theorem dX6_money_64 : decode cX6_money 64 = .ok (.iaload, 1) := by decide +kernel
theorem dX6_money_65 : decode cX6_money 65 = .ok (.goto 4, 3) := by decide +kernel
theorem dX6_money_68 : decode cX6_money 68 = .ok (.iconst 0, 1) := by decide +kernel
theorem dX6_money_69 : decode cX6_money 69 = .ok (.iadd, 1) := by decide +kernel
theorem dX6_money_70 : decode cX6_money 70 = .ok (.istore_n 1, 1) := by decide +kernel
theorem dX6_money_71 : decode cX6_money 71 = .ok (.iinc 2 1, 3) := by decide +kernel
theorem dX6_money_74 : decode cX6_money 74 = .ok (.goto (-33), 3) := by decide +kernel
theorem dX6_money_77 : decode cX6_money 77 = .ok (.iload_n 1, 1) := by decide +kernel
theorem dX6_money_78 : decode cX6_money 78 = .ok (.ireturn, 1) := by decide +kernel
theorem dJ9_floorMod_7cf53_0 : decode cJ9_floorMod_7cf53 0 = .ok (.iload_n 0, 1) := by decide +kernel
theorem dJ9_floorMod_7cf53_1 : decode cJ9_floorMod_7cf53 1 = .ok (.iload_n 1, 1) := by decide +kernel
theorem dJ9_floorMod_7cf53_2 : decode cJ9_floorMod_7cf53 2 = .ok (.irem, 1) := by decide +kernel
theorem dJ9_floorMod_7cf53_3 : decode cJ9_floorMod_7cf53 3 = .ok (.istore_n 2, 1) := by decide +kernel
theorem dJ9_floorMod_7cf53_4 : decode cJ9_floorMod_7cf53 4 = .ok (.iload_n 0, 1) := by decide +kernel
theorem dJ9_floorMod_7cf53_5 : decode cJ9_floorMod_7cf53 5 = .ok (.iload_n 1, 1) := by decide +kernel
theorem dJ9_floorMod_7cf53_6 : decode cJ9_floorMod_7cf53 6 = .ok (.ixor, 1) := by decide +kernel
theorem dJ9_floorMod_7cf53_7 : decode cJ9_floorMod_7cf53 7 = .ok (.ifCond .ge 11, 3) := by decide +kernel
theorem dJ9_floorMod_7cf53_10 : decode cJ9_floorMod_7cf53 10 = .ok (.iload_n 2, 1) := by decide +kernel
theorem dJ9_floorMod_7cf53_11 : decode cJ9_floorMod_7cf53 11 = .ok (.ifCond .eq 7, 3) := by decide +kernel
theorem dJ9_floorMod_7cf53_14 : decode cJ9_floorMod_7cf53 14 = .ok (.iload_n 2, 1) := by decide +kernel
theorem dJ9_floorMod_7cf53_15 : decode cJ9_floorMod_7cf53 15 = .ok (.iload_n 1, 1) := by decide +kernel
theorem dJ9_floorMod_7cf53_16 : decode cJ9_floorMod_7cf53 16 = .ok (.iadd, 1) := by decide +kernel
theorem dJ9_floorMod_7cf53_17 : decode cJ9_floorMod_7cf53 17 = .ok (.ireturn, 1) := by decide +kernel
theorem dJ9_floorMod_7cf53_18 : decode cJ9_floorMod_7cf53 18 = .ok (.iload_n 2, 1) := by decide +kernel
theorem dJ9_floorMod_7cf53_19 : decode cJ9_floorMod_7cf53 19 = .ok (.ireturn, 1) := by decide +kernel
theorem dJ9_max_7cf53_0 : decode cJ9_max_7cf53 0 = .ok (.iload_n 0, 1) := by decide +kernel
theorem dJ9_max_7cf53_1 : decode cJ9_max_7cf53 1 = .ok (.iload_n 1, 1) := by decide +kernel
theorem dJ9_max_7cf53_2 : decode cJ9_max_7cf53 2 = .ok (.if_icmp .lt 7, 3) := by decide +kernel
theorem dJ9_max_7cf53_5 : decode cJ9_max_7cf53 5 = .ok (.iload_n 0, 1) := by decide +kernel
theorem dJ9_max_7cf53_6 : decode cJ9_max_7cf53 6 = .ok (.goto 4, 3) := by decide +kernel
theorem dJ9_max_7cf53_9 : decode cJ9_max_7cf53 9 = .ok (.iload_n 1, 1) := by decide +kernel
theorem dJ9_max_7cf53_10 : decode cJ9_max_7cf53 10 = .ok (.ireturn, 1) := by decide +kernel
theorem dJ9_min_7cf53_0 : decode cJ9_min_7cf53 0 = .ok (.iload_n 0, 1) := by decide +kernel
theorem dJ9_min_7cf53_1 : decode cJ9_min_7cf53 1 = .ok (.iload_n 1, 1) := by decide +kernel
theorem dJ9_min_7cf53_2 : decode cJ9_min_7cf53 2 = .ok (.if_icmp .gt 7, 3) := by decide +kernel
theorem dJ9_min_7cf53_5 : decode cJ9_min_7cf53 5 = .ok (.iload_n 0, 1) := by decide +kernel
theorem dJ9_min_7cf53_6 : decode cJ9_min_7cf53 6 = .ok (.goto 4, 3) := by decide +kernel
theorem dJ9_min_7cf53_9 : decode cJ9_min_7cf53 9 = .ok (.iload_n 1, 1) := by decide +kernel
theorem dJ9_min_7cf53_10 : decode cJ9_min_7cf53 10 = .ok (.ireturn, 1) := by decide +kernel
theorem dJxa1e45_init_da8c8_0 : decode cJxa1e45_init_da8c8 0 = .ok (.aload_n 0, 1) := by decide +kernel
theorem dJxa1e45_init_da8c8_1 : decode cJxa1e45_init_da8c8 1 = .ok (.invokespecial 1, 3) := by decide +kernel
theorem dJxa1e45_init_da8c8_4 : decode cJxa1e45_init_da8c8 4 = .ok (.return_, 1) := by decide +kernel
theorem dJxc12de_init_da8c8_0 : decode cJxc12de_init_da8c8 0 = .ok (.aload_n 0, 1) := by decide +kernel
theorem dJxc12de_init_da8c8_1 : decode cJxc12de_init_da8c8 1 = .ok (.invokespecial 1, 3) := by decide +kernel
theorem dJxc12de_init_da8c8_4 : decode cJxc12de_init_da8c8 4 = .ok (.aload_n 0, 1) := by decide +kernel
theorem dJxc12de_init_da8c8_5 : decode cJxc12de_init_da8c8 5 = .ok (.iconst 0, 1) := by decide +kernel
theorem dJxc12de_init_da8c8_6 : decode cJxc12de_init_da8c8 6 = .ok (.putfield 7, 3) := by decide +kernel
theorem dJxc12de_init_da8c8_9 : decode cJxc12de_init_da8c8 9 = .ok (.return_, 1) := by decide +kernel
theorem dJx4a65c_init_da8c8_0 : decode cJx4a65c_init_da8c8 0 = .ok (.aload_n 0, 1) := by decide +kernel
theorem dJx4a65c_init_da8c8_1 : decode cJx4a65c_init_da8c8 1 = .ok (.invokespecial 1, 3) := by decide +kernel
theorem dJx4a65c_init_da8c8_4 : decode cJx4a65c_init_da8c8 4 = .ok (.aload_n 0, 1) := by decide +kernel
theorem dJx4a65c_init_da8c8_5 : decode cJx4a65c_init_da8c8 5 = .ok (.getstatic 39, 3) := by decide +kernel
theorem dJx4a65c_init_da8c8_8 : decode cJx4a65c_init_da8c8 8 = .ok (.putfield 9, 3) := by decide +kernel
theorem dJx4a65c_init_da8c8_11 : decode cJx4a65c_init_da8c8 11 = .ok (.return_, 1) := by decide +kernel
theorem dJx4a65c_grow_92f84_0 : decode cJx4a65c_grow_92f84 0 = .ok (.aload_n 0, 1) := by decide +kernel
theorem dJx4a65c_grow_92f84_1 : decode cJx4a65c_grow_92f84 1 = .ok (.getfield 9, 3) := by decide +kernel
theorem dJx4a65c_grow_92f84_4 : decode cJx4a65c_grow_92f84 4 = .ok (.arraylength, 1) := by decide +kernel
theorem dJx4a65c_grow_92f84_5 : decode cJx4a65c_grow_92f84 5 = .ok (.istore_n 2, 1) := by decide +kernel
theorem dJx4a65c_grow_92f84_6 : decode cJx4a65c_grow_92f84 6 = .ok (.iload_n 2, 1) := by decide +kernel
theorem dJx4a65c_grow_92f84_7 : decode cJx4a65c_grow_92f84 7 = .ok (.ifCond .gt 13, 3) := by decide +kernel
theorem dJx4a65c_grow_92f84_10 : decode cJx4a65c_grow_92f84 10 = .ok (.aload_n 0, 1) := by decide +kernel
theorem dJx4a65c_grow_92f84_11 : decode cJx4a65c_grow_92f84 11 = .ok (.getfield 9, 3) := by decide +kernel
theorem dJx4a65c_grow_92f84_14 : decode cJx4a65c_grow_92f84 14 = .ok (.getstatic 39, 3) := by decide +kernel
theorem dJx4a65c_grow_92f84_17 : decode cJx4a65c_grow_92f84 17 = .ok (.if_acmp .eq 28, 3) := by decide +kernel
theorem dJx4a65c_grow_92f84_20 : decode cJx4a65c_grow_92f84 20 = .ok (.iload_n 2, 1) := by decide +kernel
theorem dJx4a65c_grow_92f84_21 : decode cJx4a65c_grow_92f84 21 = .ok (.iload_n 1, 1) := by decide +kernel
theorem dJx4a65c_grow_92f84_22 : decode cJx4a65c_grow_92f84 22 = .ok (.iload_n 2, 1) := by decide +kernel
theorem dJx4a65c_grow_92f84_23 : decode cJx4a65c_grow_92f84 23 = .ok (.isub, 1) := by decide +kernel
theorem dJx4a65c_grow_92f84_24 : decode cJx4a65c_grow_92f84 24 = .ok (.iload_n 2, 1) := by decide +kernel
theorem dJx4a65c_grow_92f84_25 : decode cJx4a65c_grow_92f84 25 = .ok (.iconst 1, 1) := by decide +kernel
theorem dJx4a65c_grow_92f84_26 : decode cJx4a65c_grow_92f84 26 = .ok (.ishr, 1) := by decide +kernel
theorem dJx4a65c_grow_92f84_27 : decode cJx4a65c_grow_92f84 27 = .ok (.invokestatic 73, 3) := by decide +kernel
theorem dJx4a65c_grow_92f84_30 : decode cJx4a65c_grow_92f84 30 = .ok (.istore_n 3, 1) := by decide +kernel
theorem dJx4a65c_grow_92f84_31 : decode cJx4a65c_grow_92f84 31 = .ok (.aload_n 0, 1) := by decide +kernel
theorem dJx4a65c_grow_92f84_32 : decode cJx4a65c_grow_92f84 32 = .ok (.aload_n 0, 1) := by decide +kernel
theorem dJx4a65c_grow_92f84_33 : decode cJx4a65c_grow_92f84 33 = .ok (.getfield 9, 3) := by decide +kernel
theorem dJx4a65c_grow_92f84_36 : decode cJx4a65c_grow_92f84 36 = .ok (.iload_n 3, 1) := by decide +kernel
theorem dJx4a65c_grow_92f84_37 : decode cJx4a65c_grow_92f84 37 = .ok (.invokestatic 66, 3) := by decide +kernel
theorem dJx4a65c_grow_92f84_40 : decode cJx4a65c_grow_92f84 40 = .ok (.dup_x1, 1) := by decide +kernel
theorem dJx4a65c_grow_92f84_41 : decode cJx4a65c_grow_92f84 41 = .ok (.putfield 9, 3) := by decide +kernel
theorem dJx4a65c_grow_92f84_44 : decode cJx4a65c_grow_92f84 44 = .ok (.areturn, 1) := by decide +kernel
theorem dJx4a65c_grow_92f84_45 : decode cJx4a65c_grow_92f84 45 = .ok (.aload_n 0, 1) := by decide +kernel
theorem dJx4a65c_grow_92f84_46 : decode cJx4a65c_grow_92f84 46 = .ok (.bipush 10, 2) := by decide +kernel
theorem dJx4a65c_grow_92f84_48 : decode cJx4a65c_grow_92f84 48 = .ok (.iload_n 1, 1) := by decide +kernel
theorem dJx4a65c_grow_92f84_49 : decode cJx4a65c_grow_92f84 49 = .ok (.invokestatic 79, 3) := by decide +kernel
theorem dJx4a65c_grow_92f84_52 : decode cJx4a65c_grow_92f84 52 = .ok (.anewarray 7, 3) := by decide +kernel
theorem dJx4a65c_grow_92f84_55 : decode cJx4a65c_grow_92f84 55 = .ok (.dup_x1, 1) := by decide +kernel
theorem dJx4a65c_grow_92f84_56 : decode cJx4a65c_grow_92f84 56 = .ok (.putfield 9, 3) := by decide +kernel
theorem dJx4a65c_grow_92f84_59 : decode cJx4a65c_grow_92f84 59 = .ok (.areturn, 1) := by decide +kernel
theorem dJx4a65c_grow_d5877_0 : decode cJx4a65c_grow_d5877 0 = .ok (.aload_n 0, 1) := by decide +kernel
theorem dJx4a65c_grow_d5877_1 : decode cJx4a65c_grow_d5877 1 = .ok (.aload_n 0, 1) := by decide +kernel
theorem dJx4a65c_grow_d5877_2 : decode cJx4a65c_grow_d5877 2 = .ok (.getfield 48, 3) := by decide +kernel
theorem dJx4a65c_grow_d5877_5 : decode cJx4a65c_grow_d5877 5 = .ok (.iconst 1, 1) := by decide +kernel
theorem dJx4a65c_grow_d5877_6 : decode cJx4a65c_grow_d5877 6 = .ok (.iadd, 1) := by decide +kernel
theorem dJx4a65c_grow_d5877_7 : decode cJx4a65c_grow_d5877 7 = .ok (.invokevirtual 69, 3) := by decide +kernel
theorem dJx4a65c_grow_d5877_10 : decode cJx4a65c_grow_d5877 10 = .ok (.areturn, 1) := by decide +kernel
theorem dJx4a65c_size_8abf5_0 : decode cJx4a65c_size_8abf5 0 = .ok (.aload_n 0, 1) := by decide +kernel
theorem dJx4a65c_size_8abf5_1 : decode cJx4a65c_size_8abf5 1 = .ok (.getfield 48, 3) := by decide +kernel
theorem dJx4a65c_size_8abf5_4 : decode cJx4a65c_size_8abf5 4 = .ok (.ireturn, 1) := by decide +kernel
theorem dJx4a65c_elementData_915e3_0 : decode cJx4a65c_elementData_915e3 0 = .ok (.aload_n 0, 1) := by decide +kernel
theorem dJx4a65c_elementData_915e3_1 : decode cJx4a65c_elementData_915e3 1 = .ok (.getfield 9, 3) := by decide +kernel
theorem dJx4a65c_elementData_915e3_4 : decode cJx4a65c_elementData_915e3 4 = .ok (.iload_n 1, 1) := by decide +kernel
theorem dJx4a65c_elementData_915e3_5 : decode cJx4a65c_elementData_915e3 5 = .ok (.aaload, 1) := by decide +kernel
theorem dJx4a65c_elementData_915e3_6 : decode cJx4a65c_elementData_915e3 6 = .ok (.areturn, 1) := by decide +kernel
theorem dJx4a65c_get_915e3_0 : decode cJx4a65c_get_915e3 0 = .ok (.iload_n 1, 1) := by decide +kernel
theorem dJx4a65c_get_915e3_1 : decode cJx4a65c_get_915e3 1 = .ok (.aload_n 0, 1) := by decide +kernel
theorem dJx4a65c_get_915e3_2 : decode cJx4a65c_get_915e3 2 = .ok (.getfield 48, 3) := by decide +kernel
theorem dJx4a65c_get_915e3_5 : decode cJx4a65c_get_915e3 5 = .ok (.invokestatic 118, 3) := by decide +kernel
theorem dJx4a65c_get_915e3_8 : decode cJx4a65c_get_915e3 8 = .ok (.pop, 1) := by decide +kernel
theorem dJx4a65c_get_915e3_9 : decode cJx4a65c_get_915e3 9 = .ok (.aload_n 0, 1) := by decide +kernel
theorem dJx4a65c_get_915e3_10 : decode cJx4a65c_get_915e3 10 = .ok (.iload_n 1, 1) := by decide +kernel
theorem dJx4a65c_get_915e3_11 : decode cJx4a65c_get_915e3 11 = .ok (.invokevirtual 123, 3) := by decide +kernel
theorem dJx4a65c_get_915e3_14 : decode cJx4a65c_get_915e3 14 = .ok (.areturn, 1) := by decide +kernel
theorem dJx4a65c_add_72be8_0 : decode cJx4a65c_add_72be8 0 = .ok (.iload_n 3, 1) := by decide +kernel
theorem dJx4a65c_add_72be8_1 : decode cJx4a65c_add_72be8 1 = .ok (.aload_n 2, 1) := by decide +kernel
theorem dJx4a65c_add_72be8_2 : decode cJx4a65c_add_72be8 2 = .ok (.arraylength, 1) := by decide +kernel
theorem dJx4a65c_add_72be8_3 : decode cJx4a65c_add_72be8 3 = .ok (.if_icmp .ne 8, 3) := by decide +kernel
theorem dJx4a65c_add_72be8_6 : decode cJx4a65c_add_72be8 6 = .ok (.aload_n 0, 1) := by decide +kernel
theorem dJx4a65c_add_72be8_7 : decode cJx4a65c_add_72be8 7 = .ok (.invokevirtual 129, 3) := by decide +kernel
theorem dJx4a65c_add_72be8_10 : decode cJx4a65c_add_72be8 10 = .ok (.astore_n 2, 1) := by decide +kernel
theorem dJx4a65c_add_72be8_11 : decode cJx4a65c_add_72be8 11 = .ok (.aload_n 2, 1) := by decide +kernel
theorem dJx4a65c_add_72be8_12 : decode cJx4a65c_add_72be8 12 = .ok (.iload_n 3, 1) := by decide +kernel
theorem dJx4a65c_add_72be8_13 : decode cJx4a65c_add_72be8 13 = .ok (.aload_n 1, 1) := by decide +kernel
theorem dJx4a65c_add_72be8_14 : decode cJx4a65c_add_72be8 14 = .ok (.aastore, 1) := by decide +kernel
theorem dJx4a65c_add_72be8_15 : decode cJx4a65c_add_72be8 15 = .ok (.aload_n 0, 1) := by decide +kernel
theorem dJx4a65c_add_72be8_16 : decode cJx4a65c_add_72be8 16 = .ok (.iload_n 3, 1) := by decide +kernel
theorem dJx4a65c_add_72be8_17 : decode cJx4a65c_add_72be8 17 = .ok (.iconst 1, 1) := by decide +kernel
theorem dJx4a65c_add_72be8_18 : decode cJx4a65c_add_72be8 18 = .ok (.iadd, 1) := by decide +kernel
theorem dJx4a65c_add_72be8_19 : decode cJx4a65c_add_72be8 19 = .ok (.putfield 48, 3) := by decide +kernel
theorem dJx4a65c_add_72be8_22 : decode cJx4a65c_add_72be8 22 = .ok (.return_, 1) := by decide +kernel
theorem dJx4a65c_add_9ea2d_0 : decode cJx4a65c_add_9ea2d 0 = .ok (.aload_n 0, 1) := by decide +kernel
theorem dJx4a65c_add_9ea2d_1 : decode cJx4a65c_add_9ea2d 1 = .ok (.dup, 1) := by decide +kernel
theorem dJx4a65c_add_9ea2d_2 : decode cJx4a65c_add_9ea2d 2 = .ok (.getfield 63, 3) := by decide +kernel
theorem dJx4a65c_add_9ea2d_5 : decode cJx4a65c_add_9ea2d 5 = .ok (.iconst 1, 1) := by decide +kernel
theorem dJx4a65c_add_9ea2d_6 : decode cJx4a65c_add_9ea2d 6 = .ok (.iadd, 1) := by decide +kernel
theorem dJx4a65c_add_9ea2d_7 : decode cJx4a65c_add_9ea2d 7 = .ok (.putfield 63, 3) := by decide +kernel
theorem dJx4a65c_add_9ea2d_10 : decode cJx4a65c_add_9ea2d 10 = .ok (.aload_n 0, 1) := by decide +kernel
theorem dJx4a65c_add_9ea2d_11 : decode cJx4a65c_add_9ea2d 11 = .ok (.aload_n 1, 1) := by decide +kernel
theorem dJx4a65c_add_9ea2d_12 : decode cJx4a65c_add_9ea2d 12 = .ok (.aload_n 0, 1) := by decide +kernel
theorem dJx4a65c_add_9ea2d_13 : decode cJx4a65c_add_9ea2d 13 = .ok (.getfield 9, 3) := by decide +kernel
theorem dJx4a65c_add_9ea2d_16 : decode cJx4a65c_add_9ea2d 16 = .ok (.aload_n 0, 1) := by decide +kernel
theorem dJx4a65c_add_9ea2d_17 : decode cJx4a65c_add_9ea2d 17 = .ok (.getfield 48, 3) := by decide +kernel
theorem dJx4a65c_add_9ea2d_20 : decode cJx4a65c_add_9ea2d 20 = .ok (.invokevirtual 131, 3) := by decide +kernel
theorem dJx4a65c_add_9ea2d_23 : decode cJx4a65c_add_9ea2d 23 = .ok (.iconst 1, 1) := by decide +kernel
theorem dJx4a65c_add_9ea2d_24 : decode cJx4a65c_add_9ea2d 24 = .ok (.ireturn, 1) := by decide +kernel
theorem dJ7_copyOf_1904c_0 : decode cJ7_copyOf_1904c 0 = .ok (.aload_n 0, 1) := by decide +kernel
theorem dJ7_copyOf_1904c_1 : decode cJ7_copyOf_1904c 1 = .ok (.iload_n 1, 1) := by decide +kernel
theorem dJ7_copyOf_1904c_2 : decode cJ7_copyOf_1904c 2 = .ok (.aload_n 0, 1) := by decide +kernel
theorem dJ7_copyOf_1904c_3 : decode cJ7_copyOf_1904c 3 = .ok (.invokevirtual 86, 3) := by decide +kernel
theorem dJ7_copyOf_1904c_6 : decode cJ7_copyOf_1904c 6 = .ok (.invokestatic 300, 3) := by decide +kernel
theorem dJ7_copyOf_1904c_9 : decode cJ7_copyOf_1904c 9 = .ok (.areturn, 1) := by decide +kernel
theorem dJ7_copyOf_6403c_0 : decode cJ7_copyOf_6403c 0 = .ok (.aload_n 2, 1) := by decide +kernel
theorem dJ7_copyOf_6403c_1 : decode cJ7_copyOf_6403c 1 = .ok (.ldc 110, 2) := by decide +kernel
theorem dJ7_copyOf_6403c_3 : decode cJ7_copyOf_6403c 3 = .ok (.if_acmp .ne 10, 3) := by decide +kernel
theorem dJ7_copyOf_6403c_6 : decode cJ7_copyOf_6403c 6 = .ok (.iload_n 1, 1) := by decide +kernel
theorem dJ7_copyOf_6403c_7 : decode cJ7_copyOf_6403c 7 = .ok (.anewarray 2, 3) := by decide +kernel
theorem dJ7_copyOf_6403c_10 : decode cJ7_copyOf_6403c 10 = .ok (.goto 14, 3) := by decide +kernel
theorem dJ7_copyOf_6403c_13 : decode cJ7_copyOf_6403c 13 = .ok (.aload_n 2, 1) := by decide +kernel
theorem dJ7_copyOf_6403c_14 : decode cJ7_copyOf_6403c 14 = .ok (.invokevirtual 90, 3) := by decide +kernel
theorem dJ7_copyOf_6403c_17 : decode cJ7_copyOf_6403c 17 = .ok (.iload_n 1, 1) := by decide +kernel
theorem dJ7_copyOf_6403c_18 : decode cJ7_copyOf_6403c 18 = .ok (.invokestatic 95, 3) := by decide +kernel
theorem dJ7_copyOf_6403c_21 : decode cJ7_copyOf_6403c 21 = .ok (.checkcast 110, 3) := by decide +kernel
theorem dJ7_copyOf_6403c_24 : decode cJ7_copyOf_6403c 24 = .ok (.astore_n 3, 1) := by decide +kernel
theorem dJ7_copyOf_6403c_25 : decode cJ7_copyOf_6403c 25 = .ok (.aload_n 0, 1) := by decide +kernel
theorem dJ7_copyOf_6403c_26 : decode cJ7_copyOf_6403c 26 = .ok (.iconst 0, 1) := by decide +kernel
theorem dJ7_copyOf_6403c_27 : decode cJ7_copyOf_6403c 27 = .ok (.aload_n 3, 1) := by decide +kernel
theorem dJ7_copyOf_6403c_28 : decode cJ7_copyOf_6403c 28 = .ok (.iconst 0, 1) := by decide +kernel
theorem dJ7_copyOf_6403c_29 : decode cJ7_copyOf_6403c 29 = .ok (.aload_n 0, 1) := by decide +kernel
theorem dJ7_copyOf_6403c_30 : decode cJ7_copyOf_6403c 30 = .ok (.arraylength, 1) := by decide +kernel
theorem dJ7_copyOf_6403c_31 : decode cJ7_copyOf_6403c 31 = .ok (.iload_n 1, 1) := by decide +kernel
theorem dJ7_copyOf_6403c_32 : decode cJ7_copyOf_6403c 32 = .ok (.invokestatic 304, 3) := by decide +kernel
theorem dJ7_copyOf_6403c_35 : decode cJ7_copyOf_6403c 35 = .ok (.invokestatic 150, 3) := by decide +kernel
theorem dJ7_copyOf_6403c_38 : decode cJ7_copyOf_6403c 38 = .ok (.aload_n 3, 1) := by decide +kernel
theorem dJ7_copyOf_6403c_39 : decode cJ7_copyOf_6403c 39 = .ok (.areturn, 1) := by decide +kernel
theorem dJ15_checkIndex_7cf53_0 : decode cJ15_checkIndex_7cf53 0 = .ok (.iload_n 0, 1) := by decide +kernel
theorem dJ15_checkIndex_7cf53_1 : decode cJ15_checkIndex_7cf53 1 = .ok (.iload_n 1, 1) := by decide +kernel
theorem dJ15_checkIndex_7cf53_2 : decode cJ15_checkIndex_7cf53 2 = .ok (.aconst_null, 1) := by decide +kernel
theorem dJ15_checkIndex_7cf53_3 : decode cJ15_checkIndex_7cf53 3 = .ok (.invokestatic 105, 3) := by decide +kernel
theorem dJ15_checkIndex_7cf53_6 : decode cJ15_checkIndex_7cf53 6 = .ok (.ireturn, 1) := by decide +kernel
theorem dJ8_newLength_cabcc_0 : decode cJ8_newLength_cabcc 0 = .ok (.iload_n 0, 1) := by decide +kernel
theorem dJ8_newLength_cabcc_1 : decode cJ8_newLength_cabcc 1 = .ok (.iload_n 1, 1) := by decide +kernel
theorem dJ8_newLength_cabcc_2 : decode cJ8_newLength_cabcc 2 = .ok (.iload_n 2, 1) := by decide +kernel
theorem dJ8_newLength_cabcc_3 : decode cJ8_newLength_cabcc 3 = .ok (.invokestatic 194, 3) := by decide +kernel
theorem dJ8_newLength_cabcc_6 : decode cJ8_newLength_cabcc 6 = .ok (.iadd, 1) := by decide +kernel
theorem dJ8_newLength_cabcc_7 : decode cJ8_newLength_cabcc 7 = .ok (.istore_n 3, 1) := by decide +kernel
theorem dJ8_newLength_cabcc_8 : decode cJ8_newLength_cabcc 8 = .ok (.iconst 0, 1) := by decide +kernel
theorem dJ8_newLength_cabcc_9 : decode cJ8_newLength_cabcc 9 = .ok (.iload_n 3, 1) := by decide +kernel
theorem dJ8_newLength_cabcc_10 : decode cJ8_newLength_cabcc 10 = .ok (.if_icmp .ge 11, 3) := by decide +kernel
theorem dJ8_newLength_cabcc_13 : decode cJ8_newLength_cabcc 13 = .ok (.iload_n 3, 1) := by decide +kernel
theorem dJ8_newLength_cabcc_14 : decode cJ8_newLength_cabcc 14 = .ok (.ldc 200, 2) := by decide +kernel
theorem dJ8_newLength_cabcc_16 : decode cJ8_newLength_cabcc 16 = .ok (.if_icmp .gt 5, 3) := by decide +kernel
theorem dJ8_newLength_cabcc_19 : decode cJ8_newLength_cabcc 19 = .ok (.iload_n 3, 1) := by decide +kernel
theorem dJ8_newLength_cabcc_20 : decode cJ8_newLength_cabcc 20 = .ok (.ireturn, 1) := by decide +kernel
theorem dJ8_newLength_cabcc_21 : decode cJ8_newLength_cabcc 21 = .ok (.iload_n 0, 1) := by decide +kernel
theorem dJ8_newLength_cabcc_22 : decode cJ8_newLength_cabcc 22 = .ok (.iload_n 1, 1) := by decide +kernel
theorem dJ8_newLength_cabcc_23 : decode cJ8_newLength_cabcc 23 = .ok (.invokestatic 201, 3) := by decide +kernel
theorem dJ8_newLength_cabcc_26 : decode cJ8_newLength_cabcc 26 = .ok (.ireturn, 1) := by decide +kernel
theorem dJ8_hugeLength_7cf53_0 : decode cJ8_hugeLength_7cf53 0 = .ok (.iload_n 0, 1) := by decide +kernel
theorem dJ8_hugeLength_7cf53_1 : decode cJ8_hugeLength_7cf53 1 = .ok (.iload_n 1, 1) := by decide +kernel
theorem dJ8_hugeLength_7cf53_2 : decode cJ8_hugeLength_7cf53 2 = .ok (.iadd, 1) := by decide +kernel
theorem dJ8_hugeLength_7cf53_3 : decode cJ8_hugeLength_7cf53 3 = .ok (.istore_n 2, 1) := by decide +kernel
theorem dJ8_hugeLength_7cf53_4 : decode cJ8_hugeLength_7cf53 4 = .ok (.iload_n 2, 1) := by decide +kernel
theorem dJ8_hugeLength_7cf53_5 : decode cJ8_hugeLength_7cf53 5 = .ok (.ifCond .ge 44, 3) := by decide +kernel
theorem dJ8_hugeLength_7cf53_8 : decode cJ8_hugeLength_7cf53 8 = .ok (.new 204, 3) := by decide +kernel
theorem dJ8_hugeLength_7cf53_11 : decode cJ8_hugeLength_7cf53 11 = .ok (.dup, 1) := by decide +kernel
theorem dJ8_hugeLength_7cf53_12 : decode cJ8_hugeLength_7cf53 12 = .ok (.new 89, 3) := by decide +kernel
theorem dJ8_hugeLength_7cf53_15 : decode cJ8_hugeLength_7cf53 15 = .ok (.dup, 1) := by decide +kernel
theorem dJ8_hugeLength_7cf53_16 : decode cJ8_hugeLength_7cf53 16 = .ok (.invokespecial 91, 3) := by decide +kernel
theorem dJ8_hugeLength_7cf53_19 : decode cJ8_hugeLength_7cf53 19 = .ok (.ldc 206, 2) := by decide +kernel
theorem dJ8_hugeLength_7cf53_21 : decode cJ8_hugeLength_7cf53 21 = .ok (.invokevirtual 94, 3) := by decide +kernel
theorem dJ8_hugeLength_7cf53_24 : decode cJ8_hugeLength_7cf53 24 = .ok (.iload_n 0, 1) := by decide +kernel
theorem dJ8_hugeLength_7cf53_25 : decode cJ8_hugeLength_7cf53 25 = .ok (.invokevirtual 98, 3) := by decide +kernel
theorem dJ8_hugeLength_7cf53_28 : decode cJ8_hugeLength_7cf53 28 = .ok (.ldc 208, 2) := by decide +kernel
theorem dJ8_hugeLength_7cf53_30 : decode cJ8_hugeLength_7cf53 30 = .ok (.invokevirtual 94, 3) := by decide +kernel
theorem dJ8_hugeLength_7cf53_33 : decode cJ8_hugeLength_7cf53 33 = .ok (.iload_n 1, 1) := by decide +kernel
theorem dJ8_hugeLength_7cf53_34 : decode cJ8_hugeLength_7cf53 34 = .ok (.invokevirtual 98, 3) := by decide +kernel
theorem dJ8_hugeLength_7cf53_37 : decode cJ8_hugeLength_7cf53 37 = .ok (.ldc 210, 2) := by decide +kernel
theorem dJ8_hugeLength_7cf53_39 : decode cJ8_hugeLength_7cf53 39 = .ok (.invokevirtual 94, 3) := by decide +kernel
theorem dJ8_hugeLength_7cf53_42 : decode cJ8_hugeLength_7cf53 42 = .ok (.invokevirtual 101, 3) := by decide +kernel
theorem dJ8_hugeLength_7cf53_45 : decode cJ8_hugeLength_7cf53 45 = .ok (.invokespecial 212, 3) := by decide +kernel
theorem dJ8_hugeLength_7cf53_48 : decode cJ8_hugeLength_7cf53 48 = .ok (.athrow, 1) := by decide +kernel
theorem dJ8_hugeLength_7cf53_49 : decode cJ8_hugeLength_7cf53 49 = .ok (.iload_n 2, 1) := by decide +kernel
theorem dJ8_hugeLength_7cf53_50 : decode cJ8_hugeLength_7cf53 50 = .ok (.ldc 200, 2) := by decide +kernel
theorem dJ8_hugeLength_7cf53_52 : decode cJ8_hugeLength_7cf53 52 = .ok (.if_icmp .gt 6, 3) := by decide +kernel
theorem dJ8_hugeLength_7cf53_55 : decode cJ8_hugeLength_7cf53 55 = .ok (.ldc 200, 2) := by decide +kernel
theorem dJ8_hugeLength_7cf53_57 : decode cJ8_hugeLength_7cf53 57 = .ok (.ireturn, 1) := by decide +kernel
theorem dJ8_hugeLength_7cf53_58 : decode cJ8_hugeLength_7cf53 58 = .ok (.iload_n 2, 1) := by decide +kernel
theorem dJ8_hugeLength_7cf53_59 : decode cJ8_hugeLength_7cf53 59 = .ok (.ireturn, 1) := by decide +kernel
theorem dJ3_checkIndex_8e157_0 : decode cJ3_checkIndex_8e157 0 = .ok (.iload_n 0, 1) := by decide +kernel
theorem dJ3_checkIndex_8e157_1 : decode cJ3_checkIndex_8e157 1 = .ok (.ifCond .lt 8, 3) := by decide +kernel
theorem dJ3_checkIndex_8e157_4 : decode cJ3_checkIndex_8e157 4 = .ok (.iload_n 0, 1) := by decide +kernel
theorem dJ3_checkIndex_8e157_5 : decode cJ3_checkIndex_8e157 5 = .ok (.iload_n 1, 1) := by decide +kernel
theorem dJ3_checkIndex_8e157_6 : decode cJ3_checkIndex_8e157 6 = .ok (.if_icmp .lt 10, 3) := by decide +kernel
theorem dJ3_checkIndex_8e157_9 : decode cJ3_checkIndex_8e157 9 = .ok (.aload_n 2, 1) := by decide +kernel
theorem dJ3_checkIndex_8e157_10 : decode cJ3_checkIndex_8e157 10 = .ok (.iload_n 0, 1) := by decide +kernel
theorem dJ3_checkIndex_8e157_11 : decode cJ3_checkIndex_8e157 11 = .ok (.iload_n 1, 1) := by decide +kernel
theorem dJ3_checkIndex_8e157_12 : decode cJ3_checkIndex_8e157 12 = .ok (.invokestatic 95, 3) := by decide +kernel
theorem dJ3_checkIndex_8e157_15 : decode cJ3_checkIndex_8e157 15 = .ok (.athrow, 1) := by decide +kernel
theorem dJ3_checkIndex_8e157_16 : decode cJ3_checkIndex_8e157 16 = .ok (.iload_n 0, 1) := by decide +kernel
theorem dJ3_checkIndex_8e157_17 : decode cJ3_checkIndex_8e157 17 = .ok (.ireturn, 1) := by decide +kernel
theorem dL_node_0 : decode cL_node 0 = .ok (.aload 4, 2) := by decide +kernel
theorem dL_node_2 : decode cL_node 2 = .ok (.iconst 0, 1) := by decide +kernel
theorem dL_node_3 : decode cL_node 3 = .ok (.aload_n 0, 1) := by decide +kernel
theorem dL_node_4 : decode cL_node 4 = .ok (.iload_n 1, 1) := by decide +kernel
theorem dL_node_5 : decode cL_node 5 = .ok (.iload_n 2, 1) := by decide +kernel
theorem dL_node_6 : decode cL_node 6 = .ok (.iload_n 3, 1) := by decide +kernel
theorem dL_node_7 : decode cL_node 7 = .ok (.invokevirtual 7, 3) := by decide +kernel
theorem dL_node_10 : decode cL_node 10 = .ok (.i2l, 1) := by decide +kernel
theorem dL_node_11 : decode cL_node 11 = .ok (.lastore, 1) := by decide +kernel
theorem dL_node_12 : decode cL_node 12 = .ok (.goto 11, 3) := by decide +kernel
theorem dL_node_15 : decode cL_node 15 = .ok (.astore 5, 2) := by decide +kernel
theorem dL_node_17 : decode cL_node 17 = .ok (.iconst 1, 1) := by decide +kernel
theorem dL_node_18 : decode cL_node 18 = .ok (.ireturn, 1) := by decide +kernel
theorem dL_node_19 : decode cL_node 19 = .ok (.astore 5, 2) := by decide +kernel
theorem dL_node_21 : decode cL_node 21 = .ok (.iconst 2, 1) := by decide +kernel
theorem dL_node_22 : decode cL_node 22 = .ok (.ireturn, 1) := by decide +kernel
theorem dL_node_23 : decode cL_node 23 = .ok (.iconst 0, 1) := by decide +kernel
theorem dL_node_24 : decode cL_node 24 = .ok (.ireturn, 1) := by decide +kernel
theorem dL_link_0 : decode cL_link 0 = .ok (.aload 4, 2) := by decide +kernel
theorem dL_link_2 : decode cL_link 2 = .ok (.iconst 0, 1) := by decide +kernel
theorem dL_link_3 : decode cL_link 3 = .ok (.aload_n 0, 1) := by decide +kernel
theorem dL_link_4 : decode cL_link 4 = .ok (.iload_n 1, 1) := by decide +kernel
theorem dL_link_5 : decode cL_link 5 = .ok (.iload_n 2, 1) := by decide +kernel
theorem dL_link_6 : decode cL_link 6 = .ok (.iload_n 3, 1) := by decide +kernel
theorem dL_link_7 : decode cL_link 7 = .ok (.invokevirtual 17, 3) := by decide +kernel
theorem dL_link_10 : decode cL_link 10 = .ok (.ifCond .eq 7, 3) := by decide +kernel
theorem dL_link_13 : decode cL_link 13 = .ok (.lconst 1, 1) := by decide +kernel
theorem dL_link_14 : decode cL_link 14 = .ok (.goto 4, 3) := by decide +kernel
theorem dL_link_17 : decode cL_link 17 = .ok (.lconst 0, 1) := by decide +kernel
theorem dL_link_18 : decode cL_link 18 = .ok (.lastore, 1) := by decide +kernel
theorem dL_link_19 : decode cL_link 19 = .ok (.goto 11, 3) := by decide +kernel
theorem dL_link_22 : decode cL_link 22 = .ok (.astore 5, 2) := by decide +kernel
theorem dL_link_24 : decode cL_link 24 = .ok (.iconst 1, 1) := by decide +kernel
theorem dL_link_25 : decode cL_link 25 = .ok (.ireturn, 1) := by decide +kernel
theorem dL_link_26 : decode cL_link 26 = .ok (.astore 5, 2) := by decide +kernel
theorem dL_link_28 : decode cL_link 28 = .ok (.iconst 2, 1) := by decide +kernel
theorem dL_link_29 : decode cL_link 29 = .ok (.ireturn, 1) := by decide +kernel
theorem dL_link_30 : decode cL_link 30 = .ok (.iconst 0, 1) := by decide +kernel
theorem dL_link_31 : decode cL_link 31 = .ok (.ireturn, 1) := by decide +kernel
theorem dL_price_0 : decode cL_price 0 = .ok (.aload_n 3, 1) := by decide +kernel
theorem dL_price_1 : decode cL_price 1 = .ok (.iconst 0, 1) := by decide +kernel
theorem dL_price_2 : decode cL_price 2 = .ok (.aload_n 0, 1) := by decide +kernel
theorem dL_price_3 : decode cL_price 3 = .ok (.iload_n 1, 1) := by decide +kernel
theorem dL_price_4 : decode cL_price 4 = .ok (.iload_n 2, 1) := by decide +kernel
theorem dL_price_5 : decode cL_price 5 = .ok (.invokevirtual 23, 3) := by decide +kernel
theorem dL_price_8 : decode cL_price 8 = .ok (.i2l, 1) := by decide +kernel
theorem dL_price_9 : decode cL_price 9 = .ok (.lastore, 1) := by decide +kernel
theorem dL_price_10 : decode cL_price 10 = .ok (.goto 11, 3) := by decide +kernel
theorem dL_price_13 : decode cL_price 13 = .ok (.astore 4, 2) := by decide +kernel
theorem dL_price_15 : decode cL_price 15 = .ok (.iconst 1, 1) := by decide +kernel
theorem dL_price_16 : decode cL_price 16 = .ok (.ireturn, 1) := by decide +kernel
theorem dL_price_17 : decode cL_price 17 = .ok (.astore 4, 2) := by decide +kernel
theorem dL_price_19 : decode cL_price 19 = .ok (.iconst 2, 1) := by decide +kernel
theorem dL_price_20 : decode cL_price 20 = .ok (.ireturn, 1) := by decide +kernel
theorem dL_price_21 : decode cL_price 21 = .ok (.iconst 0, 1) := by decide +kernel
theorem dL_price_22 : decode cL_price 22 = .ok (.ireturn, 1) := by decide +kernel
theorem dL_put_0 : decode cL_put 0 = .ok (.aload_n 3, 1) := by decide +kernel
theorem dL_put_1 : decode cL_put 1 = .ok (.iconst 0, 1) := by decide +kernel
theorem dL_put_2 : decode cL_put 2 = .ok (.aload_n 0, 1) := by decide +kernel
theorem dL_put_3 : decode cL_put 3 = .ok (.iload_n 1, 1) := by decide +kernel
theorem dL_put_4 : decode cL_put 4 = .ok (.iload_n 2, 1) := by decide +kernel
theorem dL_put_5 : decode cL_put 5 = .ok (.invokevirtual 27, 3) := by decide +kernel
theorem dL_put_8 : decode cL_put 8 = .ok (.i2l, 1) := by decide +kernel
theorem dL_put_9 : decode cL_put 9 = .ok (.lastore, 1) := by decide +kernel
theorem dL_put_10 : decode cL_put 10 = .ok (.goto 15, 3) := by decide +kernel
theorem dL_put_13 : decode cL_put 13 = .ok (.astore 4, 2) := by decide +kernel
theorem dL_put_15 : decode cL_put 15 = .ok (.iconst 1, 1) := by decide +kernel
theorem dL_put_16 : decode cL_put 16 = .ok (.ireturn, 1) := by decide +kernel
theorem dL_put_17 : decode cL_put 17 = .ok (.astore 4, 2) := by decide +kernel
theorem dL_put_19 : decode cL_put 19 = .ok (.iconst 2, 1) := by decide +kernel
theorem dL_put_20 : decode cL_put 20 = .ok (.ireturn, 1) := by decide +kernel
theorem dL_put_21 : decode cL_put 21 = .ok (.astore 4, 2) := by decide +kernel
theorem dL_put_23 : decode cL_put 23 = .ok (.iconst 3, 1) := by decide +kernel
theorem dL_put_24 : decode cL_put 24 = .ok (.ireturn, 1) := by decide +kernel
theorem dL_put_25 : decode cL_put 25 = .ok (.iconst 0, 1) := by decide +kernel
theorem dL_put_26 : decode cL_put 26 = .ok (.ireturn, 1) := by decide +kernel
theorem dL_leave_0 : decode cL_leave 0 = .ok (.aload_n 2, 1) := by decide +kernel
theorem dL_leave_1 : decode cL_leave 1 = .ok (.iconst 0, 1) := by decide +kernel
theorem dL_leave_2 : decode cL_leave 2 = .ok (.aload_n 0, 1) := by decide +kernel
theorem dL_leave_3 : decode cL_leave 3 = .ok (.iload_n 1, 1) := by decide +kernel
theorem dL_leave_4 : decode cL_leave 4 = .ok (.invokevirtual 30, 3) := by decide +kernel
theorem dL_leave_7 : decode cL_leave 7 = .ok (.i2l, 1) := by decide +kernel
theorem dL_leave_8 : decode cL_leave 8 = .ok (.lastore, 1) := by decide +kernel
theorem dL_leave_9 : decode cL_leave 9 = .ok (.goto 9, 3) := by decide +kernel
theorem dL_leave_12 : decode cL_leave 12 = .ok (.astore_n 3, 1) := by decide +kernel
theorem dL_leave_13 : decode cL_leave 13 = .ok (.iconst 1, 1) := by decide +kernel
theorem dL_leave_14 : decode cL_leave 14 = .ok (.ireturn, 1) := by decide +kernel
theorem dL_leave_15 : decode cL_leave 15 = .ok (.astore_n 3, 1) := by decide +kernel
theorem dL_leave_16 : decode cL_leave 16 = .ok (.iconst 2, 1) := by decide +kernel
theorem dL_leave_17 : decode cL_leave 17 = .ok (.ireturn, 1) := by decide +kernel
theorem dL_leave_18 : decode cL_leave 18 = .ok (.iconst 0, 1) := by decide +kernel
theorem dL_leave_19 : decode cL_leave 19 = .ok (.ireturn, 1) := by decide +kernel
theorem dL_join_0 : decode cL_join 0 = .ok (.aload_n 3, 1) := by decide +kernel
theorem dL_join_1 : decode cL_join 1 = .ok (.iconst 0, 1) := by decide +kernel
theorem dL_join_2 : decode cL_join 2 = .ok (.aload_n 0, 1) := by decide +kernel
theorem dL_join_3 : decode cL_join 3 = .ok (.iload_n 1, 1) := by decide +kernel
theorem dL_join_4 : decode cL_join 4 = .ok (.iload_n 2, 1) := by decide +kernel
theorem dL_join_5 : decode cL_join 5 = .ok (.invokevirtual 34, 3) := by decide +kernel
theorem dL_join_8 : decode cL_join 8 = .ok (.i2l, 1) := by decide +kernel
theorem dL_join_9 : decode cL_join 9 = .ok (.lastore, 1) := by decide +kernel
theorem dL_join_10 : decode cL_join 10 = .ok (.goto 15, 3) := by decide +kernel
theorem dL_join_13 : decode cL_join 13 = .ok (.astore 4, 2) := by decide +kernel
theorem dL_join_15 : decode cL_join 15 = .ok (.iconst 1, 1) := by decide +kernel
theorem dL_join_16 : decode cL_join 16 = .ok (.ireturn, 1) := by decide +kernel
theorem dL_join_17 : decode cL_join 17 = .ok (.astore 4, 2) := by decide +kernel
theorem dL_join_19 : decode cL_join 19 = .ok (.iconst 2, 1) := by decide +kernel
theorem dL_join_20 : decode cL_join 20 = .ok (.ireturn, 1) := by decide +kernel
theorem dL_join_21 : decode cL_join 21 = .ok (.astore 4, 2) := by decide +kernel
theorem dL_join_23 : decode cL_join 23 = .ok (.iconst 3, 1) := by decide +kernel
theorem dL_join_24 : decode cL_join 24 = .ok (.ireturn, 1) := by decide +kernel
theorem dL_join_25 : decode cL_join 25 = .ok (.iconst 0, 1) := by decide +kernel
theorem dL_join_26 : decode cL_join 26 = .ok (.ireturn, 1) := by decide +kernel
theorem dL_send_0 : decode cL_send 0 = .ok (.aload_n 3, 1) := by decide +kernel
theorem dL_send_1 : decode cL_send 1 = .ok (.iconst 0, 1) := by decide +kernel
theorem dL_send_2 : decode cL_send 2 = .ok (.aload_n 0, 1) := by decide +kernel
theorem dL_send_3 : decode cL_send 3 = .ok (.iload_n 1, 1) := by decide +kernel
theorem dL_send_4 : decode cL_send 4 = .ok (.iload_n 2, 1) := by decide +kernel
theorem dL_send_5 : decode cL_send 5 = .ok (.invokevirtual 37, 3) := by decide +kernel
theorem dL_send_8 : decode cL_send 8 = .ok (.i2l, 1) := by decide +kernel
theorem dL_send_9 : decode cL_send 9 = .ok (.lastore, 1) := by decide +kernel
theorem dL_send_10 : decode cL_send 10 = .ok (.goto 15, 3) := by decide +kernel
theorem dL_send_13 : decode cL_send 13 = .ok (.astore 4, 2) := by decide +kernel
theorem dL_send_15 : decode cL_send 15 = .ok (.iconst 1, 1) := by decide +kernel
theorem dL_send_16 : decode cL_send 16 = .ok (.ireturn, 1) := by decide +kernel
theorem dL_send_17 : decode cL_send 17 = .ok (.astore 4, 2) := by decide +kernel
theorem dL_send_19 : decode cL_send 19 = .ok (.iconst 2, 1) := by decide +kernel
theorem dL_send_20 : decode cL_send 20 = .ok (.ireturn, 1) := by decide +kernel
theorem dL_send_21 : decode cL_send 21 = .ok (.astore 4, 2) := by decide +kernel
theorem dL_send_23 : decode cL_send 23 = .ok (.iconst 3, 1) := by decide +kernel
theorem dL_send_24 : decode cL_send 24 = .ok (.ireturn, 1) := by decide +kernel
theorem dL_send_25 : decode cL_send 25 = .ok (.iconst 0, 1) := by decide +kernel
theorem dL_send_26 : decode cL_send 26 = .ok (.ireturn, 1) := by decide +kernel
theorem dL_cost_0 : decode cL_cost 0 = .ok (.aload_n 3, 1) := by decide +kernel
theorem dL_cost_1 : decode cL_cost 1 = .ok (.iconst 0, 1) := by decide +kernel
theorem dL_cost_2 : decode cL_cost 2 = .ok (.aload_n 0, 1) := by decide +kernel
theorem dL_cost_3 : decode cL_cost 3 = .ok (.iload_n 1, 1) := by decide +kernel
theorem dL_cost_4 : decode cL_cost 4 = .ok (.iload_n 2, 1) := by decide +kernel
theorem dL_cost_5 : decode cL_cost 5 = .ok (.invokevirtual 40, 3) := by decide +kernel
theorem dL_cost_8 : decode cL_cost 8 = .ok (.i2l, 1) := by decide +kernel
theorem dL_cost_9 : decode cL_cost 9 = .ok (.lastore, 1) := by decide +kernel
theorem dL_cost_10 : decode cL_cost 10 = .ok (.goto 11, 3) := by decide +kernel
theorem dL_cost_13 : decode cL_cost 13 = .ok (.astore 4, 2) := by decide +kernel
theorem dL_cost_15 : decode cL_cost 15 = .ok (.iconst 1, 1) := by decide +kernel
theorem dL_cost_16 : decode cL_cost 16 = .ok (.ireturn, 1) := by decide +kernel
theorem dL_cost_17 : decode cL_cost 17 = .ok (.astore 4, 2) := by decide +kernel
theorem dL_cost_19 : decode cL_cost 19 = .ok (.iconst 2, 1) := by decide +kernel
theorem dL_cost_20 : decode cL_cost 20 = .ok (.ireturn, 1) := by decide +kernel
theorem dL_cost_21 : decode cL_cost 21 = .ok (.iconst 0, 1) := by decide +kernel
theorem dL_cost_22 : decode cL_cost 22 = .ok (.ireturn, 1) := by decide +kernel
theorem dL_lose_0 : decode cL_lose 0 = .ok (.aload_n 3, 1) := by decide +kernel
theorem dL_lose_1 : decode cL_lose 1 = .ok (.iconst 0, 1) := by decide +kernel
theorem dL_lose_2 : decode cL_lose 2 = .ok (.aload_n 0, 1) := by decide +kernel
theorem dL_lose_3 : decode cL_lose 3 = .ok (.iload_n 1, 1) := by decide +kernel
theorem dL_lose_4 : decode cL_lose 4 = .ok (.iload_n 2, 1) := by decide +kernel
theorem dL_lose_5 : decode cL_lose 5 = .ok (.invokevirtual 43, 3) := by decide +kernel
theorem dL_lose_8 : decode cL_lose 8 = .ok (.i2l, 1) := by decide +kernel
theorem dL_lose_9 : decode cL_lose 9 = .ok (.lastore, 1) := by decide +kernel
theorem dL_lose_10 : decode cL_lose 10 = .ok (.goto 11, 3) := by decide +kernel
theorem dL_lose_13 : decode cL_lose 13 = .ok (.astore 4, 2) := by decide +kernel
theorem dL_lose_15 : decode cL_lose 15 = .ok (.iconst 1, 1) := by decide +kernel
theorem dL_lose_16 : decode cL_lose 16 = .ok (.ireturn, 1) := by decide +kernel
theorem dL_lose_17 : decode cL_lose 17 = .ok (.astore 4, 2) := by decide +kernel
theorem dL_lose_19 : decode cL_lose 19 = .ok (.iconst 2, 1) := by decide +kernel
theorem dL_lose_20 : decode cL_lose 20 = .ok (.ireturn, 1) := by decide +kernel
theorem dL_lose_21 : decode cL_lose 21 = .ok (.iconst 0, 1) := by decide +kernel
theorem dL_lose_22 : decode cL_lose 22 = .ok (.ireturn, 1) := by decide +kernel
theorem dL_message_0 : decode cL_message 0 = .ok (.aload_n 3, 1) := by decide +kernel
theorem dL_message_1 : decode cL_message 1 = .ok (.iconst 0, 1) := by decide +kernel
theorem dL_message_2 : decode cL_message 2 = .ok (.aload_n 0, 1) := by decide +kernel
theorem dL_message_3 : decode cL_message 3 = .ok (.iload_n 1, 1) := by decide +kernel
theorem dL_message_4 : decode cL_message 4 = .ok (.iload_n 2, 1) := by decide +kernel
theorem dL_message_5 : decode cL_message 5 = .ok (.invokevirtual 46, 3) := by decide +kernel
theorem dL_message_8 : decode cL_message 8 = .ok (.i2l, 1) := by decide +kernel
theorem dL_message_9 : decode cL_message 9 = .ok (.lastore, 1) := by decide +kernel
theorem dL_message_10 : decode cL_message 10 = .ok (.goto 11, 3) := by decide +kernel
theorem dL_message_13 : decode cL_message 13 = .ok (.astore 4, 2) := by decide +kernel
theorem dL_message_15 : decode cL_message 15 = .ok (.iconst 1, 1) := by decide +kernel
theorem dL_message_16 : decode cL_message 16 = .ok (.ireturn, 1) := by decide +kernel
theorem dL_message_17 : decode cL_message 17 = .ok (.astore 4, 2) := by decide +kernel
theorem dL_message_19 : decode cL_message 19 = .ok (.iconst 2, 1) := by decide +kernel
theorem dL_message_20 : decode cL_message 20 = .ok (.ireturn, 1) := by decide +kernel
theorem dL_message_21 : decode cL_message 21 = .ok (.iconst 0, 1) := by decide +kernel
theorem dL_message_22 : decode cL_message 22 = .ok (.ireturn, 1) := by decide +kernel
theorem dL_way_0 : decode cL_way 0 = .ok (.aload_n 3, 1) := by decide +kernel
theorem dL_way_1 : decode cL_way 1 = .ok (.iconst 0, 1) := by decide +kernel
theorem dL_way_2 : decode cL_way 2 = .ok (.aload_n 0, 1) := by decide +kernel
theorem dL_way_3 : decode cL_way 3 = .ok (.iload_n 1, 1) := by decide +kernel
theorem dL_way_4 : decode cL_way 4 = .ok (.iload_n 2, 1) := by decide +kernel
theorem dL_way_5 : decode cL_way 5 = .ok (.invokevirtual 49, 3) := by decide +kernel
theorem dL_way_8 : decode cL_way 8 = .ok (.i2l, 1) := by decide +kernel
theorem dL_way_9 : decode cL_way 9 = .ok (.lastore, 1) := by decide +kernel
theorem dL_way_10 : decode cL_way 10 = .ok (.goto 7, 3) := by decide +kernel
theorem dL_way_13 : decode cL_way 13 = .ok (.astore 4, 2) := by decide +kernel
theorem dL_way_15 : decode cL_way 15 = .ok (.iconst 1, 1) := by decide +kernel
theorem dL_way_16 : decode cL_way 16 = .ok (.ireturn, 1) := by decide +kernel
theorem dL_way_17 : decode cL_way 17 = .ok (.iconst 0, 1) := by decide +kernel
theorem dL_way_18 : decode cL_way 18 = .ok (.ireturn, 1) := by decide +kernel
theorem dL_wake_0 : decode cL_wake 0 = .ok (.aload_n 2, 1) := by decide +kernel
theorem dL_wake_1 : decode cL_wake 1 = .ok (.iconst 0, 1) := by decide +kernel
theorem dL_wake_2 : decode cL_wake 2 = .ok (.aload_n 0, 1) := by decide +kernel
theorem dL_wake_3 : decode cL_wake 3 = .ok (.iload_n 1, 1) := by decide +kernel
theorem dL_wake_4 : decode cL_wake 4 = .ok (.invokevirtual 52, 3) := by decide +kernel
theorem dL_wake_7 : decode cL_wake 7 = .ok (.ifCond .eq 7, 3) := by decide +kernel
theorem dL_wake_10 : decode cL_wake 10 = .ok (.lconst 1, 1) := by decide +kernel
theorem dL_wake_11 : decode cL_wake 11 = .ok (.goto 4, 3) := by decide +kernel
theorem dL_wake_14 : decode cL_wake 14 = .ok (.lconst 0, 1) := by decide +kernel
theorem dL_wake_15 : decode cL_wake 15 = .ok (.lastore, 1) := by decide +kernel
theorem dL_wake_16 : decode cL_wake 16 = .ok (.goto 6, 3) := by decide +kernel
theorem dL_wake_19 : decode cL_wake 19 = .ok (.astore_n 3, 1) := by decide +kernel
theorem dL_wake_20 : decode cL_wake 20 = .ok (.iconst 1, 1) := by decide +kernel
theorem dL_wake_21 : decode cL_wake 21 = .ok (.ireturn, 1) := by decide +kernel
theorem dL_wake_22 : decode cL_wake 22 = .ok (.iconst 0, 1) := by decide +kernel
theorem dL_wake_23 : decode cL_wake 23 = .ok (.ireturn, 1) := by decide +kernel
theorem dL_prove_0 : decode cL_prove 0 = .ok (.aload_n 3, 1) := by decide +kernel
theorem dL_prove_1 : decode cL_prove 1 = .ok (.iconst 0, 1) := by decide +kernel
theorem dL_prove_2 : decode cL_prove 2 = .ok (.aload_n 0, 1) := by decide +kernel
theorem dL_prove_3 : decode cL_prove 3 = .ok (.iload_n 1, 1) := by decide +kernel
theorem dL_prove_4 : decode cL_prove 4 = .ok (.iload_n 2, 1) := by decide +kernel
theorem dL_prove_5 : decode cL_prove 5 = .ok (.invokevirtual 56, 3) := by decide +kernel
theorem dL_prove_8 : decode cL_prove 8 = .ok (.i2l, 1) := by decide +kernel
theorem dL_prove_9 : decode cL_prove 9 = .ok (.lastore, 1) := by decide +kernel
theorem dL_prove_10 : decode cL_prove 10 = .ok (.goto 15, 3) := by decide +kernel
theorem dL_prove_13 : decode cL_prove 13 = .ok (.astore 4, 2) := by decide +kernel
theorem dL_prove_15 : decode cL_prove 15 = .ok (.iconst 1, 1) := by decide +kernel
theorem dL_prove_16 : decode cL_prove 16 = .ok (.ireturn, 1) := by decide +kernel
theorem dL_prove_17 : decode cL_prove 17 = .ok (.astore 4, 2) := by decide +kernel
theorem dL_prove_19 : decode cL_prove 19 = .ok (.iconst 2, 1) := by decide +kernel
theorem dL_prove_20 : decode cL_prove 20 = .ok (.ireturn, 1) := by decide +kernel
theorem dL_prove_21 : decode cL_prove 21 = .ok (.astore 4, 2) := by decide +kernel
theorem dL_prove_23 : decode cL_prove 23 = .ok (.iconst 3, 1) := by decide +kernel
theorem dL_prove_24 : decode cL_prove 24 = .ok (.ireturn, 1) := by decide +kernel
theorem dL_prove_25 : decode cL_prove 25 = .ok (.iconst 0, 1) := by decide +kernel
theorem dL_prove_26 : decode cL_prove 26 = .ok (.ireturn, 1) := by decide +kernel
theorem dL_pass_0 : decode cL_pass 0 = .ok (.aload_n 2, 1) := by decide +kernel
theorem dL_pass_1 : decode cL_pass 1 = .ok (.iconst 0, 1) := by decide +kernel
theorem dL_pass_2 : decode cL_pass 2 = .ok (.aload_n 0, 1) := by decide +kernel
theorem dL_pass_3 : decode cL_pass 3 = .ok (.iload_n 1, 1) := by decide +kernel
theorem dL_pass_4 : decode cL_pass 4 = .ok (.invokevirtual 59, 3) := by decide +kernel
theorem dL_pass_7 : decode cL_pass 7 = .ok (.i2l, 1) := by decide +kernel
theorem dL_pass_8 : decode cL_pass 8 = .ok (.lastore, 1) := by decide +kernel
theorem dL_pass_9 : decode cL_pass 9 = .ok (.goto 9, 3) := by decide +kernel
theorem dL_pass_12 : decode cL_pass 12 = .ok (.astore_n 3, 1) := by decide +kernel
theorem dL_pass_13 : decode cL_pass 13 = .ok (.iconst 1, 1) := by decide +kernel
theorem dL_pass_14 : decode cL_pass 14 = .ok (.ireturn, 1) := by decide +kernel
theorem dL_pass_15 : decode cL_pass 15 = .ok (.astore_n 3, 1) := by decide +kernel
theorem dL_pass_16 : decode cL_pass 16 = .ok (.iconst 2, 1) := by decide +kernel
theorem dL_pass_17 : decode cL_pass 17 = .ok (.ireturn, 1) := by decide +kernel
theorem dL_pass_18 : decode cL_pass 18 = .ok (.iconst 0, 1) := by decide +kernel
theorem dL_pass_19 : decode cL_pass 19 = .ok (.ireturn, 1) := by decide +kernel
theorem dL_nodeIs_0 : decode cL_nodeIs 0 = .ok (.aload_n 3, 1) := by decide +kernel
theorem dL_nodeIs_1 : decode cL_nodeIs 1 = .ok (.iconst 0, 1) := by decide +kernel
theorem dL_nodeIs_2 : decode cL_nodeIs 2 = .ok (.aload_n 0, 1) := by decide +kernel
theorem dL_nodeIs_3 : decode cL_nodeIs 3 = .ok (.iload_n 1, 1) := by decide +kernel
theorem dL_nodeIs_4 : decode cL_nodeIs 4 = .ok (.iload_n 2, 1) := by decide +kernel
theorem dL_nodeIs_5 : decode cL_nodeIs 5 = .ok (.invokevirtual 62, 3) := by decide +kernel
theorem dL_nodeIs_8 : decode cL_nodeIs 8 = .ok (.i2l, 1) := by decide +kernel
theorem dL_nodeIs_9 : decode cL_nodeIs 9 = .ok (.lastore, 1) := by decide +kernel
theorem dL_nodeIs_10 : decode cL_nodeIs 10 = .ok (.goto 11, 3) := by decide +kernel
theorem dL_nodeIs_13 : decode cL_nodeIs 13 = .ok (.astore 4, 2) := by decide +kernel
theorem dL_nodeIs_15 : decode cL_nodeIs 15 = .ok (.iconst 1, 1) := by decide +kernel
theorem dL_nodeIs_16 : decode cL_nodeIs 16 = .ok (.ireturn, 1) := by decide +kernel
theorem dL_nodeIs_17 : decode cL_nodeIs 17 = .ok (.astore 4, 2) := by decide +kernel
theorem dL_nodeIs_19 : decode cL_nodeIs 19 = .ok (.iconst 2, 1) := by decide +kernel
theorem dL_nodeIs_20 : decode cL_nodeIs 20 = .ok (.ireturn, 1) := by decide +kernel
theorem dL_nodeIs_21 : decode cL_nodeIs 21 = .ok (.iconst 0, 1) := by decide +kernel
theorem dL_nodeIs_22 : decode cL_nodeIs 22 = .ok (.ireturn, 1) := by decide +kernel
theorem dL_paidAnew_0 : decode cL_paidAnew 0 = .ok (.aload_n 2, 1) := by decide +kernel
theorem dL_paidAnew_1 : decode cL_paidAnew 1 = .ok (.iconst 0, 1) := by decide +kernel
theorem dL_paidAnew_2 : decode cL_paidAnew 2 = .ok (.aload_n 0, 1) := by decide +kernel
theorem dL_paidAnew_3 : decode cL_paidAnew 3 = .ok (.iload_n 1, 1) := by decide +kernel
theorem dL_paidAnew_4 : decode cL_paidAnew 4 = .ok (.invokevirtual 65, 3) := by decide +kernel
theorem dL_paidAnew_7 : decode cL_paidAnew 7 = .ok (.i2l, 1) := by decide +kernel
theorem dL_paidAnew_8 : decode cL_paidAnew 8 = .ok (.lastore, 1) := by decide +kernel
theorem dL_paidAnew_9 : decode cL_paidAnew 9 = .ok (.goto 6, 3) := by decide +kernel
theorem dL_paidAnew_12 : decode cL_paidAnew 12 = .ok (.astore_n 3, 1) := by decide +kernel
theorem dL_paidAnew_13 : decode cL_paidAnew 13 = .ok (.iconst 1, 1) := by decide +kernel
theorem dL_paidAnew_14 : decode cL_paidAnew 14 = .ok (.ireturn, 1) := by decide +kernel
theorem dL_paidAnew_15 : decode cL_paidAnew 15 = .ok (.iconst 0, 1) := by decide +kernel
theorem dL_paidAnew_16 : decode cL_paidAnew 16 = .ok (.ireturn, 1) := by decide +kernel
