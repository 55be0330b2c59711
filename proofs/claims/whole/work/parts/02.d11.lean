theorem d_Sl_asksToWatch_0 : decode cb_Sl_asksToWatch 0 = .ok (.aload_n 0, 1) := by decide +kernel
theorem d_Sl_asksToWatch_1 : decode cb_Sl_asksToWatch 1 = .ok (.getfield 53, 3) := by decide +kernel
theorem d_Sl_asksToWatch_4 : decode cb_Sl_asksToWatch 4 = .ok (.ifCond .eq 14, 3) := by decide +kernel
theorem d_Sl_asksToWatch_7 : decode cb_Sl_asksToWatch 7 = .ok (.aload_n 0, 1) := by decide +kernel
theorem d_Sl_asksToWatch_8 : decode cb_Sl_asksToWatch 8 = .ok (.getfield 46, 3) := by decide +kernel
theorem d_Sl_asksToWatch_11 : decode cb_Sl_asksToWatch 11 = .ok (.ifCond .ne 7, 3) := by decide +kernel
theorem d_Sl_asksToWatch_14 : decode cb_Sl_asksToWatch 14 = .ok (.iconst 1, 1) := by decide +kernel
theorem d_Sl_asksToWatch_15 : decode cb_Sl_asksToWatch 15 = .ok (.goto 4, 3) := by decide +kernel
theorem d_Sl_asksToWatch_18 : decode cb_Sl_asksToWatch 18 = .ok (.iconst 0, 1) := by decide +kernel
theorem d_Sl_asksToWatch_19 : decode cb_Sl_asksToWatch 19 = .ok (.ireturn, 1) := by decide +kernel
theorem d_Wr_addHead_0 : decode cb_Wr_addHead 0 = .ok (.iload_n 1, 1) := by decide +kernel
theorem d_Wr_addHead_1 : decode cb_Wr_addHead 1 = .ok (.aload_n 0, 1) := by decide +kernel
theorem d_Wr_addHead_2 : decode cb_Wr_addHead 2 = .ok (.getfield 20, 3) := by decide +kernel
theorem d_Wr_addHead_5 : decode cb_Wr_addHead 5 = .ok (.isub, 1) := by decide +kernel
theorem d_Wr_addHead_6 : decode cb_Wr_addHead 6 = .ok (.istore_n 3, 1) := by decide +kernel
theorem d_Wr_addHead_7 : decode cb_Wr_addHead 7 = .ok (.aload_n 0, 1) := by decide +kernel
theorem d_Wr_addHead_8 : decode cb_Wr_addHead 8 = .ok (.getfield 14, 3) := by decide +kernel
theorem d_Wr_addHead_11 : decode cb_Wr_addHead 11 = .ok (.bipush 16, 2) := by decide +kernel
theorem d_Wr_addHead_13 : decode cb_Wr_addHead 13 = .ok (.iload_n 3, 1) := by decide +kernel
theorem d_Wr_addHead_14 : decode cb_Wr_addHead 14 = .ok (.bipush 13, 2) := by decide +kernel
theorem d_Wr_addHead_16 : decode cb_Wr_addHead 16 = .ok (.invokestatic 52, 3) := by decide +kernel
theorem d_Wr_addHead_19 : decode cb_Wr_addHead 19 = .ok (.imul, 1) := by decide +kernel
theorem d_Wr_addHead_20 : decode cb_Wr_addHead 20 = .ok (.iload_n 2, 1) := by decide +kernel
theorem d_Wr_addHead_21 : decode cb_Wr_addHead 21 = .ok (.iadd, 1) := by decide +kernel
theorem d_Wr_addHead_22 : decode cb_Wr_addHead 22 = .ok (.invokevirtual 27, 3) := by decide +kernel
theorem d_Wr_addHead_25 : decode cb_Wr_addHead 25 = .ok (.iload_n 3, 1) := by decide +kernel
theorem d_Wr_addHead_26 : decode cb_Wr_addHead 26 = .ok (.bipush 13, 2) := by decide +kernel
theorem d_Wr_addHead_28 : decode cb_Wr_addHead 28 = .ok (.if_icmp .lt 14, 3) := by decide +kernel
theorem d_Wr_addHead_31 : decode cb_Wr_addHead 31 = .ok (.aload_n 0, 1) := by decide +kernel
theorem d_Wr_addHead_32 : decode cb_Wr_addHead 32 = .ok (.getfield 14, 3) := by decide +kernel
theorem d_Wr_addHead_35 : decode cb_Wr_addHead 35 = .ok (.iload_n 3, 1) := by decide +kernel
theorem d_Wr_addHead_36 : decode cb_Wr_addHead 36 = .ok (.bipush 13, 2) := by decide +kernel
theorem d_Wr_addHead_38 : decode cb_Wr_addHead 38 = .ok (.isub, 1) := by decide +kernel
theorem d_Wr_addHead_39 : decode cb_Wr_addHead 39 = .ok (.invokevirtual 27, 3) := by decide +kernel
theorem d_Wr_addHead_42 : decode cb_Wr_addHead 42 = .ok (.aload_n 0, 1) := by decide +kernel
theorem d_Wr_addHead_43 : decode cb_Wr_addHead 43 = .ok (.iload_n 1, 1) := by decide +kernel
theorem d_Wr_addHead_44 : decode cb_Wr_addHead 44 = .ok (.putfield 20, 3) := by decide +kernel
theorem d_Wr_addHead_47 : decode cb_Wr_addHead 47 = .ok (.return_, 1) := by decide +kernel
theorem d_Wr_addNumber_0 : decode cb_Wr_addNumber 0 = .ok (.iload_n 2, 1) := by decide +kernel
theorem d_Wr_addNumber_1 : decode cb_Wr_addNumber 1 = .ok (.ifCond .ne 7, 3) := by decide +kernel
theorem d_Wr_addNumber_4 : decode cb_Wr_addNumber 4 = .ok (.iconst 0, 1) := by decide +kernel
theorem d_Wr_addNumber_5 : decode cb_Wr_addNumber 5 = .ok (.goto 15, 3) := by decide +kernel
theorem d_Wr_addNumber_8 : decode cb_Wr_addNumber 8 = .ok (.iload_n 2, 1) := by decide +kernel
theorem d_Wr_addNumber_9 : decode cb_Wr_addNumber 9 = .ok (.sipush 256, 3) := by decide +kernel
theorem d_Wr_addNumber_12 : decode cb_Wr_addNumber 12 = .ok (.if_icmp .ge 7, 3) := by decide +kernel
theorem d_Wr_addNumber_15 : decode cb_Wr_addNumber 15 = .ok (.iconst 1, 1) := by decide +kernel
theorem d_Wr_addNumber_16 : decode cb_Wr_addNumber 16 = .ok (.goto 4, 3) := by decide +kernel
theorem d_Wr_addNumber_19 : decode cb_Wr_addNumber 19 = .ok (.iconst 2, 1) := by decide +kernel
theorem d_Wr_addNumber_20 : decode cb_Wr_addNumber 20 = .ok (.istore_n 3, 1) := by decide +kernel
theorem d_Wr_addNumber_21 : decode cb_Wr_addNumber 21 = .ok (.aload_n 0, 1) := by decide +kernel
theorem d_Wr_addNumber_22 : decode cb_Wr_addNumber 22 = .ok (.iload_n 1, 1) := by decide +kernel
theorem d_Wr_addNumber_23 : decode cb_Wr_addNumber 23 = .ok (.iload_n 3, 1) := by decide +kernel
theorem d_Wr_addNumber_24 : decode cb_Wr_addNumber 24 = .ok (.invokevirtual 30, 3) := by decide +kernel
theorem d_Wr_addNumber_27 : decode cb_Wr_addNumber 27 = .ok (.iload_n 3, 1) := by decide +kernel
theorem d_Wr_addNumber_28 : decode cb_Wr_addNumber 28 = .ok (.iconst 2, 1) := by decide +kernel
theorem d_Wr_addNumber_29 : decode cb_Wr_addNumber 29 = .ok (.if_icmp .ne 14, 3) := by decide +kernel
theorem d_Wr_addNumber_32 : decode cb_Wr_addNumber 32 = .ok (.aload_n 0, 1) := by decide +kernel
theorem d_Wr_addNumber_33 : decode cb_Wr_addNumber 33 = .ok (.getfield 14, 3) := by decide +kernel
theorem d_Wr_addNumber_36 : decode cb_Wr_addNumber 36 = .ok (.iload_n 2, 1) := by decide +kernel
theorem d_Wr_addNumber_37 : decode cb_Wr_addNumber 37 = .ok (.bipush 8, 2) := by decide +kernel
theorem d_Wr_addNumber_39 : decode cb_Wr_addNumber 39 = .ok (.ishr, 1) := by decide +kernel
theorem d_Wr_addNumber_40 : decode cb_Wr_addNumber 40 = .ok (.invokevirtual 27, 3) := by decide +kernel
theorem d_Wr_addNumber_43 : decode cb_Wr_addNumber 43 = .ok (.iload_n 3, 1) := by decide +kernel
theorem d_Wr_addNumber_44 : decode cb_Wr_addNumber 44 = .ok (.ifCond .eq 11, 3) := by decide +kernel
theorem d_Wr_addNumber_47 : decode cb_Wr_addNumber 47 = .ok (.aload_n 0, 1) := by decide +kernel
theorem d_Wr_addNumber_48 : decode cb_Wr_addNumber 48 = .ok (.getfield 14, 3) := by decide +kernel
theorem d_Wr_addNumber_51 : decode cb_Wr_addNumber 51 = .ok (.iload_n 2, 1) := by decide +kernel
theorem d_Wr_addNumber_52 : decode cb_Wr_addNumber 52 = .ok (.invokevirtual 27, 3) := by decide +kernel
theorem d_Wr_addNumber_55 : decode cb_Wr_addNumber 55 = .ok (.return_, 1) := by decide +kernel
theorem d_Ob_firstSegmentOf_0 : decode cb_Ob_firstSegmentOf 0 = .ok (.iload_n 0, 1) := by decide +kernel
theorem d_Ob_firstSegmentOf_1 : decode cb_Ob_firstSegmentOf 1 = .ok (.tableswitch 37 0 3 #[31, 31, 34, 34], 31) := by decide +kernel
theorem d_Ob_firstSegmentOf_32 : decode cb_Ob_firstSegmentOf 32 = .ok (.ldc 164, 2) := by decide +kernel
theorem d_Ob_firstSegmentOf_34 : decode cb_Ob_firstSegmentOf 34 = .ok (.areturn, 1) := by decide +kernel
theorem d_Ob_firstSegmentOf_35 : decode cb_Ob_firstSegmentOf 35 = .ok (.ldc 166, 2) := by decide +kernel
theorem d_Ob_firstSegmentOf_37 : decode cb_Ob_firstSegmentOf 37 = .ok (.areturn, 1) := by decide +kernel
theorem d_Ob_firstSegmentOf_38 : decode cb_Ob_firstSegmentOf 38 = .ok (.ldc 168, 2) := by decide +kernel
theorem d_Ob_firstSegmentOf_40 : decode cb_Ob_firstSegmentOf 40 = .ok (.areturn, 1) := by decide +kernel
theorem d_Wr_addSegment_0 : decode cb_Wr_addSegment 0 = .ok (.aload_n 0, 1) := by decide +kernel
theorem d_Wr_addSegment_1 : decode cb_Wr_addSegment 1 = .ok (.bipush 11, 2) := by decide +kernel
theorem d_Wr_addSegment_3 : decode cb_Wr_addSegment 3 = .ok (.aload_n 1, 1) := by decide +kernel
theorem d_Wr_addSegment_4 : decode cb_Wr_addSegment 4 = .ok (.invokevirtual 34, 3) := by decide +kernel
theorem d_Wr_addSegment_7 : decode cb_Wr_addSegment 7 = .ok (.invokevirtual 30, 3) := by decide +kernel
theorem d_Wr_addSegment_10 : decode cb_Wr_addSegment 10 = .ok (.iconst 0, 1) := by decide +kernel
theorem d_Wr_addSegment_11 : decode cb_Wr_addSegment 11 = .ok (.istore_n 2, 1) := by decide +kernel
theorem d_Wr_addSegment_12 : decode cb_Wr_addSegment 12 = .ok (.iload_n 2, 1) := by decide +kernel
theorem d_Wr_addSegment_13 : decode cb_Wr_addSegment 13 = .ok (.aload_n 1, 1) := by decide +kernel
theorem d_Wr_addSegment_14 : decode cb_Wr_addSegment 14 = .ok (.invokevirtual 34, 3) := by decide +kernel
theorem d_Wr_addSegment_17 : decode cb_Wr_addSegment 17 = .ok (.if_icmp .ge 21, 3) := by decide +kernel
theorem d_Wr_addSegment_20 : decode cb_Wr_addSegment 20 = .ok (.aload_n 0, 1) := by decide +kernel
theorem d_Wr_addSegment_21 : decode cb_Wr_addSegment 21 = .ok (.getfield 14, 3) := by decide +kernel
theorem d_Wr_addSegment_24 : decode cb_Wr_addSegment 24 = .ok (.aload_n 1, 1) := by decide +kernel
theorem d_Wr_addSegment_25 : decode cb_Wr_addSegment 25 = .ok (.iload_n 2, 1) := by decide +kernel
theorem d_Wr_addSegment_26 : decode cb_Wr_addSegment 26 = .ok (.invokevirtual 40, 3) := by decide +kernel
theorem d_Wr_addSegment_29 : decode cb_Wr_addSegment 29 = .ok (.invokevirtual 27, 3) := by decide +kernel
theorem d_Wr_addSegment_32 : decode cb_Wr_addSegment 32 = .ok (.iinc 2 1, 3) := by decide +kernel
theorem d_Wr_addSegment_35 : decode cb_Wr_addSegment 35 = .ok (.goto (-23), 3) := by decide +kernel
theorem d_Wr_addSegment_38 : decode cb_Wr_addSegment 38 = .ok (.return_, 1) := by decide +kernel
theorem d_Ob_secondSegmentOf_0 : decode cb_Ob_secondSegmentOf 0 = .ok (.iload_n 0, 1) := by decide +kernel
theorem d_Ob_secondSegmentOf_1 : decode cb_Ob_secondSegmentOf 1 = .ok (.lookupswitch 33 #[(1, 27), (3, 30)], 27) := by decide +kernel
theorem d_Ob_secondSegmentOf_28 : decode cb_Ob_secondSegmentOf 28 = .ok (.ldc 170, 2) := by decide +kernel
theorem d_Ob_secondSegmentOf_30 : decode cb_Ob_secondSegmentOf 30 = .ok (.areturn, 1) := by decide +kernel
theorem d_Ob_secondSegmentOf_31 : decode cb_Ob_secondSegmentOf 31 = .ok (.ldc 172, 2) := by decide +kernel
theorem d_Ob_secondSegmentOf_33 : decode cb_Ob_secondSegmentOf 33 = .ok (.areturn, 1) := by decide +kernel
theorem d_Ob_secondSegmentOf_34 : decode cb_Ob_secondSegmentOf 34 = .ok (.ldc 174, 2) := by decide +kernel
theorem d_Ob_secondSegmentOf_36 : decode cb_Ob_secondSegmentOf 36 = .ok (.areturn, 1) := by decide +kernel
theorem d_Ob_sizeOf_0 : decode cb_Ob_sizeOf 0 = .ok (.iload_n 0, 1) := by decide +kernel
theorem d_Ob_sizeOf_1 : decode cb_Ob_sizeOf 1 = .ok (.ifCond .ne 8, 3) := by decide +kernel
theorem d_Ob_sizeOf_4 : decode cb_Ob_sizeOf 4 = .ok (.bipush 16, 2) := by decide +kernel
theorem d_Ob_sizeOf_6 : decode cb_Ob_sizeOf 6 = .ok (.goto 5, 3) := by decide +kernel
theorem d_Ob_sizeOf_9 : decode cb_Ob_sizeOf 9 = .ok (.bipush 32, 2) := by decide +kernel
theorem d_Ob_sizeOf_11 : decode cb_Ob_sizeOf 11 = .ok (.ireturn, 1) := by decide +kernel
theorem d_Sl_hasMoreToPut_0 : decode cb_Sl_hasMoreToPut 0 = .ok (.aload_n 0, 1) := by decide +kernel
theorem d_Sl_hasMoreToPut_1 : decode cb_Sl_hasMoreToPut 1 = .ok (.getfield 14, 3) := by decide +kernel
theorem d_Sl_hasMoreToPut_4 : decode cb_Sl_hasMoreToPut 4 = .ok (.getfield 81, 3) := by decide +kernel
theorem d_Sl_hasMoreToPut_7 : decode cb_Sl_hasMoreToPut 7 = .ok (.aload_n 0, 1) := by decide +kernel
theorem d_Sl_hasMoreToPut_8 : decode cb_Sl_hasMoreToPut 8 = .ok (.getfield 46, 3) := by decide +kernel
theorem d_Sl_hasMoreToPut_11 : decode cb_Sl_hasMoreToPut 11 = .ok (.iconst 1, 1) := by decide +kernel
theorem d_Sl_hasMoreToPut_12 : decode cb_Sl_hasMoreToPut 12 = .ok (.iadd, 1) := by decide +kernel
theorem d_Sl_hasMoreToPut_13 : decode cb_Sl_hasMoreToPut 13 = .ok (.aload_n 0, 1) := by decide +kernel
theorem d_Sl_hasMoreToPut_14 : decode cb_Sl_hasMoreToPut 14 = .ok (.getfield 43, 3) := by decide +kernel
theorem d_Sl_hasMoreToPut_17 : decode cb_Sl_hasMoreToPut 17 = .ok (.invokestatic 84, 3) := by decide +kernel
theorem d_Sl_hasMoreToPut_20 : decode cb_Sl_hasMoreToPut 20 = .ok (.imul, 1) := by decide +kernel
theorem d_Sl_hasMoreToPut_21 : decode cb_Sl_hasMoreToPut 21 = .ok (.if_icmp .le 7, 3) := by decide +kernel
theorem d_Sl_hasMoreToPut_24 : decode cb_Sl_hasMoreToPut 24 = .ok (.iconst 1, 1) := by decide +kernel
theorem d_Sl_hasMoreToPut_25 : decode cb_Sl_hasMoreToPut 25 = .ok (.goto 4, 3) := by decide +kernel
theorem d_Sl_hasMoreToPut_28 : decode cb_Sl_hasMoreToPut 28 = .ok (.iconst 0, 1) := by decide +kernel
theorem d_Sl_hasMoreToPut_29 : decode cb_Sl_hasMoreToPut 29 = .ok (.ireturn, 1) := by decide +kernel
theorem d_Ob_blockOf_0 : decode cb_Ob_blockOf 0 = .ok (.bipush 16, 2) := by decide +kernel
theorem d_Ob_blockOf_2 : decode cb_Ob_blockOf 2 = .ok (.iload_n 0, 1) := by decide +kernel
theorem d_Ob_blockOf_3 : decode cb_Ob_blockOf 3 = .ok (.imul, 1) := by decide +kernel
theorem d_Ob_blockOf_4 : decode cb_Ob_blockOf 4 = .ok (.iload_n 1, 1) := by decide +kernel
theorem d_Ob_blockOf_5 : decode cb_Ob_blockOf 5 = .ok (.ifCond .eq 8, 3) := by decide +kernel
theorem d_Ob_blockOf_8 : decode cb_Ob_blockOf 8 = .ok (.bipush 8, 2) := by decide +kernel
theorem d_Ob_blockOf_10 : decode cb_Ob_blockOf 10 = .ok (.goto 4, 3) := by decide +kernel
theorem d_Ob_blockOf_13 : decode cb_Ob_blockOf 13 = .ok (.iconst 0, 1) := by decide +kernel
theorem d_Ob_blockOf_14 : decode cb_Ob_blockOf 14 = .ok (.iadd, 1) := by decide +kernel
theorem d_Ob_blockOf_15 : decode cb_Ob_blockOf 15 = .ok (.iload_n 2, 1) := by decide +kernel
theorem d_Ob_blockOf_16 : decode cb_Ob_blockOf 16 = .ok (.iadd, 1) := by decide +kernel
theorem d_Ob_blockOf_17 : decode cb_Ob_blockOf 17 = .ok (.ireturn, 1) := by decide +kernel
theorem d_By_has_0 : decode cb_By_has 0 = .ok (.iload_n 1, 1) := by decide +kernel
theorem d_By_has_1 : decode cb_By_has 1 = .ok (.ifCond .lt 15, 3) := by decide +kernel
theorem d_By_has_4 : decode cb_By_has 4 = .ok (.iload_n 1, 1) := by decide +kernel
theorem d_By_has_5 : decode cb_By_has 5 = .ok (.aload_n 0, 1) := by decide +kernel
theorem d_By_has_6 : decode cb_By_has 6 = .ok (.getfield 15, 3) := by decide +kernel
theorem d_By_has_9 : decode cb_By_has 9 = .ok (.if_icmp .ge 7, 3) := by decide +kernel
theorem d_By_has_12 : decode cb_By_has 12 = .ok (.iconst 1, 1) := by decide +kernel
theorem d_By_has_13 : decode cb_By_has 13 = .ok (.goto 4, 3) := by decide +kernel
theorem d_By_has_16 : decode cb_By_has 16 = .ok (.iconst 0, 1) := by decide +kernel
theorem d_By_has_17 : decode cb_By_has 17 = .ok (.ireturn, 1) := by decide +kernel
theorem d_By_addFrom_0 : decode cb_By_addFrom 0 = .ok (.iload_n 3, 1) := by decide +kernel
theorem d_By_addFrom_1 : decode cb_By_addFrom 1 = .ok (.aload_n 1, 1) := by decide +kernel
theorem d_By_addFrom_2 : decode cb_By_addFrom 2 = .ok (.getfield 15, 3) := by decide +kernel
theorem d_By_addFrom_5 : decode cb_By_addFrom 5 = .ok (.iload_n 2, 1) := by decide +kernel
theorem d_By_addFrom_6 : decode cb_By_addFrom 6 = .ok (.isub, 1) := by decide +kernel
theorem d_By_addFrom_7 : decode cb_By_addFrom 7 = .ok (.aload_n 0, 1) := by decide +kernel
theorem d_By_addFrom_8 : decode cb_By_addFrom 8 = .ok (.getfield 9, 3) := by decide +kernel
theorem d_By_addFrom_11 : decode cb_By_addFrom 11 = .ok (.arraylength, 1) := by decide +kernel
theorem d_By_addFrom_12 : decode cb_By_addFrom 12 = .ok (.aload_n 0, 1) := by decide +kernel
theorem d_By_addFrom_13 : decode cb_By_addFrom 13 = .ok (.getfield 15, 3) := by decide +kernel
theorem d_By_addFrom_16 : decode cb_By_addFrom 16 = .ok (.isub, 1) := by decide +kernel
theorem d_By_addFrom_17 : decode cb_By_addFrom 17 = .ok (.invokestatic 23, 3) := by decide +kernel
theorem d_By_addFrom_20 : decode cb_By_addFrom 20 = .ok (.invokestatic 23, 3) := by decide +kernel
theorem d_By_addFrom_23 : decode cb_By_addFrom 23 = .ok (.istore 4, 2) := by decide +kernel
theorem d_By_addFrom_25 : decode cb_By_addFrom 25 = .ok (.iload_n 2, 1) := by decide +kernel
theorem d_By_addFrom_26 : decode cb_By_addFrom 26 = .ok (.ifCond .lt 37, 3) := by decide +kernel
theorem d_By_addFrom_29 : decode cb_By_addFrom 29 = .ok (.iload 4, 2) := by decide +kernel
theorem d_By_addFrom_31 : decode cb_By_addFrom 31 = .ok (.ifCond .le 32, 3) := by decide +kernel
theorem d_By_addFrom_34 : decode cb_By_addFrom 34 = .ok (.aload_n 1, 1) := by decide +kernel
theorem d_By_addFrom_35 : decode cb_By_addFrom 35 = .ok (.getfield 9, 3) := by decide +kernel
theorem d_By_addFrom_38 : decode cb_By_addFrom 38 = .ok (.iload_n 2, 1) := by decide +kernel
theorem d_By_addFrom_39 : decode cb_By_addFrom 39 = .ok (.aload_n 0, 1) := by decide +kernel
theorem d_By_addFrom_40 : decode cb_By_addFrom 40 = .ok (.getfield 9, 3) := by decide +kernel
theorem d_By_addFrom_43 : decode cb_By_addFrom 43 = .ok (.aload_n 0, 1) := by decide +kernel
theorem d_By_addFrom_44 : decode cb_By_addFrom 44 = .ok (.getfield 15, 3) := by decide +kernel
theorem d_By_addFrom_47 : decode cb_By_addFrom 47 = .ok (.iload 4, 2) := by decide +kernel
theorem d_By_addFrom_49 : decode cb_By_addFrom 49 = .ok (.invokestatic 29, 3) := by decide +kernel
theorem d_By_addFrom_52 : decode cb_By_addFrom 52 = .ok (.aload_n 0, 1) := by decide +kernel
theorem d_By_addFrom_53 : decode cb_By_addFrom 53 = .ok (.dup, 1) := by decide +kernel
theorem d_By_addFrom_54 : decode cb_By_addFrom 54 = .ok (.getfield 15, 3) := by decide +kernel
theorem d_By_addFrom_57 : decode cb_By_addFrom 57 = .ok (.iload 4, 2) := by decide +kernel
theorem d_By_addFrom_59 : decode cb_By_addFrom 59 = .ok (.iadd, 1) := by decide +kernel
theorem d_By_addFrom_60 : decode cb_By_addFrom 60 = .ok (.putfield 15, 3) := by decide +kernel
theorem d_By_addFrom_63 : decode cb_By_addFrom 63 = .ok (.return_, 1) := by decide +kernel
theorem d_Wr_addPayload_0 : decode cb_Wr_addPayload 0 = .ok (.iload_n 3, 1) := by decide +kernel
theorem d_Wr_addPayload_1 : decode cb_Wr_addPayload 1 = .ok (.ifCond .le 31, 3) := by decide +kernel
theorem d_Wr_addPayload_4 : decode cb_Wr_addPayload 4 = .ok (.aload_n 1, 1) := by decide +kernel
theorem d_Wr_addPayload_5 : decode cb_Wr_addPayload 5 = .ok (.iload_n 2, 1) := by decide +kernel
theorem d_Wr_addPayload_6 : decode cb_Wr_addPayload 6 = .ok (.invokevirtual 44, 3) := by decide +kernel
theorem d_Wr_addPayload_9 : decode cb_Wr_addPayload 9 = .ok (.ifCond .eq 23, 3) := by decide +kernel
theorem d_Wr_addPayload_12 : decode cb_Wr_addPayload 12 = .ok (.aload_n 0, 1) := by decide +kernel
theorem d_Wr_addPayload_13 : decode cb_Wr_addPayload 13 = .ok (.getfield 14, 3) := by decide +kernel
theorem d_Wr_addPayload_16 : decode cb_Wr_addPayload 16 = .ok (.sipush 255, 3) := by decide +kernel
theorem d_Wr_addPayload_19 : decode cb_Wr_addPayload 19 = .ok (.invokevirtual 27, 3) := by decide +kernel
theorem d_Wr_addPayload_22 : decode cb_Wr_addPayload 22 = .ok (.aload_n 0, 1) := by decide +kernel
theorem d_Wr_addPayload_23 : decode cb_Wr_addPayload 23 = .ok (.getfield 14, 3) := by decide +kernel
theorem d_Wr_addPayload_26 : decode cb_Wr_addPayload 26 = .ok (.aload_n 1, 1) := by decide +kernel
theorem d_Wr_addPayload_27 : decode cb_Wr_addPayload 27 = .ok (.iload_n 2, 1) := by decide +kernel
theorem d_Wr_addPayload_28 : decode cb_Wr_addPayload 28 = .ok (.iload_n 3, 1) := by decide +kernel
theorem d_Wr_addPayload_29 : decode cb_Wr_addPayload 29 = .ok (.invokevirtual 48, 3) := by decide +kernel
theorem d_Wr_addPayload_32 : decode cb_Wr_addPayload 32 = .ok (.return_, 1) := by decide +kernel
theorem d_By_become_0 : decode cb_By_become 0 = .ok (.aload_n 0, 1) := by decide +kernel
theorem d_By_become_1 : decode cb_By_become 1 = .ok (.aload_n 1, 1) := by decide +kernel
theorem d_By_become_2 : decode cb_By_become 2 = .ok (.getfield 15, 3) := by decide +kernel
theorem d_By_become_5 : decode cb_By_become 5 = .ok (.aload_n 0, 1) := by decide +kernel
theorem d_By_become_6 : decode cb_By_become 6 = .ok (.getfield 9, 3) := by decide +kernel
theorem d_By_become_9 : decode cb_By_become 9 = .ok (.arraylength, 1) := by decide +kernel
theorem d_By_become_10 : decode cb_By_become 10 = .ok (.invokestatic 23, 3) := by decide +kernel
theorem d_By_become_13 : decode cb_By_become 13 = .ok (.putfield 15, 3) := by decide +kernel
theorem d_By_become_16 : decode cb_By_become 16 = .ok (.aload_n 1, 1) := by decide +kernel
theorem d_By_become_17 : decode cb_By_become 17 = .ok (.getfield 9, 3) := by decide +kernel
theorem d_By_become_20 : decode cb_By_become 20 = .ok (.iconst 0, 1) := by decide +kernel
theorem d_By_become_21 : decode cb_By_become 21 = .ok (.aload_n 0, 1) := by decide +kernel
theorem d_By_become_22 : decode cb_By_become 22 = .ok (.getfield 9, 3) := by decide +kernel
theorem d_By_become_25 : decode cb_By_become 25 = .ok (.iconst 0, 1) := by decide +kernel
theorem d_By_become_26 : decode cb_By_become 26 = .ok (.aload_n 0, 1) := by decide +kernel
theorem d_By_become_27 : decode cb_By_become 27 = .ok (.getfield 15, 3) := by decide +kernel
theorem d_By_become_30 : decode cb_By_become 30 = .ok (.invokestatic 29, 3) := by decide +kernel
theorem d_By_become_33 : decode cb_By_become 33 = .ok (.return_, 1) := by decide +kernel
theorem d_Pe_start_0 : decode cb_Pe_start 0 = .ok (.aload_n 0, 1) := by decide +kernel
theorem d_Pe_start_1 : decode cb_Pe_start 1 = .ok (.getfield 14, 3) := by decide +kernel
theorem d_Pe_start_4 : decode cb_Pe_start 4 = .ok (.aload_n 2, 1) := by decide +kernel
theorem d_Pe_start_5 : decode cb_Pe_start 5 = .ok (.invokevirtual 24, 3) := by decide +kernel
theorem d_Pe_start_8 : decode cb_Pe_start 8 = .ok (.aload_n 0, 1) := by decide +kernel
theorem d_Pe_start_9 : decode cb_Pe_start 9 = .ok (.iload_n 1, 1) := by decide +kernel
theorem d_Pe_start_10 : decode cb_Pe_start 10 = .ok (.putfield 28, 3) := by decide +kernel
theorem d_Pe_start_13 : decode cb_Pe_start 13 = .ok (.aload_n 0, 1) := by decide +kernel
theorem d_Pe_start_14 : decode cb_Pe_start 14 = .ok (.iconst 1, 1) := by decide +kernel
theorem d_Pe_start_15 : decode cb_Pe_start 15 = .ok (.putfield 20, 3) := by decide +kernel
theorem d_Pe_start_18 : decode cb_Pe_start 18 = .ok (.aload_n 0, 1) := by decide +kernel
theorem d_Pe_start_19 : decode cb_Pe_start 19 = .ok (.iconst 4, 1) := by decide +kernel
theorem d_Pe_start_20 : decode cb_Pe_start 20 = .ok (.putfield 32, 3) := by decide +kernel
theorem d_Pe_start_23 : decode cb_Pe_start 23 = .ok (.aload_n 0, 1) := by decide +kernel
theorem d_Pe_start_24 : decode cb_Pe_start 24 = .ok (.iconst 4, 1) := by decide +kernel
theorem d_Pe_start_25 : decode cb_Pe_start 25 = .ok (.putfield 35, 3) := by decide +kernel
theorem d_Pe_start_28 : decode cb_Pe_start 28 = .ok (.aload_n 0, 1) := by decide +kernel
theorem d_Pe_start_29 : decode cb_Pe_start 29 = .ok (.iconst 0, 1) := by decide +kernel
theorem d_Pe_start_30 : decode cb_Pe_start 30 = .ok (.putfield 38, 3) := by decide +kernel
theorem d_Pe_start_33 : decode cb_Pe_start 33 = .ok (.return_, 1) := by decide +kernel
theorem d_Ob_following_0 : decode cb_Ob_following 0 = .ok (.iload_n 0, 1) := by decide +kernel
theorem d_Ob_following_1 : decode cb_Ob_following 1 = .ok (.iconst 1, 1) := by decide +kernel
theorem d_Ob_following_2 : decode cb_Ob_following 2 = .ok (.iadd, 1) := by decide +kernel
theorem d_Ob_following_3 : decode cb_Ob_following 3 = .ok (.ldc 163, 2) := by decide +kernel
theorem d_Ob_following_5 : decode cb_Ob_following 5 = .ok (.iand, 1) := by decide +kernel
theorem d_Ob_following_6 : decode cb_Ob_following 6 = .ok (.ireturn, 1) := by decide +kernel
theorem d_Li_send_0 : decode cb_Li_send 0 = .ok (.aload_n 0, 1) := by decide +kernel
theorem d_Li_send_1 : decode cb_Li_send 1 = .ok (.getfield 24, 3) := by decide +kernel
theorem d_Li_send_4 : decode cb_Li_send 4 = .ok (.bipush 16, 2) := by decide +kernel
theorem d_Li_send_6 : decode cb_Li_send 6 = .ok (.if_icmp .ge 36, 3) := by decide +kernel
theorem d_Li_send_9 : decode cb_Li_send 9 = .ok (.aload_n 0, 1) := by decide +kernel
theorem d_Li_send_10 : decode cb_Li_send 10 = .ok (.getfield 11, 3) := by decide +kernel
theorem d_Li_send_13 : decode cb_Li_send 13 = .ok (.aload_n 0, 1) := by decide +kernel
theorem d_Li_send_14 : decode cb_Li_send 14 = .ok (.getfield 24, 3) := by decide +kernel
theorem d_Li_send_17 : decode cb_Li_send 17 = .ok (.aaload, 1) := by decide +kernel
theorem d_Li_send_18 : decode cb_Li_send 18 = .ok (.aload_n 1, 1) := by decide +kernel
theorem d_Li_send_19 : decode cb_Li_send 19 = .ok (.invokevirtual 28, 3) := by decide +kernel
theorem d_Li_send_22 : decode cb_Li_send 22 = .ok (.aload_n 0, 1) := by decide +kernel
theorem d_Li_send_23 : decode cb_Li_send 23 = .ok (.getfield 17, 3) := by decide +kernel
theorem d_Li_send_26 : decode cb_Li_send 26 = .ok (.aload_n 0, 1) := by decide +kernel
theorem d_Li_send_27 : decode cb_Li_send 27 = .ok (.getfield 24, 3) := by decide +kernel
theorem d_Li_send_30 : decode cb_Li_send 30 = .ok (.iload_n 2, 1) := by decide +kernel
theorem d_Li_send_31 : decode cb_Li_send 31 = .ok (.iastore, 1) := by decide +kernel
theorem d_Li_send_32 : decode cb_Li_send 32 = .ok (.aload_n 0, 1) := by decide +kernel
theorem d_Li_send_33 : decode cb_Li_send 33 = .ok (.dup, 1) := by decide +kernel
theorem d_Li_send_34 : decode cb_Li_send 34 = .ok (.getfield 24, 3) := by decide +kernel
theorem d_Li_send_37 : decode cb_Li_send 37 = .ok (.iconst 1, 1) := by decide +kernel
theorem d_Li_send_38 : decode cb_Li_send 38 = .ok (.iadd, 1) := by decide +kernel
theorem d_Li_send_39 : decode cb_Li_send 39 = .ok (.putfield 24, 3) := by decide +kernel
theorem d_Li_send_42 : decode cb_Li_send 42 = .ok (.return_, 1) := by decide +kernel
theorem d_Cl_ask_0 : decode cb_Cl_ask 0 = .ok (.aload_n 0, 1) := by decide +kernel
theorem d_Cl_ask_1 : decode cb_Cl_ask 1 = .ok (.getfield 27, 3) := by decide +kernel
theorem d_Cl_ask_4 : decode cb_Cl_ask 4 = .ok (.iconst 0, 1) := by decide +kernel
theorem d_Cl_ask_5 : decode cb_Cl_ask 5 = .ok (.aload_n 1, 1) := by decide +kernel
theorem d_Cl_ask_6 : decode cb_Cl_ask 6 = .ok (.getfield 35, 3) := by decide +kernel
theorem d_Cl_ask_9 : decode cb_Cl_ask 9 = .ok (.ifCond .eq 7, 3) := by decide +kernel
theorem d_Cl_ask_12 : decode cb_Cl_ask 12 = .ok (.iconst 3, 1) := by decide +kernel
theorem d_Cl_ask_13 : decode cb_Cl_ask 13 = .ok (.goto 4, 3) := by decide +kernel
theorem d_Cl_ask_16 : decode cb_Cl_ask 16 = .ok (.iconst 1, 1) := by decide +kernel
theorem d_Cl_ask_17 : decode cb_Cl_ask 17 = .ok (.aload_n 0, 1) := by decide +kernel
theorem d_Cl_ask_18 : decode cb_Cl_ask 18 = .ok (.getfield 31, 3) := by decide +kernel
theorem d_Cl_ask_21 : decode cb_Cl_ask 21 = .ok (.aload_n 1, 1) := by decide +kernel
theorem d_Cl_ask_22 : decode cb_Cl_ask 22 = .ok (.getfield 39, 3) := by decide +kernel
theorem d_Cl_ask_25 : decode cb_Cl_ask 25 = .ok (.invokevirtual 42, 3) := by decide +kernel
theorem d_Cl_ask_28 : decode cb_Cl_ask 28 = .ok (.aload_n 1, 1) := by decide +kernel
theorem d_Cl_ask_29 : decode cb_Cl_ask 29 = .ok (.invokevirtual 46, 3) := by decide +kernel
theorem d_Cl_ask_32 : decode cb_Cl_ask 32 = .ok (.ifCond .eq 13, 3) := by decide +kernel
theorem d_Cl_ask_35 : decode cb_Cl_ask 35 = .ok (.aload_n 0, 1) := by decide +kernel
theorem d_Cl_ask_36 : decode cb_Cl_ask 36 = .ok (.getfield 27, 3) := by decide +kernel
theorem d_Cl_ask_39 : decode cb_Cl_ask 39 = .ok (.bipush 6, 2) := by decide +kernel
theorem d_Cl_ask_41 : decode cb_Cl_ask 41 = .ok (.iconst 0, 1) := by decide +kernel
theorem d_Cl_ask_42 : decode cb_Cl_ask 42 = .ok (.invokevirtual 50, 3) := by decide +kernel
theorem d_Cl_ask_45 : decode cb_Cl_ask 45 = .ok (.aload_n 0, 1) := by decide +kernel
theorem d_Cl_ask_46 : decode cb_Cl_ask 46 = .ok (.getfield 27, 3) := by decide +kernel
theorem d_Cl_ask_49 : decode cb_Cl_ask 49 = .ok (.aload_n 1, 1) := by decide +kernel
theorem d_Cl_ask_50 : decode cb_Cl_ask 50 = .ok (.getfield 54, 3) := by decide +kernel
theorem d_Cl_ask_53 : decode cb_Cl_ask 53 = .ok (.invokestatic 57, 3) := by decide +kernel
theorem d_Cl_ask_56 : decode cb_Cl_ask 56 = .ok (.invokevirtual 61, 3) := by decide +kernel
theorem d_Cl_ask_59 : decode cb_Cl_ask 59 = .ok (.aload_n 1, 1) := by decide +kernel
theorem d_Cl_ask_60 : decode cb_Cl_ask 60 = .ok (.getfield 54, 3) := by decide +kernel
theorem d_Cl_ask_63 : decode cb_Cl_ask 63 = .ok (.invokestatic 65, 3) := by decide +kernel
theorem d_Cl_ask_66 : decode cb_Cl_ask 66 = .ok (.astore_n 2, 1) := by decide +kernel
theorem d_Cl_ask_67 : decode cb_Cl_ask 67 = .ok (.aload_n 2, 1) := by decide +kernel
theorem d_Cl_ask_68 : decode cb_Cl_ask 68 = .ok (.invokevirtual 68, 3) := by decide +kernel
theorem d_Cl_ask_71 : decode cb_Cl_ask 71 = .ok (.ifCond .ne 11, 3) := by decide +kernel
theorem d_Cl_ask_74 : decode cb_Cl_ask 74 = .ok (.aload_n 0, 1) := by decide +kernel
theorem d_Cl_ask_75 : decode cb_Cl_ask 75 = .ok (.getfield 27, 3) := by decide +kernel
theorem d_Cl_ask_78 : decode cb_Cl_ask 78 = .ok (.aload_n 2, 1) := by decide +kernel
theorem d_Cl_ask_79 : decode cb_Cl_ask 79 = .ok (.invokevirtual 61, 3) := by decide +kernel
theorem d_Cl_ask_82 : decode cb_Cl_ask 82 = .ok (.aload_n 1, 1) := by decide +kernel
theorem d_Cl_ask_83 : decode cb_Cl_ask 83 = .ok (.getfield 35, 3) := by decide +kernel
theorem d_Cl_ask_86 : decode cb_Cl_ask 86 = .ok (.ifCond .eq 56, 3) := by decide +kernel
theorem d_Cl_ask_89 : decode cb_Cl_ask 89 = .ok (.aload_n 1, 1) := by decide +kernel
theorem d_Cl_ask_90 : decode cb_Cl_ask 90 = .ok (.getfield 73, 3) := by decide +kernel
theorem d_Cl_ask_93 : decode cb_Cl_ask 93 = .ok (.invokestatic 76, 3) := by decide +kernel
theorem d_Cl_ask_96 : decode cb_Cl_ask 96 = .ok (.istore_n 3, 1) := by decide +kernel
theorem d_Cl_ask_97 : decode cb_Cl_ask 97 = .ok (.aload_n 0, 1) := by decide +kernel
theorem d_Cl_ask_98 : decode cb_Cl_ask 98 = .ok (.getfield 27, 3) := by decide +kernel
theorem d_Cl_ask_101 : decode cb_Cl_ask 101 = .ok (.bipush 27, 2) := by decide +kernel
theorem d_Cl_ask_103 : decode cb_Cl_ask 103 = .ok (.aload_n 1, 1) := by decide +kernel
theorem d_Cl_ask_104 : decode cb_Cl_ask 104 = .ok (.getfield 80, 3) := by decide +kernel
theorem d_Cl_ask_107 : decode cb_Cl_ask 107 = .ok (.aload_n 1, 1) := by decide +kernel
theorem d_Cl_ask_108 : decode cb_Cl_ask 108 = .ok (.invokevirtual 83, 3) := by decide +kernel
theorem d_Cl_ask_111 : decode cb_Cl_ask 111 = .ok (.aload_n 1, 1) := by decide +kernel
theorem d_Cl_ask_112 : decode cb_Cl_ask 112 = .ok (.getfield 73, 3) := by decide +kernel
theorem d_Cl_ask_115 : decode cb_Cl_ask 115 = .ok (.invokestatic 86, 3) := by decide +kernel
theorem d_Cl_ask_118 : decode cb_Cl_ask 118 = .ok (.invokevirtual 50, 3) := by decide +kernel
theorem d_Cl_ask_121 : decode cb_Cl_ask 121 = .ok (.aload_n 0, 1) := by decide +kernel
theorem d_Cl_ask_122 : decode cb_Cl_ask 122 = .ok (.getfield 27, 3) := by decide +kernel
theorem d_Cl_ask_125 : decode cb_Cl_ask 125 = .ok (.aload_n 1, 1) := by decide +kernel
theorem d_Cl_ask_126 : decode cb_Cl_ask 126 = .ok (.getfield 90, 3) := by decide +kernel
theorem d_Cl_ask_129 : decode cb_Cl_ask 129 = .ok (.aload_n 1, 1) := by decide +kernel
theorem d_Cl_ask_130 : decode cb_Cl_ask 130 = .ok (.getfield 80, 3) := by decide +kernel
theorem d_Cl_ask_133 : decode cb_Cl_ask 133 = .ok (.iload_n 3, 1) := by decide +kernel
theorem d_Cl_ask_134 : decode cb_Cl_ask 134 = .ok (.imul, 1) := by decide +kernel
theorem d_Cl_ask_135 : decode cb_Cl_ask 135 = .ok (.iload_n 3, 1) := by decide +kernel
theorem d_Cl_ask_136 : decode cb_Cl_ask 136 = .ok (.invokevirtual 94, 3) := by decide +kernel
theorem d_Cl_ask_139 : decode cb_Cl_ask 139 = .ok (.goto 24, 3) := by decide +kernel
theorem d_Cl_ask_142 : decode cb_Cl_ask 142 = .ok (.aload_n 0, 1) := by decide +kernel
theorem d_Cl_ask_143 : decode cb_Cl_ask 143 = .ok (.getfield 27, 3) := by decide +kernel
theorem d_Cl_ask_146 : decode cb_Cl_ask 146 = .ok (.bipush 23, 2) := by decide +kernel
theorem d_Cl_ask_148 : decode cb_Cl_ask 148 = .ok (.aload_n 1, 1) := by decide +kernel
theorem d_Cl_ask_149 : decode cb_Cl_ask 149 = .ok (.getfield 80, 3) := by decide +kernel
theorem d_Cl_ask_152 : decode cb_Cl_ask 152 = .ok (.iconst 0, 1) := by decide +kernel
theorem d_Cl_ask_153 : decode cb_Cl_ask 153 = .ok (.aload_n 1, 1) := by decide +kernel
theorem d_Cl_ask_154 : decode cb_Cl_ask 154 = .ok (.getfield 73, 3) := by decide +kernel
theorem d_Cl_ask_157 : decode cb_Cl_ask 157 = .ok (.invokestatic 86, 3) := by decide +kernel
theorem d_Cl_ask_160 : decode cb_Cl_ask 160 = .ok (.invokevirtual 50, 3) := by decide +kernel
theorem d_Cl_ask_163 : decode cb_Cl_ask 163 = .ok (.aload_n 1, 1) := by decide +kernel
theorem d_Cl_ask_164 : decode cb_Cl_ask 164 = .ok (.iconst 1, 1) := by decide +kernel
theorem d_Cl_ask_165 : decode cb_Cl_ask 165 = .ok (.putfield 98, 3) := by decide +kernel
theorem d_Cl_ask_168 : decode cb_Cl_ask 168 = .ok (.aload_n 1, 1) := by decide +kernel
theorem d_Cl_ask_169 : decode cb_Cl_ask 169 = .ok (.getfield 101, 3) := by decide +kernel
theorem d_Cl_ask_172 : decode cb_Cl_ask 172 = .ok (.aload_n 0, 1) := by decide +kernel
theorem d_Cl_ask_173 : decode cb_Cl_ask 173 = .ok (.getfield 31, 3) := by decide +kernel
theorem d_Cl_ask_176 : decode cb_Cl_ask 176 = .ok (.aload_n 0, 1) := by decide +kernel
theorem d_Cl_ask_177 : decode cb_Cl_ask 177 = .ok (.getfield 27, 3) := by decide +kernel
theorem d_Cl_ask_180 : decode cb_Cl_ask 180 = .ok (.getfield 105, 3) := by decide +kernel
theorem d_Cl_ask_183 : decode cb_Cl_ask 183 = .ok (.invokevirtual 108, 3) := by decide +kernel
theorem d_Cl_ask_186 : decode cb_Cl_ask 186 = .ok (.aload_n 0, 1) := by decide +kernel
theorem d_Cl_ask_187 : decode cb_Cl_ask 187 = .ok (.aload_n 0, 1) := by decide +kernel
theorem d_Cl_ask_188 : decode cb_Cl_ask 188 = .ok (.getfield 31, 3) := by decide +kernel
theorem d_Cl_ask_191 : decode cb_Cl_ask 191 = .ok (.invokestatic 114, 3) := by decide +kernel
theorem d_Cl_ask_194 : decode cb_Cl_ask 194 = .ok (.putfield 31, 3) := by decide +kernel
theorem d_Cl_ask_197 : decode cb_Cl_ask 197 = .ok (.aload_n 0, 1) := by decide +kernel
theorem d_Cl_ask_198 : decode cb_Cl_ask 198 = .ok (.getfield 20, 3) := by decide +kernel
theorem d_Cl_ask_201 : decode cb_Cl_ask 201 = .ok (.aload_n 0, 1) := by decide +kernel
theorem d_Cl_ask_202 : decode cb_Cl_ask 202 = .ok (.getfield 27, 3) := by decide +kernel
theorem d_Cl_ask_205 : decode cb_Cl_ask 205 = .ok (.getfield 105, 3) := by decide +kernel
theorem d_Cl_ask_208 : decode cb_Cl_ask 208 = .ok (.iconst 1, 1) := by decide +kernel
theorem d_Cl_ask_209 : decode cb_Cl_ask 209 = .ok (.invokevirtual 117, 3) := by decide +kernel
theorem d_Cl_ask_212 : decode cb_Cl_ask 212 = .ok (.return_, 1) := by decide +kernel
theorem d_Ob_get_0 : decode cb_Ob_get 0 = .ok (.iload_n 1, 1) := by decide +kernel
theorem d_Ob_get_1 : decode cb_Ob_get 1 = .ok (.iload_n 2, 1) := by decide +kernel
theorem d_Ob_get_2 : decode cb_Ob_get 2 = .ok (.iload_n 3, 1) := by decide +kernel
theorem d_Ob_get_3 : decode cb_Ob_get 3 = .ok (.invokestatic 43, 3) := by decide +kernel
theorem d_Ob_get_6 : decode cb_Ob_get 6 = .ok (.ifCond .ne 5, 3) := by decide +kernel
theorem d_Ob_get_9 : decode cb_Ob_get 9 = .ok (.iconst (-1), 1) := by decide +kernel
theorem d_Ob_get_10 : decode cb_Ob_get 10 = .ok (.ireturn, 1) := by decide +kernel
theorem d_Ob_get_11 : decode cb_Ob_get 11 = .ok (.aload_n 0, 1) := by decide +kernel
theorem d_Ob_get_12 : decode cb_Ob_get 12 = .ok (.getfield 21, 3) := by decide +kernel
theorem d_Ob_get_15 : decode cb_Ob_get 15 = .ok (.getfield 47, 3) := by decide +kernel
theorem d_Ob_get_18 : decode cb_Ob_get 18 = .ok (.iload_n 1, 1) := by decide +kernel
theorem d_Ob_get_19 : decode cb_Ob_get 19 = .ok (.aaload, 1) := by decide +kernel
theorem d_Ob_get_20 : decode cb_Ob_get 20 = .ok (.astore 5, 2) := by decide +kernel
theorem d_Ob_get_22 : decode cb_Ob_get 22 = .ok (.aload 5, 2) := by decide +kernel
theorem d_Ob_get_24 : decode cb_Ob_get 24 = .ok (.getfield 51, 3) := by decide +kernel
theorem d_Ob_get_27 : decode cb_Ob_get 27 = .ok (.ifCond .eq 6, 3) := by decide +kernel
theorem d_Ob_get_30 : decode cb_Ob_get 30 = .ok (.bipush (-2), 2) := by decide +kernel
theorem d_Ob_get_32 : decode cb_Ob_get 32 = .ok (.ireturn, 1) := by decide +kernel
theorem d_Ob_get_33 : decode cb_Ob_get 33 = .ok (.aload 5, 2) := by decide +kernel
theorem d_Ob_get_35 : decode cb_Ob_get 35 = .ok (.iload_n 2, 1) := by decide +kernel
theorem d_Ob_get_36 : decode cb_Ob_get 36 = .ok (.iload_n 3, 1) := by decide +kernel
theorem d_Ob_get_37 : decode cb_Ob_get 37 = .ok (.iconst 0, 1) := by decide +kernel
theorem d_Ob_get_38 : decode cb_Ob_get 38 = .ok (.iload 4, 2) := by decide +kernel
theorem d_Ob_get_40 : decode cb_Ob_get 40 = .ok (.invokevirtual 56, 3) := by decide +kernel
theorem d_Ob_get_43 : decode cb_Ob_get 43 = .ok (.aload_n 0, 1) := by decide +kernel
theorem d_Ob_get_44 : decode cb_Ob_get 44 = .ok (.getfield 21, 3) := by decide +kernel
theorem d_Ob_get_47 : decode cb_Ob_get 47 = .ok (.aload 5, 2) := by decide +kernel
theorem d_Ob_get_49 : decode cb_Ob_get 49 = .ok (.invokevirtual 60, 3) := by decide +kernel
theorem d_Ob_get_52 : decode cb_Ob_get 52 = .ok (.aload 5, 2) := by decide +kernel
theorem d_Ob_get_54 : decode cb_Ob_get 54 = .ok (.getfield 64, 3) := by decide +kernel
theorem d_Ob_get_57 : decode cb_Ob_get 57 = .ok (.ireturn, 1) := by decide +kernel
