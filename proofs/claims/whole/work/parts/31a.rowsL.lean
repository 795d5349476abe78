/-! Rows of the law's calls: decoding. -/
theorem dL_addParcel_0 : decode cL_addParcel 0 = .ok (.aload_n 3, 1) := by decide +kernel
theorem dL_addParcel_1 : decode cL_addParcel 1 = .ok (.iconst 0, 1) := by decide +kernel
theorem dL_addParcel_2 : decode cL_addParcel 2 = .ok (.aload_n 0, 1) := by decide +kernel
theorem dL_addParcel_3 : decode cL_addParcel 3 = .ok (.iload_n 1, 1) := by decide +kernel
theorem dL_addParcel_4 : decode cL_addParcel 4 = .ok (.iload_n 2, 1) := by decide +kernel
theorem dL_addParcel_5 : decode cL_addParcel 5 = .ok (.invokevirtual 7, 3) := by decide +kernel
theorem dL_addParcel_8 : decode cL_addParcel 8 = .ok (.i2l, 1) := by decide +kernel
theorem dL_addParcel_9 : decode cL_addParcel 9 = .ok (.lastore, 1) := by decide +kernel
theorem dL_addParcel_10 : decode cL_addParcel 10 = .ok (.goto 11, 3) := by decide +kernel
theorem dL_addParcel_13 : decode cL_addParcel 13 = .ok (.astore 4, 2) := by decide +kernel
theorem dL_addParcel_15 : decode cL_addParcel 15 = .ok (.iconst 1, 1) := by decide +kernel
theorem dL_addParcel_16 : decode cL_addParcel 16 = .ok (.ireturn, 1) := by decide +kernel
theorem dL_addParcel_17 : decode cL_addParcel 17 = .ok (.astore 4, 2) := by decide +kernel
theorem dL_addParcel_19 : decode cL_addParcel 19 = .ok (.iconst 2, 1) := by decide +kernel
theorem dL_addParcel_20 : decode cL_addParcel 20 = .ok (.ireturn, 1) := by decide +kernel
theorem dL_addParcel_21 : decode cL_addParcel 21 = .ok (.iconst 0, 1) := by decide +kernel
theorem dL_addParcel_22 : decode cL_addParcel 22 = .ok (.ireturn, 1) := by decide +kernel
theorem dL_border_0 : decode cL_border 0 = .ok (.aload 4, 2) := by decide +kernel
theorem dL_border_2 : decode cL_border 2 = .ok (.iconst 0, 1) := by decide +kernel
theorem dL_border_3 : decode cL_border 3 = .ok (.aload_n 0, 1) := by decide +kernel
theorem dL_border_4 : decode cL_border 4 = .ok (.iload_n 1, 1) := by decide +kernel
theorem dL_border_5 : decode cL_border 5 = .ok (.iload_n 2, 1) := by decide +kernel
theorem dL_border_6 : decode cL_border 6 = .ok (.iload_n 3, 1) := by decide +kernel
theorem dL_border_7 : decode cL_border 7 = .ok (.invokevirtual 17, 3) := by decide +kernel
theorem dL_border_10 : decode cL_border 10 = .ok (.ifCond .eq 7, 3) := by decide +kernel
theorem dL_border_13 : decode cL_border 13 = .ok (.lconst 1, 1) := by decide +kernel
theorem dL_border_14 : decode cL_border 14 = .ok (.goto 4, 3) := by decide +kernel
theorem dL_border_17 : decode cL_border 17 = .ok (.lconst 0, 1) := by decide +kernel
theorem dL_border_18 : decode cL_border 18 = .ok (.lastore, 1) := by decide +kernel
theorem dL_border_19 : decode cL_border 19 = .ok (.goto 15, 3) := by decide +kernel
theorem dL_border_22 : decode cL_border 22 = .ok (.astore 5, 2) := by decide +kernel
theorem dL_border_24 : decode cL_border 24 = .ok (.iconst 1, 1) := by decide +kernel
theorem dL_border_25 : decode cL_border 25 = .ok (.ireturn, 1) := by decide +kernel
theorem dL_border_26 : decode cL_border 26 = .ok (.astore 5, 2) := by decide +kernel
theorem dL_border_28 : decode cL_border 28 = .ok (.iconst 2, 1) := by decide +kernel
theorem dL_border_29 : decode cL_border 29 = .ok (.ireturn, 1) := by decide +kernel
theorem dL_border_30 : decode cL_border 30 = .ok (.astore 5, 2) := by decide +kernel
theorem dL_border_32 : decode cL_border 32 = .ok (.iconst 3, 1) := by decide +kernel
theorem dL_border_33 : decode cL_border 33 = .ok (.ireturn, 1) := by decide +kernel
theorem dL_border_34 : decode cL_border 34 = .ok (.iconst 0, 1) := by decide +kernel
theorem dL_border_35 : decode cL_border 35 = .ok (.ireturn, 1) := by decide +kernel
theorem dL_split_0 : decode cL_split 0 = .ok (.aload 4, 2) := by decide +kernel
theorem dL_split_2 : decode cL_split 2 = .ok (.iconst 0, 1) := by decide +kernel
theorem dL_split_3 : decode cL_split 3 = .ok (.aload_n 0, 1) := by decide +kernel
theorem dL_split_4 : decode cL_split 4 = .ok (.iload_n 1, 1) := by decide +kernel
theorem dL_split_5 : decode cL_split 5 = .ok (.iload_n 2, 1) := by decide +kernel
theorem dL_split_6 : decode cL_split 6 = .ok (.iload_n 3, 1) := by decide +kernel
theorem dL_split_7 : decode cL_split 7 = .ok (.invokevirtual 23, 3) := by decide +kernel
theorem dL_split_10 : decode cL_split 10 = .ok (.i2l, 1) := by decide +kernel
theorem dL_split_11 : decode cL_split 11 = .ok (.lastore, 1) := by decide +kernel
theorem dL_split_12 : decode cL_split 12 = .ok (.goto 11, 3) := by decide +kernel
theorem dL_split_15 : decode cL_split 15 = .ok (.astore 5, 2) := by decide +kernel
theorem dL_split_17 : decode cL_split 17 = .ok (.iconst 1, 1) := by decide +kernel
theorem dL_split_18 : decode cL_split 18 = .ok (.ireturn, 1) := by decide +kernel
theorem dL_split_19 : decode cL_split 19 = .ok (.astore 5, 2) := by decide +kernel
theorem dL_split_21 : decode cL_split 21 = .ok (.iconst 2, 1) := by decide +kernel
theorem dL_split_22 : decode cL_split 22 = .ok (.ireturn, 1) := by decide +kernel
theorem dL_split_23 : decode cL_split 23 = .ok (.iconst 0, 1) := by decide +kernel
theorem dL_split_24 : decode cL_split 24 = .ok (.ireturn, 1) := by decide +kernel
theorem dL_merge_0 : decode cL_merge 0 = .ok (.aload_n 3, 1) := by decide +kernel
theorem dL_merge_1 : decode cL_merge 1 = .ok (.iconst 0, 1) := by decide +kernel
theorem dL_merge_2 : decode cL_merge 2 = .ok (.aload_n 0, 1) := by decide +kernel
theorem dL_merge_3 : decode cL_merge 3 = .ok (.iload_n 1, 1) := by decide +kernel
theorem dL_merge_4 : decode cL_merge 4 = .ok (.iload_n 2, 1) := by decide +kernel
theorem dL_merge_5 : decode cL_merge 5 = .ok (.invokevirtual 29, 3) := by decide +kernel
theorem dL_merge_8 : decode cL_merge 8 = .ok (.i2l, 1) := by decide +kernel
theorem dL_merge_9 : decode cL_merge 9 = .ok (.lastore, 1) := by decide +kernel
theorem dL_merge_10 : decode cL_merge 10 = .ok (.goto 15, 3) := by decide +kernel
theorem dL_merge_13 : decode cL_merge 13 = .ok (.astore 4, 2) := by decide +kernel
theorem dL_merge_15 : decode cL_merge 15 = .ok (.iconst 1, 1) := by decide +kernel
theorem dL_merge_16 : decode cL_merge 16 = .ok (.ireturn, 1) := by decide +kernel
theorem dL_merge_17 : decode cL_merge 17 = .ok (.astore 4, 2) := by decide +kernel
theorem dL_merge_19 : decode cL_merge 19 = .ok (.iconst 2, 1) := by decide +kernel
theorem dL_merge_20 : decode cL_merge 20 = .ok (.ireturn, 1) := by decide +kernel
theorem dL_merge_21 : decode cL_merge 21 = .ok (.astore 4, 2) := by decide +kernel
theorem dL_merge_23 : decode cL_merge 23 = .ok (.iconst 3, 1) := by decide +kernel
theorem dL_merge_24 : decode cL_merge 24 = .ok (.ireturn, 1) := by decide +kernel
theorem dL_merge_25 : decode cL_merge 25 = .ok (.iconst 0, 1) := by decide +kernel
theorem dL_merge_26 : decode cL_merge 26 = .ok (.ireturn, 1) := by decide +kernel
theorem dL_parcel_0 : decode cL_parcel 0 = .ok (.aload_n 3, 1) := by decide +kernel
theorem dL_parcel_1 : decode cL_parcel 1 = .ok (.iconst 0, 1) := by decide +kernel
theorem dL_parcel_2 : decode cL_parcel 2 = .ok (.aload_n 0, 1) := by decide +kernel
theorem dL_parcel_3 : decode cL_parcel 3 = .ok (.iload_n 1, 1) := by decide +kernel
theorem dL_parcel_4 : decode cL_parcel 4 = .ok (.iload_n 2, 1) := by decide +kernel
theorem dL_parcel_5 : decode cL_parcel 5 = .ok (.invokevirtual 32, 3) := by decide +kernel
theorem dL_parcel_8 : decode cL_parcel 8 = .ok (.i2l, 1) := by decide +kernel
theorem dL_parcel_9 : decode cL_parcel 9 = .ok (.lastore, 1) := by decide +kernel
theorem dL_parcel_10 : decode cL_parcel 10 = .ok (.goto 11, 3) := by decide +kernel
theorem dL_parcel_13 : decode cL_parcel 13 = .ok (.astore 4, 2) := by decide +kernel
theorem dL_parcel_15 : decode cL_parcel 15 = .ok (.iconst 1, 1) := by decide +kernel
theorem dL_parcel_16 : decode cL_parcel 16 = .ok (.ireturn, 1) := by decide +kernel
theorem dL_parcel_17 : decode cL_parcel 17 = .ok (.astore 4, 2) := by decide +kernel
theorem dL_parcel_19 : decode cL_parcel 19 = .ok (.iconst 2, 1) := by decide +kernel
theorem dL_parcel_20 : decode cL_parcel 20 = .ok (.ireturn, 1) := by decide +kernel
theorem dL_parcel_21 : decode cL_parcel 21 = .ok (.iconst 0, 1) := by decide +kernel
theorem dL_parcel_22 : decode cL_parcel 22 = .ok (.ireturn, 1) := by decide +kernel
theorem dL_origins_0 : decode cL_origins 0 = .ok (.aload_n 2, 1) := by decide +kernel
theorem dL_origins_1 : decode cL_origins 1 = .ok (.iconst 0, 1) := by decide +kernel
theorem dL_origins_2 : decode cL_origins 2 = .ok (.aload_n 0, 1) := by decide +kernel
theorem dL_origins_3 : decode cL_origins 3 = .ok (.iload_n 1, 1) := by decide +kernel
theorem dL_origins_4 : decode cL_origins 4 = .ok (.invokevirtual 35, 3) := by decide +kernel
theorem dL_origins_7 : decode cL_origins 7 = .ok (.i2l, 1) := by decide +kernel
theorem dL_origins_8 : decode cL_origins 8 = .ok (.lastore, 1) := by decide +kernel
theorem dL_origins_9 : decode cL_origins 9 = .ok (.goto 6, 3) := by decide +kernel
theorem dL_origins_12 : decode cL_origins 12 = .ok (.astore_n 3, 1) := by decide +kernel
theorem dL_origins_13 : decode cL_origins 13 = .ok (.iconst 1, 1) := by decide +kernel
theorem dL_origins_14 : decode cL_origins 14 = .ok (.ireturn, 1) := by decide +kernel
theorem dL_origins_15 : decode cL_origins 15 = .ok (.iconst 0, 1) := by decide +kernel
theorem dL_origins_16 : decode cL_origins 16 = .ok (.ireturn, 1) := by decide +kernel
theorem dL_remains_0 : decode cL_remains 0 = .ok (.aload_n 2, 1) := by decide +kernel
theorem dL_remains_1 : decode cL_remains 1 = .ok (.iconst 0, 1) := by decide +kernel
theorem dL_remains_2 : decode cL_remains 2 = .ok (.aload_n 0, 1) := by decide +kernel
theorem dL_remains_3 : decode cL_remains 3 = .ok (.iload_n 1, 1) := by decide +kernel
theorem dL_remains_4 : decode cL_remains 4 = .ok (.invokevirtual 39, 3) := by decide +kernel
theorem dL_remains_7 : decode cL_remains 7 = .ok (.i2l, 1) := by decide +kernel
theorem dL_remains_8 : decode cL_remains 8 = .ok (.lastore, 1) := by decide +kernel
theorem dL_remains_9 : decode cL_remains 9 = .ok (.goto 6, 3) := by decide +kernel
theorem dL_remains_12 : decode cL_remains 12 = .ok (.astore_n 3, 1) := by decide +kernel
theorem dL_remains_13 : decode cL_remains 13 = .ok (.iconst 1, 1) := by decide +kernel
theorem dL_remains_14 : decode cL_remains 14 = .ok (.ireturn, 1) := by decide +kernel
theorem dL_remains_15 : decode cL_remains 15 = .ok (.iconst 0, 1) := by decide +kernel
theorem dL_remains_16 : decode cL_remains 16 = .ok (.ireturn, 1) := by decide +kernel
theorem dL_borders_0 : decode cL_borders 0 = .ok (.aload_n 3, 1) := by decide +kernel
theorem dL_borders_1 : decode cL_borders 1 = .ok (.iconst 0, 1) := by decide +kernel
theorem dL_borders_2 : decode cL_borders 2 = .ok (.aload_n 0, 1) := by decide +kernel
theorem dL_borders_3 : decode cL_borders 3 = .ok (.iload_n 1, 1) := by decide +kernel
theorem dL_borders_4 : decode cL_borders 4 = .ok (.iload_n 2, 1) := by decide +kernel
theorem dL_borders_5 : decode cL_borders 5 = .ok (.invokevirtual 42, 3) := by decide +kernel
theorem dL_borders_8 : decode cL_borders 8 = .ok (.i2l, 1) := by decide +kernel
theorem dL_borders_9 : decode cL_borders 9 = .ok (.lastore, 1) := by decide +kernel
theorem dL_borders_10 : decode cL_borders 10 = .ok (.goto 15, 3) := by decide +kernel
theorem dL_borders_13 : decode cL_borders 13 = .ok (.astore 4, 2) := by decide +kernel
theorem dL_borders_15 : decode cL_borders 15 = .ok (.iconst 1, 1) := by decide +kernel
theorem dL_borders_16 : decode cL_borders 16 = .ok (.ireturn, 1) := by decide +kernel
theorem dL_borders_17 : decode cL_borders 17 = .ok (.astore 4, 2) := by decide +kernel
theorem dL_borders_19 : decode cL_borders 19 = .ok (.iconst 2, 1) := by decide +kernel
theorem dL_borders_20 : decode cL_borders 20 = .ok (.ireturn, 1) := by decide +kernel
theorem dL_borders_21 : decode cL_borders 21 = .ok (.astore 4, 2) := by decide +kernel
theorem dL_borders_23 : decode cL_borders 23 = .ok (.iconst 3, 1) := by decide +kernel
theorem dL_borders_24 : decode cL_borders 24 = .ok (.ireturn, 1) := by decide +kernel
theorem dL_borders_25 : decode cL_borders 25 = .ok (.iconst 0, 1) := by decide +kernel
theorem dL_borders_26 : decode cL_borders 26 = .ok (.ireturn, 1) := by decide +kernel
theorem dL_partners_0 : decode cL_partners 0 = .ok (.aload_n 2, 1) := by decide +kernel
theorem dL_partners_1 : decode cL_partners 1 = .ok (.iconst 0, 1) := by decide +kernel
theorem dL_partners_2 : decode cL_partners 2 = .ok (.aload_n 0, 1) := by decide +kernel
theorem dL_partners_3 : decode cL_partners 3 = .ok (.iload_n 1, 1) := by decide +kernel
theorem dL_partners_4 : decode cL_partners 4 = .ok (.invokevirtual 47, 3) := by decide +kernel
theorem dL_partners_7 : decode cL_partners 7 = .ok (.i2l, 1) := by decide +kernel
theorem dL_partners_8 : decode cL_partners 8 = .ok (.lastore, 1) := by decide +kernel
theorem dL_partners_9 : decode cL_partners 9 = .ok (.goto 6, 3) := by decide +kernel
theorem dL_partners_12 : decode cL_partners 12 = .ok (.astore_n 3, 1) := by decide +kernel
theorem dL_partners_13 : decode cL_partners 13 = .ok (.iconst 1, 1) := by decide +kernel
theorem dL_partners_14 : decode cL_partners 14 = .ok (.ireturn, 1) := by decide +kernel
theorem dL_partners_15 : decode cL_partners 15 = .ok (.iconst 0, 1) := by decide +kernel
theorem dL_partners_16 : decode cL_partners 16 = .ok (.ireturn, 1) := by decide +kernel
theorem dL_reason_0 : decode cL_reason 0 = .ok (.aload_n 1, 1) := by decide +kernel
theorem dL_reason_1 : decode cL_reason 1 = .ok (.iconst 0, 1) := by decide +kernel
theorem dL_reason_2 : decode cL_reason 2 = .ok (.aload_n 0, 1) := by decide +kernel
theorem dL_reason_3 : decode cL_reason 3 = .ok (.invokevirtual 50, 3) := by decide +kernel
theorem dL_reason_6 : decode cL_reason 6 = .ok (.i2l, 1) := by decide +kernel
theorem dL_reason_7 : decode cL_reason 7 = .ok (.lastore, 1) := by decide +kernel
theorem dL_reason_8 : decode cL_reason 8 = .ok (.goto 6, 3) := by decide +kernel
theorem dL_reason_11 : decode cL_reason 11 = .ok (.astore_n 2, 1) := by decide +kernel
theorem dL_reason_12 : decode cL_reason 12 = .ok (.iconst 1, 1) := by decide +kernel
theorem dL_reason_13 : decode cL_reason 13 = .ok (.ireturn, 1) := by decide +kernel
theorem dL_reason_14 : decode cL_reason 14 = .ok (.iconst 0, 1) := by decide +kernel
theorem dL_reason_15 : decode cL_reason 15 = .ok (.ireturn, 1) := by decide +kernel
theorem dL_deed_0 : decode cL_deed 0 = .ok (.aload 5, 2) := by decide +kernel
theorem dL_deed_2 : decode cL_deed 2 = .ok (.iconst 0, 1) := by decide +kernel
theorem dL_deed_3 : decode cL_deed 3 = .ok (.aload_n 0, 1) := by decide +kernel
theorem dL_deed_4 : decode cL_deed 4 = .ok (.iload_n 1, 1) := by decide +kernel
theorem dL_deed_5 : decode cL_deed 5 = .ok (.iload_n 2, 1) := by decide +kernel
theorem dL_deed_6 : decode cL_deed 6 = .ok (.iload_n 3, 1) := by decide +kernel
theorem dL_deed_7 : decode cL_deed 7 = .ok (.iload 4, 2) := by decide +kernel
theorem dL_deed_9 : decode cL_deed 9 = .ok (.invokevirtual 54, 3) := by decide +kernel
theorem dL_deed_12 : decode cL_deed 12 = .ok (.i2l, 1) := by decide +kernel
theorem dL_deed_13 : decode cL_deed 13 = .ok (.lastore, 1) := by decide +kernel
theorem dL_deed_14 : decode cL_deed 14 = .ok (.goto 15, 3) := by decide +kernel
theorem dL_deed_17 : decode cL_deed 17 = .ok (.astore 6, 2) := by decide +kernel
theorem dL_deed_19 : decode cL_deed 19 = .ok (.iconst 1, 1) := by decide +kernel
theorem dL_deed_20 : decode cL_deed 20 = .ok (.ireturn, 1) := by decide +kernel
theorem dL_deed_21 : decode cL_deed 21 = .ok (.astore 6, 2) := by decide +kernel
theorem dL_deed_23 : decode cL_deed 23 = .ok (.iconst 2, 1) := by decide +kernel
theorem dL_deed_24 : decode cL_deed 24 = .ok (.ireturn, 1) := by decide +kernel
theorem dL_deed_25 : decode cL_deed 25 = .ok (.astore 6, 2) := by decide +kernel
theorem dL_deed_27 : decode cL_deed 27 = .ok (.iconst 3, 1) := by decide +kernel
theorem dL_deed_28 : decode cL_deed 28 = .ok (.ireturn, 1) := by decide +kernel
theorem dL_deed_29 : decode cL_deed 29 = .ok (.iconst 0, 1) := by decide +kernel
theorem dL_deed_30 : decode cL_deed 30 = .ok (.ireturn, 1) := by decide +kernel
theorem dL_deedOf_0 : decode cL_deedOf 0 = .ok (.aload 4, 2) := by decide +kernel
theorem dL_deedOf_2 : decode cL_deedOf 2 = .ok (.iconst 0, 1) := by decide +kernel
theorem dL_deedOf_3 : decode cL_deedOf 3 = .ok (.aload_n 0, 1) := by decide +kernel
theorem dL_deedOf_4 : decode cL_deedOf 4 = .ok (.iload_n 1, 1) := by decide +kernel
theorem dL_deedOf_5 : decode cL_deedOf 5 = .ok (.iload_n 2, 1) := by decide +kernel
theorem dL_deedOf_6 : decode cL_deedOf 6 = .ok (.iload_n 3, 1) := by decide +kernel
theorem dL_deedOf_7 : decode cL_deedOf 7 = .ok (.invokevirtual 58, 3) := by decide +kernel
theorem dL_deedOf_10 : decode cL_deedOf 10 = .ok (.i2l, 1) := by decide +kernel
theorem dL_deedOf_11 : decode cL_deedOf 11 = .ok (.lastore, 1) := by decide +kernel
theorem dL_deedOf_12 : decode cL_deedOf 12 = .ok (.goto 11, 3) := by decide +kernel
theorem dL_deedOf_15 : decode cL_deedOf 15 = .ok (.astore 5, 2) := by decide +kernel
theorem dL_deedOf_17 : decode cL_deedOf 17 = .ok (.iconst 1, 1) := by decide +kernel
theorem dL_deedOf_18 : decode cL_deedOf 18 = .ok (.ireturn, 1) := by decide +kernel
theorem dL_deedOf_19 : decode cL_deedOf 19 = .ok (.astore 5, 2) := by decide +kernel
theorem dL_deedOf_21 : decode cL_deedOf 21 = .ok (.iconst 2, 1) := by decide +kernel
theorem dL_deedOf_22 : decode cL_deedOf 22 = .ok (.ireturn, 1) := by decide +kernel
theorem dL_deedOf_23 : decode cL_deedOf 23 = .ok (.iconst 0, 1) := by decide +kernel
theorem dL_deedOf_24 : decode cL_deedOf 24 = .ok (.ireturn, 1) := by decide +kernel
theorem dL_holder_0 : decode cL_holder 0 = .ok (.aload_n 3, 1) := by decide +kernel
theorem dL_holder_1 : decode cL_holder 1 = .ok (.iconst 0, 1) := by decide +kernel
theorem dL_holder_2 : decode cL_holder 2 = .ok (.aload_n 0, 1) := by decide +kernel
theorem dL_holder_3 : decode cL_holder 3 = .ok (.iload_n 1, 1) := by decide +kernel
theorem dL_holder_4 : decode cL_holder 4 = .ok (.iload_n 2, 1) := by decide +kernel
theorem dL_holder_5 : decode cL_holder 5 = .ok (.invokevirtual 61, 3) := by decide +kernel
theorem dL_holder_8 : decode cL_holder 8 = .ok (.i2l, 1) := by decide +kernel
theorem dL_holder_9 : decode cL_holder 9 = .ok (.lastore, 1) := by decide +kernel
theorem dL_holder_10 : decode cL_holder 10 = .ok (.goto 11, 3) := by decide +kernel
theorem dL_holder_13 : decode cL_holder 13 = .ok (.astore 4, 2) := by decide +kernel
theorem dL_holder_15 : decode cL_holder 15 = .ok (.iconst 1, 1) := by decide +kernel
theorem dL_holder_16 : decode cL_holder 16 = .ok (.ireturn, 1) := by decide +kernel
theorem dL_holder_17 : decode cL_holder 17 = .ok (.astore 4, 2) := by decide +kernel
theorem dL_holder_19 : decode cL_holder 19 = .ok (.iconst 2, 1) := by decide +kernel
theorem dL_holder_20 : decode cL_holder 20 = .ok (.ireturn, 1) := by decide +kernel
theorem dL_holder_21 : decode cL_holder 21 = .ok (.iconst 0, 1) := by decide +kernel
theorem dL_holder_22 : decode cL_holder 22 = .ok (.ireturn, 1) := by decide +kernel
theorem dL_holdings_0 : decode cL_holdings 0 = .ok (.aload_n 2, 1) := by decide +kernel
theorem dL_holdings_1 : decode cL_holdings 1 = .ok (.iconst 0, 1) := by decide +kernel
theorem dL_holdings_2 : decode cL_holdings 2 = .ok (.aload_n 0, 1) := by decide +kernel
theorem dL_holdings_3 : decode cL_holdings 3 = .ok (.iload_n 1, 1) := by decide +kernel
theorem dL_holdings_4 : decode cL_holdings 4 = .ok (.invokevirtual 64, 3) := by decide +kernel
theorem dL_holdings_7 : decode cL_holdings 7 = .ok (.i2l, 1) := by decide +kernel
theorem dL_holdings_8 : decode cL_holdings 8 = .ok (.lastore, 1) := by decide +kernel
theorem dL_holdings_9 : decode cL_holdings 9 = .ok (.goto 6, 3) := by decide +kernel
theorem dL_holdings_12 : decode cL_holdings 12 = .ok (.astore_n 3, 1) := by decide +kernel
theorem dL_holdings_13 : decode cL_holdings 13 = .ok (.iconst 1, 1) := by decide +kernel
theorem dL_holdings_14 : decode cL_holdings 14 = .ok (.ireturn, 1) := by decide +kernel
theorem dL_holdings_15 : decode cL_holdings 15 = .ok (.iconst 0, 1) := by decide +kernel
theorem dL_holdings_16 : decode cL_holdings 16 = .ok (.ireturn, 1) := by decide +kernel
theorem dL_holders_0 : decode cL_holders 0 = .ok (.aload_n 2, 1) := by decide +kernel
theorem dL_holders_1 : decode cL_holders 1 = .ok (.iconst 0, 1) := by decide +kernel
theorem dL_holders_2 : decode cL_holders 2 = .ok (.aload_n 0, 1) := by decide +kernel
theorem dL_holders_3 : decode cL_holders 3 = .ok (.iload_n 1, 1) := by decide +kernel
theorem dL_holders_4 : decode cL_holders 4 = .ok (.invokevirtual 67, 3) := by decide +kernel
theorem dL_holders_7 : decode cL_holders 7 = .ok (.i2l, 1) := by decide +kernel
theorem dL_holders_8 : decode cL_holders 8 = .ok (.lastore, 1) := by decide +kernel
theorem dL_holders_9 : decode cL_holders 9 = .ok (.goto 6, 3) := by decide +kernel
theorem dL_holders_12 : decode cL_holders 12 = .ok (.astore_n 3, 1) := by decide +kernel
theorem dL_holders_13 : decode cL_holders 13 = .ok (.iconst 1, 1) := by decide +kernel
theorem dL_holders_14 : decode cL_holders 14 = .ok (.ireturn, 1) := by decide +kernel
theorem dL_holders_15 : decode cL_holders 15 = .ok (.iconst 0, 1) := by decide +kernel
theorem dL_holders_16 : decode cL_holders 16 = .ok (.ireturn, 1) := by decide +kernel
theorem dL_needless_0 : decode cL_needless 0 = .ok (.aload_n 2, 1) := by decide +kernel
theorem dL_needless_1 : decode cL_needless 1 = .ok (.iconst 0, 1) := by decide +kernel
theorem dL_needless_2 : decode cL_needless 2 = .ok (.aload_n 0, 1) := by decide +kernel
theorem dL_needless_3 : decode cL_needless 3 = .ok (.iload_n 1, 1) := by decide +kernel
theorem dL_needless_4 : decode cL_needless 4 = .ok (.invokevirtual 70, 3) := by decide +kernel
theorem dL_needless_7 : decode cL_needless 7 = .ok (.i2l, 1) := by decide +kernel
theorem dL_needless_8 : decode cL_needless 8 = .ok (.lastore, 1) := by decide +kernel
theorem dL_needless_9 : decode cL_needless 9 = .ok (.goto 6, 3) := by decide +kernel
theorem dL_needless_12 : decode cL_needless 12 = .ok (.astore_n 3, 1) := by decide +kernel
theorem dL_needless_13 : decode cL_needless 13 = .ok (.iconst 1, 1) := by decide +kernel
theorem dL_needless_14 : decode cL_needless 14 = .ok (.ireturn, 1) := by decide +kernel
theorem dL_needless_15 : decode cL_needless 15 = .ok (.iconst 0, 1) := by decide +kernel
theorem dL_needless_16 : decode cL_needless 16 = .ok (.ireturn, 1) := by decide +kernel
theorem dL_addEasement_0 : decode cL_addEasement 0 = .ok (.aload 4, 2) := by decide +kernel
theorem dL_addEasement_2 : decode cL_addEasement 2 = .ok (.iconst 0, 1) := by decide +kernel
theorem dL_addEasement_3 : decode cL_addEasement 3 = .ok (.aload_n 0, 1) := by decide +kernel
theorem dL_addEasement_4 : decode cL_addEasement 4 = .ok (.iload_n 1, 1) := by decide +kernel
theorem dL_addEasement_5 : decode cL_addEasement 5 = .ok (.iload_n 2, 1) := by decide +kernel
theorem dL_addEasement_6 : decode cL_addEasement 6 = .ok (.iload_n 3, 1) := by decide +kernel
theorem dL_addEasement_7 : decode cL_addEasement 7 = .ok (.invokevirtual 73, 3) := by decide +kernel
theorem dL_addEasement_10 : decode cL_addEasement 10 = .ok (.i2l, 1) := by decide +kernel
theorem dL_addEasement_11 : decode cL_addEasement 11 = .ok (.lastore, 1) := by decide +kernel
theorem dL_addEasement_12 : decode cL_addEasement 12 = .ok (.goto 15, 3) := by decide +kernel
theorem dL_addEasement_15 : decode cL_addEasement 15 = .ok (.astore 5, 2) := by decide +kernel
theorem dL_addEasement_17 : decode cL_addEasement 17 = .ok (.iconst 1, 1) := by decide +kernel
theorem dL_addEasement_18 : decode cL_addEasement 18 = .ok (.ireturn, 1) := by decide +kernel
theorem dL_addEasement_19 : decode cL_addEasement 19 = .ok (.astore 5, 2) := by decide +kernel
theorem dL_addEasement_21 : decode cL_addEasement 21 = .ok (.iconst 2, 1) := by decide +kernel
theorem dL_addEasement_22 : decode cL_addEasement 22 = .ok (.ireturn, 1) := by decide +kernel
theorem dL_addEasement_23 : decode cL_addEasement 23 = .ok (.astore 5, 2) := by decide +kernel
theorem dL_addEasement_25 : decode cL_addEasement 25 = .ok (.iconst 3, 1) := by decide +kernel
theorem dL_addEasement_26 : decode cL_addEasement 26 = .ok (.ireturn, 1) := by decide +kernel
theorem dL_addEasement_27 : decode cL_addEasement 27 = .ok (.iconst 0, 1) := by decide +kernel
theorem dL_addEasement_28 : decode cL_addEasement 28 = .ok (.ireturn, 1) := by decide +kernel
theorem dL_endEasement_0 : decode cL_endEasement 0 = .ok (.aload_n 2, 1) := by decide +kernel
theorem dL_endEasement_1 : decode cL_endEasement 1 = .ok (.iconst 0, 1) := by decide +kernel
theorem dL_endEasement_2 : decode cL_endEasement 2 = .ok (.aload_n 0, 1) := by decide +kernel
theorem dL_endEasement_3 : decode cL_endEasement 3 = .ok (.iload_n 1, 1) := by decide +kernel
theorem dL_endEasement_4 : decode cL_endEasement 4 = .ok (.invokevirtual 76, 3) := by decide +kernel
theorem dL_endEasement_7 : decode cL_endEasement 7 = .ok (.i2l, 1) := by decide +kernel
theorem dL_endEasement_8 : decode cL_endEasement 8 = .ok (.lastore, 1) := by decide +kernel
theorem dL_endEasement_9 : decode cL_endEasement 9 = .ok (.goto 9, 3) := by decide +kernel
theorem dL_endEasement_12 : decode cL_endEasement 12 = .ok (.astore_n 3, 1) := by decide +kernel
theorem dL_endEasement_13 : decode cL_endEasement 13 = .ok (.iconst 1, 1) := by decide +kernel
theorem dL_endEasement_14 : decode cL_endEasement 14 = .ok (.ireturn, 1) := by decide +kernel
theorem dL_endEasement_15 : decode cL_endEasement 15 = .ok (.astore_n 3, 1) := by decide +kernel
theorem dL_endEasement_16 : decode cL_endEasement 16 = .ok (.iconst 2, 1) := by decide +kernel
theorem dL_endEasement_17 : decode cL_endEasement 17 = .ok (.ireturn, 1) := by decide +kernel
theorem dL_endEasement_18 : decode cL_endEasement 18 = .ok (.iconst 0, 1) := by decide +kernel
theorem dL_endEasement_19 : decode cL_endEasement 19 = .ok (.ireturn, 1) := by decide +kernel
theorem dL_easement_0 : decode cL_easement 0 = .ok (.aload_n 3, 1) := by decide +kernel
theorem dL_easement_1 : decode cL_easement 1 = .ok (.iconst 0, 1) := by decide +kernel
theorem dL_easement_2 : decode cL_easement 2 = .ok (.aload_n 0, 1) := by decide +kernel
theorem dL_easement_3 : decode cL_easement 3 = .ok (.iload_n 1, 1) := by decide +kernel
theorem dL_easement_4 : decode cL_easement 4 = .ok (.iload_n 2, 1) := by decide +kernel
theorem dL_easement_5 : decode cL_easement 5 = .ok (.invokevirtual 79, 3) := by decide +kernel
theorem dL_easement_8 : decode cL_easement 8 = .ok (.i2l, 1) := by decide +kernel
theorem dL_easement_9 : decode cL_easement 9 = .ok (.lastore, 1) := by decide +kernel
theorem dL_easement_10 : decode cL_easement 10 = .ok (.goto 11, 3) := by decide +kernel
theorem dL_easement_13 : decode cL_easement 13 = .ok (.astore 4, 2) := by decide +kernel
theorem dL_easement_15 : decode cL_easement 15 = .ok (.iconst 1, 1) := by decide +kernel
theorem dL_easement_16 : decode cL_easement 16 = .ok (.ireturn, 1) := by decide +kernel
theorem dL_easement_17 : decode cL_easement 17 = .ok (.astore 4, 2) := by decide +kernel
theorem dL_easement_19 : decode cL_easement 19 = .ok (.iconst 2, 1) := by decide +kernel
theorem dL_easement_20 : decode cL_easement 20 = .ok (.ireturn, 1) := by decide +kernel
theorem dL_easement_21 : decode cL_easement 21 = .ok (.iconst 0, 1) := by decide +kernel
theorem dL_easement_22 : decode cL_easement 22 = .ok (.ireturn, 1) := by decide +kernel
theorem dL_easements_0 : decode cL_easements 0 = .ok (.aload_n 3, 1) := by decide +kernel
theorem dL_easements_1 : decode cL_easements 1 = .ok (.iconst 0, 1) := by decide +kernel
theorem dL_easements_2 : decode cL_easements 2 = .ok (.aload_n 0, 1) := by decide +kernel
theorem dL_easements_3 : decode cL_easements 3 = .ok (.iload_n 1, 1) := by decide +kernel
theorem dL_easements_4 : decode cL_easements 4 = .ok (.iload_n 2, 1) := by decide +kernel
theorem dL_easements_5 : decode cL_easements 5 = .ok (.invokevirtual 82, 3) := by decide +kernel
theorem dL_easements_8 : decode cL_easements 8 = .ok (.i2l, 1) := by decide +kernel
theorem dL_easements_9 : decode cL_easements 9 = .ok (.lastore, 1) := by decide +kernel
theorem dL_easements_10 : decode cL_easements 10 = .ok (.goto 7, 3) := by decide +kernel
theorem dL_easements_13 : decode cL_easements 13 = .ok (.astore 4, 2) := by decide +kernel
theorem dL_easements_15 : decode cL_easements 15 = .ok (.iconst 1, 1) := by decide +kernel
theorem dL_easements_16 : decode cL_easements 16 = .ok (.ireturn, 1) := by decide +kernel
theorem dL_easements_17 : decode cL_easements 17 = .ok (.iconst 0, 1) := by decide +kernel
theorem dL_easements_18 : decode cL_easements 18 = .ok (.ireturn, 1) := by decide +kernel
theorem dL_access_0 : decode cL_access 0 = .ok (.aload_n 3, 1) := by decide +kernel
theorem dL_access_1 : decode cL_access 1 = .ok (.iconst 0, 1) := by decide +kernel
theorem dL_access_2 : decode cL_access 2 = .ok (.aload_n 0, 1) := by decide +kernel
theorem dL_access_3 : decode cL_access 3 = .ok (.iload_n 1, 1) := by decide +kernel
theorem dL_access_4 : decode cL_access 4 = .ok (.iload_n 2, 1) := by decide +kernel
theorem dL_access_5 : decode cL_access 5 = .ok (.invokevirtual 86, 3) := by decide +kernel
theorem dL_access_8 : decode cL_access 8 = .ok (.i2l, 1) := by decide +kernel
theorem dL_access_9 : decode cL_access 9 = .ok (.lastore, 1) := by decide +kernel
theorem dL_access_10 : decode cL_access 10 = .ok (.goto 11, 3) := by decide +kernel
theorem dL_access_13 : decode cL_access 13 = .ok (.astore 4, 2) := by decide +kernel
theorem dL_access_15 : decode cL_access 15 = .ok (.iconst 1, 1) := by decide +kernel
theorem dL_access_16 : decode cL_access 16 = .ok (.ireturn, 1) := by decide +kernel
theorem dL_access_17 : decode cL_access 17 = .ok (.astore 4, 2) := by decide +kernel
theorem dL_access_19 : decode cL_access 19 = .ok (.iconst 2, 1) := by decide +kernel
theorem dL_access_20 : decode cL_access 20 = .ok (.ireturn, 1) := by decide +kernel
theorem dL_access_21 : decode cL_access 21 = .ok (.iconst 0, 1) := by decide +kernel
theorem dL_access_22 : decode cL_access 22 = .ok (.ireturn, 1) := by decide +kernel
theorem dL_addLien_0 : decode cL_addLien 0 = .ok (.aload 4, 2) := by decide +kernel
theorem dL_addLien_2 : decode cL_addLien 2 = .ok (.iconst 0, 1) := by decide +kernel
theorem dL_addLien_3 : decode cL_addLien 3 = .ok (.aload_n 0, 1) := by decide +kernel
theorem dL_addLien_4 : decode cL_addLien 4 = .ok (.iload_n 1, 1) := by decide +kernel
theorem dL_addLien_5 : decode cL_addLien 5 = .ok (.iload_n 2, 1) := by decide +kernel
theorem dL_addLien_6 : decode cL_addLien 6 = .ok (.iload_n 3, 1) := by decide +kernel
theorem dL_addLien_7 : decode cL_addLien 7 = .ok (.invokevirtual 89, 3) := by decide +kernel
theorem dL_addLien_10 : decode cL_addLien 10 = .ok (.i2l, 1) := by decide +kernel
theorem dL_addLien_11 : decode cL_addLien 11 = .ok (.lastore, 1) := by decide +kernel
theorem dL_addLien_12 : decode cL_addLien 12 = .ok (.goto 15, 3) := by decide +kernel
theorem dL_addLien_15 : decode cL_addLien 15 = .ok (.astore 5, 2) := by decide +kernel
theorem dL_addLien_17 : decode cL_addLien 17 = .ok (.iconst 1, 1) := by decide +kernel
theorem dL_addLien_18 : decode cL_addLien 18 = .ok (.ireturn, 1) := by decide +kernel
theorem dL_addLien_19 : decode cL_addLien 19 = .ok (.astore 5, 2) := by decide +kernel
theorem dL_addLien_21 : decode cL_addLien 21 = .ok (.iconst 2, 1) := by decide +kernel
theorem dL_addLien_22 : decode cL_addLien 22 = .ok (.ireturn, 1) := by decide +kernel
theorem dL_addLien_23 : decode cL_addLien 23 = .ok (.astore 5, 2) := by decide +kernel
theorem dL_addLien_25 : decode cL_addLien 25 = .ok (.iconst 3, 1) := by decide +kernel
theorem dL_addLien_26 : decode cL_addLien 26 = .ok (.ireturn, 1) := by decide +kernel
theorem dL_addLien_27 : decode cL_addLien 27 = .ok (.iconst 0, 1) := by decide +kernel
theorem dL_addLien_28 : decode cL_addLien 28 = .ok (.ireturn, 1) := by decide +kernel
theorem dL_release_0 : decode cL_release 0 = .ok (.aload_n 2, 1) := by decide +kernel
theorem dL_release_1 : decode cL_release 1 = .ok (.iconst 0, 1) := by decide +kernel
theorem dL_release_2 : decode cL_release 2 = .ok (.aload_n 0, 1) := by decide +kernel
theorem dL_release_3 : decode cL_release 3 = .ok (.iload_n 1, 1) := by decide +kernel
theorem dL_release_4 : decode cL_release 4 = .ok (.invokevirtual 92, 3) := by decide +kernel
theorem dL_release_7 : decode cL_release 7 = .ok (.i2l, 1) := by decide +kernel
theorem dL_release_8 : decode cL_release 8 = .ok (.lastore, 1) := by decide +kernel
theorem dL_release_9 : decode cL_release 9 = .ok (.goto 9, 3) := by decide +kernel
theorem dL_release_12 : decode cL_release 12 = .ok (.astore_n 3, 1) := by decide +kernel
theorem dL_release_13 : decode cL_release 13 = .ok (.iconst 1, 1) := by decide +kernel
theorem dL_release_14 : decode cL_release 14 = .ok (.ireturn, 1) := by decide +kernel
theorem dL_release_15 : decode cL_release 15 = .ok (.astore_n 3, 1) := by decide +kernel
theorem dL_release_16 : decode cL_release 16 = .ok (.iconst 2, 1) := by decide +kernel
theorem dL_release_17 : decode cL_release 17 = .ok (.ireturn, 1) := by decide +kernel
theorem dL_release_18 : decode cL_release 18 = .ok (.iconst 0, 1) := by decide +kernel
theorem dL_release_19 : decode cL_release 19 = .ok (.ireturn, 1) := by decide +kernel
theorem dL_postpone_0 : decode cL_postpone 0 = .ok (.aload_n 3, 1) := by decide +kernel
theorem dL_postpone_1 : decode cL_postpone 1 = .ok (.iconst 0, 1) := by decide +kernel
theorem dL_postpone_2 : decode cL_postpone 2 = .ok (.aload_n 0, 1) := by decide +kernel
theorem dL_postpone_3 : decode cL_postpone 3 = .ok (.iload_n 1, 1) := by decide +kernel
theorem dL_postpone_4 : decode cL_postpone 4 = .ok (.iload_n 2, 1) := by decide +kernel
theorem dL_postpone_5 : decode cL_postpone 5 = .ok (.invokevirtual 95, 3) := by decide +kernel
theorem dL_postpone_8 : decode cL_postpone 8 = .ok (.i2l, 1) := by decide +kernel
theorem dL_postpone_9 : decode cL_postpone 9 = .ok (.lastore, 1) := by decide +kernel
theorem dL_postpone_10 : decode cL_postpone 10 = .ok (.goto 11, 3) := by decide +kernel
theorem dL_postpone_13 : decode cL_postpone 13 = .ok (.astore 4, 2) := by decide +kernel
theorem dL_postpone_15 : decode cL_postpone 15 = .ok (.iconst 1, 1) := by decide +kernel
theorem dL_postpone_16 : decode cL_postpone 16 = .ok (.ireturn, 1) := by decide +kernel
theorem dL_postpone_17 : decode cL_postpone 17 = .ok (.astore 4, 2) := by decide +kernel
theorem dL_postpone_19 : decode cL_postpone 19 = .ok (.iconst 2, 1) := by decide +kernel
theorem dL_postpone_20 : decode cL_postpone 20 = .ok (.ireturn, 1) := by decide +kernel
theorem dL_postpone_21 : decode cL_postpone 21 = .ok (.iconst 0, 1) := by decide +kernel
theorem dL_postpone_22 : decode cL_postpone 22 = .ok (.ireturn, 1) := by decide +kernel
theorem dL_lien_0 : decode cL_lien 0 = .ok (.aload_n 3, 1) := by decide +kernel
theorem dL_lien_1 : decode cL_lien 1 = .ok (.iconst 0, 1) := by decide +kernel
theorem dL_lien_2 : decode cL_lien 2 = .ok (.aload_n 0, 1) := by decide +kernel
theorem dL_lien_3 : decode cL_lien 3 = .ok (.iload_n 1, 1) := by decide +kernel
theorem dL_lien_4 : decode cL_lien 4 = .ok (.iload_n 2, 1) := by decide +kernel
theorem dL_lien_5 : decode cL_lien 5 = .ok (.invokevirtual 98, 3) := by decide +kernel
theorem dL_lien_8 : decode cL_lien 8 = .ok (.i2l, 1) := by decide +kernel
theorem dL_lien_9 : decode cL_lien 9 = .ok (.lastore, 1) := by decide +kernel
theorem dL_lien_10 : decode cL_lien 10 = .ok (.goto 11, 3) := by decide +kernel
theorem dL_lien_13 : decode cL_lien 13 = .ok (.astore 4, 2) := by decide +kernel
theorem dL_lien_15 : decode cL_lien 15 = .ok (.iconst 1, 1) := by decide +kernel
theorem dL_lien_16 : decode cL_lien 16 = .ok (.ireturn, 1) := by decide +kernel
theorem dL_lien_17 : decode cL_lien 17 = .ok (.astore 4, 2) := by decide +kernel
theorem dL_lien_19 : decode cL_lien 19 = .ok (.iconst 2, 1) := by decide +kernel
theorem dL_lien_20 : decode cL_lien 20 = .ok (.ireturn, 1) := by decide +kernel
theorem dL_lien_21 : decode cL_lien 21 = .ok (.iconst 0, 1) := by decide +kernel
theorem dL_lien_22 : decode cL_lien 22 = .ok (.ireturn, 1) := by decide +kernel
theorem dL_lienAt_0 : decode cL_lienAt 0 = .ok (.aload_n 3, 1) := by decide +kernel
theorem dL_lienAt_1 : decode cL_lienAt 1 = .ok (.iconst 0, 1) := by decide +kernel
theorem dL_lienAt_2 : decode cL_lienAt 2 = .ok (.aload_n 0, 1) := by decide +kernel
theorem dL_lienAt_3 : decode cL_lienAt 3 = .ok (.iload_n 1, 1) := by decide +kernel
theorem dL_lienAt_4 : decode cL_lienAt 4 = .ok (.iload_n 2, 1) := by decide +kernel
theorem dL_lienAt_5 : decode cL_lienAt 5 = .ok (.invokevirtual 101, 3) := by decide +kernel
theorem dL_lienAt_8 : decode cL_lienAt 8 = .ok (.i2l, 1) := by decide +kernel
theorem dL_lienAt_9 : decode cL_lienAt 9 = .ok (.lastore, 1) := by decide +kernel
theorem dL_lienAt_10 : decode cL_lienAt 10 = .ok (.goto 11, 3) := by decide +kernel
theorem dL_lienAt_13 : decode cL_lienAt 13 = .ok (.astore 4, 2) := by decide +kernel
theorem dL_lienAt_15 : decode cL_lienAt 15 = .ok (.iconst 1, 1) := by decide +kernel
theorem dL_lienAt_16 : decode cL_lienAt 16 = .ok (.ireturn, 1) := by decide +kernel
theorem dL_lienAt_17 : decode cL_lienAt 17 = .ok (.astore 4, 2) := by decide +kernel
theorem dL_lienAt_19 : decode cL_lienAt 19 = .ok (.iconst 2, 1) := by decide +kernel
theorem dL_lienAt_20 : decode cL_lienAt 20 = .ok (.ireturn, 1) := by decide +kernel
theorem dL_lienAt_21 : decode cL_lienAt 21 = .ok (.iconst 0, 1) := by decide +kernel
theorem dL_lienAt_22 : decode cL_lienAt 22 = .ok (.ireturn, 1) := by decide +kernel
theorem dL_paid_0 : decode cL_paid 0 = .ok (.aload 4, 2) := by decide +kernel
theorem dL_paid_2 : decode cL_paid 2 = .ok (.iconst 0, 1) := by decide +kernel
theorem dL_paid_3 : decode cL_paid 3 = .ok (.aload_n 0, 1) := by decide +kernel
theorem dL_paid_4 : decode cL_paid 4 = .ok (.iload_n 1, 1) := by decide +kernel
theorem dL_paid_5 : decode cL_paid 5 = .ok (.iload_n 2, 1) := by decide +kernel
theorem dL_paid_6 : decode cL_paid 6 = .ok (.iload_n 3, 1) := by decide +kernel
theorem dL_paid_7 : decode cL_paid 7 = .ok (.invokevirtual 104, 3) := by decide +kernel
theorem dL_paid_10 : decode cL_paid 10 = .ok (.i2l, 1) := by decide +kernel
theorem dL_paid_11 : decode cL_paid 11 = .ok (.lastore, 1) := by decide +kernel
theorem dL_paid_12 : decode cL_paid 12 = .ok (.goto 15, 3) := by decide +kernel
theorem dL_paid_15 : decode cL_paid 15 = .ok (.astore 5, 2) := by decide +kernel
theorem dL_paid_17 : decode cL_paid 17 = .ok (.iconst 1, 1) := by decide +kernel
theorem dL_paid_18 : decode cL_paid 18 = .ok (.ireturn, 1) := by decide +kernel
theorem dL_paid_19 : decode cL_paid 19 = .ok (.astore 5, 2) := by decide +kernel
theorem dL_paid_21 : decode cL_paid 21 = .ok (.iconst 2, 1) := by decide +kernel
theorem dL_paid_22 : decode cL_paid 22 = .ok (.ireturn, 1) := by decide +kernel
theorem dL_paid_23 : decode cL_paid 23 = .ok (.astore 5, 2) := by decide +kernel
theorem dL_paid_25 : decode cL_paid 25 = .ok (.iconst 3, 1) := by decide +kernel
theorem dL_paid_26 : decode cL_paid 26 = .ok (.ireturn, 1) := by decide +kernel
theorem dL_paid_27 : decode cL_paid 27 = .ok (.iconst 0, 1) := by decide +kernel
theorem dL_paid_28 : decode cL_paid 28 = .ok (.ireturn, 1) := by decide +kernel
theorem dL_left_0 : decode cL_left 0 = .ok (.aload_n 3, 1) := by decide +kernel
theorem dL_left_1 : decode cL_left 1 = .ok (.iconst 0, 1) := by decide +kernel
theorem dL_left_2 : decode cL_left 2 = .ok (.aload_n 0, 1) := by decide +kernel
theorem dL_left_3 : decode cL_left 3 = .ok (.iload_n 1, 1) := by decide +kernel
theorem dL_left_4 : decode cL_left 4 = .ok (.iload_n 2, 1) := by decide +kernel
theorem dL_left_5 : decode cL_left 5 = .ok (.invokevirtual 107, 3) := by decide +kernel
theorem dL_left_8 : decode cL_left 8 = .ok (.i2l, 1) := by decide +kernel
theorem dL_left_9 : decode cL_left 9 = .ok (.lastore, 1) := by decide +kernel
theorem dL_left_10 : decode cL_left 10 = .ok (.goto 15, 3) := by decide +kernel
theorem dL_left_13 : decode cL_left 13 = .ok (.astore 4, 2) := by decide +kernel
theorem dL_left_15 : decode cL_left 15 = .ok (.iconst 1, 1) := by decide +kernel
theorem dL_left_16 : decode cL_left 16 = .ok (.ireturn, 1) := by decide +kernel
theorem dL_left_17 : decode cL_left 17 = .ok (.astore 4, 2) := by decide +kernel
theorem dL_left_19 : decode cL_left 19 = .ok (.iconst 2, 1) := by decide +kernel
theorem dL_left_20 : decode cL_left 20 = .ok (.ireturn, 1) := by decide +kernel
theorem dL_left_21 : decode cL_left 21 = .ok (.astore 4, 2) := by decide +kernel
theorem dL_left_23 : decode cL_left 23 = .ok (.iconst 3, 1) := by decide +kernel
theorem dL_left_24 : decode cL_left 24 = .ok (.ireturn, 1) := by decide +kernel
theorem dL_left_25 : decode cL_left 25 = .ok (.iconst 0, 1) := by decide +kernel
theorem dL_left_26 : decode cL_left 26 = .ok (.ireturn, 1) := by decide +kernel
theorem dL_needed_0 : decode cL_needed 0 = .ok (.aload_n 3, 1) := by decide +kernel
theorem dL_needed_1 : decode cL_needed 1 = .ok (.iconst 0, 1) := by decide +kernel
theorem dL_needed_2 : decode cL_needed 2 = .ok (.aload_n 0, 1) := by decide +kernel
theorem dL_needed_3 : decode cL_needed 3 = .ok (.iload_n 1, 1) := by decide +kernel
theorem dL_needed_4 : decode cL_needed 4 = .ok (.iload_n 2, 1) := by decide +kernel
theorem dL_needed_5 : decode cL_needed 5 = .ok (.invokevirtual 110, 3) := by decide +kernel
theorem dL_needed_8 : decode cL_needed 8 = .ok (.i2l, 1) := by decide +kernel
theorem dL_needed_9 : decode cL_needed 9 = .ok (.lastore, 1) := by decide +kernel
theorem dL_needed_10 : decode cL_needed 10 = .ok (.goto 11, 3) := by decide +kernel
theorem dL_needed_13 : decode cL_needed 13 = .ok (.astore 4, 2) := by decide +kernel
theorem dL_needed_15 : decode cL_needed 15 = .ok (.iconst 1, 1) := by decide +kernel
theorem dL_needed_16 : decode cL_needed 16 = .ok (.ireturn, 1) := by decide +kernel
theorem dL_needed_17 : decode cL_needed 17 = .ok (.astore 4, 2) := by decide +kernel
theorem dL_needed_19 : decode cL_needed 19 = .ok (.iconst 2, 1) := by decide +kernel
theorem dL_needed_20 : decode cL_needed 20 = .ok (.ireturn, 1) := by decide +kernel
theorem dL_needed_21 : decode cL_needed 21 = .ok (.iconst 0, 1) := by decide +kernel
theorem dL_needed_22 : decode cL_needed 22 = .ok (.ireturn, 1) := by decide +kernel
theorem dL_advance_0 : decode cL_advance 0 = .ok (.aload_n 2, 1) := by decide +kernel
theorem dL_advance_1 : decode cL_advance 1 = .ok (.iconst 0, 1) := by decide +kernel
theorem dL_advance_2 : decode cL_advance 2 = .ok (.aload_n 0, 1) := by decide +kernel
theorem dL_advance_3 : decode cL_advance 3 = .ok (.iload_n 1, 1) := by decide +kernel
theorem dL_advance_4 : decode cL_advance 4 = .ok (.invokevirtual 113, 3) := by decide +kernel
theorem dL_advance_7 : decode cL_advance 7 = .ok (.i2l, 1) := by decide +kernel
theorem dL_advance_8 : decode cL_advance 8 = .ok (.lastore, 1) := by decide +kernel
theorem dL_advance_9 : decode cL_advance 9 = .ok (.goto 9, 3) := by decide +kernel
theorem dL_advance_12 : decode cL_advance 12 = .ok (.astore_n 3, 1) := by decide +kernel
theorem dL_advance_13 : decode cL_advance 13 = .ok (.iconst 1, 1) := by decide +kernel
theorem dL_advance_14 : decode cL_advance 14 = .ok (.ireturn, 1) := by decide +kernel
theorem dL_advance_15 : decode cL_advance 15 = .ok (.astore_n 3, 1) := by decide +kernel
theorem dL_advance_16 : decode cL_advance 16 = .ok (.iconst 2, 1) := by decide +kernel
theorem dL_advance_17 : decode cL_advance 17 = .ok (.ireturn, 1) := by decide +kernel
theorem dL_advance_18 : decode cL_advance 18 = .ok (.iconst 0, 1) := by decide +kernel
theorem dL_advance_19 : decode cL_advance 19 = .ok (.ireturn, 1) := by decide +kernel
theorem dL_account_0 : decode cL_account 0 = .ok (.aload_n 2, 1) := by decide +kernel
theorem dL_account_1 : decode cL_account 1 = .ok (.iconst 0, 1) := by decide +kernel
theorem dL_account_2 : decode cL_account 2 = .ok (.aload_n 0, 1) := by decide +kernel
theorem dL_account_3 : decode cL_account 3 = .ok (.iload_n 1, 1) := by decide +kernel
theorem dL_account_4 : decode cL_account 4 = .ok (.invokevirtual 116, 3) := by decide +kernel
theorem dL_account_7 : decode cL_account 7 = .ok (.i2l, 1) := by decide +kernel
theorem dL_account_8 : decode cL_account 8 = .ok (.lastore, 1) := by decide +kernel
theorem dL_account_9 : decode cL_account 9 = .ok (.goto 6, 3) := by decide +kernel
theorem dL_account_12 : decode cL_account 12 = .ok (.astore_n 3, 1) := by decide +kernel
theorem dL_account_13 : decode cL_account 13 = .ok (.iconst 1, 1) := by decide +kernel
theorem dL_account_14 : decode cL_account 14 = .ok (.ireturn, 1) := by decide +kernel
theorem dL_account_15 : decode cL_account 15 = .ok (.iconst 0, 1) := by decide +kernel
theorem dL_account_16 : decode cL_account 16 = .ok (.ireturn, 1) := by decide +kernel
theorem dL_meanArea_0 : decode cL_meanArea 0 = .ok (.aload_n 2, 1) := by decide +kernel
theorem dL_meanArea_1 : decode cL_meanArea 1 = .ok (.iconst 0, 1) := by decide +kernel
theorem dL_meanArea_2 : decode cL_meanArea 2 = .ok (.aload_n 0, 1) := by decide +kernel
theorem dL_meanArea_3 : decode cL_meanArea 3 = .ok (.iload_n 1, 1) := by decide +kernel
theorem dL_meanArea_4 : decode cL_meanArea 4 = .ok (.invokevirtual 119, 3) := by decide +kernel
theorem dL_meanArea_7 : decode cL_meanArea 7 = .ok (.dastore, 1) := by decide +kernel
theorem dL_meanArea_8 : decode cL_meanArea 8 = .ok (.goto 9, 3) := by decide +kernel
theorem dL_meanArea_11 : decode cL_meanArea 11 = .ok (.astore_n 3, 1) := by decide +kernel
theorem dL_meanArea_12 : decode cL_meanArea 12 = .ok (.iconst 1, 1) := by decide +kernel
theorem dL_meanArea_13 : decode cL_meanArea 13 = .ok (.ireturn, 1) := by decide +kernel
theorem dL_meanArea_14 : decode cL_meanArea 14 = .ok (.astore_n 3, 1) := by decide +kernel
theorem dL_meanArea_15 : decode cL_meanArea 15 = .ok (.iconst 2, 1) := by decide +kernel
theorem dL_meanArea_16 : decode cL_meanArea 16 = .ok (.ireturn, 1) := by decide +kernel
theorem dL_meanArea_17 : decode cL_meanArea 17 = .ok (.iconst 0, 1) := by decide +kernel
theorem dL_meanArea_18 : decode cL_meanArea 18 = .ok (.ireturn, 1) := by decide +kernel
theorem dL_append_0 : decode cL_append 0 = .ok (.aload_n 2, 1) := by decide +kernel
theorem dL_append_1 : decode cL_append 1 = .ok (.iconst 0, 1) := by decide +kernel
theorem dL_append_2 : decode cL_append 2 = .ok (.aload_n 0, 1) := by decide +kernel
theorem dL_append_3 : decode cL_append 3 = .ok (.iload_n 1, 1) := by decide +kernel
theorem dL_append_4 : decode cL_append 4 = .ok (.invokevirtual 125, 3) := by decide +kernel
theorem dL_append_7 : decode cL_append 7 = .ok (.i2l, 1) := by decide +kernel
theorem dL_append_8 : decode cL_append 8 = .ok (.lastore, 1) := by decide +kernel
theorem dL_append_9 : decode cL_append 9 = .ok (.goto 9, 3) := by decide +kernel
theorem dL_append_12 : decode cL_append 12 = .ok (.astore_n 3, 1) := by decide +kernel
theorem dL_append_13 : decode cL_append 13 = .ok (.iconst 1, 1) := by decide +kernel
theorem dL_append_14 : decode cL_append 14 = .ok (.ireturn, 1) := by decide +kernel
theorem dL_append_15 : decode cL_append 15 = .ok (.astore_n 3, 1) := by decide +kernel
theorem dL_append_16 : decode cL_append 16 = .ok (.iconst 2, 1) := by decide +kernel
theorem dL_append_17 : decode cL_append 17 = .ok (.ireturn, 1) := by decide +kernel
theorem dL_append_18 : decode cL_append 18 = .ok (.iconst 0, 1) := by decide +kernel
theorem dL_append_19 : decode cL_append 19 = .ok (.ireturn, 1) := by decide +kernel
theorem dL_read_0 : decode cL_read 0 = .ok (.aload_n 1, 1) := by decide +kernel
theorem dL_read_1 : decode cL_read 1 = .ok (.iconst 0, 1) := by decide +kernel
theorem dL_read_2 : decode cL_read 2 = .ok (.aload_n 0, 1) := by decide +kernel
theorem dL_read_3 : decode cL_read 3 = .ok (.invokevirtual 129, 3) := by decide +kernel
theorem dL_read_6 : decode cL_read 6 = .ok (.i2l, 1) := by decide +kernel
theorem dL_read_7 : decode cL_read 7 = .ok (.lastore, 1) := by decide +kernel
theorem dL_read_8 : decode cL_read 8 = .ok (.goto 9, 3) := by decide +kernel
theorem dL_read_11 : decode cL_read 11 = .ok (.astore_n 2, 1) := by decide +kernel
theorem dL_read_12 : decode cL_read 12 = .ok (.iconst 1, 1) := by decide +kernel
theorem dL_read_13 : decode cL_read 13 = .ok (.ireturn, 1) := by decide +kernel
theorem dL_read_14 : decode cL_read 14 = .ok (.astore_n 2, 1) := by decide +kernel
theorem dL_read_15 : decode cL_read 15 = .ok (.iconst 2, 1) := by decide +kernel
theorem dL_read_16 : decode cL_read 16 = .ok (.ireturn, 1) := by decide +kernel
theorem dL_read_17 : decode cL_read 17 = .ok (.iconst 0, 1) := by decide +kernel
theorem dL_read_18 : decode cL_read 18 = .ok (.ireturn, 1) := by decide +kernel
theorem dL_errorPosition_0 : decode cL_errorPosition 0 = .ok (.aload_n 1, 1) := by decide +kernel
theorem dL_errorPosition_1 : decode cL_errorPosition 1 = .ok (.iconst 0, 1) := by decide +kernel
theorem dL_errorPosition_2 : decode cL_errorPosition 2 = .ok (.aload_n 0, 1) := by decide +kernel
theorem dL_errorPosition_3 : decode cL_errorPosition 3 = .ok (.invokevirtual 132, 3) := by decide +kernel
theorem dL_errorPosition_6 : decode cL_errorPosition 6 = .ok (.i2l, 1) := by decide +kernel
theorem dL_errorPosition_7 : decode cL_errorPosition 7 = .ok (.lastore, 1) := by decide +kernel
theorem dL_errorPosition_8 : decode cL_errorPosition 8 = .ok (.goto 6, 3) := by decide +kernel
theorem dL_errorPosition_11 : decode cL_errorPosition 11 = .ok (.astore_n 2, 1) := by decide +kernel
theorem dL_errorPosition_12 : decode cL_errorPosition 12 = .ok (.iconst 1, 1) := by decide +kernel
theorem dL_errorPosition_13 : decode cL_errorPosition 13 = .ok (.ireturn, 1) := by decide +kernel
theorem dL_errorPosition_14 : decode cL_errorPosition 14 = .ok (.iconst 0, 1) := by decide +kernel
theorem dL_errorPosition_15 : decode cL_errorPosition 15 = .ok (.ireturn, 1) := by decide +kernel
theorem dL_undo_0 : decode cL_undo 0 = .ok (.aload_n 1, 1) := by decide +kernel
theorem dL_undo_1 : decode cL_undo 1 = .ok (.iconst 0, 1) := by decide +kernel
theorem dL_undo_2 : decode cL_undo 2 = .ok (.aload_n 0, 1) := by decide +kernel
theorem dL_undo_3 : decode cL_undo 3 = .ok (.invokevirtual 135, 3) := by decide +kernel
theorem dL_undo_6 : decode cL_undo 6 = .ok (.i2l, 1) := by decide +kernel
theorem dL_undo_7 : decode cL_undo 7 = .ok (.lastore, 1) := by decide +kernel
theorem dL_undo_8 : decode cL_undo 8 = .ok (.goto 6, 3) := by decide +kernel
theorem dL_undo_11 : decode cL_undo 11 = .ok (.astore_n 2, 1) := by decide +kernel
theorem dL_undo_12 : decode cL_undo 12 = .ok (.iconst 1, 1) := by decide +kernel
theorem dL_undo_13 : decode cL_undo 13 = .ok (.ireturn, 1) := by decide +kernel
theorem dL_undo_14 : decode cL_undo 14 = .ok (.iconst 0, 1) := by decide +kernel
theorem dL_undo_15 : decode cL_undo 15 = .ok (.ireturn, 1) := by decide +kernel
theorem dL_restore_0 : decode cL_restore 0 = .ok (.aload_n 1, 1) := by decide +kernel
theorem dL_restore_1 : decode cL_restore 1 = .ok (.iconst 0, 1) := by decide +kernel
theorem dL_restore_2 : decode cL_restore 2 = .ok (.aload_n 0, 1) := by decide +kernel
theorem dL_restore_3 : decode cL_restore 3 = .ok (.invokevirtual 138, 3) := by decide +kernel
theorem dL_restore_6 : decode cL_restore 6 = .ok (.i2l, 1) := by decide +kernel
theorem dL_restore_7 : decode cL_restore 7 = .ok (.lastore, 1) := by decide +kernel
theorem dL_restore_8 : decode cL_restore 8 = .ok (.goto 6, 3) := by decide +kernel
theorem dL_restore_11 : decode cL_restore 11 = .ok (.astore_n 2, 1) := by decide +kernel
theorem dL_restore_12 : decode cL_restore 12 = .ok (.iconst 1, 1) := by decide +kernel
theorem dL_restore_13 : decode cL_restore 13 = .ok (.ireturn, 1) := by decide +kernel
theorem dL_restore_14 : decode cL_restore 14 = .ok (.iconst 0, 1) := by decide +kernel
theorem dL_restore_15 : decode cL_restore 15 = .ok (.ireturn, 1) := by decide +kernel
