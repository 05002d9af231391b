theorem dL_pass_0 : decode cL_pass 0 = .ok (.aload_n 2, 1) := by decide +kernel
theorem dL_pass_1 : decode cL_pass 1 = .ok (.iconst 0, 1) := by decide +kernel
theorem dL_pass_2 : decode cL_pass 2 = .ok (.aload_n 0, 1) := by decide +kernel
theorem dL_pass_3 : decode cL_pass 3 = .ok (.iload_n 1, 1) := by decide +kernel
theorem dL_pass_4 : decode cL_pass 4 = .ok (.invokevirtual 7, 3) := by decide +kernel
theorem dL_pass_7 : decode cL_pass 7 = .ok (.i2l, 1) := by decide +kernel
theorem dL_pass_8 : decode cL_pass 8 = .ok (.lastore, 1) := by decide +kernel
theorem dL_pass_9 : decode cL_pass 9 = .ok (.goto 9, 3) := by decide +kernel
theorem dL_pass_12 : decode cL_pass 12 = .ok (.astore_n 3, 1) := by decide +kernel
theorem dL_pass_13 : decode cL_pass 13 = .ok (.iconst 1, 1) := by decide +kernel
theorem dL_pass_14 : decode cL_pass 14 = .ok (.ireturn, 1) := by decide +kernel
theorem dL_pass_15 : decode cL_pass 15 = .ok (.astore_n 3, 1) := by decide +kernel
theorem dL_pass_16 : decode cL_pass 16 = .ok (.iconst 2, 1) := by decide +kernel
theorem dL_pass_17 : decode cL_pass 17 = .ok (.ireturn, 1) := by decide +kernel
theorem dL_pass_18 : decode cL_pass 18 = .ok (.iconst 0, 1) := by decide +kernel
theorem dL_pass_19 : decode cL_pass 19 = .ok (.ireturn, 1) := by decide +kernel
theorem dL_setThreshold_0 : decode cL_setThreshold 0 = .ok (.aload_n 2, 1) := by decide +kernel
theorem dL_setThreshold_1 : decode cL_setThreshold 1 = .ok (.iconst 0, 1) := by decide +kernel
theorem dL_setThreshold_2 : decode cL_setThreshold 2 = .ok (.aload_n 0, 1) := by decide +kernel
theorem dL_setThreshold_3 : decode cL_setThreshold 3 = .ok (.iload_n 1, 1) := by decide +kernel
theorem dL_setThreshold_4 : decode cL_setThreshold 4 = .ok (.invokevirtual 17, 3) := by decide +kernel
theorem dL_setThreshold_7 : decode cL_setThreshold 7 = .ok (.i2l, 1) := by decide +kernel
theorem dL_setThreshold_8 : decode cL_setThreshold 8 = .ok (.lastore, 1) := by decide +kernel
theorem dL_setThreshold_9 : decode cL_setThreshold 9 = .ok (.goto 6, 3) := by decide +kernel
theorem dL_setThreshold_12 : decode cL_setThreshold 12 = .ok (.astore_n 3, 1) := by decide +kernel
theorem dL_setThreshold_13 : decode cL_setThreshold 13 = .ok (.iconst 1, 1) := by decide +kernel
theorem dL_setThreshold_14 : decode cL_setThreshold 14 = .ok (.ireturn, 1) := by decide +kernel
theorem dL_setThreshold_15 : decode cL_setThreshold 15 = .ok (.iconst 0, 1) := by decide +kernel
theorem dL_setThreshold_16 : decode cL_setThreshold 16 = .ok (.ireturn, 1) := by decide +kernel
theorem dL_setWindow_0 : decode cL_setWindow 0 = .ok (.aload_n 2, 1) := by decide +kernel
theorem dL_setWindow_1 : decode cL_setWindow 1 = .ok (.iconst 0, 1) := by decide +kernel
theorem dL_setWindow_2 : decode cL_setWindow 2 = .ok (.aload_n 0, 1) := by decide +kernel
theorem dL_setWindow_3 : decode cL_setWindow 3 = .ok (.iload_n 1, 1) := by decide +kernel
theorem dL_setWindow_4 : decode cL_setWindow 4 = .ok (.invokevirtual 20, 3) := by decide +kernel
theorem dL_setWindow_7 : decode cL_setWindow 7 = .ok (.i2l, 1) := by decide +kernel
theorem dL_setWindow_8 : decode cL_setWindow 8 = .ok (.lastore, 1) := by decide +kernel
theorem dL_setWindow_9 : decode cL_setWindow 9 = .ok (.goto 6, 3) := by decide +kernel
theorem dL_setWindow_12 : decode cL_setWindow 12 = .ok (.astore_n 3, 1) := by decide +kernel
theorem dL_setWindow_13 : decode cL_setWindow 13 = .ok (.iconst 1, 1) := by decide +kernel
theorem dL_setWindow_14 : decode cL_setWindow 14 = .ok (.ireturn, 1) := by decide +kernel
theorem dL_setWindow_15 : decode cL_setWindow 15 = .ok (.iconst 0, 1) := by decide +kernel
theorem dL_setWindow_16 : decode cL_setWindow 16 = .ok (.ireturn, 1) := by decide +kernel
theorem dL_likeness_0 : decode cL_likeness 0 = .ok (.aload 5, 2) := by decide +kernel
theorem dL_likeness_2 : decode cL_likeness 2 = .ok (.iconst 0, 1) := by decide +kernel
theorem dL_likeness_3 : decode cL_likeness 3 = .ok (.aload_n 0, 1) := by decide +kernel
theorem dL_likeness_4 : decode cL_likeness 4 = .ok (.lload_n 1, 1) := by decide +kernel
theorem dL_likeness_5 : decode cL_likeness 5 = .ok (.lload_n 3, 1) := by decide +kernel
theorem dL_likeness_6 : decode cL_likeness 6 = .ok (.invokevirtual 23, 3) := by decide +kernel
theorem dL_likeness_9 : decode cL_likeness 9 = .ok (.i2l, 1) := by decide +kernel
theorem dL_likeness_10 : decode cL_likeness 10 = .ok (.lastore, 1) := by decide +kernel
theorem dL_likeness_11 : decode cL_likeness 11 = .ok (.goto 7, 3) := by decide +kernel
theorem dL_likeness_14 : decode cL_likeness 14 = .ok (.astore 6, 2) := by decide +kernel
theorem dL_likeness_16 : decode cL_likeness 16 = .ok (.iconst 1, 1) := by decide +kernel
theorem dL_likeness_17 : decode cL_likeness 17 = .ok (.ireturn, 1) := by decide +kernel
theorem dL_likeness_18 : decode cL_likeness 18 = .ok (.iconst 0, 1) := by decide +kernel
theorem dL_likeness_19 : decode cL_likeness 19 = .ok (.ireturn, 1) := by decide +kernel
theorem dL_addSource_0 : decode cL_addSource 0 = .ok (.aload_n 1, 1) := by decide +kernel
theorem dL_addSource_1 : decode cL_addSource 1 = .ok (.iconst 0, 1) := by decide +kernel
theorem dL_addSource_2 : decode cL_addSource 2 = .ok (.aload_n 0, 1) := by decide +kernel
theorem dL_addSource_3 : decode cL_addSource 3 = .ok (.invokevirtual 27, 3) := by decide +kernel
theorem dL_addSource_6 : decode cL_addSource 6 = .ok (.i2l, 1) := by decide +kernel
theorem dL_addSource_7 : decode cL_addSource 7 = .ok (.lastore, 1) := by decide +kernel
theorem dL_addSource_8 : decode cL_addSource 8 = .ok (.goto 6, 3) := by decide +kernel
theorem dL_addSource_11 : decode cL_addSource 11 = .ok (.astore_n 2, 1) := by decide +kernel
theorem dL_addSource_12 : decode cL_addSource 12 = .ok (.iconst 1, 1) := by decide +kernel
theorem dL_addSource_13 : decode cL_addSource 13 = .ok (.ireturn, 1) := by decide +kernel
theorem dL_addSource_14 : decode cL_addSource 14 = .ok (.iconst 0, 1) := by decide +kernel
theorem dL_addSource_15 : decode cL_addSource 15 = .ok (.ireturn, 1) := by decide +kernel
theorem dL_fetch_0 : decode cL_fetch 0 = .ok (.aload 7, 2) := by decide +kernel
theorem dL_fetch_2 : decode cL_fetch 2 = .ok (.iconst 0, 1) := by decide +kernel
theorem dL_fetch_3 : decode cL_fetch 3 = .ok (.aload_n 0, 1) := by decide +kernel
theorem dL_fetch_4 : decode cL_fetch 4 = .ok (.iload_n 1, 1) := by decide +kernel
theorem dL_fetch_5 : decode cL_fetch 5 = .ok (.iload_n 2, 1) := by decide +kernel
theorem dL_fetch_6 : decode cL_fetch 6 = .ok (.iload_n 3, 1) := by decide +kernel
theorem dL_fetch_7 : decode cL_fetch 7 = .ok (.lload 4, 2) := by decide +kernel
theorem dL_fetch_9 : decode cL_fetch 9 = .ok (.iload 6, 2) := by decide +kernel
theorem dL_fetch_11 : decode cL_fetch 11 = .ok (.invokevirtual 31, 3) := by decide +kernel
theorem dL_fetch_14 : decode cL_fetch 14 = .ok (.i2l, 1) := by decide +kernel
theorem dL_fetch_15 : decode cL_fetch 15 = .ok (.lastore, 1) := by decide +kernel
theorem dL_fetch_16 : decode cL_fetch 16 = .ok (.goto 15, 3) := by decide +kernel
theorem dL_fetch_19 : decode cL_fetch 19 = .ok (.astore 8, 2) := by decide +kernel
theorem dL_fetch_21 : decode cL_fetch 21 = .ok (.iconst 1, 1) := by decide +kernel
theorem dL_fetch_22 : decode cL_fetch 22 = .ok (.ireturn, 1) := by decide +kernel
theorem dL_fetch_23 : decode cL_fetch 23 = .ok (.astore 8, 2) := by decide +kernel
theorem dL_fetch_25 : decode cL_fetch 25 = .ok (.iconst 2, 1) := by decide +kernel
theorem dL_fetch_26 : decode cL_fetch 26 = .ok (.ireturn, 1) := by decide +kernel
theorem dL_fetch_27 : decode cL_fetch 27 = .ok (.astore 8, 2) := by decide +kernel
theorem dL_fetch_29 : decode cL_fetch 29 = .ok (.iconst 3, 1) := by decide +kernel
theorem dL_fetch_30 : decode cL_fetch 30 = .ok (.ireturn, 1) := by decide +kernel
theorem dL_fetch_31 : decode cL_fetch 31 = .ok (.iconst 0, 1) := by decide +kernel
theorem dL_fetch_32 : decode cL_fetch 32 = .ok (.ireturn, 1) := by decide +kernel
theorem dL_withIdentifier_0 : decode cL_withIdentifier 0 = .ok (.aload_n 3, 1) := by decide +kernel
theorem dL_withIdentifier_1 : decode cL_withIdentifier 1 = .ok (.iconst 0, 1) := by decide +kernel
theorem dL_withIdentifier_2 : decode cL_withIdentifier 2 = .ok (.aload_n 0, 1) := by decide +kernel
theorem dL_withIdentifier_3 : decode cL_withIdentifier 3 = .ok (.iload_n 1, 1) := by decide +kernel
theorem dL_withIdentifier_4 : decode cL_withIdentifier 4 = .ok (.iload_n 2, 1) := by decide +kernel
theorem dL_withIdentifier_5 : decode cL_withIdentifier 5 = .ok (.invokevirtual 37, 3) := by decide +kernel
theorem dL_withIdentifier_8 : decode cL_withIdentifier 8 = .ok (.i2l, 1) := by decide +kernel
theorem dL_withIdentifier_9 : decode cL_withIdentifier 9 = .ok (.lastore, 1) := by decide +kernel
theorem dL_withIdentifier_10 : decode cL_withIdentifier 10 = .ok (.goto 7, 3) := by decide +kernel
theorem dL_withIdentifier_13 : decode cL_withIdentifier 13 = .ok (.astore 4, 2) := by decide +kernel
theorem dL_withIdentifier_15 : decode cL_withIdentifier 15 = .ok (.iconst 1, 1) := by decide +kernel
theorem dL_withIdentifier_16 : decode cL_withIdentifier 16 = .ok (.ireturn, 1) := by decide +kernel
theorem dL_withIdentifier_17 : decode cL_withIdentifier 17 = .ok (.iconst 0, 1) := by decide +kernel
theorem dL_withIdentifier_18 : decode cL_withIdentifier 18 = .ok (.ireturn, 1) := by decide +kernel
theorem dL_withLink_0 : decode cL_withLink 0 = .ok (.aload_n 2, 1) := by decide +kernel
theorem dL_withLink_1 : decode cL_withLink 1 = .ok (.iconst 0, 1) := by decide +kernel
theorem dL_withLink_2 : decode cL_withLink 2 = .ok (.aload_n 0, 1) := by decide +kernel
theorem dL_withLink_3 : decode cL_withLink 3 = .ok (.iload_n 1, 1) := by decide +kernel
theorem dL_withLink_4 : decode cL_withLink 4 = .ok (.invokevirtual 43, 3) := by decide +kernel
theorem dL_withLink_7 : decode cL_withLink 7 = .ok (.i2l, 1) := by decide +kernel
theorem dL_withLink_8 : decode cL_withLink 8 = .ok (.lastore, 1) := by decide +kernel
theorem dL_withLink_9 : decode cL_withLink 9 = .ok (.goto 6, 3) := by decide +kernel
theorem dL_withLink_12 : decode cL_withLink 12 = .ok (.astore_n 3, 1) := by decide +kernel
theorem dL_withLink_13 : decode cL_withLink 13 = .ok (.iconst 1, 1) := by decide +kernel
theorem dL_withLink_14 : decode cL_withLink 14 = .ok (.ireturn, 1) := by decide +kernel
theorem dL_withLink_15 : decode cL_withLink 15 = .ok (.iconst 0, 1) := by decide +kernel
theorem dL_withLink_16 : decode cL_withLink 16 = .ok (.ireturn, 1) := by decide +kernel
theorem dL_title_0 : decode cL_title 0 = .ok (.aload_n 3, 1) := by decide +kernel
theorem dL_title_1 : decode cL_title 1 = .ok (.iconst 0, 1) := by decide +kernel
theorem dL_title_2 : decode cL_title 2 = .ok (.aload_n 0, 1) := by decide +kernel
theorem dL_title_3 : decode cL_title 3 = .ok (.iload_n 1, 1) := by decide +kernel
theorem dL_title_4 : decode cL_title 4 = .ok (.iload_n 2, 1) := by decide +kernel
theorem dL_title_5 : decode cL_title 5 = .ok (.invokevirtual 46, 3) := by decide +kernel
theorem dL_title_8 : decode cL_title 8 = .ok (.lastore, 1) := by decide +kernel
theorem dL_title_9 : decode cL_title 9 = .ok (.goto 11, 3) := by decide +kernel
theorem dL_title_12 : decode cL_title 12 = .ok (.astore 4, 2) := by decide +kernel
theorem dL_title_14 : decode cL_title 14 = .ok (.iconst 1, 1) := by decide +kernel
theorem dL_title_15 : decode cL_title 15 = .ok (.ireturn, 1) := by decide +kernel
theorem dL_title_16 : decode cL_title 16 = .ok (.astore 4, 2) := by decide +kernel
theorem dL_title_18 : decode cL_title 18 = .ok (.iconst 2, 1) := by decide +kernel
theorem dL_title_19 : decode cL_title 19 = .ok (.ireturn, 1) := by decide +kernel
theorem dL_title_20 : decode cL_title 20 = .ok (.iconst 0, 1) := by decide +kernel
theorem dL_title_21 : decode cL_title 21 = .ok (.ireturn, 1) := by decide +kernel
theorem dL_versions_0 : decode cL_versions 0 = .ok (.aload_n 2, 1) := by decide +kernel
theorem dL_versions_1 : decode cL_versions 1 = .ok (.iconst 0, 1) := by decide +kernel
theorem dL_versions_2 : decode cL_versions 2 = .ok (.aload_n 0, 1) := by decide +kernel
theorem dL_versions_3 : decode cL_versions 3 = .ok (.iload_n 1, 1) := by decide +kernel
theorem dL_versions_4 : decode cL_versions 4 = .ok (.invokevirtual 50, 3) := by decide +kernel
theorem dL_versions_7 : decode cL_versions 7 = .ok (.i2l, 1) := by decide +kernel
theorem dL_versions_8 : decode cL_versions 8 = .ok (.lastore, 1) := by decide +kernel
theorem dL_versions_9 : decode cL_versions 9 = .ok (.goto 6, 3) := by decide +kernel
theorem dL_versions_12 : decode cL_versions 12 = .ok (.astore_n 3, 1) := by decide +kernel
theorem dL_versions_13 : decode cL_versions 13 = .ok (.iconst 1, 1) := by decide +kernel
theorem dL_versions_14 : decode cL_versions 14 = .ok (.ireturn, 1) := by decide +kernel
theorem dL_versions_15 : decode cL_versions 15 = .ok (.iconst 0, 1) := by decide +kernel
theorem dL_versions_16 : decode cL_versions 16 = .ok (.ireturn, 1) := by decide +kernel
theorem dL_latestMajor_0 : decode cL_latestMajor 0 = .ok (.aload_n 2, 1) := by decide +kernel
theorem dL_latestMajor_1 : decode cL_latestMajor 1 = .ok (.iconst 0, 1) := by decide +kernel
theorem dL_latestMajor_2 : decode cL_latestMajor 2 = .ok (.aload_n 0, 1) := by decide +kernel
theorem dL_latestMajor_3 : decode cL_latestMajor 3 = .ok (.iload_n 1, 1) := by decide +kernel
theorem dL_latestMajor_4 : decode cL_latestMajor 4 = .ok (.invokevirtual 53, 3) := by decide +kernel
theorem dL_latestMajor_7 : decode cL_latestMajor 7 = .ok (.i2l, 1) := by decide +kernel
theorem dL_latestMajor_8 : decode cL_latestMajor 8 = .ok (.lastore, 1) := by decide +kernel
theorem dL_latestMajor_9 : decode cL_latestMajor 9 = .ok (.goto 6, 3) := by decide +kernel
theorem dL_latestMajor_12 : decode cL_latestMajor 12 = .ok (.astore_n 3, 1) := by decide +kernel
theorem dL_latestMajor_13 : decode cL_latestMajor 13 = .ok (.iconst 1, 1) := by decide +kernel
theorem dL_latestMajor_14 : decode cL_latestMajor 14 = .ok (.ireturn, 1) := by decide +kernel
theorem dL_latestMajor_15 : decode cL_latestMajor 15 = .ok (.iconst 0, 1) := by decide +kernel
theorem dL_latestMajor_16 : decode cL_latestMajor 16 = .ok (.ireturn, 1) := by decide +kernel
theorem dL_sourcesOf_0 : decode cL_sourcesOf 0 = .ok (.aload_n 2, 1) := by decide +kernel
theorem dL_sourcesOf_1 : decode cL_sourcesOf 1 = .ok (.iconst 0, 1) := by decide +kernel
theorem dL_sourcesOf_2 : decode cL_sourcesOf 2 = .ok (.aload_n 0, 1) := by decide +kernel
theorem dL_sourcesOf_3 : decode cL_sourcesOf 3 = .ok (.iload_n 1, 1) := by decide +kernel
theorem dL_sourcesOf_4 : decode cL_sourcesOf 4 = .ok (.invokevirtual 56, 3) := by decide +kernel
theorem dL_sourcesOf_7 : decode cL_sourcesOf 7 = .ok (.i2l, 1) := by decide +kernel
theorem dL_sourcesOf_8 : decode cL_sourcesOf 8 = .ok (.lastore, 1) := by decide +kernel
theorem dL_sourcesOf_9 : decode cL_sourcesOf 9 = .ok (.goto 6, 3) := by decide +kernel
theorem dL_sourcesOf_12 : decode cL_sourcesOf 12 = .ok (.astore_n 3, 1) := by decide +kernel
theorem dL_sourcesOf_13 : decode cL_sourcesOf 13 = .ok (.iconst 1, 1) := by decide +kernel
theorem dL_sourcesOf_14 : decode cL_sourcesOf 14 = .ok (.ireturn, 1) := by decide +kernel
theorem dL_sourcesOf_15 : decode cL_sourcesOf 15 = .ok (.iconst 0, 1) := by decide +kernel
theorem dL_sourcesOf_16 : decode cL_sourcesOf 16 = .ok (.ireturn, 1) := by decide +kernel
theorem dL_timeOf_0 : decode cL_timeOf 0 = .ok (.aload_n 2, 1) := by decide +kernel
theorem dL_timeOf_1 : decode cL_timeOf 1 = .ok (.iconst 0, 1) := by decide +kernel
theorem dL_timeOf_2 : decode cL_timeOf 2 = .ok (.aload_n 0, 1) := by decide +kernel
theorem dL_timeOf_3 : decode cL_timeOf 3 = .ok (.iload_n 1, 1) := by decide +kernel
theorem dL_timeOf_4 : decode cL_timeOf 4 = .ok (.invokevirtual 59, 3) := by decide +kernel
theorem dL_timeOf_7 : decode cL_timeOf 7 = .ok (.i2l, 1) := by decide +kernel
theorem dL_timeOf_8 : decode cL_timeOf 8 = .ok (.lastore, 1) := by decide +kernel
theorem dL_timeOf_9 : decode cL_timeOf 9 = .ok (.goto 6, 3) := by decide +kernel
theorem dL_timeOf_12 : decode cL_timeOf 12 = .ok (.astore_n 3, 1) := by decide +kernel
theorem dL_timeOf_13 : decode cL_timeOf 13 = .ok (.iconst 1, 1) := by decide +kernel
theorem dL_timeOf_14 : decode cL_timeOf 14 = .ok (.ireturn, 1) := by decide +kernel
theorem dL_timeOf_15 : decode cL_timeOf 15 = .ok (.iconst 0, 1) := by decide +kernel
theorem dL_timeOf_16 : decode cL_timeOf 16 = .ok (.ireturn, 1) := by decide +kernel
theorem dL_addRule_0 : decode cL_addRule 0 = .ok (.aload 8, 2) := by decide +kernel
theorem dL_addRule_2 : decode cL_addRule 2 = .ok (.iconst 0, 1) := by decide +kernel
theorem dL_addRule_3 : decode cL_addRule 3 = .ok (.aload_n 0, 1) := by decide +kernel
theorem dL_addRule_4 : decode cL_addRule 4 = .ok (.lload_n 1, 1) := by decide +kernel
theorem dL_addRule_5 : decode cL_addRule 5 = .ok (.lload_n 3, 1) := by decide +kernel
theorem dL_addRule_6 : decode cL_addRule 6 = .ok (.iload 5, 2) := by decide +kernel
theorem dL_addRule_8 : decode cL_addRule 8 = .ok (.iload 6, 2) := by decide +kernel
theorem dL_addRule_10 : decode cL_addRule 10 = .ok (.iload 7, 2) := by decide +kernel
theorem dL_addRule_12 : decode cL_addRule 12 = .ok (.invokevirtual 62, 3) := by decide +kernel
theorem dL_addRule_15 : decode cL_addRule 15 = .ok (.i2l, 1) := by decide +kernel
theorem dL_addRule_16 : decode cL_addRule 16 = .ok (.lastore, 1) := by decide +kernel
theorem dL_addRule_17 : decode cL_addRule 17 = .ok (.goto 11, 3) := by decide +kernel
theorem dL_addRule_20 : decode cL_addRule 20 = .ok (.astore 9, 2) := by decide +kernel
theorem dL_addRule_22 : decode cL_addRule 22 = .ok (.iconst 1, 1) := by decide +kernel
theorem dL_addRule_23 : decode cL_addRule 23 = .ok (.ireturn, 1) := by decide +kernel
theorem dL_addRule_24 : decode cL_addRule 24 = .ok (.astore 9, 2) := by decide +kernel
theorem dL_addRule_26 : decode cL_addRule 26 = .ok (.iconst 2, 1) := by decide +kernel
theorem dL_addRule_27 : decode cL_addRule 27 = .ok (.ireturn, 1) := by decide +kernel
theorem dL_addRule_28 : decode cL_addRule 28 = .ok (.iconst 0, 1) := by decide +kernel
theorem dL_addRule_29 : decode cL_addRule 29 = .ok (.ireturn, 1) := by decide +kernel
theorem dL_dropRule_0 : decode cL_dropRule 0 = .ok (.aload_n 2, 1) := by decide +kernel
theorem dL_dropRule_1 : decode cL_dropRule 1 = .ok (.iconst 0, 1) := by decide +kernel
theorem dL_dropRule_2 : decode cL_dropRule 2 = .ok (.aload_n 0, 1) := by decide +kernel
theorem dL_dropRule_3 : decode cL_dropRule 3 = .ok (.iload_n 1, 1) := by decide +kernel
theorem dL_dropRule_4 : decode cL_dropRule 4 = .ok (.invokevirtual 66, 3) := by decide +kernel
theorem dL_dropRule_7 : decode cL_dropRule 7 = .ok (.i2l, 1) := by decide +kernel
theorem dL_dropRule_8 : decode cL_dropRule 8 = .ok (.lastore, 1) := by decide +kernel
theorem dL_dropRule_9 : decode cL_dropRule 9 = .ok (.goto 6, 3) := by decide +kernel
theorem dL_dropRule_12 : decode cL_dropRule 12 = .ok (.astore_n 3, 1) := by decide +kernel
theorem dL_dropRule_13 : decode cL_dropRule 13 = .ok (.iconst 1, 1) := by decide +kernel
theorem dL_dropRule_14 : decode cL_dropRule 14 = .ok (.ireturn, 1) := by decide +kernel
theorem dL_dropRule_15 : decode cL_dropRule 15 = .ok (.iconst 0, 1) := by decide +kernel
theorem dL_dropRule_16 : decode cL_dropRule 16 = .ok (.ireturn, 1) := by decide +kernel
theorem dL_tagsOf_0 : decode cL_tagsOf 0 = .ok (.aload_n 2, 1) := by decide +kernel
theorem dL_tagsOf_1 : decode cL_tagsOf 1 = .ok (.iconst 0, 1) := by decide +kernel
theorem dL_tagsOf_2 : decode cL_tagsOf 2 = .ok (.aload_n 0, 1) := by decide +kernel
theorem dL_tagsOf_3 : decode cL_tagsOf 3 = .ok (.iload_n 1, 1) := by decide +kernel
theorem dL_tagsOf_4 : decode cL_tagsOf 4 = .ok (.invokevirtual 69, 3) := by decide +kernel
theorem dL_tagsOf_7 : decode cL_tagsOf 7 = .ok (.i2l, 1) := by decide +kernel
theorem dL_tagsOf_8 : decode cL_tagsOf 8 = .ok (.lastore, 1) := by decide +kernel
theorem dL_tagsOf_9 : decode cL_tagsOf 9 = .ok (.goto 6, 3) := by decide +kernel
theorem dL_tagsOf_12 : decode cL_tagsOf 12 = .ok (.astore_n 3, 1) := by decide +kernel
theorem dL_tagsOf_13 : decode cL_tagsOf 13 = .ok (.iconst 1, 1) := by decide +kernel
theorem dL_tagsOf_14 : decode cL_tagsOf 14 = .ok (.ireturn, 1) := by decide +kernel
theorem dL_tagsOf_15 : decode cL_tagsOf 15 = .ok (.iconst 0, 1) := by decide +kernel
theorem dL_tagsOf_16 : decode cL_tagsOf 16 = .ok (.ireturn, 1) := by decide +kernel
theorem dL_isHidden_0 : decode cL_isHidden 0 = .ok (.aload_n 2, 1) := by decide +kernel
theorem dL_isHidden_1 : decode cL_isHidden 1 = .ok (.iconst 0, 1) := by decide +kernel
theorem dL_isHidden_2 : decode cL_isHidden 2 = .ok (.aload_n 0, 1) := by decide +kernel
theorem dL_isHidden_3 : decode cL_isHidden 3 = .ok (.iload_n 1, 1) := by decide +kernel
theorem dL_isHidden_4 : decode cL_isHidden 4 = .ok (.invokevirtual 72, 3) := by decide +kernel
theorem dL_isHidden_7 : decode cL_isHidden 7 = .ok (.ifCond .eq 7, 3) := by decide +kernel
theorem dL_isHidden_10 : decode cL_isHidden 10 = .ok (.lconst 1, 1) := by decide +kernel
theorem dL_isHidden_11 : decode cL_isHidden 11 = .ok (.goto 4, 3) := by decide +kernel
theorem dL_isHidden_14 : decode cL_isHidden 14 = .ok (.lconst 0, 1) := by decide +kernel
theorem dL_isHidden_15 : decode cL_isHidden 15 = .ok (.lastore, 1) := by decide +kernel
theorem dL_isHidden_16 : decode cL_isHidden 16 = .ok (.goto 6, 3) := by decide +kernel
theorem dL_isHidden_19 : decode cL_isHidden 19 = .ok (.astore_n 3, 1) := by decide +kernel
theorem dL_isHidden_20 : decode cL_isHidden 20 = .ok (.iconst 1, 1) := by decide +kernel
theorem dL_isHidden_21 : decode cL_isHidden 21 = .ok (.ireturn, 1) := by decide +kernel
theorem dL_isHidden_22 : decode cL_isHidden 22 = .ok (.iconst 0, 1) := by decide +kernel
theorem dL_isHidden_23 : decode cL_isHidden 23 = .ok (.ireturn, 1) := by decide +kernel
theorem dL_matches_0 : decode cL_matches 0 = .ok (.aload_n 2, 1) := by decide +kernel
theorem dL_matches_1 : decode cL_matches 1 = .ok (.iconst 0, 1) := by decide +kernel
theorem dL_matches_2 : decode cL_matches 2 = .ok (.aload_n 0, 1) := by decide +kernel
theorem dL_matches_3 : decode cL_matches 3 = .ok (.iload_n 1, 1) := by decide +kernel
theorem dL_matches_4 : decode cL_matches 4 = .ok (.invokevirtual 76, 3) := by decide +kernel
theorem dL_matches_7 : decode cL_matches 7 = .ok (.i2l, 1) := by decide +kernel
theorem dL_matches_8 : decode cL_matches 8 = .ok (.lastore, 1) := by decide +kernel
theorem dL_matches_9 : decode cL_matches 9 = .ok (.goto 6, 3) := by decide +kernel
theorem dL_matches_12 : decode cL_matches 12 = .ok (.astore_n 3, 1) := by decide +kernel
theorem dL_matches_13 : decode cL_matches 13 = .ok (.iconst 1, 1) := by decide +kernel
theorem dL_matches_14 : decode cL_matches 14 = .ok (.ireturn, 1) := by decide +kernel
theorem dL_matches_15 : decode cL_matches 15 = .ok (.iconst 0, 1) := by decide +kernel
theorem dL_matches_16 : decode cL_matches 16 = .ok (.ireturn, 1) := by decide +kernel
theorem dL_addRiver_0 : decode cL_addRiver 0 = .ok (.aload_n 3, 1) := by decide +kernel
theorem dL_addRiver_1 : decode cL_addRiver 1 = .ok (.iconst 0, 1) := by decide +kernel
theorem dL_addRiver_2 : decode cL_addRiver 2 = .ok (.aload_n 0, 1) := by decide +kernel
theorem dL_addRiver_3 : decode cL_addRiver 3 = .ok (.iload_n 1, 1) := by decide +kernel
theorem dL_addRiver_4 : decode cL_addRiver 4 = .ok (.iload_n 2, 1) := by decide +kernel
theorem dL_addRiver_5 : decode cL_addRiver 5 = .ok (.invokevirtual 79, 3) := by decide +kernel
theorem dL_addRiver_8 : decode cL_addRiver 8 = .ok (.i2l, 1) := by decide +kernel
theorem dL_addRiver_9 : decode cL_addRiver 9 = .ok (.lastore, 1) := by decide +kernel
theorem dL_addRiver_10 : decode cL_addRiver 10 = .ok (.goto 11, 3) := by decide +kernel
theorem dL_addRiver_13 : decode cL_addRiver 13 = .ok (.astore 4, 2) := by decide +kernel
theorem dL_addRiver_15 : decode cL_addRiver 15 = .ok (.iconst 1, 1) := by decide +kernel
theorem dL_addRiver_16 : decode cL_addRiver 16 = .ok (.ireturn, 1) := by decide +kernel
theorem dL_addRiver_17 : decode cL_addRiver 17 = .ok (.astore 4, 2) := by decide +kernel
theorem dL_addRiver_19 : decode cL_addRiver 19 = .ok (.iconst 2, 1) := by decide +kernel
theorem dL_addRiver_20 : decode cL_addRiver 20 = .ok (.ireturn, 1) := by decide +kernel
theorem dL_addRiver_21 : decode cL_addRiver 21 = .ok (.iconst 0, 1) := by decide +kernel
theorem dL_addRiver_22 : decode cL_addRiver 22 = .ok (.ireturn, 1) := by decide +kernel
theorem dL_riverSize_0 : decode cL_riverSize 0 = .ok (.aload_n 2, 1) := by decide +kernel
theorem dL_riverSize_1 : decode cL_riverSize 1 = .ok (.iconst 0, 1) := by decide +kernel
theorem dL_riverSize_2 : decode cL_riverSize 2 = .ok (.aload_n 0, 1) := by decide +kernel
theorem dL_riverSize_3 : decode cL_riverSize 3 = .ok (.iload_n 1, 1) := by decide +kernel
theorem dL_riverSize_4 : decode cL_riverSize 4 = .ok (.invokevirtual 82, 3) := by decide +kernel
theorem dL_riverSize_7 : decode cL_riverSize 7 = .ok (.i2l, 1) := by decide +kernel
theorem dL_riverSize_8 : decode cL_riverSize 8 = .ok (.lastore, 1) := by decide +kernel
theorem dL_riverSize_9 : decode cL_riverSize 9 = .ok (.goto 6, 3) := by decide +kernel
theorem dL_riverSize_12 : decode cL_riverSize 12 = .ok (.astore_n 3, 1) := by decide +kernel
theorem dL_riverSize_13 : decode cL_riverSize 13 = .ok (.iconst 1, 1) := by decide +kernel
theorem dL_riverSize_14 : decode cL_riverSize 14 = .ok (.ireturn, 1) := by decide +kernel
theorem dL_riverSize_15 : decode cL_riverSize 15 = .ok (.iconst 0, 1) := by decide +kernel
theorem dL_riverSize_16 : decode cL_riverSize 16 = .ok (.ireturn, 1) := by decide +kernel
theorem dL_riverAt_0 : decode cL_riverAt 0 = .ok (.aload_n 3, 1) := by decide +kernel
theorem dL_riverAt_1 : decode cL_riverAt 1 = .ok (.iconst 0, 1) := by decide +kernel
theorem dL_riverAt_2 : decode cL_riverAt 2 = .ok (.aload_n 0, 1) := by decide +kernel
theorem dL_riverAt_3 : decode cL_riverAt 3 = .ok (.iload_n 1, 1) := by decide +kernel
theorem dL_riverAt_4 : decode cL_riverAt 4 = .ok (.iload_n 2, 1) := by decide +kernel
theorem dL_riverAt_5 : decode cL_riverAt 5 = .ok (.invokevirtual 85, 3) := by decide +kernel
theorem dL_riverAt_8 : decode cL_riverAt 8 = .ok (.i2l, 1) := by decide +kernel
theorem dL_riverAt_9 : decode cL_riverAt 9 = .ok (.lastore, 1) := by decide +kernel
theorem dL_riverAt_10 : decode cL_riverAt 10 = .ok (.goto 11, 3) := by decide +kernel
theorem dL_riverAt_13 : decode cL_riverAt 13 = .ok (.astore 4, 2) := by decide +kernel
theorem dL_riverAt_15 : decode cL_riverAt 15 = .ok (.iconst 1, 1) := by decide +kernel
theorem dL_riverAt_16 : decode cL_riverAt 16 = .ok (.ireturn, 1) := by decide +kernel
theorem dL_riverAt_17 : decode cL_riverAt 17 = .ok (.astore 4, 2) := by decide +kernel
theorem dL_riverAt_19 : decode cL_riverAt 19 = .ok (.iconst 2, 1) := by decide +kernel
theorem dL_riverAt_20 : decode cL_riverAt 20 = .ok (.ireturn, 1) := by decide +kernel
theorem dL_riverAt_21 : decode cL_riverAt 21 = .ok (.iconst 0, 1) := by decide +kernel
theorem dL_riverAt_22 : decode cL_riverAt 22 = .ok (.ireturn, 1) := by decide +kernel
theorem dL_riverAtAnew_0 : decode cL_riverAtAnew 0 = .ok (.aload_n 3, 1) := by decide +kernel
theorem dL_riverAtAnew_1 : decode cL_riverAtAnew 1 = .ok (.iconst 0, 1) := by decide +kernel
theorem dL_riverAtAnew_2 : decode cL_riverAtAnew 2 = .ok (.aload_n 0, 1) := by decide +kernel
theorem dL_riverAtAnew_3 : decode cL_riverAtAnew 3 = .ok (.iload_n 1, 1) := by decide +kernel
theorem dL_riverAtAnew_4 : decode cL_riverAtAnew 4 = .ok (.iload_n 2, 1) := by decide +kernel
theorem dL_riverAtAnew_5 : decode cL_riverAtAnew 5 = .ok (.invokevirtual 88, 3) := by decide +kernel
theorem dL_riverAtAnew_8 : decode cL_riverAtAnew 8 = .ok (.i2l, 1) := by decide +kernel
theorem dL_riverAtAnew_9 : decode cL_riverAtAnew 9 = .ok (.lastore, 1) := by decide +kernel
theorem dL_riverAtAnew_10 : decode cL_riverAtAnew 10 = .ok (.goto 11, 3) := by decide +kernel
theorem dL_riverAtAnew_13 : decode cL_riverAtAnew 13 = .ok (.astore 4, 2) := by decide +kernel
theorem dL_riverAtAnew_15 : decode cL_riverAtAnew 15 = .ok (.iconst 1, 1) := by decide +kernel
theorem dL_riverAtAnew_16 : decode cL_riverAtAnew 16 = .ok (.ireturn, 1) := by decide +kernel
theorem dL_riverAtAnew_17 : decode cL_riverAtAnew 17 = .ok (.astore 4, 2) := by decide +kernel
theorem dL_riverAtAnew_19 : decode cL_riverAtAnew 19 = .ok (.iconst 2, 1) := by decide +kernel
theorem dL_riverAtAnew_20 : decode cL_riverAtAnew 20 = .ok (.ireturn, 1) := by decide +kernel
theorem dL_riverAtAnew_21 : decode cL_riverAtAnew 21 = .ok (.iconst 0, 1) := by decide +kernel
theorem dL_riverAtAnew_22 : decode cL_riverAtAnew 22 = .ok (.ireturn, 1) := by decide +kernel
theorem dL_rankOf_0 : decode cL_rankOf 0 = .ok (.aload_n 3, 1) := by decide +kernel
theorem dL_rankOf_1 : decode cL_rankOf 1 = .ok (.iconst 0, 1) := by decide +kernel
theorem dL_rankOf_2 : decode cL_rankOf 2 = .ok (.aload_n 0, 1) := by decide +kernel
theorem dL_rankOf_3 : decode cL_rankOf 3 = .ok (.iload_n 1, 1) := by decide +kernel
theorem dL_rankOf_4 : decode cL_rankOf 4 = .ok (.iload_n 2, 1) := by decide +kernel
theorem dL_rankOf_5 : decode cL_rankOf 5 = .ok (.invokevirtual 91, 3) := by decide +kernel
theorem dL_rankOf_8 : decode cL_rankOf 8 = .ok (.i2l, 1) := by decide +kernel
theorem dL_rankOf_9 : decode cL_rankOf 9 = .ok (.lastore, 1) := by decide +kernel
theorem dL_rankOf_10 : decode cL_rankOf 10 = .ok (.goto 11, 3) := by decide +kernel
theorem dL_rankOf_13 : decode cL_rankOf 13 = .ok (.astore 4, 2) := by decide +kernel
theorem dL_rankOf_15 : decode cL_rankOf 15 = .ok (.iconst 1, 1) := by decide +kernel
theorem dL_rankOf_16 : decode cL_rankOf 16 = .ok (.ireturn, 1) := by decide +kernel
theorem dL_rankOf_17 : decode cL_rankOf 17 = .ok (.astore 4, 2) := by decide +kernel
theorem dL_rankOf_19 : decode cL_rankOf 19 = .ok (.iconst 2, 1) := by decide +kernel
theorem dL_rankOf_20 : decode cL_rankOf 20 = .ok (.ireturn, 1) := by decide +kernel
theorem dL_rankOf_21 : decode cL_rankOf 21 = .ok (.iconst 0, 1) := by decide +kernel
theorem dL_rankOf_22 : decode cL_rankOf 22 = .ok (.ireturn, 1) := by decide +kernel
theorem dL_unread_0 : decode cL_unread 0 = .ok (.aload_n 2, 1) := by decide +kernel
theorem dL_unread_1 : decode cL_unread 1 = .ok (.iconst 0, 1) := by decide +kernel
theorem dL_unread_2 : decode cL_unread 2 = .ok (.aload_n 0, 1) := by decide +kernel
theorem dL_unread_3 : decode cL_unread 3 = .ok (.iload_n 1, 1) := by decide +kernel
theorem dL_unread_4 : decode cL_unread 4 = .ok (.invokevirtual 94, 3) := by decide +kernel
theorem dL_unread_7 : decode cL_unread 7 = .ok (.i2l, 1) := by decide +kernel
theorem dL_unread_8 : decode cL_unread 8 = .ok (.lastore, 1) := by decide +kernel
theorem dL_unread_9 : decode cL_unread 9 = .ok (.goto 6, 3) := by decide +kernel
theorem dL_unread_12 : decode cL_unread 12 = .ok (.astore_n 3, 1) := by decide +kernel
theorem dL_unread_13 : decode cL_unread 13 = .ok (.iconst 1, 1) := by decide +kernel
theorem dL_unread_14 : decode cL_unread 14 = .ok (.ireturn, 1) := by decide +kernel
theorem dL_unread_15 : decode cL_unread 15 = .ok (.iconst 0, 1) := by decide +kernel
theorem dL_unread_16 : decode cL_unread 16 = .ok (.ireturn, 1) := by decide +kernel
theorem dL_nextUnread_0 : decode cL_nextUnread 0 = .ok (.aload_n 2, 1) := by decide +kernel
theorem dL_nextUnread_1 : decode cL_nextUnread 1 = .ok (.iconst 0, 1) := by decide +kernel
theorem dL_nextUnread_2 : decode cL_nextUnread 2 = .ok (.aload_n 0, 1) := by decide +kernel
theorem dL_nextUnread_3 : decode cL_nextUnread 3 = .ok (.iload_n 1, 1) := by decide +kernel
theorem dL_nextUnread_4 : decode cL_nextUnread 4 = .ok (.invokevirtual 97, 3) := by decide +kernel
theorem dL_nextUnread_7 : decode cL_nextUnread 7 = .ok (.i2l, 1) := by decide +kernel
theorem dL_nextUnread_8 : decode cL_nextUnread 8 = .ok (.lastore, 1) := by decide +kernel
theorem dL_nextUnread_9 : decode cL_nextUnread 9 = .ok (.goto 9, 3) := by decide +kernel
theorem dL_nextUnread_12 : decode cL_nextUnread 12 = .ok (.astore_n 3, 1) := by decide +kernel
theorem dL_nextUnread_13 : decode cL_nextUnread 13 = .ok (.iconst 1, 1) := by decide +kernel
theorem dL_nextUnread_14 : decode cL_nextUnread 14 = .ok (.ireturn, 1) := by decide +kernel
theorem dL_nextUnread_15 : decode cL_nextUnread 15 = .ok (.astore_n 3, 1) := by decide +kernel
theorem dL_nextUnread_16 : decode cL_nextUnread 16 = .ok (.iconst 2, 1) := by decide +kernel
theorem dL_nextUnread_17 : decode cL_nextUnread 17 = .ok (.ireturn, 1) := by decide +kernel
theorem dL_nextUnread_18 : decode cL_nextUnread 18 = .ok (.iconst 0, 1) := by decide +kernel
theorem dL_nextUnread_19 : decode cL_nextUnread 19 = .ok (.ireturn, 1) := by decide +kernel
theorem dL_readShare_0 : decode cL_readShare 0 = .ok (.aload_n 2, 1) := by decide +kernel
theorem dL_readShare_1 : decode cL_readShare 1 = .ok (.iconst 0, 1) := by decide +kernel
theorem dL_readShare_2 : decode cL_readShare 2 = .ok (.aload_n 0, 1) := by decide +kernel
theorem dL_readShare_3 : decode cL_readShare 3 = .ok (.iload_n 1, 1) := by decide +kernel
theorem dL_readShare_4 : decode cL_readShare 4 = .ok (.invokevirtual 100, 3) := by decide +kernel
theorem dL_readShare_7 : decode cL_readShare 7 = .ok (.f2d, 1) := by decide +kernel
theorem dL_readShare_8 : decode cL_readShare 8 = .ok (.dastore, 1) := by decide +kernel
theorem dL_readShare_9 : decode cL_readShare 9 = .ok (.goto 9, 3) := by decide +kernel
theorem dL_readShare_12 : decode cL_readShare 12 = .ok (.astore_n 3, 1) := by decide +kernel
theorem dL_readShare_13 : decode cL_readShare 13 = .ok (.iconst 1, 1) := by decide +kernel
theorem dL_readShare_14 : decode cL_readShare 14 = .ok (.ireturn, 1) := by decide +kernel
theorem dL_readShare_15 : decode cL_readShare 15 = .ok (.astore_n 3, 1) := by decide +kernel
theorem dL_readShare_16 : decode cL_readShare 16 = .ok (.iconst 2, 1) := by decide +kernel
theorem dL_readShare_17 : decode cL_readShare 17 = .ok (.ireturn, 1) := by decide +kernel
theorem dL_readShare_18 : decode cL_readShare 18 = .ok (.iconst 0, 1) := by decide +kernel
theorem dL_readShare_19 : decode cL_readShare 19 = .ok (.ireturn, 1) := by decide +kernel
theorem dL_addDevice_0 : decode cL_addDevice 0 = .ok (.aload_n 1, 1) := by decide +kernel
theorem dL_addDevice_1 : decode cL_addDevice 1 = .ok (.iconst 0, 1) := by decide +kernel
theorem dL_addDevice_2 : decode cL_addDevice 2 = .ok (.aload_n 0, 1) := by decide +kernel
theorem dL_addDevice_3 : decode cL_addDevice 3 = .ok (.invokevirtual 106, 3) := by decide +kernel
theorem dL_addDevice_6 : decode cL_addDevice 6 = .ok (.i2l, 1) := by decide +kernel
theorem dL_addDevice_7 : decode cL_addDevice 7 = .ok (.lastore, 1) := by decide +kernel
theorem dL_addDevice_8 : decode cL_addDevice 8 = .ok (.goto 6, 3) := by decide +kernel
theorem dL_addDevice_11 : decode cL_addDevice 11 = .ok (.astore_n 2, 1) := by decide +kernel
theorem dL_addDevice_12 : decode cL_addDevice 12 = .ok (.iconst 1, 1) := by decide +kernel
theorem dL_addDevice_13 : decode cL_addDevice 13 = .ok (.ireturn, 1) := by decide +kernel
theorem dL_addDevice_14 : decode cL_addDevice 14 = .ok (.iconst 0, 1) := by decide +kernel
theorem dL_addDevice_15 : decode cL_addDevice 15 = .ok (.ireturn, 1) := by decide +kernel
theorem dL_mark_0 : decode cL_mark 0 = .ok (.aload 4, 2) := by decide +kernel
theorem dL_mark_2 : decode cL_mark 2 = .ok (.iconst 0, 1) := by decide +kernel
theorem dL_mark_3 : decode cL_mark 3 = .ok (.aload_n 0, 1) := by decide +kernel
theorem dL_mark_4 : decode cL_mark 4 = .ok (.iload_n 1, 1) := by decide +kernel
theorem dL_mark_5 : decode cL_mark 5 = .ok (.iload_n 2, 1) := by decide +kernel
theorem dL_mark_6 : decode cL_mark 6 = .ok (.iload_n 3, 1) := by decide +kernel
theorem dL_mark_7 : decode cL_mark 7 = .ok (.invokevirtual 109, 3) := by decide +kernel
theorem dL_mark_10 : decode cL_mark 10 = .ok (.ifCond .eq 7, 3) := by decide +kernel
theorem dL_mark_13 : decode cL_mark 13 = .ok (.lconst 1, 1) := by decide +kernel
theorem dL_mark_14 : decode cL_mark 14 = .ok (.goto 4, 3) := by decide +kernel
theorem dL_mark_17 : decode cL_mark 17 = .ok (.lconst 0, 1) := by decide +kernel
theorem dL_mark_18 : decode cL_mark 18 = .ok (.lastore, 1) := by decide +kernel
theorem dL_mark_19 : decode cL_mark 19 = .ok (.goto 11, 3) := by decide +kernel
theorem dL_mark_22 : decode cL_mark 22 = .ok (.astore 5, 2) := by decide +kernel
theorem dL_mark_24 : decode cL_mark 24 = .ok (.iconst 1, 1) := by decide +kernel
theorem dL_mark_25 : decode cL_mark 25 = .ok (.ireturn, 1) := by decide +kernel
theorem dL_mark_26 : decode cL_mark 26 = .ok (.astore 5, 2) := by decide +kernel
theorem dL_mark_28 : decode cL_mark 28 = .ok (.iconst 2, 1) := by decide +kernel
theorem dL_mark_29 : decode cL_mark 29 = .ok (.ireturn, 1) := by decide +kernel
theorem dL_mark_30 : decode cL_mark 30 = .ok (.iconst 0, 1) := by decide +kernel
theorem dL_mark_31 : decode cL_mark 31 = .ok (.ireturn, 1) := by decide +kernel
theorem dL_markRiver_0 : decode cL_markRiver 0 = .ok (.aload_n 3, 1) := by decide +kernel
theorem dL_markRiver_1 : decode cL_markRiver 1 = .ok (.iconst 0, 1) := by decide +kernel
theorem dL_markRiver_2 : decode cL_markRiver 2 = .ok (.aload_n 0, 1) := by decide +kernel
theorem dL_markRiver_3 : decode cL_markRiver 3 = .ok (.iload_n 1, 1) := by decide +kernel
theorem dL_markRiver_4 : decode cL_markRiver 4 = .ok (.iload_n 2, 1) := by decide +kernel
theorem dL_markRiver_5 : decode cL_markRiver 5 = .ok (.invokevirtual 113, 3) := by decide +kernel
theorem dL_markRiver_8 : decode cL_markRiver 8 = .ok (.i2l, 1) := by decide +kernel
theorem dL_markRiver_9 : decode cL_markRiver 9 = .ok (.lastore, 1) := by decide +kernel
theorem dL_markRiver_10 : decode cL_markRiver 10 = .ok (.goto 7, 3) := by decide +kernel
theorem dL_markRiver_13 : decode cL_markRiver 13 = .ok (.astore 4, 2) := by decide +kernel
theorem dL_markRiver_15 : decode cL_markRiver 15 = .ok (.iconst 1, 1) := by decide +kernel
theorem dL_markRiver_16 : decode cL_markRiver 16 = .ok (.ireturn, 1) := by decide +kernel
theorem dL_markRiver_17 : decode cL_markRiver 17 = .ok (.iconst 0, 1) := by decide +kernel
theorem dL_markRiver_18 : decode cL_markRiver 18 = .ok (.ireturn, 1) := by decide +kernel
theorem dL_sync_0 : decode cL_sync 0 = .ok (.aload_n 2, 1) := by decide +kernel
theorem dL_sync_1 : decode cL_sync 1 = .ok (.iconst 0, 1) := by decide +kernel
theorem dL_sync_2 : decode cL_sync 2 = .ok (.aload_n 0, 1) := by decide +kernel
theorem dL_sync_3 : decode cL_sync 3 = .ok (.iload_n 1, 1) := by decide +kernel
theorem dL_sync_4 : decode cL_sync 4 = .ok (.invokevirtual 116, 3) := by decide +kernel
theorem dL_sync_7 : decode cL_sync 7 = .ok (.i2l, 1) := by decide +kernel
theorem dL_sync_8 : decode cL_sync 8 = .ok (.lastore, 1) := by decide +kernel
theorem dL_sync_9 : decode cL_sync 9 = .ok (.goto 6, 3) := by decide +kernel
theorem dL_sync_12 : decode cL_sync 12 = .ok (.astore_n 3, 1) := by decide +kernel
theorem dL_sync_13 : decode cL_sync 13 = .ok (.iconst 1, 1) := by decide +kernel
theorem dL_sync_14 : decode cL_sync 14 = .ok (.ireturn, 1) := by decide +kernel
theorem dL_sync_15 : decode cL_sync 15 = .ok (.iconst 0, 1) := by decide +kernel
theorem dL_sync_16 : decode cL_sync 16 = .ok (.ireturn, 1) := by decide +kernel
theorem dL_isRead_0 : decode cL_isRead 0 = .ok (.aload_n 2, 1) := by decide +kernel
theorem dL_isRead_1 : decode cL_isRead 1 = .ok (.iconst 0, 1) := by decide +kernel
theorem dL_isRead_2 : decode cL_isRead 2 = .ok (.aload_n 0, 1) := by decide +kernel
theorem dL_isRead_3 : decode cL_isRead 3 = .ok (.iload_n 1, 1) := by decide +kernel
theorem dL_isRead_4 : decode cL_isRead 4 = .ok (.invokevirtual 119, 3) := by decide +kernel
theorem dL_isRead_7 : decode cL_isRead 7 = .ok (.ifCond .eq 7, 3) := by decide +kernel
theorem dL_isRead_10 : decode cL_isRead 10 = .ok (.lconst 1, 1) := by decide +kernel
theorem dL_isRead_11 : decode cL_isRead 11 = .ok (.goto 4, 3) := by decide +kernel
theorem dL_isRead_14 : decode cL_isRead 14 = .ok (.lconst 0, 1) := by decide +kernel
theorem dL_isRead_15 : decode cL_isRead 15 = .ok (.lastore, 1) := by decide +kernel
theorem dL_isRead_16 : decode cL_isRead 16 = .ok (.goto 6, 3) := by decide +kernel
theorem dL_isRead_19 : decode cL_isRead 19 = .ok (.astore_n 3, 1) := by decide +kernel
theorem dL_isRead_20 : decode cL_isRead 20 = .ok (.iconst 1, 1) := by decide +kernel
theorem dL_isRead_21 : decode cL_isRead 21 = .ok (.ireturn, 1) := by decide +kernel
theorem dL_isRead_22 : decode cL_isRead 22 = .ok (.iconst 0, 1) := by decide +kernel
theorem dL_isRead_23 : decode cL_isRead 23 = .ok (.ireturn, 1) := by decide +kernel
theorem dL_isReadOn_0 : decode cL_isReadOn 0 = .ok (.aload_n 3, 1) := by decide +kernel
theorem dL_isReadOn_1 : decode cL_isReadOn 1 = .ok (.iconst 0, 1) := by decide +kernel
theorem dL_isReadOn_2 : decode cL_isReadOn 2 = .ok (.aload_n 0, 1) := by decide +kernel
theorem dL_isReadOn_3 : decode cL_isReadOn 3 = .ok (.iload_n 1, 1) := by decide +kernel
theorem dL_isReadOn_4 : decode cL_isReadOn 4 = .ok (.iload_n 2, 1) := by decide +kernel
theorem dL_isReadOn_5 : decode cL_isReadOn 5 = .ok (.invokevirtual 122, 3) := by decide +kernel
theorem dL_isReadOn_8 : decode cL_isReadOn 8 = .ok (.ifCond .eq 7, 3) := by decide +kernel
theorem dL_isReadOn_11 : decode cL_isReadOn 11 = .ok (.lconst 1, 1) := by decide +kernel
theorem dL_isReadOn_12 : decode cL_isReadOn 12 = .ok (.goto 4, 3) := by decide +kernel
theorem dL_isReadOn_15 : decode cL_isReadOn 15 = .ok (.lconst 0, 1) := by decide +kernel
theorem dL_isReadOn_16 : decode cL_isReadOn 16 = .ok (.lastore, 1) := by decide +kernel
theorem dL_isReadOn_17 : decode cL_isReadOn 17 = .ok (.goto 11, 3) := by decide +kernel
theorem dL_isReadOn_20 : decode cL_isReadOn 20 = .ok (.astore 4, 2) := by decide +kernel
theorem dL_isReadOn_22 : decode cL_isReadOn 22 = .ok (.iconst 1, 1) := by decide +kernel
theorem dL_isReadOn_23 : decode cL_isReadOn 23 = .ok (.ireturn, 1) := by decide +kernel
theorem dL_isReadOn_24 : decode cL_isReadOn 24 = .ok (.astore 4, 2) := by decide +kernel
theorem dL_isReadOn_26 : decode cL_isReadOn 26 = .ok (.iconst 2, 1) := by decide +kernel
theorem dL_isReadOn_27 : decode cL_isReadOn 27 = .ok (.ireturn, 1) := by decide +kernel
theorem dL_isReadOn_28 : decode cL_isReadOn 28 = .ok (.iconst 0, 1) := by decide +kernel
theorem dL_isReadOn_29 : decode cL_isReadOn 29 = .ok (.ireturn, 1) := by decide +kernel
theorem dL_knownVersions_0 : decode cL_knownVersions 0 = .ok (.aload_n 3, 1) := by decide +kernel
theorem dL_knownVersions_1 : decode cL_knownVersions 1 = .ok (.iconst 0, 1) := by decide +kernel
theorem dL_knownVersions_2 : decode cL_knownVersions 2 = .ok (.aload_n 0, 1) := by decide +kernel
theorem dL_knownVersions_3 : decode cL_knownVersions 3 = .ok (.iload_n 1, 1) := by decide +kernel
theorem dL_knownVersions_4 : decode cL_knownVersions 4 = .ok (.iload_n 2, 1) := by decide +kernel
theorem dL_knownVersions_5 : decode cL_knownVersions 5 = .ok (.invokevirtual 126, 3) := by decide +kernel
theorem dL_knownVersions_8 : decode cL_knownVersions 8 = .ok (.i2l, 1) := by decide +kernel
theorem dL_knownVersions_9 : decode cL_knownVersions 9 = .ok (.lastore, 1) := by decide +kernel
theorem dL_knownVersions_10 : decode cL_knownVersions 10 = .ok (.goto 7, 3) := by decide +kernel
theorem dL_knownVersions_13 : decode cL_knownVersions 13 = .ok (.astore 4, 2) := by decide +kernel
theorem dL_knownVersions_15 : decode cL_knownVersions 15 = .ok (.iconst 1, 1) := by decide +kernel
theorem dL_knownVersions_16 : decode cL_knownVersions 16 = .ok (.ireturn, 1) := by decide +kernel
theorem dL_knownVersions_17 : decode cL_knownVersions 17 = .ok (.iconst 0, 1) := by decide +kernel
theorem dL_knownVersions_18 : decode cL_knownVersions 18 = .ok (.ireturn, 1) := by decide +kernel
theorem dL_meanVersions_0 : decode cL_meanVersions 0 = .ok (.aload_n 1, 1) := by decide +kernel
theorem dL_meanVersions_1 : decode cL_meanVersions 1 = .ok (.iconst 0, 1) := by decide +kernel
theorem dL_meanVersions_2 : decode cL_meanVersions 2 = .ok (.aload_n 0, 1) := by decide +kernel
theorem dL_meanVersions_3 : decode cL_meanVersions 3 = .ok (.invokevirtual 129, 3) := by decide +kernel
theorem dL_meanVersions_6 : decode cL_meanVersions 6 = .ok (.dastore, 1) := by decide +kernel
theorem dL_meanVersions_7 : decode cL_meanVersions 7 = .ok (.goto 6, 3) := by decide +kernel
theorem dL_meanVersions_10 : decode cL_meanVersions 10 = .ok (.astore_n 2, 1) := by decide +kernel
theorem dL_meanVersions_11 : decode cL_meanVersions 11 = .ok (.iconst 1, 1) := by decide +kernel
theorem dL_meanVersions_12 : decode cL_meanVersions 12 = .ok (.ireturn, 1) := by decide +kernel
theorem dL_meanVersions_13 : decode cL_meanVersions 13 = .ok (.iconst 0, 1) := by decide +kernel
theorem dL_meanVersions_14 : decode cL_meanVersions 14 = .ok (.ireturn, 1) := by decide +kernel
