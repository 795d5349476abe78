/-! The law's words are among the tables', chunk by chunk. -/
theorem lwi_1 : ∀ w ∈ wsL_law0_r1, w ∈ lw_tbl := fun w h => (goodIn_p wsL_law0_r1 [105, 108] (by decide +kernel) (by decide +kernel) w h).1
theorem lwi_2 : ∀ w ∈ wsL_law0_r2, w ∈ lw_tbl := fun w h => (goodIn_p wsL_law0_r2 [113] (by decide +kernel) (by decide +kernel) w h).1
theorem lwi_3 : ∀ w ∈ wsL_law0_r3, w ∈ lw_tbl := fun w h => (goodIn_p wsL_law0_r3 [119, 156] (by decide +kernel) (by decide +kernel) w h).1
theorem lwi_4 : ∀ w ∈ wsL_law0_r4, w ∈ lw_tbl := fun w h => (goodIn_p wsL_law0_r4 [186, 217, 269] (by decide +kernel) (by decide +kernel) w h).1
theorem lwi_5 : ∀ w ∈ wsL_law0_r5, w ∈ lw_tbl := fun w h => (goodIn_p wsL_law0_r5 [289, 1300] (by decide +kernel) (by decide +kernel) w h).1
theorem lwi_6 : ∀ w ∈ wsL_law0_r6, w ∈ lw_tbl := fun w h => (goodIn_p wsL_law0_r6 [342, 346, 350, 1357] (by decide +kernel) (by decide +kernel) w h).1
theorem lwi_7 : ∀ w ∈ wsL_law0_r7, w ∈ lw_tbl := fun w h => (goodIn_p wsL_law0_r7 [1361, 399, 403, 406, 409] (by decide +kernel) (by decide +kernel) w h).1
theorem lwi_8 : ∀ w ∈ wsL_law0_r8, w ∈ lw_tbl := fun w h => (goodIn_p wsL_law0_r8 [413, 416, 491, 510, 529] (by decide +kernel) (by decide +kernel) w h).1
theorem lwi_9 : ∀ w ∈ wsL_law0_r9, w ∈ lw_tbl := fun w h => (goodIn_p wsL_law0_r9 [549, 553, 358, 362, 369] (by decide +kernel) (by decide +kernel) w h).1
theorem lwi_10 : ∀ w ∈ wsL_law0_r10, w ∈ lw_tbl := fun w h => (goodIn_p wsL_law0_r10 [374, 379, 557, 1365, 1368] (by decide +kernel) (by decide +kernel) w h).1
theorem lwi_11 : ∀ w ∈ wsL_law0_r11, w ∈ lw_tbl := fun w h => (goodIn_p wsL_law0_r11 [1371, 1375, 1379, 1382, 1386, 1390, 1353] (by decide +kernel) (by decide +kernel) w h).1
theorem lwi_12 : ∀ w ∈ wsL_law0_r12, w ∈ lw_tbl := fun w h => (goodIn_p wsL_law0_r12 [585, 589, 593, 597] (by decide +kernel) (by decide +kernel) w h).1
theorem lwi_13 : ∀ w ∈ wsL_law0_r13, w ∈ lw_tbl := fun w h => (goodIn_p wsL_law0_r13 [602, 606, 609, 613, 617, 1394, 1398] (by decide +kernel) (by decide +kernel) w h).1
theorem lwi_14 : ∀ w ∈ wsL_law0_r14, w ∈ lw_tbl := fun w h => (goodIn_p wsL_law0_r14 [1402, 1406, 1409, 1413, 1416] (by decide +kernel) (by decide +kernel) w h).1
theorem lwi_15 : ∀ w ∈ wsL_law0_r15, w ∈ lw_tbl := fun w h => (goodIn_p wsL_law0_r15 [625, 629, 633, 637, 641, 645] (by decide +kernel) (by decide +kernel) w h).1
theorem lwi_16 : ∀ w ∈ wsL_law0_r16, w ∈ lw_tbl := fun w h => (goodIn_p wsL_law0_r16 [649, 653, 658, 662, 668] (by decide +kernel) (by decide +kernel) w h).1
theorem lwi_17 : ∀ w ∈ wsL_law0_r17, w ∈ lw_tbl := fun w h => (goodIn_p wsL_law0_r17 [673, 677, 681, 685, 1420, 1424] (by decide +kernel) (by decide +kernel) w h).1
theorem lwi_18 : ∀ w ∈ wsL_law0_r18, w ∈ lw_tbl := fun w h => (goodIn_p wsL_law0_r18 [1428, 1432, 1436, 1440, 1444] (by decide +kernel) (by decide +kernel) w h).1
theorem lwi_19 : ∀ w ∈ wsL_law0_r19, w ∈ lw_tbl := fun w h => (goodIn_p wsL_law0_r19 [1448, 1452, 1456, 1460, 1464, 1468] (by decide +kernel) (by decide +kernel) w h).1
theorem lwi_20 : ∀ w ∈ wsL_law0_r20, w ∈ lw_tbl := fun w h => (goodIn_p wsL_law0_r20 [1472, 1476, 692, 696, 701] (by decide +kernel) (by decide +kernel) w h).1
theorem lwi_21 : ∀ w ∈ wsL_law0_r21, w ∈ lw_tbl := fun w h => (goodIn_p wsL_law0_r21 [705, 709, 713, 1480, 1484, 1488] (by decide +kernel) (by decide +kernel) w h).1
theorem lwi_22 : ∀ w ∈ wsL_law0_r22, w ∈ lw_tbl := fun w h => (goodIn_p wsL_law0_r22 [1492, 1496, 720, 725] (by decide +kernel) (by decide +kernel) w h).1
theorem lwi_23 : ∀ w ∈ wsL_law0_r23, w ∈ lw_tbl := fun w h => (goodIn_p wsL_law0_r23 [730, 734, 738, 742, 1500, 1504] (by decide +kernel) (by decide +kernel) w h).1
theorem lwi_24 : ∀ w ∈ wsL_law0_r24, w ∈ lw_tbl := fun w h => (goodIn_p wsL_law0_r24 [1508, 1512, 1516, 1520, 750, 754] (by decide +kernel) (by decide +kernel) w h).1
theorem lwi_25 : ∀ w ∈ wsL_law0_r25, w ∈ lw_tbl := fun w h => (goodIn_p wsL_law0_r25 [1524, 1528, 761, 765, 384] (by decide +kernel) (by decide +kernel) w h).1
theorem lwi_26 : ∀ w ∈ wsL_law0_r26, w ∈ lw_tbl := fun w h => (goodIn_p wsL_law0_r26 [1532, 773, 778, 782, 785] (by decide +kernel) (by decide +kernel) w h).1
theorem lwi_27 : ∀ w ∈ wsL_law0_r27, w ∈ lw_tbl := fun w h => (goodIn_p wsL_law0_r27 [1536, 808, 1540, 815] (by decide +kernel) (by decide +kernel) w h).1
theorem lwi_28 : ∀ w ∈ wsL_law0_r28, w ∈ lw_tbl := fun w h => (goodIn_p wsL_law0_r28 [1544, 822, 826, 830, 835] (by decide +kernel) (by decide +kernel) w h).1
