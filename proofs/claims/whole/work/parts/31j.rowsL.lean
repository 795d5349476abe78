/-! The words of read among those of the law's road to it. -/
set_option maxRecDepth 20000 in
theorem gi_w {small big ws : List Cond} (hm : ∀ w ∈ small, w ∈ big) (h : GoodIn small ws) : GoodIn big ws := fun w q => ⟨hm w (h w q).1, (h w q).2⟩
set_option maxRecDepth 20000 in
theorem gi_a {big a b : List Cond} (ha : GoodIn big a) (hb : GoodIn big b) : GoodIn big (a ++ b) := fun w h => (List.mem_append.mp h).elim (ha w) (hb w)
set_option maxRecDepth 20000 in
theorem gi_c {big a : List Cond} {c : Cond} (hc : GoodIn big [c]) (ha : GoodIn big a) : GoodIn big (c :: a) := fun w h => (List.mem_cons.mp h).elim (fun e => hc w (List.mem_singleton.mpr e)) (ha w)
set_option maxRecDepth 20000 in
theorem qrd_1 : GoodIn (wsL_read_r1 ++ (wsL_read_r2)) wsX7_read_r1 := goodIn_r _ [7, 8, 9, 10, 11, 12, 13, 14, 15, 16, 17, 18, 19, 20, 21, 22, 23, 24, 25, 26, 27, 28, 29, 30] (by decide +kernel) (by decide +kernel)
set_option maxRecDepth 20000 in
theorem qrd_m1 : ∀ w ∈ wsL_read_r1 ++ (wsL_read_r2), w ∈ wsL_read := fun w h => by
  simp only [List.mem_append] at h
  simp only [wsL_read, List.mem_cons, List.mem_append]
  rcases h with h | h <;> simp only [h, true_or, or_true]
set_option maxRecDepth 20000 in
theorem qrd_2 : GoodIn (wsL_read_r2 ++ (wsL_read_r3)) wsX7_read_r2 := goodIn_r _ [7, 8, 9, 10, 11, 12, 13, 14, 15, 16, 17, 18, 19, 20, 21, 22, 23, 24, 25, 26, 27, 28, 29, 30] (by decide +kernel) (by decide +kernel)
set_option maxRecDepth 20000 in
theorem qrd_m2 : ∀ w ∈ wsL_read_r2 ++ (wsL_read_r3), w ∈ wsL_read := fun w h => by
  simp only [List.mem_append] at h
  simp only [wsL_read, List.mem_cons, List.mem_append]
  rcases h with h | h <;> simp only [h, true_or, or_true]
set_option maxRecDepth 20000 in
theorem qrd_3 : GoodIn (wsL_read_r3 ++ (wsL_read_r4)) wsX7_read_r3 := goodIn_r _ [7, 8, 9, 10, 11, 12, 13, 14, 15, 16, 17, 18, 19, 20, 21, 22, 23, 24, 25, 26, 27, 28, 29, 30] (by decide +kernel) (by decide +kernel)
set_option maxRecDepth 20000 in
theorem qrd_m3 : ∀ w ∈ wsL_read_r3 ++ (wsL_read_r4), w ∈ wsL_read := fun w h => by
  simp only [List.mem_append] at h
  simp only [wsL_read, List.mem_cons, List.mem_append]
  rcases h with h | h <;> simp only [h, true_or, or_true]
set_option maxRecDepth 20000 in
theorem qrd_4 : GoodIn (wsL_read_r4 ++ (wsL_read_r5)) wsX7_read_r4 := goodIn_r _ [7, 8, 9, 10, 11, 12, 13, 14, 15, 16, 17, 18, 19, 20, 21, 22, 23, 24, 25, 26, 27, 28, 29, 30] (by decide +kernel) (by decide +kernel)
set_option maxRecDepth 20000 in
theorem qrd_m4 : ∀ w ∈ wsL_read_r4 ++ (wsL_read_r5), w ∈ wsL_read := fun w h => by
  simp only [List.mem_append] at h
  simp only [wsL_read, List.mem_cons, List.mem_append]
  rcases h with h | h <;> simp only [h, true_or, or_true]
set_option maxRecDepth 20000 in
theorem qrd_5 : GoodIn (wsL_read_r1 ++ (wsL_read_r2 ++ (wsL_read_r3 ++ (wsL_read_r4 ++ (wsL_read_r5 ++ (wsL_read_r6)))))) wsX7_read_r5 := goodIn_r _ [103, 104, 105, 106, 107, 108, 109, 110, 111, 112, 113, 114, 5, 115, 116, 117, 118, 119, 120, 121, 122, 123, 124, 125] (by decide +kernel) (by decide +kernel)
set_option maxRecDepth 20000 in
theorem qrd_m5 : ∀ w ∈ wsL_read_r1 ++ (wsL_read_r2 ++ (wsL_read_r3 ++ (wsL_read_r4 ++ (wsL_read_r5 ++ (wsL_read_r6))))), w ∈ wsL_read := fun w h => by
  simp only [List.mem_append] at h
  simp only [wsL_read, List.mem_cons, List.mem_append]
  rcases h with h | h | h | h | h | h <;> simp only [h, true_or, or_true]
set_option maxRecDepth 20000 in
theorem qrd_6 : GoodIn (wsL_read_r6 ++ (wsL_read_r7)) wsX7_read_r6 := goodIn_r _ [6, 7, 8, 9, 10, 11, 12, 13, 14, 15, 16, 17, 18, 19, 20, 21, 22, 23, 24, 25, 26, 27, 28, 29] (by decide +kernel) (by decide +kernel)
set_option maxRecDepth 20000 in
theorem qrd_m6 : ∀ w ∈ wsL_read_r6 ++ (wsL_read_r7), w ∈ wsL_read := fun w h => by
  simp only [List.mem_append] at h
  simp only [wsL_read, List.mem_cons, List.mem_append]
  rcases h with h | h <;> simp only [h, true_or, or_true]
set_option maxRecDepth 20000 in
theorem qrd_7 : GoodIn (wsL_read_r7 ++ (wsL_read_r8)) wsX7_read_r7 := goodIn_r _ [6, 7, 8, 9, 10, 11, 12, 13, 14, 15, 16, 17, 18, 19, 20, 21, 22, 23, 24, 25, 26, 27, 28, 29] (by decide +kernel) (by decide +kernel)
set_option maxRecDepth 20000 in
theorem qrd_m7 : ∀ w ∈ wsL_read_r7 ++ (wsL_read_r8), w ∈ wsL_read := fun w h => by
  simp only [List.mem_append] at h
  simp only [wsL_read, List.mem_cons, List.mem_append]
  rcases h with h | h <;> simp only [h, true_or, or_true]
set_option maxRecDepth 20000 in
theorem qrd_8 : GoodIn (wsL_read_r8 ++ (wsL_read_r9)) wsX7_read_r8 := goodIn_r _ [6, 7, 8, 9, 10, 11, 12, 13, 14, 15, 16, 17, 18, 19, 20, 21, 22, 23, 24, 25, 26, 27, 28, 29] (by decide +kernel) (by decide +kernel)
set_option maxRecDepth 20000 in
theorem qrd_m8 : ∀ w ∈ wsL_read_r8 ++ (wsL_read_r9), w ∈ wsL_read := fun w h => by
  simp only [List.mem_append] at h
  simp only [wsL_read, List.mem_cons, List.mem_append]
  rcases h with h | h <;> simp only [h, true_or, or_true]
set_option maxRecDepth 20000 in
theorem qrd_9 : GoodIn (wsL_read_r9 ++ (wsL_read_r10)) wsX7_read_r9 := goodIn_r _ [6, 7, 8, 9, 10, 11, 12, 13, 14, 15, 16, 17, 18, 19, 20, 21, 22, 23, 24, 25, 26, 27, 28, 29] (by decide +kernel) (by decide +kernel)
set_option maxRecDepth 20000 in
theorem qrd_m9 : ∀ w ∈ wsL_read_r9 ++ (wsL_read_r10), w ∈ wsL_read := fun w h => by
  simp only [List.mem_append] at h
  simp only [wsL_read, List.mem_cons, List.mem_append]
  rcases h with h | h <;> simp only [h, true_or, or_true]
set_option maxRecDepth 20000 in
theorem qrd_10 : GoodIn (wsL_read_r10 ++ (wsL_read_r11)) wsX7_read_r10 := goodIn_r _ [6, 7, 8, 9, 10, 11, 12, 13, 14, 15, 16, 17, 18, 19, 20, 21, 22, 23, 24, 25, 26, 27, 28, 29] (by decide +kernel) (by decide +kernel)
set_option maxRecDepth 20000 in
theorem qrd_m10 : ∀ w ∈ wsL_read_r10 ++ (wsL_read_r11), w ∈ wsL_read := fun w h => by
  simp only [List.mem_append] at h
  simp only [wsL_read, List.mem_cons, List.mem_append]
  rcases h with h | h <;> simp only [h, true_or, or_true]
set_option maxRecDepth 20000 in
theorem qrd_11 : GoodIn (wsL_read_r11 ++ (wsL_read_r12)) wsX7_read_r11 := goodIn_r _ [6, 7, 8, 9, 10, 11, 12, 13, 14, 15, 16, 17, 18, 19, 20, 21, 22, 23, 24, 25, 26, 27, 28, 29] (by decide +kernel) (by decide +kernel)
set_option maxRecDepth 20000 in
theorem qrd_m11 : ∀ w ∈ wsL_read_r11 ++ (wsL_read_r12), w ∈ wsL_read := fun w h => by
  simp only [List.mem_append] at h
  simp only [wsL_read, List.mem_cons, List.mem_append]
  rcases h with h | h <;> simp only [h, true_or, or_true]
set_option maxRecDepth 20000 in
theorem qrd_12 : GoodIn (wsL_read_r12 ++ (wsL_read_r13)) wsX7_read_r12 := goodIn_r _ [6, 7, 8, 9, 10, 11, 12, 13, 14, 15, 16, 17, 18, 19, 20, 21, 22, 23, 24, 25, 26, 27, 28, 29] (by decide +kernel) (by decide +kernel)
set_option maxRecDepth 20000 in
theorem qrd_m12 : ∀ w ∈ wsL_read_r12 ++ (wsL_read_r13), w ∈ wsL_read := fun w h => by
  simp only [List.mem_append] at h
  simp only [wsL_read, List.mem_cons, List.mem_append]
  rcases h with h | h <;> simp only [h, true_or, or_true]
set_option maxRecDepth 20000 in
theorem qrd_13 : GoodIn (wsL_read_r13 ++ (wsL_read_r14)) wsX7_read_r13 := goodIn_r _ [6, 7, 8, 9, 10, 11, 12, 13, 14, 15, 16, 17, 18, 19, 20, 21, 22, 23, 24, 25, 26, 27, 28, 29] (by decide +kernel) (by decide +kernel)
set_option maxRecDepth 20000 in
theorem qrd_m13 : ∀ w ∈ wsL_read_r13 ++ (wsL_read_r14), w ∈ wsL_read := fun w h => by
  simp only [List.mem_append] at h
  simp only [wsL_read, List.mem_cons, List.mem_append]
  rcases h with h | h <;> simp only [h, true_or, or_true]
set_option maxRecDepth 20000 in
theorem qrd_14 : GoodIn (wsL_read_r14 ++ (wsL_read_r15)) wsX7_read_r14 := goodIn_r _ [6, 7, 8, 9, 10, 11, 12, 13, 14, 15, 16, 17, 18, 19, 20, 21, 22, 23, 24, 25, 26, 27, 28, 29] (by decide +kernel) (by decide +kernel)
set_option maxRecDepth 20000 in
theorem qrd_m14 : ∀ w ∈ wsL_read_r14 ++ (wsL_read_r15), w ∈ wsL_read := fun w h => by
  simp only [List.mem_append] at h
  simp only [wsL_read, List.mem_cons, List.mem_append]
  rcases h with h | h <;> simp only [h, true_or, or_true]
set_option maxRecDepth 20000 in
theorem qrd_15 : GoodIn (wsL_read_r15 ++ (wsL_read_r16)) wsX7_read_r15 := goodIn_r _ [6, 7, 8, 9, 10, 11, 12, 13, 14, 15, 16, 17, 18, 19, 20, 21, 22, 23, 24, 25, 26, 27, 28, 29] (by decide +kernel) (by decide +kernel)
set_option maxRecDepth 20000 in
theorem qrd_m15 : ∀ w ∈ wsL_read_r15 ++ (wsL_read_r16), w ∈ wsL_read := fun w h => by
  simp only [List.mem_append] at h
  simp only [wsL_read, List.mem_cons, List.mem_append]
  rcases h with h | h <;> simp only [h, true_or, or_true]
set_option maxRecDepth 20000 in
theorem qrd_16 : GoodIn (wsL_read_r16) wsX7_read_r16 := goodIn_r _ [6, 7, 8, 9] (by decide +kernel) (by decide +kernel)
set_option maxRecDepth 20000 in
theorem qrd_m16 : ∀ w ∈ wsL_read_r16, w ∈ wsL_read := fun w h => by
  simp only [wsL_read, List.mem_cons, List.mem_append]
  simp only [h, true_or, or_true]
set_option maxRecDepth 20000 in
theorem qrd_X70 : GoodIn wsL_read wsX70 := goodIn_sub (fun w h => by simp only [wsL_read, List.mem_cons, List.mem_append, h, true_or, or_true]) (by decide +kernel)
set_option maxRecDepth 20000 in
theorem qrd_X50 : GoodIn wsL_read wsX50 := goodIn_sub (fun w h => by simp only [wsL_read, List.mem_cons, List.mem_append, h, true_or, or_true]) (by decide +kernel)
set_option maxRecDepth 20000 in
theorem qrd_J00 : GoodIn wsL_read wsJ00 := goodIn_sub (fun w h => by simp only [wsL_read, List.mem_cons, List.mem_append, h, true_or, or_true]) (by decide +kernel)
set_option maxRecDepth 20000 in
theorem qrd_X60 : GoodIn wsL_read wsX60 := goodIn_sub (fun w h => by simp only [wsL_read, List.mem_cons, List.mem_append, h, true_or, or_true]) (by decide +kernel)
set_option maxRecDepth 20000 in
theorem qrd_X40 : GoodIn wsL_read wsX40 := goodIn_sub (fun w h => by simp only [wsL_read, List.mem_cons, List.mem_append, h, true_or, or_true]) (by decide +kernel)
set_option maxRecDepth 20000 in
theorem qrd_X00 : GoodIn wsL_read wsX00 := goodIn_sub (fun w h => by simp only [wsL_read, List.mem_cons, List.mem_append, h, true_or, or_true]) (by decide +kernel)
set_option maxRecDepth 20000 in
theorem qrd_X10 : GoodIn wsL_read wsX10 := goodIn_sub (fun w h => by simp only [wsL_read, List.mem_cons, List.mem_append, h, true_or, or_true]) (by decide +kernel)
set_option maxRecDepth 20000 in
theorem qrd_X30 : GoodIn wsL_read wsX30 := goodIn_sub (fun w h => by simp only [wsL_read, List.mem_cons, List.mem_append, h, true_or, or_true]) (by decide +kernel)
set_option maxRecDepth 20000 in
theorem qrd_X20 : GoodIn wsL_read wsX20 := goodIn_sub (fun w h => by simp only [wsL_read, List.mem_cons, List.mem_append, h, true_or, or_true]) (by decide +kernel)
set_option maxRecDepth 20000 in
theorem qrd_c : GoodIn wsL_read [Cond.code yX7_read cX7_read 3 (some .int)] := gi_w (small := wsL_read_r1) (fun w h => by simp only [wsL_read, List.mem_cons, List.mem_append, h, true_or, or_true]) (goodIn_r _ [6] (by decide +kernel) (by decide +kernel))
set_option maxRecDepth 20000 in
theorem ggL_read_X7_read : GoodIn wsL_read wsX7_read := gi_c qrd_c (gi_a (gi_a (gi_a (gi_a (gi_a (gi_a (gi_a (gi_a (gi_a (gi_a (gi_a (gi_a (gi_a (gi_w qrd_m1 qrd_1) (gi_a (gi_w qrd_m2 qrd_2) (gi_a (gi_w qrd_m3 qrd_3) (gi_a (gi_w qrd_m4 qrd_4) (gi_a (gi_w qrd_m5 qrd_5) (gi_a (gi_w qrd_m6 qrd_6) (gi_a (gi_w qrd_m7 qrd_7) (gi_a (gi_w qrd_m8 qrd_8) (gi_a (gi_w qrd_m9 qrd_9) (gi_a (gi_w qrd_m10 qrd_10) (gi_a (gi_w qrd_m11 qrd_11) (gi_a (gi_w qrd_m12 qrd_12) (gi_a (gi_w qrd_m13 qrd_13) (gi_a (gi_w qrd_m14 qrd_14) (gi_a (gi_w qrd_m15 qrd_15) (gi_w qrd_m16 qrd_16)))))))))))))))) qrd_X70) qrd_X50) qrd_J00) qrd_X60) qrd_X40) qrd_X00) qrd_X10) qrd_X30) qrd_X20) (goodIn_sub (ws := (vx_atM "java/lang/ArrayIndexOutOfBoundsException" ["java/lang/IndexOutOfBoundsException", "java/lang/RuntimeException", "java/lang/Exception"]).filter goodWord) (fun w h => by simp only [wsL_read, List.mem_cons, List.mem_append, h, true_or, or_true]) (by decide +kernel))) (goodIn_sub (ws := (vx_atS RX7 377 "java/lang/IllegalArgumentException" ["java/lang/RuntimeException", "java/lang/Exception"]).filter goodWord) (fun w h => by simp only [wsL_read, List.mem_cons, List.mem_append, h, true_or, or_true]) (by decide +kernel))) (goodIn_sub (ws := (vx_atS RX7 382 "java/lang/IllegalStateException" ["java/lang/RuntimeException", "java/lang/Exception"]).filter goodWord) (fun w h => by simp only [wsL_read, List.mem_cons, List.mem_append, h, true_or, or_true]) (by decide +kernel)))
set_option maxRecDepth 20000 in
theorem gL_read_X7_read : GoodIn wsL_read (wsV RL 129 RX7 yX7_read wsX7_read) := goodIn_app (goodIn_of _ (by decide +kernel)) ggL_read_X7_read
