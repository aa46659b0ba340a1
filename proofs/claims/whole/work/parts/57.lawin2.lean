set_option maxRecDepth 20000 in
theorem gin_wsL_law_r18 : GoodIn lw_tbl wsL_law_r18 := goodIn_p wsL_law_r18 [800, 804, 808, 812, 406, 409] (by decide +kernel) (by decide +kernel)
set_option maxRecDepth 20000 in
theorem gin_wsL_law_r19 : GoodIn lw_tbl wsL_law_r19 := goodIn_p wsL_law_r19 [413, 417, 421, 426, 431] (by decide +kernel) (by decide +kernel)
set_option maxRecDepth 20000 in
theorem gin_wsL_law_r20 : GoodIn lw_tbl wsL_law_r20 := goodIn_p wsL_law_r20 [436, 440, 816, 821, 825] (by decide +kernel) (by decide +kernel)
set_option maxRecDepth 20000 in
theorem gin_wsL_law_r21 : GoodIn lw_tbl wsL_law_r21 := goodIn_p wsL_law_r21 [829, 832, 445, 836, 449, 452, 456] (by decide +kernel) (by decide +kernel)
set_option maxRecDepth 20000 in
theorem gin_wsL_law_r22 : GoodIn lw_tbl wsL_law_r22 := goodIn_p wsL_law_r22 [460, 464, 468, 840, 843, 473] (by decide +kernel) (by decide +kernel)
set_option maxRecDepth 20000 in
theorem gin_wsL_law_r23 : GoodIn lw_tbl wsL_law_r23 := goodIn_p wsL_law_r23 [847, 478, 851, 482, 855, 859] (by decide +kernel) (by decide +kernel)
set_option maxRecDepth 20000 in
theorem gin_wsL_law_r24 : GoodIn lw_tbl wsL_law_r24 := goodIn_p wsL_law_r24 [486, 490, 495, 499, 505] (by decide +kernel) (by decide +kernel)
set_option maxRecDepth 20000 in
theorem gin_wsL_law_r25 : GoodIn lw_tbl wsL_law_r25 := goodIn_p wsL_law_r25 [508, 512, 517, 863, 868, 871] (by decide +kernel) (by decide +kernel)
set_option maxRecDepth 20000 in
theorem gin_wsL_law_r26 : GoodIn lw_tbl wsL_law_r26 := goodIn_p wsL_law_r26 [875, 521, 525, 879, 882, 886] (by decide +kernel) (by decide +kernel)
set_option maxRecDepth 20000 in
theorem gin_wsL_law_r27 : GoodIn lw_tbl wsL_law_r27 := goodIn_p wsL_law_r27 [529, 533, 537, 540, 890, 544] (by decide +kernel) (by decide +kernel)
set_option maxRecDepth 20000 in
theorem gin_wsL_law_r28 : GoodIn lw_tbl wsL_law_r28 := goodIn_p wsL_law_r28 [548, 894, 553, 557, 898, 902] (by decide +kernel) (by decide +kernel)
set_option maxRecDepth 20000 in
theorem gin_wsL_law_r29 : GoodIn lw_tbl wsL_law_r29 := goodIn_p wsL_law_r29 [562, 906, 910, 566, 570] (by decide +kernel) (by decide +kernel)
set_option maxRecDepth 20000 in
theorem gin_wsL_law_r30 : GoodIn lw_tbl wsL_law_r30 := goodIn_p wsL_law_r30 [914, 578, 585, 589, 592] (by decide +kernel) (by decide +kernel)
set_option maxRecDepth 20000 in
theorem gin_wsL_law_r31 : GoodIn lw_tbl wsL_law_r31 := goodIn_p wsL_law_r31 [600, 606] (by decide +kernel) (by decide +kernel)
set_option maxRecDepth 20000 in
theorem gin_wsL_law_r32 : GoodIn lw_tbl wsL_law_r32 := goodIn_p wsL_law_r32 [918, 922, 611, 618, 620] (by decide +kernel) (by decide +kernel)
set_option maxRecDepth 20000 in
theorem gin_wsL_law_r33 : GoodIn lw_tbl wsL_law_r33 := goodIn_p wsL_law_r33 [926, 624, 930, 629, 633, 934] (by decide +kernel) (by decide +kernel)
set_option maxRecDepth 20000 in
theorem gin_wsL_law_r34 : GoodIn lw_tbl wsL_law_r34 := goodIn_p wsL_law_r34 [637, 938, 641, 942] (by decide +kernel) (by decide +kernel)
set_option maxRecDepth 20000 in
theorem gin_wsX90 : GoodIn lw_tbl wsX90 := goodIn_of wsX90 (by decide +kernel)
set_option maxRecDepth 20000 in
theorem gin_wsX100 : GoodIn lw_tbl wsX100 := goodIn_of wsX100 (by decide +kernel)
set_option maxRecDepth 20000 in
theorem gin_wsX70 : GoodIn lw_tbl wsX70 := goodIn_of wsX70 (by decide +kernel)
set_option maxRecDepth 20000 in
theorem gin_wsX60 : GoodIn lw_tbl wsX60 := goodIn_of wsX60 (by decide +kernel)
set_option maxRecDepth 20000 in
theorem gin_wsX40 : GoodIn lw_tbl wsX40 := goodIn_of wsX40 (by decide +kernel)
set_option maxRecDepth 20000 in
theorem gin_wsX80 : GoodIn lw_tbl wsX80 := goodIn_of wsX80 (by decide +kernel)
set_option maxRecDepth 20000 in
theorem gin_wsX00 : GoodIn lw_tbl wsX00 := goodIn_of wsX00 (by decide +kernel)
set_option maxRecDepth 20000 in
theorem gin_wsX50 : GoodIn lw_tbl wsX50 := goodIn_of wsX50 (by decide +kernel)
set_option maxRecDepth 20000 in
theorem gin_wsX10 : GoodIn lw_tbl wsX10 := goodIn_of wsX10 (by decide +kernel)
set_option maxRecDepth 20000 in
theorem gin_wsX20 : GoodIn lw_tbl wsX20 := goodIn_of wsX20 (by decide +kernel)
set_option maxRecDepth 20000 in
theorem gin_wsX30 : GoodIn lw_tbl wsX30 := goodIn_of wsX30 (by decide +kernel)
theorem gin_law : GoodIn lw_tbl wsL_law := goodIn_app (goodIn_app (goodIn_app (goodIn_app (goodIn_app (goodIn_app (goodIn_app (goodIn_app (goodIn_app (goodIn_app (goodIn_app (goodIn_app (goodIn_app gin_wsL_law_r1 (goodIn_app gin_wsL_law_r2 (goodIn_app gin_wsL_law_r3 (goodIn_app gin_wsL_law_r4 (goodIn_app gin_wsL_law_r5 (goodIn_app gin_wsL_law_r6 (goodIn_app gin_wsL_law_r7 (goodIn_app gin_wsL_law_r8 (goodIn_app gin_wsL_law_r9 (goodIn_app gin_wsL_law_r10 (goodIn_app gin_wsL_law_r11 (goodIn_app gin_wsL_law_r12 (goodIn_app gin_wsL_law_r13 (goodIn_app gin_wsL_law_r14 (goodIn_app gin_wsL_law_r15 (goodIn_app gin_wsL_law_r16 (goodIn_app gin_wsL_law_r17 (goodIn_app gin_wsL_law_r18 (goodIn_app gin_wsL_law_r19 (goodIn_app gin_wsL_law_r20 (goodIn_app gin_wsL_law_r21 (goodIn_app gin_wsL_law_r22 (goodIn_app gin_wsL_law_r23 (goodIn_app gin_wsL_law_r24 (goodIn_app gin_wsL_law_r25 (goodIn_app gin_wsL_law_r26 (goodIn_app gin_wsL_law_r27 (goodIn_app gin_wsL_law_r28 (goodIn_app gin_wsL_law_r29 (goodIn_app gin_wsL_law_r30 (goodIn_app gin_wsL_law_r31 (goodIn_app gin_wsL_law_r32 (goodIn_app gin_wsL_law_r33 (gin_wsL_law_r34)))))))))))))))))))))))))))))))))) gin_wsX90) gin_wsX100) gin_wsX70) gin_wsX60) gin_wsX40) gin_wsX80) gin_wsX00) gin_wsX50) gin_wsX10) gin_wsX20) gin_wsX30) (fun w h => absurd h List.not_mem_nil)
theorem wsL_law_in : ∀ w ∈ wsL_law, w ∈ lw_tbl := fun w h => (gin_law w h).1
theorem inlX0 : ∀ w ∈ wsX00, w ∈ wsL_law := fun _ h => List.mem_append_left _ (List.mem_append_left _ (List.mem_append_left _ (List.mem_append_left _ (List.mem_append_left _ (List.mem_append_right _ h)))))
theorem inX0 : ∀ w ∈ wsX00, w ∈ lw_tbl := fun w h => wsL_law_in w (inlX0 w h)
theorem inlX1 : ∀ w ∈ wsX10, w ∈ wsL_law := fun _ h => List.mem_append_left _ (List.mem_append_left _ (List.mem_append_left _ (List.mem_append_right _ h)))
theorem inX1 : ∀ w ∈ wsX10, w ∈ lw_tbl := fun w h => wsL_law_in w (inlX1 w h)
theorem inlX2 : ∀ w ∈ wsX20, w ∈ wsL_law := fun _ h => List.mem_append_left _ (List.mem_append_left _ (List.mem_append_right _ h))
theorem inX2 : ∀ w ∈ wsX20, w ∈ lw_tbl := fun w h => wsL_law_in w (inlX2 w h)
theorem inlX3 : ∀ w ∈ wsX30, w ∈ wsL_law := fun _ h => List.mem_append_left _ (List.mem_append_right _ h)
theorem inX3 : ∀ w ∈ wsX30, w ∈ lw_tbl := fun w h => wsL_law_in w (inlX3 w h)
theorem inlX4 : ∀ w ∈ wsX40, w ∈ wsL_law := fun _ h => List.mem_append_left _ (List.mem_append_left _ (List.mem_append_left _ (List.mem_append_left _ (List.mem_append_left _ (List.mem_append_left _ (List.mem_append_left _ (List.mem_append_right _ h)))))))
theorem inX4 : ∀ w ∈ wsX40, w ∈ lw_tbl := fun w h => wsL_law_in w (inlX4 w h)
theorem inlX5 : ∀ w ∈ wsX50, w ∈ wsL_law := fun _ h => List.mem_append_left _ (List.mem_append_left _ (List.mem_append_left _ (List.mem_append_left _ (List.mem_append_right _ h))))
theorem inX5 : ∀ w ∈ wsX50, w ∈ lw_tbl := fun w h => wsL_law_in w (inlX5 w h)
theorem inlX6 : ∀ w ∈ wsX60, w ∈ wsL_law := fun _ h => List.mem_append_left _ (List.mem_append_left _ (List.mem_append_left _ (List.mem_append_left _ (List.mem_append_left _ (List.mem_append_left _ (List.mem_append_left _ (List.mem_append_left _ (List.mem_append_right _ h))))))))
theorem inX6 : ∀ w ∈ wsX60, w ∈ lw_tbl := fun w h => wsL_law_in w (inlX6 w h)
theorem inlX7 : ∀ w ∈ wsX70, w ∈ wsL_law := fun _ h => List.mem_append_left _ (List.mem_append_left _ (List.mem_append_left _ (List.mem_append_left _ (List.mem_append_left _ (List.mem_append_left _ (List.mem_append_left _ (List.mem_append_left _ (List.mem_append_left _ (List.mem_append_right _ h)))))))))
theorem inX7 : ∀ w ∈ wsX70, w ∈ lw_tbl := fun w h => wsL_law_in w (inlX7 w h)
theorem inlX8 : ∀ w ∈ wsX80, w ∈ wsL_law := fun _ h => List.mem_append_left _ (List.mem_append_left _ (List.mem_append_left _ (List.mem_append_left _ (List.mem_append_left _ (List.mem_append_left _ (List.mem_append_right _ h))))))
theorem inX8 : ∀ w ∈ wsX80, w ∈ lw_tbl := fun w h => wsL_law_in w (inlX8 w h)
theorem inlX9 : ∀ w ∈ wsX90, w ∈ wsL_law := fun _ h => List.mem_append_left _ (List.mem_append_left _ (List.mem_append_left _ (List.mem_append_left _ (List.mem_append_left _ (List.mem_append_left _ (List.mem_append_left _ (List.mem_append_left _ (List.mem_append_left _ (List.mem_append_left _ (List.mem_append_left _ (List.mem_append_right _ h)))))))))))
theorem inX9 : ∀ w ∈ wsX90, w ∈ lw_tbl := fun w h => wsL_law_in w (inlX9 w h)
theorem inlX10 : ∀ w ∈ wsX100, w ∈ wsL_law := fun _ h => List.mem_append_left _ (List.mem_append_left _ (List.mem_append_left _ (List.mem_append_left _ (List.mem_append_left _ (List.mem_append_left _ (List.mem_append_left _ (List.mem_append_left _ (List.mem_append_left _ (List.mem_append_left _ (List.mem_append_right _ h))))))))))
theorem inX10 : ∀ w ∈ wsX100, w ∈ lw_tbl := fun w h => wsL_law_in w (inlX10 w h)
