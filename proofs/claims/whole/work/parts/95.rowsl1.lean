theorem wsL_in1 : ∀ w ∈ wsL_law_r1, w ∈ lw_tbl := fun w h => (goodIn_p wsL_law_r1 [63, 66] (by decide +kernel) (by decide +kernel) w h).1
theorem wsL_in2 : ∀ w ∈ wsL_law_r2, w ∈ lw_tbl := fun w h => (goodIn_p wsL_law_r2 [71] (by decide +kernel) (by decide +kernel) w h).1
theorem wsL_in3 : ∀ w ∈ wsL_law_r3, w ∈ lw_tbl := fun w h => (goodIn_p wsL_law_r3 [120, 145] (by decide +kernel) (by decide +kernel) w h).1
theorem wsL_in4 : ∀ w ∈ wsL_law_r4, w ∈ lw_tbl := fun w h => (goodIn_p wsL_law_r4 [182, 209, 219] (by decide +kernel) (by decide +kernel) w h).1
theorem wsL_in5 : ∀ w ∈ wsL_law_r5, w ∈ lw_tbl := fun w h => (goodIn_p wsL_law_r5 [722] (by decide +kernel) (by decide +kernel) w h).1
theorem wsL_in6 : ∀ w ∈ wsL_law_r6, w ∈ lw_tbl := fun w h => (goodIn_p wsL_law_r6 [261, 264, 268, 272, 276] (by decide +kernel) (by decide +kernel) w h).1
theorem wsL_in7 : ∀ w ∈ wsL_law_r7, w ∈ lw_tbl := fun w h => (goodIn_p wsL_law_r7 [280, 284, 288, 291, 295, 299] (by decide +kernel) (by decide +kernel) w h).1
theorem wsL_in8 : ∀ w ∈ wsL_law_r8, w ∈ lw_tbl := fun w h => (goodIn_p wsL_law_r8 [302, 305, 309, 313, 316] (by decide +kernel) (by decide +kernel) w h).1
theorem wsL_in9 : ∀ w ∈ wsL_law_r9, w ∈ lw_tbl := fun w h => (goodIn_p wsL_law_r9 [321, 324, 327, 373] (by decide +kernel) (by decide +kernel) w h).1
theorem wsL_in10 : ∀ w ∈ wsL_law_r10, w ∈ lw_tbl := fun w h => (goodIn_p wsL_law_r10 [377, 384, 387, 390] (by decide +kernel) (by decide +kernel) w h).1
theorem wsL_in11 : ∀ w ∈ wsL_law_r11, w ∈ lw_tbl := fun w h => (goodIn_p wsL_law_r11 [393, 830, 833, 836] (by decide +kernel) (by decide +kernel) w h).1
theorem wsL_in12 : ∀ w ∈ wsL_law_r12, w ∈ lw_tbl := fun w h => (goodIn_p wsL_law_r12 [839, 843, 847, 851, 855, 859] (by decide +kernel) (by decide +kernel) w h).1
theorem wsL_in13 : ∀ w ∈ wsL_law_r13, w ∈ lw_tbl := fun w h => (goodIn_p wsL_law_r13 [397, 401, 405, 412, 416] (by decide +kernel) (by decide +kernel) w h).1
theorem wsL_in14 : ∀ w ∈ wsL_law_r14, w ∈ lw_tbl := fun w h => (goodIn_p wsL_law_r14 [415, 863, 867, 871, 421] (by decide +kernel) (by decide +kernel) w h).1
theorem wsL_in15 : ∀ w ∈ wsL_law_r15, w ∈ lw_tbl := fun w h => (goodIn_p wsL_law_r15 [875, 425, 879, 429, 432, 436] (by decide +kernel) (by decide +kernel) w h).1
theorem wsL_in16 : ∀ w ∈ wsL_law_r16, w ∈ lw_tbl := fun w h => (goodIn_p wsL_law_r16 [441, 444, 449, 453, 457] (by decide +kernel) (by decide +kernel) w h).1
theorem wsL_in17 : ∀ w ∈ wsL_law_r17, w ∈ lw_tbl := fun w h => (goodIn_p wsL_law_r17 [460, 464, 468, 472, 883, 887] (by decide +kernel) (by decide +kernel) w h).1
theorem wsL_in18 : ∀ w ∈ wsL_law_r18, w ∈ lw_tbl := fun w h => (goodIn_p wsL_law_r18 [891, 895, 899, 902, 906] (by decide +kernel) (by decide +kernel) w h).1
theorem wsL_in19 : ∀ w ∈ wsL_law_r19, w ∈ lw_tbl := fun w h => (goodIn_p wsL_law_r19 [476, 480, 484, 910, 914, 488] (by decide +kernel) (by decide +kernel) w h).1
theorem wsL_in20 : ∀ w ∈ wsL_law_r20, w ∈ lw_tbl := fun w h => (goodIn_p wsL_law_r20 [492, 495, 502, 919, 923] (by decide +kernel) (by decide +kernel) w h).1
theorem wsL_in21 : ∀ w ∈ wsL_law_r21, w ∈ lw_tbl := fun w h => (goodIn_p wsL_law_r21 [506, 509, 513, 927, 517, 522] (by decide +kernel) (by decide +kernel) w h).1
theorem wsL_in22 : ∀ w ∈ wsL_law_r22, w ∈ lw_tbl := fun w h => (goodIn_p wsL_law_r22 [526, 533, 538, 542] (by decide +kernel) (by decide +kernel) w h).1
theorem wsL_in23 : ∀ w ∈ wsL_law_r23, w ∈ lw_tbl := fun w h => (goodIn_p wsL_law_r23 [546, 550, 554, 558, 931, 935] (by decide +kernel) (by decide +kernel) w h).1
theorem wsL_in24 : ∀ w ∈ wsL_law_r24, w ∈ lw_tbl := fun w h => (goodIn_p wsL_law_r24 [939, 943, 947, 562, 567, 571] (by decide +kernel) (by decide +kernel) w h).1
theorem wsL_in25 : ∀ w ∈ wsL_law_r25, w ∈ lw_tbl := fun w h => (goodIn_p wsL_law_r25 [951, 575, 955, 958, 962, 580] (by decide +kernel) (by decide +kernel) w h).1
theorem wsL_in26 : ∀ w ∈ wsL_law_r26, w ∈ lw_tbl := fun w h => (goodIn_p wsL_law_r26 [583, 587, 966, 591, 970, 595] (by decide +kernel) (by decide +kernel) w h).1
theorem wsL_in27 : ∀ w ∈ wsL_law_r27, w ∈ lw_tbl := fun w h => (goodIn_p wsL_law_r27 [599, 974, 603, 978, 607, 611] (by decide +kernel) (by decide +kernel) w h).1
theorem wsL_in28 : ∀ w ∈ wsL_law_r28, w ∈ lw_tbl := fun w h => (goodIn_p wsL_law_r28 [615, 619, 982, 986, 990] (by decide +kernel) (by decide +kernel) w h).1
theorem wsL_in29 : ∀ w ∈ wsL_law_r29, w ∈ lw_tbl := fun w h => (goodIn_p wsL_law_r29 [623, 627, 994, 633, 637, 998] (by decide +kernel) (by decide +kernel) w h).1
theorem wsL_in30 : ∀ w ∈ wsL_law_r30, w ∈ lw_tbl := fun w h => (goodIn_p wsL_law_r30 [641, 646, 1002, 650, 1006] (by decide +kernel) (by decide +kernel) w h).1
theorem wsL_in31 : ∀ w ∈ wsL_law_r31, w ∈ lw_tbl := fun w h => (goodIn_p wsL_law_r31 [1011, 655, 1015, 662] (by decide +kernel) (by decide +kernel) w h).1
theorem wsL_in32 : ∀ w ∈ wsL_law_r32, w ∈ lw_tbl := fun w h => (goodIn_p wsL_law_r32 [669, 673, 676, 687, 684] (by decide +kernel) (by decide +kernel) w h).1
theorem wsL_in33 : ∀ w ∈ wsL_law_r33, w ∈ lw_tbl := fun w h => (goodIn_p wsL_law_r33 [1019, 1023, 692, 699] (by decide +kernel) (by decide +kernel) w h).1
theorem wsL_in34 : ∀ w ∈ wsL_law_r34, w ∈ lw_tbl := fun w h => (goodIn_p wsL_law_r34 [701, 1027, 705, 1031, 709] (by decide +kernel) (by decide +kernel) w h).1
theorem wsL_in35 : ∀ w ∈ wsL_law_r35, w ∈ lw_tbl := fun w h => (goodIn_p wsL_law_r35 [1035, 713, 1039, 717, 1043] (by decide +kernel) (by decide +kernel) w h).1
theorem wsL_inX9 : ∀ w ∈ wsX90, w ∈ lw_tbl := by decide +kernel
theorem wsL_inX10 : ∀ w ∈ wsX100, w ∈ lw_tbl := by decide +kernel
theorem wsL_inX5 : ∀ w ∈ wsX50, w ∈ lw_tbl := by decide +kernel
theorem wsL_inX3 : ∀ w ∈ wsX30, w ∈ lw_tbl := by decide +kernel
theorem wsL_inX8 : ∀ w ∈ wsX80, w ∈ lw_tbl := by decide +kernel
theorem wsL_inX2 : ∀ w ∈ wsX20, w ∈ lw_tbl := by decide +kernel
theorem wsL_inX7 : ∀ w ∈ wsX70, w ∈ lw_tbl := by decide +kernel
theorem wsL_inX4 : ∀ w ∈ wsX40, w ∈ lw_tbl := by decide +kernel
theorem wsL_inX0 : ∀ w ∈ wsX00, w ∈ lw_tbl := by decide +kernel
theorem wsL_inX1 : ∀ w ∈ wsX10, w ∈ lw_tbl := by decide +kernel
theorem wsL_inX6 : ∀ w ∈ wsX60, w ∈ lw_tbl := by decide +kernel
theorem wsL_law_in : ∀ w ∈ wsL_law, w ∈ lw_tbl := (List.forall_mem_append.mpr ⟨(List.forall_mem_append.mpr ⟨(List.forall_mem_append.mpr ⟨(List.forall_mem_append.mpr ⟨(List.forall_mem_append.mpr ⟨(List.forall_mem_append.mpr ⟨(List.forall_mem_append.mpr ⟨(List.forall_mem_append.mpr ⟨(List.forall_mem_append.mpr ⟨(List.forall_mem_append.mpr ⟨(List.forall_mem_append.mpr ⟨(List.forall_mem_append.mpr ⟨(List.forall_mem_append.mpr ⟨wsL_in1, (List.forall_mem_append.mpr ⟨wsL_in2, (List.forall_mem_append.mpr ⟨wsL_in3, (List.forall_mem_append.mpr ⟨wsL_in4, (List.forall_mem_append.mpr ⟨wsL_in5, (List.forall_mem_append.mpr ⟨wsL_in6, (List.forall_mem_append.mpr ⟨wsL_in7, (List.forall_mem_append.mpr ⟨wsL_in8, (List.forall_mem_append.mpr ⟨wsL_in9, (List.forall_mem_append.mpr ⟨wsL_in10, (List.forall_mem_append.mpr ⟨wsL_in11, (List.forall_mem_append.mpr ⟨wsL_in12, (List.forall_mem_append.mpr ⟨wsL_in13, (List.forall_mem_append.mpr ⟨wsL_in14, (List.forall_mem_append.mpr ⟨wsL_in15, (List.forall_mem_append.mpr ⟨wsL_in16, (List.forall_mem_append.mpr ⟨wsL_in17, (List.forall_mem_append.mpr ⟨wsL_in18, (List.forall_mem_append.mpr ⟨wsL_in19, (List.forall_mem_append.mpr ⟨wsL_in20, (List.forall_mem_append.mpr ⟨wsL_in21, (List.forall_mem_append.mpr ⟨wsL_in22, (List.forall_mem_append.mpr ⟨wsL_in23, (List.forall_mem_append.mpr ⟨wsL_in24, (List.forall_mem_append.mpr ⟨wsL_in25, (List.forall_mem_append.mpr ⟨wsL_in26, (List.forall_mem_append.mpr ⟨wsL_in27, (List.forall_mem_append.mpr ⟨wsL_in28, (List.forall_mem_append.mpr ⟨wsL_in29, (List.forall_mem_append.mpr ⟨wsL_in30, (List.forall_mem_append.mpr ⟨wsL_in31, (List.forall_mem_append.mpr ⟨wsL_in32, (List.forall_mem_append.mpr ⟨wsL_in33, (List.forall_mem_append.mpr ⟨wsL_in34, wsL_in35⟩)⟩)⟩)⟩)⟩)⟩)⟩)⟩)⟩)⟩)⟩)⟩)⟩)⟩)⟩)⟩)⟩)⟩)⟩)⟩)⟩)⟩)⟩)⟩)⟩)⟩)⟩)⟩)⟩)⟩)⟩)⟩)⟩)⟩), wsL_inX9⟩), wsL_inX10⟩), wsL_inX5⟩), wsL_inX3⟩), wsL_inX8⟩), wsL_inX2⟩), wsL_inX7⟩), wsL_inX4⟩), wsL_inX0⟩), wsL_inX1⟩), wsL_inX6⟩), fun _ h => absurd h List.not_mem_nil⟩)
