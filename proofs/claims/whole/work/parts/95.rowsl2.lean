theorem inlX0 : ∀ w ∈ wsX00, w ∈ wsL_law := fun _ h => List.mem_append_left _ (List.mem_append_left _ (List.mem_append_left _ (List.mem_append_right _ h)))
theorem inX0 : ∀ w ∈ wsX00, w ∈ lw_tbl := fun w h => wsL_law_in w (inlX0 w h)
theorem inlX1 : ∀ w ∈ wsX10, w ∈ wsL_law := fun _ h => List.mem_append_left _ (List.mem_append_left _ (List.mem_append_right _ h))
theorem inX1 : ∀ w ∈ wsX10, w ∈ lw_tbl := fun w h => wsL_law_in w (inlX1 w h)
theorem inlX2 : ∀ w ∈ wsX20, w ∈ wsL_law := fun _ h => List.mem_append_left _ (List.mem_append_left _ (List.mem_append_left _ (List.mem_append_left _ (List.mem_append_left _ (List.mem_append_left _ (List.mem_append_right _ h))))))
theorem inX2 : ∀ w ∈ wsX20, w ∈ lw_tbl := fun w h => wsL_law_in w (inlX2 w h)
theorem inlX3 : ∀ w ∈ wsX30, w ∈ wsL_law := fun _ h => List.mem_append_left _ (List.mem_append_left _ (List.mem_append_left _ (List.mem_append_left _ (List.mem_append_left _ (List.mem_append_left _ (List.mem_append_left _ (List.mem_append_left _ (List.mem_append_right _ h))))))))
theorem inX3 : ∀ w ∈ wsX30, w ∈ lw_tbl := fun w h => wsL_law_in w (inlX3 w h)
theorem inlX4 : ∀ w ∈ wsX40, w ∈ wsL_law := fun _ h => List.mem_append_left _ (List.mem_append_left _ (List.mem_append_left _ (List.mem_append_left _ (List.mem_append_right _ h))))
theorem inX4 : ∀ w ∈ wsX40, w ∈ lw_tbl := fun w h => wsL_law_in w (inlX4 w h)
theorem inlX5 : ∀ w ∈ wsX50, w ∈ wsL_law := fun _ h => List.mem_append_left _ (List.mem_append_left _ (List.mem_append_left _ (List.mem_append_left _ (List.mem_append_left _ (List.mem_append_left _ (List.mem_append_left _ (List.mem_append_left _ (List.mem_append_left _ (List.mem_append_right _ h)))))))))
theorem inX5 : ∀ w ∈ wsX50, w ∈ lw_tbl := fun w h => wsL_law_in w (inlX5 w h)
theorem inlX6 : ∀ w ∈ wsX60, w ∈ wsL_law := fun _ h => List.mem_append_left _ (List.mem_append_right _ h)
theorem inX6 : ∀ w ∈ wsX60, w ∈ lw_tbl := fun w h => wsL_law_in w (inlX6 w h)
theorem inlX7 : ∀ w ∈ wsX70, w ∈ wsL_law := fun _ h => List.mem_append_left _ (List.mem_append_left _ (List.mem_append_left _ (List.mem_append_left _ (List.mem_append_left _ (List.mem_append_right _ h)))))
theorem inX7 : ∀ w ∈ wsX70, w ∈ lw_tbl := fun w h => wsL_law_in w (inlX7 w h)
theorem inlX8 : ∀ w ∈ wsX80, w ∈ wsL_law := fun _ h => List.mem_append_left _ (List.mem_append_left _ (List.mem_append_left _ (List.mem_append_left _ (List.mem_append_left _ (List.mem_append_left _ (List.mem_append_left _ (List.mem_append_right _ h)))))))
theorem inX8 : ∀ w ∈ wsX80, w ∈ lw_tbl := fun w h => wsL_law_in w (inlX8 w h)
theorem inlX9 : ∀ w ∈ wsX90, w ∈ wsL_law := fun _ h => List.mem_append_left _ (List.mem_append_left _ (List.mem_append_left _ (List.mem_append_left _ (List.mem_append_left _ (List.mem_append_left _ (List.mem_append_left _ (List.mem_append_left _ (List.mem_append_left _ (List.mem_append_left _ (List.mem_append_left _ (List.mem_append_right _ h)))))))))))
theorem inX9 : ∀ w ∈ wsX90, w ∈ lw_tbl := fun w h => wsL_law_in w (inlX9 w h)
theorem inlX10 : ∀ w ∈ wsX100, w ∈ wsL_law := fun _ h => List.mem_append_left _ (List.mem_append_left _ (List.mem_append_left _ (List.mem_append_left _ (List.mem_append_left _ (List.mem_append_left _ (List.mem_append_left _ (List.mem_append_left _ (List.mem_append_left _ (List.mem_append_left _ (List.mem_append_right _ h))))))))))
theorem inX10 : ∀ w ∈ wsX100, w ∈ lw_tbl := fun w h => wsL_law_in w (inlX10 w h)
theorem inJ6 : ∀ w ∈ wsJ60, w ∈ lw_tbl := by decide +kernel
theorem inJ9 : ∀ w ∈ wsJ90, w ∈ lw_tbl := by decide +kernel
theorem inJ10 : ∀ w ∈ wsJ100, w ∈ lw_tbl := by decide +kernel
set_option maxRecDepth 20000 in
theorem ggL_law_X9_init : GoodIn wsL_law wsX9_init := goodIn_r _ [8, 9, 10, 11, 12, 13, 14, 15, 16, 17, 18, 19, 20, 21, 22, 23, 24, 25, 26, 27, 28, 29, 30, 31, 32, 33, 34, 35, 36, 37, 38, 39, 40, 41, 42, 43, 44, 45, 46, 47, 48, 49, 50, 51, 52, 53, 54, 55, 56, 57, 58, 59, 60, 61, 62, 63, 64, 65, 66, 67, 68, 69, 70, 71, 72, 73, 74, 75, 76, 77, 78, 79, 80, 81, 82, 83, 84, 85, 86, 87, 88, 89, 90, 91, 92, 93, 94, 95, 96, 876, 877, 878, 879, 880, 881, 882, 883, 834, 835, 836, 837, 838, 839, 840, 841, 884, 885, 886, 887, 888, 889, 890, 891, 892, 893, 894, 895, 896, 897, 898, 899, 900, 901, 902, 903, 904, 905, 906, 907] (by decide +kernel) (by decide +kernel)
set_option maxRecDepth 20000 in
theorem gL_law_X9_init : GoodIn wsL_law (wsX9_init) := ggL_law_X9_init
set_option maxRecDepth 20000 in
theorem ggL_law_X10_init : GoodIn wsL_law wsX10_init := goodIn_r _ [99, 100, 10, 11, 30, 101, 102, 103, 104, 105, 106, 107, 108, 109, 110, 111, 112, 113, 114, 115, 116, 117, 59, 118, 119, 120, 121, 122, 123, 842, 843, 844, 845, 846, 847, 848, 849, 850, 851, 852, 853, 854, 855, 856, 857, 858, 859, 860, 861, 862, 863, 864, 865, 866, 867, 868, 869, 870, 871, 872, 873, 874, 875] (by decide +kernel) (by decide +kernel)
set_option maxRecDepth 20000 in
theorem gL_law_X10_init : GoodIn wsL_law (wsX10_init) := ggL_law_X10_init
set_option maxRecDepth 20000 in
theorem ggL_law_X9_street : GoodIn wsL_law wsX9_street := goodIn_r _ [127, 15, 128, 129, 130, 2, 131, 132, 133, 134, 135, 36, 136, 137, 138, 139, 29, 140, 141, 142, 143, 144, 145, 146, 147, 38, 148, 94, 149, 150, 151, 152, 153, 154, 155, 156, 95, 157, 158, 159, 160, 161, 162, 163, 96, 164, 165, 166, 167, 168, 169, 170, 171, 172, 173, 174, 175, 176, 177, 19, 178, 179, 180, 181, 14, 182, 43, 44, 183, 184, 185, 186, 187, 188, 189, 190, 191, 192, 193, 194, 195, 196, 197, 198, 199, 200, 201, 202, 203, 204, 10, 11, 205, 206, 207, 208, 209, 210, 211, 212, 213, 214, 215, 47, 48, 216, 49, 217, 50, 218, 219, 220, 221, 222, 45, 51, 223, 224, 225, 226, 227, 228, 229, 230, 231, 232, 233, 234, 235, 236, 237, 238, 239, 240, 241, 242, 243, 244, 834, 835, 836, 837, 838, 839, 840, 841, 876, 877, 878, 879, 880, 881, 882, 883, 905, 906, 907, 884, 885, 886, 887, 908, 909, 910, 911, 912, 913, 914, 915, 916, 917, 918, 919, 920, 921, 922] (by decide +kernel) (by decide +kernel)
set_option maxRecDepth 20000 in
theorem gL_law_X9_street : GoodIn wsL_law (wsV RL 13 RX9 yX9_street wsX9_street) := goodIn_app (goodIn_of _ (by decide +kernel)) ggL_law_X9_street
set_option maxRecDepth 20000 in
theorem ggL_law_X10_street : GoodIn wsL_law wsX10_street := goodIn_r _ [248, 249, 250, 251, 252, 253, 254, 104, 109, 105, 110, 106, 111, 107, 112, 108, 113, 255, 256, 257, 258, 5, 259, 260, 261, 262, 263, 264, 265, 266, 267, 268, 269, 101, 102, 270, 271, 272, 273, 274, 275, 276, 277, 103, 278, 279, 280, 281, 282, 283, 284, 285, 842, 843, 844, 845, 846, 847, 848, 849, 850, 851, 852, 853, 854, 855, 856, 857, 858, 859, 860, 861, 862, 863, 864, 865, 866, 867, 868, 869, 870, 871, 872, 873, 874, 875] (by decide +kernel) (by decide +kernel)
set_option maxRecDepth 20000 in
theorem gL_law_X10_street : GoodIn wsL_law (wsV RL 17 RX10 yX10_street wsX10_street) := goodIn_app (goodIn_of _ (by decide +kernel)) ggL_law_X10_street
set_option maxRecDepth 20000 in
theorem ggL_law_X9_ofThing : GoodIn wsL_law wsX9_ofThing := goodIn_r _ [289, 15, 290, 291, 292, 293, 294, 295, 296, 297, 14, 298, 47, 299, 300, 301, 302, 43, 303, 304, 305, 306, 307, 188, 308, 309, 310, 311, 191, 312, 313, 314, 315, 194, 316, 224, 225, 226, 227, 228, 229, 230, 231, 232, 233, 234, 235, 236, 237, 208, 238, 239, 240, 241, 242, 317, 244, 834, 835, 836, 837, 838, 839, 840, 841, 908, 909, 910, 911, 912, 913, 914, 915, 916, 917, 918, 919, 920, 921, 922, 876, 877, 878, 879, 880, 881, 882, 883] (by decide +kernel) (by decide +kernel)
set_option maxRecDepth 20000 in
theorem gL_law_X9_ofThing : GoodIn wsL_law (wsV RL 18 RX9 yX9_ofThing wsX9_ofThing) := goodIn_app (goodIn_of _ (by decide +kernel)) ggL_law_X9_ofThing
set_option maxRecDepth 20000 in
theorem ggL_law_X10_ofThing : GoodIn wsL_law wsX10_ofThing := goodIn_r _ [321, 104, 105, 106, 107, 108, 322, 323, 324, 5, 325, 254, 326, 327, 328, 329, 255, 842, 843, 844, 845, 846, 847, 848, 849, 850, 851, 852, 853, 854, 855, 856, 857, 858, 859, 860, 861, 862, 863, 864, 865, 866, 867, 868, 869, 870, 871, 872, 873, 874, 875] (by decide +kernel) (by decide +kernel)
set_option maxRecDepth 20000 in
theorem gL_law_X10_ofThing : GoodIn wsL_law (wsV RL 22 RX10 yX10_ofThing wsX10_ofThing) := goodIn_app (goodIn_of _ (by decide +kernel)) ggL_law_X10_ofThing
set_option maxRecDepth 20000 in
theorem ggL_law_X9_smithy : GoodIn wsL_law wsX9_smithy := goodIn_r _ [333, 15, 128, 334, 834, 835, 836, 837, 838, 839, 840, 841, 876, 877, 878, 879, 880, 881, 882, 883] (by decide +kernel) (by decide +kernel)
set_option maxRecDepth 20000 in
theorem gL_law_X9_smithy : GoodIn wsL_law (wsV RL 23 RX9 yX9_smithy wsX9_smithy) := goodIn_app (goodIn_of _ (by decide +kernel)) ggL_law_X9_smithy
set_option maxRecDepth 20000 in
theorem ggL_law_X10_smithy : GoodIn wsL_law wsX10_smithy := goodIn_r _ [338, 254, 252, 260, 261, 5, 262, 842, 843, 844, 845, 846, 847, 848, 849, 850, 851, 852, 853, 854, 855, 856, 857, 858, 859, 860, 861, 862, 863, 864, 865, 866, 867, 868, 869, 870, 871, 872, 873, 874, 875] (by decide +kernel) (by decide +kernel)
set_option maxRecDepth 20000 in
theorem gL_law_X10_smithy : GoodIn wsL_law (wsV RL 27 RX10 yX10_smithy wsX10_smithy) := goodIn_app (goodIn_of _ (by decide +kernel)) ggL_law_X10_smithy
set_option maxRecDepth 20000 in
theorem ggL_law_X9_rust : GoodIn wsL_law wsX9_rust := goodIn_r _ [342, 15, 128, 294, 219, 220, 221, 14, 222, 45, 43, 47, 51, 223, 224, 225, 226, 227, 188, 228, 229, 230, 231, 232, 191, 233, 234, 235, 236, 194, 237, 208, 238, 239, 240, 241, 242, 243, 244, 834, 835, 836, 837, 838, 839, 840, 841, 876, 877, 878, 879, 880, 881, 882, 883, 908, 909, 910, 911, 912, 913, 914, 915, 916, 917, 918, 919, 920, 921, 922] (by decide +kernel) (by decide +kernel)
set_option maxRecDepth 20000 in
theorem gL_law_X9_rust : GoodIn wsL_law (wsV RL 28 RX9 yX9_rust wsX9_rust) := goodIn_app (goodIn_of _ (by decide +kernel)) ggL_law_X9_rust
set_option maxRecDepth 20000 in
theorem ggL_law_X10_rust : GoodIn wsL_law wsX10_rust := goodIn_r _ [346, 254, 255, 260, 261, 5, 262, 842, 843, 844, 845, 846, 847, 848, 849, 850, 851, 852, 853, 854, 855, 856, 857, 858, 859, 860, 861, 862, 863, 864, 865, 866, 867, 868, 869, 870, 871, 872, 873, 874, 875] (by decide +kernel) (by decide +kernel)
set_option maxRecDepth 20000 in
theorem gL_law_X10_rust : GoodIn wsL_law (wsV RL 31 RX10 yX10_rust wsX10_rust) := goodIn_app (goodIn_of _ (by decide +kernel)) ggL_law_X10_rust
set_option maxRecDepth 20000 in
theorem ggL_law_X9_harm : GoodIn wsL_law wsX9_harm := goodIn_r _ [350, 23, 129, 130, 2, 131, 351, 352, 353, 354, 355, 356, 357, 15, 128, 132, 133, 134, 135, 36, 136, 137, 138, 139, 29, 140, 141, 142, 143, 144, 145, 146, 147, 38, 148, 94, 149, 150, 151, 152, 153, 154, 155, 156, 95, 160, 161, 162, 163, 96, 164, 165, 166, 167, 358, 300, 301, 14, 302, 43, 359, 360, 361, 22, 362, 363, 364, 240, 365, 66, 65, 366, 367, 368, 369, 370, 68, 73, 67, 72, 74, 371, 372, 373, 374, 375, 69, 376, 70, 71, 377, 378, 379, 380, 381, 382, 383, 384, 385, 386, 387, 388, 389, 390, 391, 392, 393, 394, 395, 396, 397, 398, 399, 834, 835, 836, 837, 838, 839, 840, 841, 876, 877, 878, 879, 880, 881, 882, 883, 905, 906, 907, 888, 889, 890, 891, 892, 893, 894, 895, 896, 897] (by decide +kernel) (by decide +kernel)
set_option maxRecDepth 20000 in
theorem gL_law_X9_harm : GoodIn wsL_law (wsV RL 32 RX9 yX9_harm wsX9_harm) := goodIn_app (goodIn_of _ (by decide +kernel)) ggL_law_X9_harm
set_option maxRecDepth 20000 in
theorem ggL_law_X10_harm : GoodIn wsL_law wsX10_harm := goodIn_r _ [403, 249, 257, 258, 5, 259, 260, 261, 262, 263, 264, 265, 404, 405, 406, 407, 254, 114, 103, 408, 266, 267, 268, 269, 101, 102, 270, 271, 272, 273, 322, 323, 324, 325, 409, 410, 411, 412, 413, 414, 415, 416, 108, 417, 418, 419, 420, 421, 252, 105, 115, 116, 106, 422, 423, 424, 425, 426, 427, 428, 117, 326, 327, 328, 329, 107, 255, 104, 842, 843, 844, 845, 846, 847, 848, 849, 850, 851, 852, 853, 854, 855, 856, 857, 858, 859, 860, 861, 862, 863, 864, 865, 866, 867, 868, 869, 870, 871, 872, 873, 874, 875] (by decide +kernel) (by decide +kernel)
set_option maxRecDepth 20000 in
theorem gL_law_X10_harm : GoodIn wsL_law (wsV RL 36 RX10 yX10_harm wsX10_harm) := goodIn_app (goodIn_of _ (by decide +kernel)) ggL_law_X10_harm
set_option maxRecDepth 20000 in
theorem ggL_law_X9_never : GoodIn wsL_law wsX9_never := goodIn_r _ [432, 23, 129, 130, 2, 131, 354, 355, 356, 357, 15, 128, 132, 133, 134, 135, 36, 136, 137, 138, 139, 29, 140, 141, 142, 143, 144, 145, 146, 147, 38, 148, 94, 149, 150, 151, 152, 153, 154, 155, 156, 95, 160, 161, 162, 163, 96, 164, 165, 166, 167, 358, 300, 301, 14, 302, 43, 359, 360, 361, 22, 362, 363, 364, 240, 365, 66, 65, 366, 433, 434, 435, 436, 67, 72, 73, 74, 372, 373, 374, 375, 69, 376, 70, 71, 371, 377, 378, 379, 380, 381, 382, 383, 384, 385, 386, 391, 392, 393, 394, 437, 438, 439, 440, 834, 835, 836, 837, 838, 839, 840, 841, 876, 877, 878, 879, 880, 881, 882, 883, 905, 906, 907, 888, 889, 890, 891, 892, 893, 894, 895, 896, 897] (by decide +kernel) (by decide +kernel)
set_option maxRecDepth 20000 in
theorem gL_law_X9_never : GoodIn wsL_law (wsV RL 37 RX9 yX9_never wsX9_never) := goodIn_app (goodIn_of _ (by decide +kernel)) ggL_law_X9_never
set_option maxRecDepth 20000 in
theorem ggL_law_X10_never : GoodIn wsL_law wsX10_never := goodIn_r _ [444, 249, 257, 258, 5, 259, 260, 261, 262, 263, 264, 265, 404, 405, 406, 407, 254, 114, 103, 408, 266, 267, 268, 269, 101, 102, 270, 271, 272, 273, 322, 323, 324, 325, 409, 410, 411, 412, 445, 446, 447, 448, 449, 421, 116, 115, 106, 417, 418, 419, 420, 252, 105, 422, 423, 424, 326, 327, 328, 329, 107, 255, 104, 842, 843, 844, 845, 846, 847, 848, 849, 850, 851, 852, 853, 854, 855, 856, 857, 858, 859, 860, 861, 862, 863, 864, 865, 866, 867, 868, 869, 870, 871, 872, 873, 874, 875] (by decide +kernel) (by decide +kernel)
set_option maxRecDepth 20000 in
theorem gL_law_X10_never : GoodIn wsL_law (wsV RL 40 RX10 yX10_never wsX10_never) := goodIn_app (goodIn_of _ (by decide +kernel)) ggL_law_X10_never
set_option maxRecDepth 20000 in
theorem ggL_law_X9_fall : GoodIn wsL_law wsX9_fall := goodIn_r _ [453, 23, 129, 130, 2, 131, 354, 355, 356, 357, 15, 128, 132, 133, 134, 135, 36, 136, 137, 138, 139, 29, 140, 141, 142, 143, 144, 145, 146, 147, 38, 148, 94, 149, 150, 151, 152, 153, 154, 155, 156, 95, 160, 161, 162, 163, 96, 164, 165, 166, 167, 358, 300, 301, 14, 302, 43, 359, 360, 361, 22, 362, 363, 364, 240, 365, 66, 65, 366, 367, 368, 369, 370, 68, 73, 67, 72, 74, 371, 372, 373, 374, 375, 69, 376, 70, 71, 377, 378, 379, 380, 381, 382, 383, 384, 385, 386, 387, 388, 389, 390, 391, 392, 393, 394, 454, 455, 456, 457, 458, 459, 460, 461, 462, 463, 464, 465, 466, 467, 468, 834, 835, 836, 837, 838, 839, 840, 841, 876, 877, 878, 879, 880, 881, 882, 883, 905, 906, 907, 888, 889, 890, 891, 892, 893, 894, 895, 896, 897] (by decide +kernel) (by decide +kernel)
set_option maxRecDepth 20000 in
theorem gL_law_X9_fall : GoodIn wsL_law (wsV RL 41 RX9 yX9_fall wsX9_fall) := goodIn_app (goodIn_of _ (by decide +kernel)) ggL_law_X9_fall
set_option maxRecDepth 20000 in
theorem ggL_law_X10_fall : GoodIn wsL_law wsX10_fall := goodIn_r _ [472, 249, 118, 257, 258, 5, 259, 260, 261, 262, 263, 264, 265, 404, 405, 406, 407, 254, 114, 103, 408, 266, 267, 268, 269, 101, 102, 270, 271, 272, 273, 322, 323, 324, 325, 473, 474, 475, 476, 117, 417, 418, 419, 420, 421, 252, 105, 115, 116, 106, 422, 423, 424, 425, 426, 427, 428, 326, 327, 328, 329, 107, 255, 104, 842, 843, 844, 845, 846, 847, 848, 849, 850, 851, 852, 853, 854, 855, 856, 857, 858, 859, 860, 861, 862, 863, 864, 865, 866, 867, 868, 869, 870, 871, 872, 873, 874, 875] (by decide +kernel) (by decide +kernel)
set_option maxRecDepth 20000 in
theorem gL_law_X10_fall : GoodIn wsL_law (wsV RL 44 RX10 yX10_fall wsX10_fall) := goodIn_app (goodIn_of _ (by decide +kernel)) ggL_law_X10_fall
set_option maxRecDepth 20000 in
theorem ggL_law_X9_nail : GoodIn wsL_law wsX9_nail := goodIn_r _ [480, 23, 129, 130, 2, 131, 481, 482, 483, 354, 355, 356, 357, 15, 128, 132, 133, 134, 135, 36, 136, 137, 138, 139, 29, 140, 141, 142, 143, 144, 145, 146, 147, 38, 148, 94, 149, 150, 151, 152, 153, 154, 155, 156, 95, 160, 161, 162, 163, 96, 164, 165, 166, 167, 358, 300, 301, 14, 302, 43, 359, 360, 361, 22, 362, 363, 364, 240, 365, 66, 65, 366, 484, 485, 486, 487, 73, 71, 72, 372, 373, 374, 375, 69, 74, 376, 70, 371, 67, 377, 378, 379, 380, 381, 382, 383, 384, 385, 386, 834, 835, 836, 837, 838, 839, 840, 841, 876, 877, 878, 879, 880, 881, 882, 883, 905, 906, 907, 888, 889, 890, 891, 892, 893, 894, 895, 896, 897] (by decide +kernel) (by decide +kernel)
set_option maxRecDepth 20000 in
theorem gL_law_X9_nail : GoodIn wsL_law (wsV RL 45 RX9 yX9_nail wsX9_nail) := goodIn_app (goodIn_of _ (by decide +kernel)) ggL_law_X9_nail
set_option maxRecDepth 20000 in
theorem ggL_law_X10_nail : GoodIn wsL_law wsX10_nail := goodIn_r _ [491, 249, 421, 116, 115, 106, 257, 258, 5, 259, 260, 261, 262, 263, 264, 265, 404, 405, 406, 407, 254, 114, 103, 408, 266, 267, 268, 269, 101, 102, 270, 271, 272, 273, 322, 323, 324, 325, 417, 418, 419, 420, 252, 105, 422, 423, 424, 842, 843, 844, 845, 846, 847, 848, 849, 850, 851, 852, 853, 854, 855, 856, 857, 858, 859, 860, 861, 862, 863, 864, 865, 866, 867, 868, 869, 870, 871, 872, 873, 874, 875] (by decide +kernel) (by decide +kernel)
set_option maxRecDepth 20000 in
theorem gL_law_X10_nail : GoodIn wsL_law (wsV RL 48 RX10 yX10_nail wsX10_nail) := goodIn_app (goodIn_of _ (by decide +kernel)) ggL_law_X10_nail
set_option maxRecDepth 20000 in
theorem ggL_law_X9_best : GoodIn wsL_law wsX9_best := goodIn_r _ [495, 15, 128, 27, 334, 351, 352, 2, 353, 496, 438, 439, 14, 440, 43, 497, 498, 499, 26, 500, 501, 502, 503, 504, 505, 80, 84, 506, 79, 507, 508, 509, 510, 511, 82, 512, 513, 384, 240, 385, 81, 514, 515, 516, 517, 518, 519, 520, 521, 522, 523, 524, 525, 526, 527, 528, 83, 529, 530, 531, 532, 533, 534, 535, 536, 537, 538, 539, 540, 834, 835, 836, 837, 838, 839, 840, 841, 876, 877, 878, 879, 880, 881, 882, 883, 898, 899, 900, 901, 902, 903] (by decide +kernel) (by decide +kernel)
set_option maxRecDepth 20000 in
theorem gL_law_X9_best : GoodIn wsL_law (wsV RL 49 RX9 yX9_best wsX9_best) := goodIn_app (goodIn_of _ (by decide +kernel)) ggL_law_X9_best
set_option maxRecDepth 20000 in
theorem ggL_law_X10_best : GoodIn wsL_law wsX10_best := goodIn_r _ [544, 254, 119, 260, 261, 5, 262, 409, 410, 411, 412, 545, 546, 547, 548, 408, 114, 549, 550, 551, 552, 413, 414, 415, 416, 108, 417, 418, 419, 420, 421, 252, 105, 115, 116, 106, 422, 423, 424, 425, 426, 427, 428, 117, 326, 327, 328, 329, 107, 255, 104, 553, 554, 555, 556, 557, 558, 559, 560, 842, 843, 844, 845, 846, 847, 848, 849, 850, 851, 852, 853, 854, 855, 856, 857, 858, 859, 860, 861, 862, 863, 864, 865, 866, 867, 868, 869, 870, 871, 872, 873, 874, 875] (by decide +kernel) (by decide +kernel)
set_option maxRecDepth 20000 in
theorem gL_law_X10_best : GoodIn wsL_law (wsV RL 52 RX10 yX10_best wsX10_best) := goodIn_app (goodIn_of _ (by decide +kernel)) ggL_law_X10_best
set_option maxRecDepth 20000 in
theorem ggL_law_X9_safe : GoodIn wsL_law wsX9_safe := goodIn_r _ [564, 15, 128, 27, 565, 496, 438, 439, 14, 440, 43, 566, 567, 568, 26, 569, 84, 570, 502, 503, 504, 505, 80, 506, 79, 507, 508, 509, 510, 511, 82, 512, 513, 384, 240, 385, 81, 514, 571, 572, 573, 574, 524, 529, 530, 531, 532, 533, 534, 535, 536, 834, 835, 836, 837, 838, 839, 840, 841, 876, 877, 878, 879, 880, 881, 882, 883, 898, 899, 900, 901, 902, 903] (by decide +kernel) (by decide +kernel)
set_option maxRecDepth 20000 in
theorem gL_law_X9_safe : GoodIn wsL_law (wsV RL 53 RX9 yX9_safe wsX9_safe) := goodIn_app (goodIn_of _ (by decide +kernel)) ggL_law_X9_safe
set_option maxRecDepth 20000 in
theorem ggL_law_X10_safe : GoodIn wsL_law wsX10_safe := goodIn_r _ [578, 254, 409, 410, 411, 5, 412, 549, 550, 551, 552, 408, 114, 445, 446, 447, 448, 449, 421, 116, 115, 106, 417, 418, 419, 420, 252, 105, 422, 423, 424, 326, 327, 328, 329, 107, 255, 104, 553, 554, 555, 556, 557, 558, 559, 560, 842, 843, 844, 845, 846, 847, 848, 849, 850, 851, 852, 853, 854, 855, 856, 857, 858, 859, 860, 861, 862, 863, 864, 865, 866, 867, 868, 869, 870, 871, 872, 873, 874, 875] (by decide +kernel) (by decide +kernel)
set_option maxRecDepth 20000 in
theorem gL_law_X10_safe : GoodIn wsL_law (wsV RL 57 RX10 yX10_safe wsX10_safe) := goodIn_app (goodIn_of _ (by decide +kernel)) ggL_law_X10_safe
set_option maxRecDepth 20000 in
theorem ggL_law_X9_letGo : GoodIn wsL_law wsX9_letGo := goodIn_r _ [582, 15, 128, 27, 496, 438, 439, 14, 440, 43, 583, 459, 460, 461, 462, 463, 464, 566, 567, 568, 26, 569, 84, 570, 502, 503, 504, 505, 80, 506, 79, 507, 508, 509, 510, 511, 82, 512, 513, 384, 240, 385, 81, 514, 571, 572, 573, 574, 524, 529, 530, 531, 532, 533, 534, 535, 536, 834, 835, 836, 837, 838, 839, 840, 841, 876, 877, 878, 879, 880, 881, 882, 883, 898, 899, 900, 901, 902, 903] (by decide +kernel) (by decide +kernel)
set_option maxRecDepth 20000 in
theorem gL_law_X9_letGo : GoodIn wsL_law (wsV RL 58 RX9 yX9_letGo wsX9_letGo) := goodIn_app (goodIn_of _ (by decide +kernel)) ggL_law_X9_letGo
set_option maxRecDepth 20000 in
theorem ggL_law_X10_letGo : GoodIn wsL_law wsX10_letGo := goodIn_r _ [587, 254, 409, 410, 411, 5, 412, 588, 589, 590, 591, 592, 593, 594, 549, 550, 551, 552, 408, 114, 445, 446, 447, 448, 449, 421, 116, 115, 106, 417, 418, 419, 420, 252, 105, 422, 423, 424, 326, 327, 328, 329, 107, 255, 104, 553, 554, 555, 556, 557, 558, 559, 560, 842, 843, 844, 845, 846, 847, 848, 849, 850, 851, 852, 853, 854, 855, 856, 857, 858, 859, 860, 861, 862, 863, 864, 865, 866, 867, 868, 869, 870, 871, 872, 873, 874, 875] (by decide +kernel) (by decide +kernel)
set_option maxRecDepth 20000 in
theorem gL_law_X10_letGo : GoodIn wsL_law (wsV RL 61 RX10 yX10_letGo wsX10_letGo) := goodIn_app (goodIn_of _ (by decide +kernel)) ggL_law_X10_letGo
set_option maxRecDepth 20000 in
theorem ggL_law_X9_two : GoodIn wsL_law wsX9_two := goodIn_r _ [598, 15, 128, 31, 27, 334, 351, 352, 2, 353, 599, 600, 601, 496, 438, 439, 14, 440, 43, 497, 498, 499, 26, 500, 501, 502, 503, 504, 505, 80, 84, 506, 79, 507, 508, 509, 510, 511, 82, 512, 513, 384, 240, 385, 81, 514, 515, 516, 517, 518, 519, 520, 521, 522, 523, 524, 525, 526, 527, 528, 83, 529, 530, 531, 532, 533, 534, 535, 536, 602, 603, 604, 605, 834, 835, 836, 837, 838, 839, 840, 841, 876, 877, 878, 879, 880, 881, 882, 883, 898, 899, 900, 901, 902, 903] (by decide +kernel) (by decide +kernel)
set_option maxRecDepth 20000 in
theorem gL_law_X9_two : GoodIn wsL_law (wsV RL 62 RX9 yX9_two wsX9_two) := goodIn_app (goodIn_of _ (by decide +kernel)) ggL_law_X9_two
set_option maxRecDepth 20000 in
theorem ggL_law_X10_two : GoodIn wsL_law wsX10_two := goodIn_r _ [609, 254, 120, 260, 261, 5, 262, 409, 410, 411, 412, 545, 546, 547, 548, 408, 119, 114, 549, 550, 551, 552, 413, 414, 415, 416, 108, 417, 418, 419, 420, 421, 252, 105, 115, 116, 106, 422, 423, 424, 425, 426, 427, 428, 117, 326, 327, 328, 329, 107, 255, 104, 553, 554, 555, 556, 557, 558, 559, 560, 842, 843, 844, 845, 846, 847, 848, 849, 850, 851, 852, 853, 854, 855, 856, 857, 858, 859, 860, 861, 862, 863, 864, 865, 866, 867, 868, 869, 870, 871, 872, 873, 874, 875] (by decide +kernel) (by decide +kernel)
set_option maxRecDepth 20000 in
theorem gL_law_X10_two : GoodIn wsL_law (wsV RL 65 RX10 yX10_two wsX10_two) := goodIn_app (goodIn_of _ (by decide +kernel)) ggL_law_X10_two
set_option maxRecDepth 20000 in
theorem ggL_law_X9_site : GoodIn wsL_law wsX9_site := goodIn_r _ [613, 15, 128, 27, 351, 352, 2, 353, 599, 600, 601, 496, 438, 439, 14, 440, 43, 497, 498, 499, 26, 500, 501, 502, 503, 504, 505, 80, 84, 506, 79, 507, 508, 509, 510, 511, 82, 512, 513, 384, 240, 385, 81, 514, 515, 516, 517, 518, 519, 520, 521, 522, 523, 524, 525, 526, 527, 528, 83, 529, 530, 531, 532, 533, 534, 535, 536, 834, 835, 836, 837, 838, 839, 840, 841, 876, 877, 878, 879, 880, 881, 882, 883, 898, 899, 900, 901, 902, 903] (by decide +kernel) (by decide +kernel)
set_option maxRecDepth 20000 in
theorem gL_law_X9_site : GoodIn wsL_law (wsV RL 66 RX9 yX9_site wsX9_site) := goodIn_app (goodIn_of _ (by decide +kernel)) ggL_law_X9_site
set_option maxRecDepth 20000 in
theorem ggL_law_X10_site : GoodIn wsL_law wsX10_site := goodIn_r _ [617, 254, 252, 260, 261, 5, 262, 409, 410, 411, 412, 545, 546, 547, 548, 408, 119, 114, 549, 550, 551, 552, 413, 414, 415, 416, 108, 417, 418, 419, 420, 421, 105, 115, 116, 106, 422, 423, 424, 425, 426, 427, 428, 117, 326, 327, 328, 329, 107, 255, 104, 553, 554, 555, 556, 557, 558, 559, 560, 842, 843, 844, 845, 846, 847, 848, 849, 850, 851, 852, 853, 854, 855, 856, 857, 858, 859, 860, 861, 862, 863, 864, 865, 866, 867, 868, 869, 870, 871, 872, 873, 874, 875] (by decide +kernel) (by decide +kernel)
set_option maxRecDepth 20000 in
theorem gL_law_X10_site : GoodIn wsL_law (wsV RL 69 RX10 yX10_site wsX10_site) := goodIn_app (goodIn_of _ (by decide +kernel)) ggL_law_X10_site
set_option maxRecDepth 20000 in
theorem ggL_law_X9_reading : GoodIn wsL_law wsX9_reading := goodIn_r _ [621, 15, 19, 358, 300, 301, 14, 302, 43, 481, 482, 2, 483, 622, 623, 624, 18, 625, 56, 57, 58, 60, 834, 835, 836, 837, 838, 839, 840, 841, 876, 877, 878, 879, 880, 881, 882, 883, 884, 885, 886, 887] (by decide +kernel) (by decide +kernel)
set_option maxRecDepth 20000 in
theorem gL_law_X9_reading : GoodIn wsL_law (wsV RL 70 RX9 yX9_reading wsX9_reading) := goodIn_app (goodIn_of _ (by decide +kernel)) ggL_law_X9_reading
set_option maxRecDepth 20000 in
theorem ggL_law_X10_reading : GoodIn wsL_law wsX10_reading := goodIn_r _ [629, 256, 121, 122, 123, 322, 323, 324, 5, 325, 254, 260, 261, 262, 842, 843, 844, 845, 846, 847, 848, 849, 850, 851, 852, 853, 854, 855, 856, 857, 858, 859, 860, 861, 862, 863, 864, 865, 866, 867, 868, 869, 870, 871, 872, 873, 874, 875] (by decide +kernel) (by decide +kernel)
set_option maxRecDepth 20000 in
theorem gL_law_X10_reading : GoodIn wsL_law (wsV RL 74 RX10 yX10_reading wsX10_reading) := goodIn_app (goodIn_of _ (by decide +kernel)) ggL_law_X10_reading
set_option maxRecDepth 20000 in
theorem ggL_law_X9_back : GoodIn wsL_law wsX9_back := goodIn_r _ [633, 19, 178, 834, 835, 836, 837, 838, 839, 840, 841, 884, 885, 886, 887] (by decide +kernel) (by decide +kernel)
set_option maxRecDepth 20000 in
theorem gL_law_X9_back : GoodIn wsL_law (wsV RL 75 RX9 yX9_back wsX9_back) := goodIn_app (goodIn_of _ (by decide +kernel)) ggL_law_X9_back
set_option maxRecDepth 20000 in
theorem ggL_law_X10_back : GoodIn wsL_law wsX10_back := goodIn_r _ [637, 256, 260, 261, 5, 262, 842, 843, 844, 845, 846, 847, 848, 849, 850, 851, 852, 853, 854, 855, 856, 857, 858, 859, 860, 861, 862, 863, 864, 865, 866, 867, 868, 869, 870, 871, 872, 873, 874, 875] (by decide +kernel) (by decide +kernel)
set_option maxRecDepth 20000 in
theorem gL_law_X10_back : GoodIn wsL_law (wsV RL 78 RX10 yX10_back wsX10_back) := goodIn_app (goodIn_of _ (by decide +kernel)) ggL_law_X10_back
set_option maxRecDepth 20000 in
theorem ggL_law_X9_fits : GoodIn wsL_law wsX9_fits := goodIn_r _ [641, 15, 128, 27, 19, 496, 438, 439, 14, 440, 43, 642, 643, 644, 26, 645, 84, 570, 502, 503, 504, 505, 80, 506, 79, 507, 508, 509, 510, 511, 82, 512, 513, 384, 240, 385, 81, 514, 646, 647, 648, 649, 650, 651, 652, 653, 654, 655, 656, 657, 524, 525, 526, 527, 528, 83, 529, 530, 531, 532, 533, 534, 535, 536, 537, 538, 539, 540, 834, 835, 836, 837, 838, 839, 840, 841, 876, 877, 878, 879, 880, 881, 882, 883, 898, 899, 900, 901, 902, 903, 884, 885, 886, 887] (by decide +kernel) (by decide +kernel)
set_option maxRecDepth 20000 in
theorem gL_law_X9_fits : GoodIn wsL_law (wsV RL 79 RX9 yX9_fits wsX9_fits) := goodIn_app (goodIn_of _ (by decide +kernel)) ggL_law_X9_fits
set_option maxRecDepth 20000 in
theorem ggL_law_X10_fits : GoodIn wsL_law wsX10_fits := goodIn_r _ [661, 254, 114, 260, 261, 5, 262, 409, 410, 411, 412, 549, 550, 551, 552, 408, 662, 663, 664, 665, 256, 121, 122, 123, 417, 418, 419, 420, 421, 252, 105, 115, 116, 106, 422, 423, 424, 666, 667, 668, 669, 326, 327, 328, 329, 107, 255, 104, 553, 554, 555, 556, 557, 558, 559, 560, 842, 843, 844, 845, 846, 847, 848, 849, 850, 851, 852, 853, 854, 855, 856, 857, 858, 859, 860, 861, 862, 863, 864, 865, 866, 867, 868, 869, 870, 871, 872, 873, 874, 875] (by decide +kernel) (by decide +kernel)
set_option maxRecDepth 20000 in
theorem gL_law_X10_fits : GoodIn wsL_law (wsV RL 82 RX10 yX10_fits wsX10_fits) := goodIn_app (goodIn_of _ (by decide +kernel)) ggL_law_X10_fits
set_option maxRecDepth 20000 in
theorem ggL_law_X9_sheet : GoodIn wsL_law wsX9_sheet := goodIn_r _ [673, 36, 136, 137, 138, 2, 139, 29, 129, 130, 131, 149, 150, 151, 152, 674, 675, 676, 38, 677, 94, 678, 364, 240, 365, 679, 239, 241, 95, 96, 834, 835, 836, 837, 838, 839, 840, 841, 905, 906, 907] (by decide +kernel) (by decide +kernel)
set_option maxRecDepth 20000 in
theorem gL_law_X9_sheet : GoodIn wsL_law (wsV RL 83 RX9 yX9_sheet wsX9_sheet) := goodIn_app (goodIn_of _ (by decide +kernel)) ggL_law_X9_sheet
set_option maxRecDepth 20000 in
theorem ggL_law_X10_sheet : GoodIn wsL_law wsX10_sheet := goodIn_r _ [683, 249, 101, 102, 103, 257, 258, 5, 259, 260, 261, 262, 263, 264, 265, 270, 271, 272, 273, 842, 843, 844, 845, 846, 847, 848, 849, 850, 851, 852, 853, 854, 855, 856, 857, 858, 859, 860, 861, 862, 863, 864, 865, 866, 867, 868, 869, 870, 871, 872, 873, 874, 875] (by decide +kernel) (by decide +kernel)
set_option maxRecDepth 20000 in
theorem gL_law_X10_sheet : GoodIn wsL_law (wsV RL 87 RX10 yX10_sheet wsX10_sheet) := goodIn_app (goodIn_of _ (by decide +kernel)) ggL_law_X10_sheet
set_option maxRecDepth 20000 in
theorem ggL_law_X9_lose : GoodIn wsL_law wsX9_lose := goodIn_r _ [687, 136, 137, 138, 2, 139, 29, 145, 146, 147, 38, 148, 94, 688, 689, 690, 691, 95, 834, 835, 836, 837, 838, 839, 840, 841, 905, 906, 907] (by decide +kernel) (by decide +kernel)
set_option maxRecDepth 20000 in
theorem gL_law_X9_lose : GoodIn wsL_law (wsV RL 88 RX9 yX9_lose wsX9_lose) := goodIn_app (goodIn_of _ (by decide +kernel)) ggL_law_X9_lose
set_option maxRecDepth 20000 in
theorem ggL_law_X10_lose : GoodIn wsL_law wsX10_lose := goodIn_r _ [695, 101, 257, 258, 5, 259, 260, 261, 262, 842, 843, 844, 845, 846, 847, 848, 849, 850, 851, 852, 853, 854, 855, 856, 857, 858, 859, 860, 861, 862, 863, 864, 865, 866, 867, 868, 869, 870, 871, 872, 873, 874, 875] (by decide +kernel) (by decide +kernel)
set_option maxRecDepth 20000 in
theorem gL_law_X10_lose : GoodIn wsL_law (wsV RL 91 RX10 yX10_lose wsX10_lose) := goodIn_app (goodIn_of _ (by decide +kernel)) ggL_law_X10_lose
set_option maxRecDepth 20000 in
theorem ggL_law_X9_put : GoodIn wsL_law wsX9_put := goodIn_r _ [699, 36, 136, 137, 138, 2, 139, 29, 145, 146, 147, 38, 148, 94, 149, 150, 151, 152, 700, 165, 166, 167, 95, 701, 702, 703, 704, 96, 164, 834, 835, 836, 837, 838, 839, 840, 841, 905, 906, 907] (by decide +kernel) (by decide +kernel)
set_option maxRecDepth 20000 in
theorem gL_law_X9_put : GoodIn wsL_law (wsV RL 92 RX9 yX9_put wsX9_put) := goodIn_app (goodIn_of _ (by decide +kernel)) ggL_law_X9_put
set_option maxRecDepth 20000 in
theorem ggL_law_X10_put : GoodIn wsL_law wsX10_put := goodIn_r _ [708, 249, 101, 102, 103, 257, 258, 5, 259, 260, 261, 262, 270, 271, 272, 273, 842, 843, 844, 845, 846, 847, 848, 849, 850, 851, 852, 853, 854, 855, 856, 857, 858, 859, 860, 861, 862, 863, 864, 865, 866, 867, 868, 869, 870, 871, 872, 873, 874, 875] (by decide +kernel) (by decide +kernel)
set_option maxRecDepth 20000 in
theorem gL_law_X10_put : GoodIn wsL_law (wsV RL 95 RX10 yX10_put wsX10_put) := goodIn_app (goodIn_of _ (by decide +kernel)) ggL_law_X10_put
set_option maxRecDepth 20000 in
theorem ggL_law_X9_cell : GoodIn wsL_law wsX9_cell := goodIn_r _ [712, 36, 713, 136, 137, 138, 2, 139, 29, 129, 130, 131, 140, 141, 142, 143, 144, 145, 146, 147, 38, 148, 94, 149, 150, 151, 152, 700, 165, 166, 167, 95, 160, 161, 162, 163, 96, 164, 834, 835, 836, 837, 838, 839, 840, 841, 905, 906, 907] (by decide +kernel) (by decide +kernel)
set_option maxRecDepth 20000 in
theorem gL_law_X9_cell : GoodIn wsL_law (wsV RL 96 RX9 yX9_cell wsX9_cell) := goodIn_app (goodIn_of _ (by decide +kernel)) ggL_law_X9_cell
set_option maxRecDepth 20000 in
theorem ggL_law_X10_cell : GoodIn wsL_law wsX10_cell := goodIn_r _ [717, 249, 718, 101, 102, 103, 257, 258, 5, 259, 260, 261, 262, 263, 264, 265, 719, 720, 721, 722, 842, 843, 844, 845, 846, 847, 848, 849, 850, 851, 852, 853, 854, 855, 856, 857, 858, 859, 860, 861, 862, 863, 864, 865, 866, 867, 868, 869, 870, 871, 872, 873, 874, 875] (by decide +kernel) (by decide +kernel)
set_option maxRecDepth 20000 in
theorem gL_law_X10_cell : GoodIn wsL_law (wsV RL 100 RX10 yX10_cell wsX10_cell) := goodIn_app (goodIn_of _ (by decide +kernel)) ggL_law_X10_cell
set_option maxRecDepth 20000 in
theorem ggL_law_X9_copy : GoodIn wsL_law wsX9_copy := goodIn_r _ [726, 36, 144, 727, 728, 729, 730, 731, 136, 137, 138, 2, 139, 29, 145, 146, 147, 38, 148, 94, 149, 150, 151, 152, 153, 154, 155, 156, 95, 834, 835, 836, 837, 838, 839, 840, 841, 905, 906, 907] (by decide +kernel) (by decide +kernel)
set_option maxRecDepth 20000 in
theorem gL_law_X9_copy : GoodIn wsL_law (wsV RL 101 RX9 yX9_copy wsX9_copy) := goodIn_app (goodIn_of _ (by decide +kernel)) ggL_law_X9_copy
set_option maxRecDepth 20000 in
theorem ggL_law_X10_copy : GoodIn wsL_law wsX10_copy := goodIn_r _ [735, 249, 101, 102, 103, 257, 258, 5, 259, 260, 261, 262, 270, 271, 272, 273, 842, 843, 844, 845, 846, 847, 848, 849, 850, 851, 852, 853, 854, 855, 856, 857, 858, 859, 860, 861, 862, 863, 864, 865, 866, 867, 868, 869, 870, 871, 872, 873, 874, 875] (by decide +kernel) (by decide +kernel)
set_option maxRecDepth 20000 in
theorem gL_law_X10_copy : GoodIn wsL_law (wsV RL 104 RX10 yX10_copy wsX10_copy) := goodIn_app (goodIn_of _ (by decide +kernel)) ggL_law_X10_copy
set_option maxRecDepth 20000 in
theorem ggL_law_X9_tell : GoodIn wsL_law wsX9_tell := goodIn_r _ [739, 15, 35, 295, 296, 297, 14, 298, 47, 299, 300, 301, 302, 43, 740, 741, 742, 743, 744, 188, 745, 746, 747, 748, 34, 749, 89, 750, 751, 231, 752, 191, 753, 754, 755, 235, 756, 194, 757, 758, 759, 760, 761, 762, 208, 763, 764, 765, 766, 767, 768, 769, 770, 771, 772, 834, 835, 836, 837, 838, 839, 840, 841, 876, 877, 878, 879, 880, 881, 882, 883, 904, 908, 909, 910, 911, 912, 913, 914, 915, 916, 917, 918, 919, 920, 921, 922] (by decide +kernel) (by decide +kernel)
set_option maxRecDepth 20000 in
theorem gL_law_X9_tell : GoodIn wsL_law (wsV RL 105 RX9 yX9_tell wsX9_tell) := goodIn_app (goodIn_of _ (by decide +kernel)) ggL_law_X9_tell
set_option maxRecDepth 20000 in
theorem ggL_law_X10_tell : GoodIn wsL_law wsX10_tell := goodIn_r _ [776, 107, 104, 322, 323, 324, 5, 325, 254, 777, 778, 779, 780, 781, 842, 843, 844, 845, 846, 847, 848, 849, 850, 851, 852, 853, 854, 855, 856, 857, 858, 859, 860, 861, 862, 863, 864, 865, 866, 867, 868, 869, 870, 871, 872, 873, 874, 875] (by decide +kernel) (by decide +kernel)
set_option maxRecDepth 20000 in
theorem gL_law_X10_tell : GoodIn wsL_law (wsV RL 108 RX10 yX10_tell wsX10_tell) := goodIn_app (goodIn_of _ (by decide +kernel)) ggL_law_X10_tell
set_option maxRecDepth 20000 in
theorem ggL_law_X9_strike : GoodIn wsL_law wsX9_strike := goodIn_r _ [785, 15, 35, 295, 296, 297, 14, 298, 47, 299, 300, 301, 302, 43, 786, 787, 788, 789, 790, 188, 791, 746, 747, 748, 34, 749, 89, 792, 793, 794, 194, 205, 763, 795, 796, 834, 835, 836, 837, 838, 839, 840, 841, 876, 877, 878, 879, 880, 881, 882, 883, 904, 908, 909, 910, 911, 912, 913, 914, 915, 916, 917, 918, 919, 920, 921, 922] (by decide +kernel) (by decide +kernel)
set_option maxRecDepth 20000 in
theorem gL_law_X9_strike : GoodIn wsL_law (wsV RL 109 RX9 yX9_strike wsX9_strike) := goodIn_app (goodIn_of _ (by decide +kernel)) ggL_law_X9_strike
set_option maxRecDepth 20000 in
theorem ggL_law_X10_strike : GoodIn wsL_law wsX10_strike := goodIn_r _ [800, 104, 322, 323, 324, 5, 325, 254, 777, 778, 779, 780, 781, 842, 843, 844, 845, 846, 847, 848, 849, 850, 851, 852, 853, 854, 855, 856, 857, 858, 859, 860, 861, 862, 863, 864, 865, 866, 867, 868, 869, 870, 871, 872, 873, 874, 875] (by decide +kernel) (by decide +kernel)
set_option maxRecDepth 20000 in
theorem gL_law_X10_strike : GoodIn wsL_law (wsV RL 112 RX10 yX10_strike wsX10_strike) := goodIn_app (goodIn_of _ (by decide +kernel)) ggL_law_X10_strike
set_option maxRecDepth 20000 in
theorem ggL_law_X9_as : GoodIn wsL_law wsX9_as := goodIn_r _ [804, 36, 15, 295, 296, 297, 14, 298, 47, 299, 300, 301, 302, 43, 303, 304, 305, 306, 307, 188, 308, 309, 310, 311, 191, 312, 313, 314, 315, 194, 149, 150, 151, 2, 152, 834, 835, 836, 837, 838, 839, 840, 841, 876, 877, 878, 879, 880, 881, 882, 883] (by decide +kernel) (by decide +kernel)
set_option maxRecDepth 20000 in
theorem gL_law_X9_as : GoodIn wsL_law (wsV RL 113 RX9 yX9_as wsX9_as) := goodIn_app (goodIn_of _ (by decide +kernel)) ggL_law_X9_as
set_option maxRecDepth 20000 in
theorem ggL_law_X10_as : GoodIn wsL_law wsX10_as := goodIn_r _ [808, 249, 104, 322, 323, 324, 5, 325, 254, 260, 261, 262, 270, 271, 272, 273, 842, 843, 844, 845, 846, 847, 848, 849, 850, 851, 852, 853, 854, 855, 856, 857, 858, 859, 860, 861, 862, 863, 864, 865, 866, 867, 868, 869, 870, 871, 872, 873, 874, 875] (by decide +kernel) (by decide +kernel)
set_option maxRecDepth 20000 in
theorem gL_law_X10_as : GoodIn wsL_law (wsV RL 116 RX10 yX10_as wsX10_as) := goodIn_app (goodIn_of _ (by decide +kernel)) ggL_law_X10_as
set_option maxRecDepth 20000 in
theorem ggL_law_X9_trace : GoodIn wsL_law wsX9_trace := goodIn_r _ [812, 35, 813, 834, 835, 836, 837, 838, 839, 840, 841, 904] (by decide +kernel) (by decide +kernel)
set_option maxRecDepth 20000 in
theorem gL_law_X9_trace : GoodIn wsL_law (wsV RL 117 RX9 yX9_trace wsX9_trace) := goodIn_app (goodIn_of _ (by decide +kernel)) ggL_law_X9_trace
set_option maxRecDepth 20000 in
theorem ggL_law_X10_trace : GoodIn wsL_law wsX10_trace := goodIn_r _ [817, 781, 842, 843, 844, 845, 846, 847, 848, 849, 850, 851, 852, 853, 854, 855, 856, 857, 858, 859, 860, 861, 862, 863, 864, 865, 866, 867, 868, 869, 870, 871, 872, 873, 874, 875] (by decide +kernel) (by decide +kernel)
set_option maxRecDepth 20000 in
theorem gL_law_X10_trace : GoodIn wsL_law (wsV RL 120 RX10 yX10_trace wsX10_trace) := goodIn_app (goodIn_of _ (by decide +kernel)) ggL_law_X10_trace
set_option maxRecDepth 20000 in
theorem ggL_law_X9_fault : GoodIn wsL_law wsX9_fault := goodIn_r _ [821, 36, 834, 835, 836, 837, 838, 839, 840, 841] (by decide +kernel) (by decide +kernel)
set_option maxRecDepth 20000 in
theorem gL_law_X9_fault : GoodIn wsL_law (wsV RL 121 RX9 yX9_fault wsX9_fault) := goodIn_app (goodIn_of _ (by decide +kernel)) ggL_law_X9_fault
set_option maxRecDepth 20000 in
theorem ggL_law_X10_fault : GoodIn wsL_law wsX10_fault := goodIn_r _ [825, 249, 842, 843, 844, 845, 846, 847, 848, 849, 850, 851, 852, 853, 854, 855, 856, 857, 858, 859, 860, 861, 862, 863, 864, 865, 866, 867, 868, 869, 870, 871, 872, 873, 874, 875] (by decide +kernel) (by decide +kernel)
set_option maxRecDepth 20000 in
theorem gL_law_X10_fault : GoodIn wsL_law (wsV RL 124 RX10 yX10_fault wsX10_fault) := goodIn_app (goodIn_of _ (by decide +kernel)) ggL_law_X10_fault
set_option maxRecDepth 20000 in
theorem ggL_law_X9_many : GoodIn wsL_law wsX9_many := goodIn_r _ [829, 15, 128, 334, 294, 19, 178, 834, 835, 836, 837, 838, 839, 840, 841, 876, 877, 878, 879, 880, 881, 882, 883, 884, 885, 886, 887] (by decide +kernel) (by decide +kernel)
set_option maxRecDepth 20000 in
theorem gL_law_X9_many : GoodIn wsL_law (wsV RL 125 RX9 yX9_many wsX9_many) := goodIn_app (goodIn_of _ (by decide +kernel)) ggL_law_X9_many
set_option maxRecDepth 20000 in
theorem ggL_law_X10_many : GoodIn wsL_law wsX10_many := goodIn_r _ [833, 254, 252, 255, 256, 842, 843, 844, 845, 846, 847, 848, 849, 850, 851, 852, 853, 854, 855, 856, 857, 858, 859, 860, 861, 862, 863, 864, 865, 866, 867, 868, 869, 870, 871, 872, 873, 874, 875] (by decide +kernel) (by decide +kernel)
set_option maxRecDepth 20000 in
theorem gL_law_X10_many : GoodIn wsL_law (wsV RL 128 RX10 yX10_many wsX10_many) := goodIn_app (goodIn_of _ (by decide +kernel)) ggL_law_X10_many

