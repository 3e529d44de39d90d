/-! the code of methods as pure instructions (written by wip/whole/gen.py) -/
def kL_law (X : px_X) : px_B := [(0, [], [px_new 11 [.null, .null, .null, .null, .null, .null, .null, .null], px_dup, px_cI X 120 1, px_astore 1, px_new 12 [.int 0, .null, .null, .null, .null, .null, .int 0, .null, .null, .null, .null, .int 0, .int 0, .int 0, .null, .null, .null, .null, .null, .null, .null, .null, .int 0, .null, .null, .int 0, .int 0, .null, .null, .null, .int 0, .null, .null, .null, .null, .null, .null, .int 0, .int 0, .null, .null, .null, .int 0, .null, .null, .int 0, .null, .int 0, .int 0, .int 0, .null, .null, .null, .null, .null, .int 0, .int 0, .int 0, .int 0, .int 0, .int 0, .int 0, .int 0, .int 0, .null, .int 0, .null, .null, .null], px_dup, px_cI X 164 1, px_astore 2, px_push (.int 0), px_istore 3], 18),
  (18, [true, true, true, true], [px_iload 3, px_aload 0, px_alen, px_push (.int 6), (px_i2 fun x y => x - y), px_if2 (fun x y => decide (y < x)) 1574, px_aload 0, px_iload 3, px_iald 0, px_push (.int 63), (px_i2 fun x y => x &&& y), px_sw [(0, 208), (1, 267), (2, 310), (3, 353), (4, 376), (5, 410), (6, 444), (7, 458), (8, 511), (9, 544), (10, 577), (11, 610), (12, 643), (13, 686), (14, 729), (15, 762), (16, 775), (17, 818), (18, 881), (19, 894), (20, 927), (21, 990), (22, 1053), (23, 1066), (24, 1110), (25, 1153), (26, 1176), (27, 1199), (28, 1232), (29, 1255), (30, 1268), (31, 1291), (32, 1314), (33, 1337), (34, 1360), (35, 1393), (36, 1416), (37, 1459), (38, 1502), (39, 1535)] 1568], 208),
  (208, [true, true, true, true], [px_aload 1, px_aload 0, px_iload 3, px_push (.int 1), (px_i2 fun x y => x + y), px_iald 0, px_aload 0, px_iload 3, px_push (.int 2), (px_i2 fun x y => x + y), px_iald 0, px_aload 0, px_iload 3, px_push (.int 3), (px_i2 fun x y => x + y), px_iald 0, px_if1 (fun x => decide (x = 0)) 231, px_push (.int 1), px_goto 232], 231),
  (231, [true, true, true, true], [px_push (.int 0)], 232),
  (232, [true, true, true, true], [px_cV X 121 4 11, px_aload 2, px_aload 0, px_iload 3, px_push (.int 1), (px_i2 fun x y => x + y), px_iald 0, px_aload 0, px_iload 3, px_push (.int 2), (px_i2 fun x y => x + y), px_iald 0, px_aload 0, px_iload 3, px_push (.int 3), (px_i2 fun x y => x + y), px_iald 0, px_if1 (fun x => decide (x = 0)) 258, px_push (.int 1), px_goto 259], 258),
  (258, [true, true, true, true], [px_push (.int 0)], 259),
  (259, [true, true, true, true], [px_cV X 169 4 12, px_if2 (fun x y => decide (x = y)) 1568, px_push (.int 0), px_retz], 267),
  (267, [true, true, true, true], [px_aload 1, px_aload 0, px_iload 3, px_push (.int 1), (px_i2 fun x y => x + y), px_iald 0, px_aload 0, px_iload 3, px_push (.int 2), (px_i2 fun x y => x + y), px_iald 0, px_aload 0, px_iload 3, px_push (.int 3), (px_i2 fun x y => x + y), px_iald 0, px_cV X 122 4 11, px_aload 2, px_aload 0, px_iload 3, px_push (.int 1), (px_i2 fun x y => x + y), px_iald 0, px_aload 0, px_iload 3, px_push (.int 2), (px_i2 fun x y => x + y), px_iald 0, px_aload 0, px_iload 3, px_push (.int 3), (px_i2 fun x y => x + y), px_iald 0, px_cV X 170 4 12, px_if2 (fun x y => decide (x = y)) 1568, px_push (.int 0), px_retz], 310),
  (310, [true, true, true, true], [px_aload 1, px_aload 0, px_iload 3, px_push (.int 1), (px_i2 fun x y => x + y), px_iald 0, px_aload 0, px_iload 3, px_push (.int 2), (px_i2 fun x y => x + y), px_iald 0, px_aload 0, px_iload 3, px_push (.int 3), (px_i2 fun x y => x + y), px_iald 0, px_cV X 123 4 11, px_aload 2, px_aload 0, px_iload 3, px_push (.int 1), (px_i2 fun x y => x + y), px_iald 0, px_aload 0, px_iload 3, px_push (.int 2), (px_i2 fun x y => x + y), px_iald 0, px_aload 0, px_iload 3, px_push (.int 3), (px_i2 fun x y => x + y), px_iald 0, px_cV X 171 4 12, px_if2 (fun x y => decide (x = y)) 1568, px_push (.int 0), px_retz], 353),
  (353, [true, true, true, true], [px_aload 1, px_aload 0, px_iload 3, px_push (.int 1), (px_i2 fun x y => x + y), px_iald 0, px_cV X 125 2 11, px_aload 2, px_aload 0, px_iload 3, px_push (.int 1), (px_i2 fun x y => x + y), px_iald 0, px_cV X 172 2 12, px_if2 (fun x y => decide (x = y)) 1568, px_push (.int 0), px_retz], 376),
  (376, [true, true, true, true], [px_aload 1, px_aload 0, px_iload 3, px_push (.int 1), (px_i2 fun x y => x + y), px_iald 0, px_aload 0, px_iload 3, px_push (.int 2), (px_i2 fun x y => x + y), px_iald 0, px_cV X 126 3 11, px_aload 2, px_aload 0, px_iload 3, px_push (.int 1), (px_i2 fun x y => x + y), px_iald 0, px_aload 0, px_iload 3, px_push (.int 2), (px_i2 fun x y => x + y), px_iald 0, px_cV X 179 3 12, px_lcmp, px_if1 (fun x => decide (x = 0)) 1568, px_push (.int 0), px_retz], 410),
  (410, [true, true, true, true], [px_aload 1, px_aload 0, px_iload 3, px_push (.int 1), (px_i2 fun x y => x + y), px_iald 0, px_aload 0, px_iload 3, px_push (.int 2), (px_i2 fun x y => x + y), px_iald 0, px_cV X 127 3 11, px_aload 2, px_aload 0, px_iload 3, px_push (.int 1), (px_i2 fun x y => x + y), px_iald 0, px_aload 0, px_iload 3, px_push (.int 2), (px_i2 fun x y => x + y), px_iald 0, px_cV X 180 3 12, px_lcmp, px_if1 (fun x => decide (x = 0)) 1568, px_push (.int 0), px_retz], 444),
  (444, [true, true, true, true], [px_aload 1, px_cV X 128 1 11, px_aload 2, px_cV X 181 1 12, px_lcmp, px_if1 (fun x => decide (x = 0)) 1568, px_push (.int 0), px_retz], 458),
  (458, [true, true, true, true], [px_aload 1, px_aload 0, px_iload 3, px_push (.int 1), (px_i2 fun x y => x + y), px_iald 0, px_aload 0, px_iload 3, px_push (.int 2), (px_i2 fun x y => x + y), px_iald 0, px_aload 0, px_iload 3, px_push (.int 3), (px_i2 fun x y => x + y), px_iald 0, px_aload 0, px_iload 3, px_push (.int 4), (px_i2 fun x y => x + y), px_iald 0, px_cV X 129 5 11, px_aload 2, px_aload 0, px_iload 3, px_push (.int 1), (px_i2 fun x y => x + y), px_iald 0, px_aload 0, px_iload 3, px_push (.int 2), (px_i2 fun x y => x + y), px_iald 0, px_aload 0, px_iload 3, px_push (.int 3), (px_i2 fun x y => x + y), px_iald 0, px_aload 0, px_iload 3, px_push (.int 4), (px_i2 fun x y => x + y), px_iald 0, px_cV X 182 5 12, px_if2 (fun x y => decide (x = y)) 1568, px_push (.int 0), px_retz], 511),
  (511, [true, true, true, true], [px_aload 1, px_aload 0, px_iload 3, px_push (.int 1), (px_i2 fun x y => x + y), px_iald 0, px_aload 0, px_iload 3, px_push (.int 2), (px_i2 fun x y => x + y), px_iald 0, px_cV X 130 3 11, px_aload 2, px_aload 0, px_iload 3, px_push (.int 1), (px_i2 fun x y => x + y), px_iald 0, px_aload 0, px_iload 3, px_push (.int 2), (px_i2 fun x y => x + y), px_iald 0, px_cV X 184 3 12, px_if2 (fun x y => decide (x = y)) 1568, px_push (.int 0), px_retz], 544),
  (544, [true, true, true, true], [px_aload 1, px_aload 0, px_iload 3, px_push (.int 1), (px_i2 fun x y => x + y), px_iald 0, px_aload 0, px_iload 3, px_push (.int 2), (px_i2 fun x y => x + y), px_iald 0, px_cV X 131 3 11, px_aload 2, px_aload 0, px_iload 3, px_push (.int 1), (px_i2 fun x y => x + y), px_iald 0, px_aload 0, px_iload 3, px_push (.int 2), (px_i2 fun x y => x + y), px_iald 0, px_cV X 186 3 12, px_if2 (fun x y => decide (x = y)) 1568, px_push (.int 0), px_retz], 577),
  (577, [true, true, true, true], [px_aload 1, px_aload 0, px_iload 3, px_push (.int 1), (px_i2 fun x y => x + y), px_iald 0, px_aload 0, px_iload 3, px_push (.int 2), (px_i2 fun x y => x + y), px_iald 0, px_cV X 132 3 11, px_aload 2, px_aload 0, px_iload 3, px_push (.int 1), (px_i2 fun x y => x + y), px_iald 0, px_aload 0, px_iload 3, px_push (.int 2), (px_i2 fun x y => x + y), px_iald 0, px_cV X 187 3 12, px_if2 (fun x y => decide (x = y)) 1568, px_push (.int 0), px_retz], 610),
  (610, [true, true, true, true], [px_aload 1, px_aload 0, px_iload 3, px_push (.int 1), (px_i2 fun x y => x + y), px_iald 0, px_aload 0, px_iload 3, px_push (.int 2), (px_i2 fun x y => x + y), px_iald 0, px_cV X 133 3 11, px_aload 2, px_aload 0, px_iload 3, px_push (.int 1), (px_i2 fun x y => x + y), px_iald 0, px_aload 0, px_iload 3, px_push (.int 2), (px_i2 fun x y => x + y), px_iald 0, px_cV X 189 3 12, px_if2 (fun x y => decide (x = y)) 1568, px_push (.int 0), px_retz], 643),
  (643, [true, true, true, true], [px_aload 1, px_aload 0, px_iload 3, px_push (.int 1), (px_i2 fun x y => x + y), px_iald 0, px_aload 0, px_iload 3, px_push (.int 2), (px_i2 fun x y => x + y), px_iald 0, px_aload 0, px_iload 3, px_push (.int 3), (px_i2 fun x y => x + y), px_iald 0, px_cV X 134 4 11, px_aload 2, px_aload 0, px_iload 3, px_push (.int 1), (px_i2 fun x y => x + y), px_iald 0, px_aload 0, px_iload 3, px_push (.int 2), (px_i2 fun x y => x + y), px_iald 0, px_aload 0, px_iload 3, px_push (.int 3), (px_i2 fun x y => x + y), px_iald 0, px_cV X 193 4 12, px_if2 (fun x y => decide (x = y)) 1568, px_push (.int 0), px_retz], 686),
  (686, [true, true, true, true], [px_aload 1, px_aload 0, px_iload 3, px_push (.int 1), (px_i2 fun x y => x + y), px_iald 0, px_aload 0, px_iload 3, px_push (.int 2), (px_i2 fun x y => x + y), px_iald 0, px_aload 0, px_iload 3, px_push (.int 3), (px_i2 fun x y => x + y), px_iald 0, px_cV X 135 4 11, px_aload 2, px_aload 0, px_iload 3, px_push (.int 1), (px_i2 fun x y => x + y), px_iald 0, px_aload 0, px_iload 3, px_push (.int 2), (px_i2 fun x y => x + y), px_iald 0, px_aload 0, px_iload 3, px_push (.int 3), (px_i2 fun x y => x + y), px_iald 0, px_cV X 192 4 12, px_if2 (fun x y => decide (x = y)) 1568, px_push (.int 0), px_retz], 729),
  (729, [true, true, true, true], [px_aload 1, px_aload 0, px_iload 3, px_push (.int 1), (px_i2 fun x y => x + y), px_iald 0, px_aload 0, px_iload 3, px_push (.int 2), (px_i2 fun x y => x + y), px_iald 0, px_cV X 138 3 11, px_aload 2, px_aload 0, px_iload 3, px_push (.int 1), (px_i2 fun x y => x + y), px_iald 0, px_aload 0, px_iload 3, px_push (.int 2), (px_i2 fun x y => x + y), px_iald 0, px_cV X 194 3 12, px_if2 (fun x y => decide (x = y)) 1568, px_push (.int 0), px_retz], 762),
  (762, [true, true, true, true], [px_aload 1, px_cV X 139 1 11, px_aload 2, px_cV X 195 1 12, px_if2 (fun x y => decide (x = y)) 1568, px_push (.int 0), px_retz], 775),
  (775, [true, true, true, true], [px_aload 1, px_aload 0, px_iload 3, px_push (.int 1), (px_i2 fun x y => x + y), px_iald 0, px_aload 0, px_iload 3, px_push (.int 2), (px_i2 fun x y => x + y), px_iald 0, px_aload 0, px_iload 3, px_push (.int 3), (px_i2 fun x y => x + y), px_iald 0, px_cV X 140 4 11, px_aload 2, px_aload 0, px_iload 3, px_push (.int 1), (px_i2 fun x y => x + y), px_iald 0, px_aload 0, px_iload 3, px_push (.int 2), (px_i2 fun x y => x + y), px_iald 0, px_aload 0, px_iload 3, px_push (.int 3), (px_i2 fun x y => x + y), px_iald 0, px_cV X 196 4 12, px_if2 (fun x y => decide (x = y)) 1568, px_push (.int 0), px_retz], 818),
  (818, [true, true, true, true], [px_aload 1, px_aload 0, px_iload 3, px_push (.int 1), (px_i2 fun x y => x + y), px_iald 0, px_aload 0, px_iload 3, px_push (.int 2), (px_i2 fun x y => x + y), px_iald 0, px_aload 0, px_iload 3, px_push (.int 3), (px_i2 fun x y => x + y), px_iald 0, px_aload 0, px_iload 3, px_push (.int 4), (px_i2 fun x y => x + y), px_iald 0, px_aload 0, px_iload 3, px_push (.int 5), (px_i2 fun x y => x + y), px_iald 0, px_cV X 141 6 11, px_aload 2, px_aload 0, px_iload 3, px_push (.int 1), (px_i2 fun x y => x + y), px_iald 0, px_aload 0, px_iload 3, px_push (.int 2), (px_i2 fun x y => x + y), px_iald 0, px_aload 0, px_iload 3, px_push (.int 3), (px_i2 fun x y => x + y), px_iald 0, px_aload 0, px_iload 3, px_push (.int 4), (px_i2 fun x y => x + y), px_iald 0, px_aload 0, px_iload 3, px_push (.int 5), (px_i2 fun x y => x + y), px_iald 0, px_cV X 204 6 12, px_if2 (fun x y => decide (x = y)) 1568, px_push (.int 0), px_retz], 881),
  (881, [true, true, true, true], [px_aload 1, px_cV X 142 1 11, px_aload 2, px_cV X 205 1 12, px_if2 (fun x y => decide (x = y)) 1568, px_push (.int 0), px_retz], 894),
  (894, [true, true, true, true], [px_aload 1, px_aload 0, px_iload 3, px_push (.int 1), (px_i2 fun x y => x + y), px_iald 0, px_aload 0, px_iload 3, px_push (.int 2), (px_i2 fun x y => x + y), px_iald 0, px_cV X 143 3 11, px_aload 2, px_aload 0, px_iload 3, px_push (.int 1), (px_i2 fun x y => x + y), px_iald 0, px_aload 0, px_iload 3, px_push (.int 2), (px_i2 fun x y => x + y), px_iald 0, px_cV X 206 3 12, px_if2 (fun x y => decide (x = y)) 1568, px_push (.int 0), px_retz], 927),
  (927, [true, true, true, true], [px_aload 1, px_aload 0, px_iload 3, px_push (.int 1), (px_i2 fun x y => x + y), px_iald 0, px_aload 0, px_iload 3, px_push (.int 2), (px_i2 fun x y => x + y), px_iald 0, px_aload 0, px_iload 3, px_push (.int 3), (px_i2 fun x y => x + y), px_iald 0, px_aload 0, px_iload 3, px_push (.int 4), (px_i2 fun x y => x + y), px_iald 0, px_aload 0, px_iload 3, px_push (.int 5), (px_i2 fun x y => x + y), px_iald 0, px_cV X 144 6 11, px_aload 2, px_aload 0, px_iload 3, px_push (.int 1), (px_i2 fun x y => x + y), px_iald 0, px_aload 0, px_iload 3, px_push (.int 2), (px_i2 fun x y => x + y), px_iald 0, px_aload 0, px_iload 3, px_push (.int 3), (px_i2 fun x y => x + y), px_iald 0, px_aload 0, px_iload 3, px_push (.int 4), (px_i2 fun x y => x + y), px_iald 0, px_aload 0, px_iload 3, px_push (.int 5), (px_i2 fun x y => x + y), px_iald 0, px_cV X 207 6 12, px_if2 (fun x y => decide (x = y)) 1568, px_push (.int 0), px_retz], 990),
  (990, [true, true, true, true], [px_aload 1, px_aload 0, px_iload 3, px_push (.int 1), (px_i2 fun x y => x + y), px_iald 0, px_aload 0, px_iload 3, px_push (.int 2), (px_i2 fun x y => x + y), px_iald 0, px_i2l, px_push (.int 32), (px_lsh fun x y => x <<< (y.toInt64 &&& 63)), px_aload 0, px_iload 3, px_push (.int 3), (px_i2 fun x y => x + y), px_iald 0, px_i2l, px_push (.long 4294967295), (px_l2 fun x y => x &&& y), (px_l2 fun x y => x ||| y), px_cV X 145 3 11, px_aload 2, px_aload 0, px_iload 3, px_push (.int 1), (px_i2 fun x y => x + y), px_iald 0, px_aload 0, px_iload 3, px_push (.int 2), (px_i2 fun x y => x + y), px_iald 0, px_i2l, px_push (.int 32), (px_lsh fun x y => x <<< (y.toInt64 &&& 63)), px_aload 0, px_iload 3, px_push (.int 3), (px_i2 fun x y => x + y), px_iald 0, px_i2l, px_push (.long 4294967295), (px_l2 fun x y => x &&& y), (px_l2 fun x y => x ||| y), px_cV X 226 3 12, px_if2 (fun x y => decide (x = y)) 1568, px_push (.int 0), px_retz], 1053),
  (1053, [true, true, true, true], [px_aload 1, px_cV X 146 1 11, px_aload 2, px_cV X 227 1 12, px_if2 (fun x y => decide (x = y)) 1568, px_push (.int 0), px_retz], 1066),
  (1066, [true, true, true, true], [px_aload 1, px_aload 0, px_iload 3, px_push (.int 1), (px_i2 fun x y => x + y), px_iald 0, px_aload 0, px_iload 3, px_push (.int 2), (px_i2 fun x y => x + y), px_iald 0, px_aload 0, px_iload 3, px_push (.int 3), (px_i2 fun x y => x + y), px_iald 0, px_cV X 147 4 11, px_aload 2, px_aload 0, px_iload 3, px_push (.int 1), (px_i2 fun x y => x + y), px_iald 0, px_aload 0, px_iload 3, px_push (.int 2), (px_i2 fun x y => x + y), px_iald 0, px_aload 0, px_iload 3, px_push (.int 3), (px_i2 fun x y => x + y), px_iald 0, px_cV X 231 4 12, px_lcmp, px_if1 (fun x => decide (x = 0)) 1568, px_push (.int 0), px_retz], 1110),
  (1110, [true, true, true, true], [px_aload 1, px_aload 0, px_iload 3, px_push (.int 1), (px_i2 fun x y => x + y), px_iald 0, px_aload 0, px_iload 3, px_push (.int 2), (px_i2 fun x y => x + y), px_iald 0, px_aload 0, px_iload 3, px_push (.int 3), (px_i2 fun x y => x + y), px_iald 0, px_cV X 148 4 11, px_aload 2, px_aload 0, px_iload 3, px_push (.int 1), (px_i2 fun x y => x + y), px_iald 0, px_aload 0, px_iload 3, px_push (.int 2), (px_i2 fun x y => x + y), px_iald 0, px_aload 0, px_iload 3, px_push (.int 3), (px_i2 fun x y => x + y), px_iald 0, px_cV X 234 4 12, px_if2 (fun x y => decide (x = y)) 1568, px_push (.int 0), px_retz], 1153),
  (1153, [true, true, true, true], [px_aload 1, px_aload 0, px_iload 3, px_push (.int 1), (px_i2 fun x y => x + y), px_iald 0, px_cV X 149 2 11, px_aload 2, px_aload 0, px_iload 3, px_push (.int 1), (px_i2 fun x y => x + y), px_iald 0, px_cV X 236 2 12, px_if2 (fun x y => decide (x = y)) 1568, px_push (.int 0), px_retz], 1176),
  (1176, [true, true, true, true], [px_aload 1, px_aload 0, px_iload 3, px_push (.int 1), (px_i2 fun x y => x + y), px_iald 0, px_cV X 150 2 11, px_aload 2, px_aload 0, px_iload 3, px_push (.int 1), (px_i2 fun x y => x + y), px_iald 0, px_cV X 237 2 12, px_if2 (fun x y => decide (x = y)) 1568, px_push (.int 0), px_retz], 1199),
  (1199, [true, true, true, true], [px_aload 1, px_aload 0, px_iload 3, px_push (.int 1), (px_i2 fun x y => x + y), px_iald 0, px_aload 0, px_iload 3, px_push (.int 2), (px_i2 fun x y => x + y), px_iald 0, px_cV X 151 3 11, px_aload 2, px_aload 0, px_iload 3, px_push (.int 1), (px_i2 fun x y => x + y), px_iald 0, px_aload 0, px_iload 3, px_push (.int 2), (px_i2 fun x y => x + y), px_iald 0, px_cV X 238 3 12, px_if2 (fun x y => decide (x = y)) 1568, px_push (.int 0), px_retz], 1232),
  (1232, [true, true, true, true], [px_aload 1, px_aload 0, px_iload 3, px_push (.int 1), (px_i2 fun x y => x + y), px_iald 0, px_cV X 152 2 11, px_aload 2, px_aload 0, px_iload 3, px_push (.int 1), (px_i2 fun x y => x + y), px_iald 0, px_cV X 239 2 12, px_if2 (fun x y => decide (x = y)) 1568, px_push (.int 0), px_retz], 1255),
  (1255, [true, true, true, true], [px_aload 1, px_cV X 153 1 11, px_aload 2, px_cV X 242 1 12, px_if2 (fun x y => decide (x = y)) 1568, px_push (.int 0), px_retz], 1268),
  (1268, [true, true, true, true], [px_aload 1, px_aload 0, px_iload 3, px_push (.int 1), (px_i2 fun x y => x + y), px_iald 0, px_cV X 154 2 11, px_aload 2, px_aload 0, px_iload 3, px_push (.int 1), (px_i2 fun x y => x + y), px_iald 0, px_cV X 243 2 12, px_if2 (fun x y => decide (x = y)) 1568, px_push (.int 0), px_retz], 1291),
  (1291, [true, true, true, true], [px_aload 1, px_aload 0, px_iload 3, px_push (.int 1), (px_i2 fun x y => x + y), px_iald 0, px_cV X 155 2 11, px_aload 2, px_aload 0, px_iload 3, px_push (.int 1), (px_i2 fun x y => x + y), px_iald 0, px_cV X 244 2 12, px_if2 (fun x y => decide (x = y)) 1568, px_push (.int 0), px_retz], 1314),
  (1314, [true, true, true, true], [px_aload 1, px_aload 0, px_iload 3, px_push (.int 1), (px_i2 fun x y => x + y), px_iald 0, px_cV X 156 2 11, px_aload 2, px_aload 0, px_iload 3, px_push (.int 1), (px_i2 fun x y => x + y), px_iald 0, px_cV X 245 2 12, px_if2 (fun x y => decide (x = y)) 1568, px_push (.int 0), px_retz], 1337),
  (1337, [true, true, true, true], [px_aload 1, px_aload 0, px_iload 3, px_push (.int 1), (px_i2 fun x y => x + y), px_iald 0, px_cV X 157 2 11, px_aload 2, px_aload 0, px_iload 3, px_push (.int 1), (px_i2 fun x y => x + y), px_iald 0, px_cV X 248 2 12, px_if2 (fun x y => decide (x = y)) 1568, px_push (.int 0), px_retz], 1360),
  (1360, [true, true, true, true], [px_aload 1, px_aload 0, px_iload 3, px_push (.int 1), (px_i2 fun x y => x + y), px_iald 0, px_aload 0, px_iload 3, px_push (.int 2), (px_i2 fun x y => x + y), px_iald 0, px_cV X 158 3 11, px_aload 2, px_aload 0, px_iload 3, px_push (.int 1), (px_i2 fun x y => x + y), px_iald 0, px_aload 0, px_iload 3, px_push (.int 2), (px_i2 fun x y => x + y), px_iald 0, px_cV X 249 3 12, px_if2 (fun x y => decide (x = y)) 1568, px_push (.int 0), px_retz], 1393),
  (1393, [true, true, true, true], [px_aload 1, px_aload 0, px_iload 3, px_push (.int 1), (px_i2 fun x y => x + y), px_iald 0, px_cV X 159 2 11, px_aload 2, px_aload 0, px_iload 3, px_push (.int 1), (px_i2 fun x y => x + y), px_iald 0, px_cV X 250 2 12, px_if2 (fun x y => decide (x = y)) 1568, px_push (.int 0), px_retz], 1416),
  (1416, [true, true, true, true], [px_aload 1, px_aload 0, px_iload 3, px_push (.int 1), (px_i2 fun x y => x + y), px_iald 0, px_aload 0, px_iload 3, px_push (.int 2), (px_i2 fun x y => x + y), px_iald 0, px_aload 0, px_iload 3, px_push (.int 3), (px_i2 fun x y => x + y), px_iald 0, px_cV X 160 4 11, px_aload 2, px_aload 0, px_iload 3, px_push (.int 1), (px_i2 fun x y => x + y), px_iald 0, px_aload 0, px_iload 3, px_push (.int 2), (px_i2 fun x y => x + y), px_iald 0, px_aload 0, px_iload 3, px_push (.int 3), (px_i2 fun x y => x + y), px_iald 0, px_cV X 252 4 12, px_if2 (fun x y => decide (x = y)) 1568, px_push (.int 0), px_retz], 1459),
  (1459, [true, true, true, true], [px_aload 1, px_aload 0, px_iload 3, px_push (.int 1), (px_i2 fun x y => x + y), px_iald 0, px_aload 0, px_iload 3, px_push (.int 2), (px_i2 fun x y => x + y), px_iald 0, px_aload 0, px_iload 3, px_push (.int 3), (px_i2 fun x y => x + y), px_iald 0, px_cV X 161 4 11, px_aload 2, px_aload 0, px_iload 3, px_push (.int 1), (px_i2 fun x y => x + y), px_iald 0, px_aload 0, px_iload 3, px_push (.int 2), (px_i2 fun x y => x + y), px_iald 0, px_aload 0, px_iload 3, px_push (.int 3), (px_i2 fun x y => x + y), px_iald 0, px_cV X 253 4 12, px_if2 (fun x y => decide (x = y)) 1568, px_push (.int 0), px_retz], 1502),
  (1502, [true, true, true, true], [px_aload 1, px_aload 0, px_iload 3, px_push (.int 1), (px_i2 fun x y => x + y), px_iald 0, px_aload 0, px_iload 3, px_push (.int 2), (px_i2 fun x y => x + y), px_iald 0, px_cV X 162 3 11, px_aload 2, px_aload 0, px_iload 3, px_push (.int 1), (px_i2 fun x y => x + y), px_iald 0, px_aload 0, px_iload 3, px_push (.int 2), (px_i2 fun x y => x + y), px_iald 0, px_cV X 254 3 12, px_if2 (fun x y => decide (x = y)) 1568, px_push (.int 0), px_retz], 1535),
  (1535, [true, true, true, true], [px_aload 1, px_aload 0, px_iload 3, px_push (.int 1), (px_i2 fun x y => x + y), px_iald 0, px_aload 0, px_iload 3, px_push (.int 2), (px_i2 fun x y => x + y), px_iald 0, px_cV X 163 3 11, px_aload 2, px_aload 0, px_iload 3, px_push (.int 1), (px_i2 fun x y => x + y), px_iald 0, px_aload 0, px_iload 3, px_push (.int 2), (px_i2 fun x y => x + y), px_iald 0, px_cV X 255 3 12, px_if2 (fun x y => decide (x = y)) 1568, px_push (.int 0), px_retz], 1568),
  (1568, [true, true, true, true], [px_iinc 3 6, px_goto 18], 1574),
  (1574, [false, false, false, false], [px_push (.int 1), px_retz], 1576)]
set_option maxRecDepth 100000 in
set_option maxHeartbeats 8000000 in
theorem sL_law (d : Nat) (X : px_X) : px_MS d X YL_law (kL_law X) :=
  (ms_cons
  (sb_cons (pc2 := 3) (sx_new (show decode cL_law 0 = .ok (.new 7, 3) by decide +kernel) rfl iX11 tyX11_ok wd_953 wd_954 wd_487 (px_dflt (by decide +kernel)) rfl (fun _ => rfl)) rfl
    (sb_cons (pc2 := 4) (sx_dup (show decode cL_law 3 = .ok (.dup, 1) by decide +kernel)) rfl
    (sb_cons (pc2 := 7) (sx_cI (Y' := YX11_init) rfl (show decode cL_law 4 = .ok (.invokespecial 9, 3) by decide +kernel) wd_957 wd_956 wd_487 rfl rfl wd_955 ⟨by decide, by decide, by decide +kernel⟩ (by decide)) rfl
    (sb_cons (pc2 := 8) (sx_astore_n (show decode cL_law 7 = .ok (.astore_n 1, 1) by decide +kernel) rfl) rfl
    (sb_cons (pc2 := 11) (sx_new (show decode cL_law 8 = .ok (.new 10, 3) by decide +kernel) rfl iX12 tyX12_ok wd_958 wd_959 wd_719 (px_dflt (by decide +kernel)) rfl (fun _ => rfl)) rfl
    (sb_cons (pc2 := 12) (sx_dup (show decode cL_law 11 = .ok (.dup, 1) by decide +kernel)) rfl
    (sb_cons (pc2 := 15) (sx_cI (Y' := YX12_init) rfl (show decode cL_law 12 = .ok (.invokespecial 12, 3) by decide +kernel) wd_962 wd_961 wd_719 rfl rfl wd_960 ⟨by decide, by decide, by decide +kernel⟩ (by decide)) rfl
    (sb_cons (pc2 := 16) (sx_astore_n (show decode cL_law 15 = .ok (.astore_n 2, 1) by decide +kernel) rfl) rfl
    (sb_cons (pc2 := 17) (sx_iconst (show decode cL_law 16 = .ok (.iconst 0, 1) by decide +kernel) (by decide)) rfl
    (sb_cons (pc2 := 18) (sx_istore_n (show decode cL_law 17 = .ok (.istore_n 3, 1) by decide +kernel) rfl) rfl sb_nil))))))))))
  (ms_cons
  (sb_cons (pc2 := 19) (sx_iload_n (show decode cL_law 18 = .ok (.iload_n 3, 1) by decide +kernel) rfl) rfl
    (sb_cons (pc2 := 20) (sx_aload_n (show decode cL_law 19 = .ok (.aload_n 0, 1) by decide +kernel) rfl) rfl
    (sb_cons (pc2 := 21) (sx_alen (show decode cL_law 20 = .ok (.arraylength, 1) by decide +kernel)) rfl
    (sb_cons (pc2 := 23) (sx_bipush (show decode cL_law 21 = .ok (.bipush 6, 2) by decide +kernel) (by decide)) rfl
    (sb_cons (pc2 := 24) (sx_isub (show decode cL_law 23 = .ok (.isub, 1) by decide +kernel)) rfl
    (sb_cons (pc2 := 27) (sx_icmp_gt (show decode cL_law 24 = .ok (.if_icmp .gt 1550, 3) by decide +kernel) (by decide)) rfl
    (sb_cons (pc2 := 28) (sx_aload_n (show decode cL_law 27 = .ok (.aload_n 0, 1) by decide +kernel) rfl) rfl
    (sb_cons (pc2 := 29) (sx_iload_n (show decode cL_law 28 = .ok (.iload_n 3, 1) by decide +kernel) rfl) rfl
    (sb_cons (pc2 := 30) (sx_iald (show decode cL_law 29 = .ok (.iaload, 1) by decide +kernel)) rfl
    (sb_cons (pc2 := 32) (sx_bipush (show decode cL_law 30 = .ok (.bipush 63, 2) by decide +kernel) (by decide)) rfl
    (sb_cons (pc2 := 33) (sx_iand (show decode cL_law 32 = .ok (.iand, 1) by decide +kernel)) rfl
    (sb_cons (pc2 := 208) (sx_tsw (show decode cL_law 33 = .ok (.tableswitch 1535 0 39 #[175, 234, 277, 320, 343, 377, 411, 425, 478, 511, 544, 577, 610, 653, 696, 729, 742, 785, 848, 861, 894, 957, 1020, 1033, 1077, 1120, 1143, 1166, 1199, 1222, 1235, 1258, 1281, 1304, 1327, 1360, 1383, 1426, 1469, 1502], 175) by decide +kernel) (by decide) (by decide +kernel) (by decide +kernel)) rfl sb_nil))))))))))))
  (ms_cons
  (sb_cons (pc2 := 209) (sx_aload_n (show decode cL_law 208 = .ok (.aload_n 1, 1) by decide +kernel) rfl) rfl
    (sb_cons (pc2 := 210) (sx_aload_n (show decode cL_law 209 = .ok (.aload_n 0, 1) by decide +kernel) rfl) rfl
    (sb_cons (pc2 := 211) (sx_iload_n (show decode cL_law 210 = .ok (.iload_n 3, 1) by decide +kernel) rfl) rfl
    (sb_cons (pc2 := 212) (sx_iconst (show decode cL_law 211 = .ok (.iconst 1, 1) by decide +kernel) (by decide)) rfl
    (sb_cons (pc2 := 213) (sx_iadd (show decode cL_law 212 = .ok (.iadd, 1) by decide +kernel)) rfl
    (sb_cons (pc2 := 214) (sx_iald (show decode cL_law 213 = .ok (.iaload, 1) by decide +kernel)) rfl
    (sb_cons (pc2 := 215) (sx_aload_n (show decode cL_law 214 = .ok (.aload_n 0, 1) by decide +kernel) rfl) rfl
    (sb_cons (pc2 := 216) (sx_iload_n (show decode cL_law 215 = .ok (.iload_n 3, 1) by decide +kernel) rfl) rfl
    (sb_cons (pc2 := 217) (sx_iconst (show decode cL_law 216 = .ok (.iconst 2, 1) by decide +kernel) (by decide)) rfl
    (sb_cons (pc2 := 218) (sx_iadd (show decode cL_law 217 = .ok (.iadd, 1) by decide +kernel)) rfl
    (sb_cons (pc2 := 219) (sx_iald (show decode cL_law 218 = .ok (.iaload, 1) by decide +kernel)) rfl
    (sb_cons (pc2 := 220) (sx_aload_n (show decode cL_law 219 = .ok (.aload_n 0, 1) by decide +kernel) rfl) rfl
    (sb_cons (pc2 := 221) (sx_iload_n (show decode cL_law 220 = .ok (.iload_n 3, 1) by decide +kernel) rfl) rfl
    (sb_cons (pc2 := 222) (sx_iconst (show decode cL_law 221 = .ok (.iconst 3, 1) by decide +kernel) (by decide)) rfl
    (sb_cons (pc2 := 223) (sx_iadd (show decode cL_law 222 = .ok (.iadd, 1) by decide +kernel)) rfl
    (sb_cons (pc2 := 224) (sx_iald (show decode cL_law 223 = .ok (.iaload, 1) by decide +kernel)) rfl
    (sb_cons (pc2 := 227) (sx_if_eq (show decode cL_law 224 = .ok (.ifCond .eq 7, 3) by decide +kernel) (by decide)) rfl
    (sb_cons (pc2 := 228) (sx_iconst (show decode cL_law 227 = .ok (.iconst 1, 1) by decide +kernel) (by decide)) rfl
    (sb_cons (pc2 := 231) (px_snd_goto (show decode cL_law 228 = .ok (.goto 4, 3) by decide +kernel) (by decide)) rfl sb_nil)))))))))))))))))))
  (ms_cons
  (sb_cons (pc2 := 232) (sx_iconst (show decode cL_law 231 = .ok (.iconst 0, 1) by decide +kernel) (by decide)) rfl sb_nil)
  (ms_cons
  (sb_cons (pc2 := 235) (sx_cV (Y' := YX11_mark) (q := (RX11, TX11, 8)) rfl (show decode cL_law 232 = .ok (.invokevirtual 13, 3) by decide +kernel) rfl rfl (px_w4 wd_964 wd_965 wd_966 wd_487) wd_963 ⟨by decide, by decide, by decide +kernel⟩ (by decide)) rfl
    (sb_cons (pc2 := 236) (sx_aload_n (show decode cL_law 235 = .ok (.aload_n 2, 1) by decide +kernel) rfl) rfl
    (sb_cons (pc2 := 237) (sx_aload_n (show decode cL_law 236 = .ok (.aload_n 0, 1) by decide +kernel) rfl) rfl
    (sb_cons (pc2 := 238) (sx_iload_n (show decode cL_law 237 = .ok (.iload_n 3, 1) by decide +kernel) rfl) rfl
    (sb_cons (pc2 := 239) (sx_iconst (show decode cL_law 238 = .ok (.iconst 1, 1) by decide +kernel) (by decide)) rfl
    (sb_cons (pc2 := 240) (sx_iadd (show decode cL_law 239 = .ok (.iadd, 1) by decide +kernel)) rfl
    (sb_cons (pc2 := 241) (sx_iald (show decode cL_law 240 = .ok (.iaload, 1) by decide +kernel)) rfl
    (sb_cons (pc2 := 242) (sx_aload_n (show decode cL_law 241 = .ok (.aload_n 0, 1) by decide +kernel) rfl) rfl
    (sb_cons (pc2 := 243) (sx_iload_n (show decode cL_law 242 = .ok (.iload_n 3, 1) by decide +kernel) rfl) rfl
    (sb_cons (pc2 := 244) (sx_iconst (show decode cL_law 243 = .ok (.iconst 2, 1) by decide +kernel) (by decide)) rfl
    (sb_cons (pc2 := 245) (sx_iadd (show decode cL_law 244 = .ok (.iadd, 1) by decide +kernel)) rfl
    (sb_cons (pc2 := 246) (sx_iald (show decode cL_law 245 = .ok (.iaload, 1) by decide +kernel)) rfl
    (sb_cons (pc2 := 247) (sx_aload_n (show decode cL_law 246 = .ok (.aload_n 0, 1) by decide +kernel) rfl) rfl
    (sb_cons (pc2 := 248) (sx_iload_n (show decode cL_law 247 = .ok (.iload_n 3, 1) by decide +kernel) rfl) rfl
    (sb_cons (pc2 := 249) (sx_iconst (show decode cL_law 248 = .ok (.iconst 3, 1) by decide +kernel) (by decide)) rfl
    (sb_cons (pc2 := 250) (sx_iadd (show decode cL_law 249 = .ok (.iadd, 1) by decide +kernel)) rfl
    (sb_cons (pc2 := 251) (sx_iald (show decode cL_law 250 = .ok (.iaload, 1) by decide +kernel)) rfl
    (sb_cons (pc2 := 254) (sx_if_eq (show decode cL_law 251 = .ok (.ifCond .eq 7, 3) by decide +kernel) (by decide)) rfl
    (sb_cons (pc2 := 255) (sx_iconst (show decode cL_law 254 = .ok (.iconst 1, 1) by decide +kernel) (by decide)) rfl
    (sb_cons (pc2 := 258) (px_snd_goto (show decode cL_law 255 = .ok (.goto 4, 3) by decide +kernel) (by decide)) rfl sb_nil))))))))))))))))))))
  (ms_cons
  (sb_cons (pc2 := 259) (sx_iconst (show decode cL_law 258 = .ok (.iconst 0, 1) by decide +kernel) (by decide)) rfl sb_nil)
  (ms_cons
  (sb_cons (pc2 := 262) (sx_cV (Y' := YX12_mark) (q := (RX12, TX12, 69)) rfl (show decode cL_law 259 = .ok (.invokevirtual 17, 3) by decide +kernel) rfl rfl (px_w4 wd_968 wd_969 wd_970 wd_719) wd_967 ⟨by decide, by decide, by decide +kernel⟩ (by decide)) rfl
    (sb_cons (pc2 := 265) (sx_icmp_eq (show decode cL_law 262 = .ok (.if_icmp .eq 1306, 3) by decide +kernel) (by decide)) rfl
    (sb_cons (pc2 := 266) (sx_iconst (show decode cL_law 265 = .ok (.iconst 0, 1) by decide +kernel) (by decide)) rfl
    (sb_cons (pc2 := 267) (sx_retz (show decode cL_law 266 = .ok (.ireturn, 1) by decide +kernel) rfl) rfl sb_nil))))
  (ms_cons
  (sb_cons (pc2 := 268) (sx_aload_n (show decode cL_law 267 = .ok (.aload_n 1, 1) by decide +kernel) rfl) rfl
    (sb_cons (pc2 := 269) (sx_aload_n (show decode cL_law 268 = .ok (.aload_n 0, 1) by decide +kernel) rfl) rfl
    (sb_cons (pc2 := 270) (sx_iload_n (show decode cL_law 269 = .ok (.iload_n 3, 1) by decide +kernel) rfl) rfl
    (sb_cons (pc2 := 271) (sx_iconst (show decode cL_law 270 = .ok (.iconst 1, 1) by decide +kernel) (by decide)) rfl
    (sb_cons (pc2 := 272) (sx_iadd (show decode cL_law 271 = .ok (.iadd, 1) by decide +kernel)) rfl
    (sb_cons (pc2 := 273) (sx_iald (show decode cL_law 272 = .ok (.iaload, 1) by decide +kernel)) rfl
    (sb_cons (pc2 := 274) (sx_aload_n (show decode cL_law 273 = .ok (.aload_n 0, 1) by decide +kernel) rfl) rfl
    (sb_cons (pc2 := 275) (sx_iload_n (show decode cL_law 274 = .ok (.iload_n 3, 1) by decide +kernel) rfl) rfl
    (sb_cons (pc2 := 276) (sx_iconst (show decode cL_law 275 = .ok (.iconst 2, 1) by decide +kernel) (by decide)) rfl
    (sb_cons (pc2 := 277) (sx_iadd (show decode cL_law 276 = .ok (.iadd, 1) by decide +kernel)) rfl
    (sb_cons (pc2 := 278) (sx_iald (show decode cL_law 277 = .ok (.iaload, 1) by decide +kernel)) rfl
    (sb_cons (pc2 := 279) (sx_aload_n (show decode cL_law 278 = .ok (.aload_n 0, 1) by decide +kernel) rfl) rfl
    (sb_cons (pc2 := 280) (sx_iload_n (show decode cL_law 279 = .ok (.iload_n 3, 1) by decide +kernel) rfl) rfl
    (sb_cons (pc2 := 281) (sx_iconst (show decode cL_law 280 = .ok (.iconst 3, 1) by decide +kernel) (by decide)) rfl
    (sb_cons (pc2 := 282) (sx_iadd (show decode cL_law 281 = .ok (.iadd, 1) by decide +kernel)) rfl
    (sb_cons (pc2 := 283) (sx_iald (show decode cL_law 282 = .ok (.iaload, 1) by decide +kernel)) rfl
    (sb_cons (pc2 := 286) (sx_cV (Y' := YX11_tape) (q := (RX11, TX11, 8)) rfl (show decode cL_law 283 = .ok (.invokevirtual 18, 3) by decide +kernel) rfl rfl (px_w4 wd_972 wd_973 wd_974 wd_487) wd_971 ⟨by decide, by decide, by decide +kernel⟩ (by decide)) rfl
    (sb_cons (pc2 := 287) (sx_aload_n (show decode cL_law 286 = .ok (.aload_n 2, 1) by decide +kernel) rfl) rfl
    (sb_cons (pc2 := 288) (sx_aload_n (show decode cL_law 287 = .ok (.aload_n 0, 1) by decide +kernel) rfl) rfl
    (sb_cons (pc2 := 289) (sx_iload_n (show decode cL_law 288 = .ok (.iload_n 3, 1) by decide +kernel) rfl) rfl
    (sb_cons (pc2 := 290) (sx_iconst (show decode cL_law 289 = .ok (.iconst 1, 1) by decide +kernel) (by decide)) rfl
    (sb_cons (pc2 := 291) (sx_iadd (show decode cL_law 290 = .ok (.iadd, 1) by decide +kernel)) rfl
    (sb_cons (pc2 := 292) (sx_iald (show decode cL_law 291 = .ok (.iaload, 1) by decide +kernel)) rfl
    (sb_cons (pc2 := 293) (sx_aload_n (show decode cL_law 292 = .ok (.aload_n 0, 1) by decide +kernel) rfl) rfl
    (sb_cons (pc2 := 294) (sx_iload_n (show decode cL_law 293 = .ok (.iload_n 3, 1) by decide +kernel) rfl) rfl
    (sb_cons (pc2 := 295) (sx_iconst (show decode cL_law 294 = .ok (.iconst 2, 1) by decide +kernel) (by decide)) rfl
    (sb_cons (pc2 := 296) (sx_iadd (show decode cL_law 295 = .ok (.iadd, 1) by decide +kernel)) rfl
    (sb_cons (pc2 := 297) (sx_iald (show decode cL_law 296 = .ok (.iaload, 1) by decide +kernel)) rfl
    (sb_cons (pc2 := 298) (sx_aload_n (show decode cL_law 297 = .ok (.aload_n 0, 1) by decide +kernel) rfl) rfl
    (sb_cons (pc2 := 299) (sx_iload_n (show decode cL_law 298 = .ok (.iload_n 3, 1) by decide +kernel) rfl) rfl
    (sb_cons (pc2 := 300) (sx_iconst (show decode cL_law 299 = .ok (.iconst 3, 1) by decide +kernel) (by decide)) rfl
    (sb_cons (pc2 := 301) (sx_iadd (show decode cL_law 300 = .ok (.iadd, 1) by decide +kernel)) rfl
    (sb_cons (pc2 := 302) (sx_iald (show decode cL_law 301 = .ok (.iaload, 1) by decide +kernel)) rfl
    (sb_cons (pc2 := 305) (sx_cV (Y' := YX12_tape) (q := (RX12, TX12, 69)) rfl (show decode cL_law 302 = .ok (.invokevirtual 22, 3) by decide +kernel) rfl rfl (px_w4 wd_975 wd_732 wd_733 wd_719) wd_730 ⟨by decide, by decide, by decide +kernel⟩ (by decide)) rfl
    (sb_cons (pc2 := 308) (sx_icmp_eq (show decode cL_law 305 = .ok (.if_icmp .eq 1263, 3) by decide +kernel) (by decide)) rfl
    (sb_cons (pc2 := 309) (sx_iconst (show decode cL_law 308 = .ok (.iconst 0, 1) by decide +kernel) (by decide)) rfl
    (sb_cons (pc2 := 310) (sx_retz (show decode cL_law 309 = .ok (.ireturn, 1) by decide +kernel) rfl) rfl sb_nil)))))))))))))))))))))))))))))))))))))
  (ms_cons
  (sb_cons (pc2 := 311) (sx_aload_n (show decode cL_law 310 = .ok (.aload_n 1, 1) by decide +kernel) rfl) rfl
    (sb_cons (pc2 := 312) (sx_aload_n (show decode cL_law 311 = .ok (.aload_n 0, 1) by decide +kernel) rfl) rfl
    (sb_cons (pc2 := 313) (sx_iload_n (show decode cL_law 312 = .ok (.iload_n 3, 1) by decide +kernel) rfl) rfl
    (sb_cons (pc2 := 314) (sx_iconst (show decode cL_law 313 = .ok (.iconst 1, 1) by decide +kernel) (by decide)) rfl
    (sb_cons (pc2 := 315) (sx_iadd (show decode cL_law 314 = .ok (.iadd, 1) by decide +kernel)) rfl
    (sb_cons (pc2 := 316) (sx_iald (show decode cL_law 315 = .ok (.iaload, 1) by decide +kernel)) rfl
    (sb_cons (pc2 := 317) (sx_aload_n (show decode cL_law 316 = .ok (.aload_n 0, 1) by decide +kernel) rfl) rfl
    (sb_cons (pc2 := 318) (sx_iload_n (show decode cL_law 317 = .ok (.iload_n 3, 1) by decide +kernel) rfl) rfl
    (sb_cons (pc2 := 319) (sx_iconst (show decode cL_law 318 = .ok (.iconst 2, 1) by decide +kernel) (by decide)) rfl
    (sb_cons (pc2 := 320) (sx_iadd (show decode cL_law 319 = .ok (.iadd, 1) by decide +kernel)) rfl
    (sb_cons (pc2 := 321) (sx_iald (show decode cL_law 320 = .ok (.iaload, 1) by decide +kernel)) rfl
    (sb_cons (pc2 := 322) (sx_aload_n (show decode cL_law 321 = .ok (.aload_n 0, 1) by decide +kernel) rfl) rfl
    (sb_cons (pc2 := 323) (sx_iload_n (show decode cL_law 322 = .ok (.iload_n 3, 1) by decide +kernel) rfl) rfl
    (sb_cons (pc2 := 324) (sx_iconst (show decode cL_law 323 = .ok (.iconst 3, 1) by decide +kernel) (by decide)) rfl
    (sb_cons (pc2 := 325) (sx_iadd (show decode cL_law 324 = .ok (.iadd, 1) by decide +kernel)) rfl
    (sb_cons (pc2 := 326) (sx_iald (show decode cL_law 325 = .ok (.iaload, 1) by decide +kernel)) rfl
    (sb_cons (pc2 := 329) (sx_cV (Y' := YX11_tapes) (q := (RX11, TX11, 8)) rfl (show decode cL_law 326 = .ok (.invokevirtual 23, 3) by decide +kernel) rfl rfl (px_w4 wd_977 wd_978 wd_979 wd_487) wd_976 ⟨by decide, by decide, by decide +kernel⟩ (by decide)) rfl
    (sb_cons (pc2 := 330) (sx_aload_n (show decode cL_law 329 = .ok (.aload_n 2, 1) by decide +kernel) rfl) rfl
    (sb_cons (pc2 := 331) (sx_aload_n (show decode cL_law 330 = .ok (.aload_n 0, 1) by decide +kernel) rfl) rfl
    (sb_cons (pc2 := 332) (sx_iload_n (show decode cL_law 331 = .ok (.iload_n 3, 1) by decide +kernel) rfl) rfl
    (sb_cons (pc2 := 333) (sx_iconst (show decode cL_law 332 = .ok (.iconst 1, 1) by decide +kernel) (by decide)) rfl
    (sb_cons (pc2 := 334) (sx_iadd (show decode cL_law 333 = .ok (.iadd, 1) by decide +kernel)) rfl
    (sb_cons (pc2 := 335) (sx_iald (show decode cL_law 334 = .ok (.iaload, 1) by decide +kernel)) rfl
    (sb_cons (pc2 := 336) (sx_aload_n (show decode cL_law 335 = .ok (.aload_n 0, 1) by decide +kernel) rfl) rfl
    (sb_cons (pc2 := 337) (sx_iload_n (show decode cL_law 336 = .ok (.iload_n 3, 1) by decide +kernel) rfl) rfl
    (sb_cons (pc2 := 338) (sx_iconst (show decode cL_law 337 = .ok (.iconst 2, 1) by decide +kernel) (by decide)) rfl
    (sb_cons (pc2 := 339) (sx_iadd (show decode cL_law 338 = .ok (.iadd, 1) by decide +kernel)) rfl
    (sb_cons (pc2 := 340) (sx_iald (show decode cL_law 339 = .ok (.iaload, 1) by decide +kernel)) rfl
    (sb_cons (pc2 := 341) (sx_aload_n (show decode cL_law 340 = .ok (.aload_n 0, 1) by decide +kernel) rfl) rfl
    (sb_cons (pc2 := 342) (sx_iload_n (show decode cL_law 341 = .ok (.iload_n 3, 1) by decide +kernel) rfl) rfl
    (sb_cons (pc2 := 343) (sx_iconst (show decode cL_law 342 = .ok (.iconst 3, 1) by decide +kernel) (by decide)) rfl
    (sb_cons (pc2 := 344) (sx_iadd (show decode cL_law 343 = .ok (.iadd, 1) by decide +kernel)) rfl
    (sb_cons (pc2 := 345) (sx_iald (show decode cL_law 344 = .ok (.iaload, 1) by decide +kernel)) rfl
    (sb_cons (pc2 := 348) (sx_cV (Y' := YX12_tapes) (q := (RX12, TX12, 69)) rfl (show decode cL_law 345 = .ok (.invokevirtual 26, 3) by decide +kernel) rfl rfl (px_w4 wd_981 wd_982 wd_983 wd_719) wd_980 ⟨by decide, by decide, by decide +kernel⟩ (by decide)) rfl
    (sb_cons (pc2 := 351) (sx_icmp_eq (show decode cL_law 348 = .ok (.if_icmp .eq 1220, 3) by decide +kernel) (by decide)) rfl
    (sb_cons (pc2 := 352) (sx_iconst (show decode cL_law 351 = .ok (.iconst 0, 1) by decide +kernel) (by decide)) rfl
    (sb_cons (pc2 := 353) (sx_retz (show decode cL_law 352 = .ok (.ireturn, 1) by decide +kernel) rfl) rfl sb_nil)))))))))))))))))))))))))))))))))))))
  (ms_cons
  (sb_cons (pc2 := 354) (sx_aload_n (show decode cL_law 353 = .ok (.aload_n 1, 1) by decide +kernel) rfl) rfl
    (sb_cons (pc2 := 355) (sx_aload_n (show decode cL_law 354 = .ok (.aload_n 0, 1) by decide +kernel) rfl) rfl
    (sb_cons (pc2 := 356) (sx_iload_n (show decode cL_law 355 = .ok (.iload_n 3, 1) by decide +kernel) rfl) rfl
    (sb_cons (pc2 := 357) (sx_iconst (show decode cL_law 356 = .ok (.iconst 1, 1) by decide +kernel) (by decide)) rfl
    (sb_cons (pc2 := 358) (sx_iadd (show decode cL_law 357 = .ok (.iadd, 1) by decide +kernel)) rfl
    (sb_cons (pc2 := 359) (sx_iald (show decode cL_law 358 = .ok (.iaload, 1) by decide +kernel)) rfl
    (sb_cons (pc2 := 362) (sx_cV (Y' := YX11_bar) (q := (RX11, TX11, 8)) rfl (show decode cL_law 359 = .ok (.invokevirtual 27, 3) by decide +kernel) rfl rfl (px_w4 wd_985 wd_986 wd_987 wd_487) wd_984 ⟨by decide, by decide, by decide +kernel⟩ (by decide)) rfl
    (sb_cons (pc2 := 363) (sx_aload_n (show decode cL_law 362 = .ok (.aload_n 2, 1) by decide +kernel) rfl) rfl
    (sb_cons (pc2 := 364) (sx_aload_n (show decode cL_law 363 = .ok (.aload_n 0, 1) by decide +kernel) rfl) rfl
    (sb_cons (pc2 := 365) (sx_iload_n (show decode cL_law 364 = .ok (.iload_n 3, 1) by decide +kernel) rfl) rfl
    (sb_cons (pc2 := 366) (sx_iconst (show decode cL_law 365 = .ok (.iconst 1, 1) by decide +kernel) (by decide)) rfl
    (sb_cons (pc2 := 367) (sx_iadd (show decode cL_law 366 = .ok (.iadd, 1) by decide +kernel)) rfl
    (sb_cons (pc2 := 368) (sx_iald (show decode cL_law 367 = .ok (.iaload, 1) by decide +kernel)) rfl
    (sb_cons (pc2 := 371) (sx_cV (Y' := YX12_bar) (q := (RX12, TX12, 69)) rfl (show decode cL_law 368 = .ok (.invokevirtual 31, 3) by decide +kernel) rfl rfl (px_w4 wd_989 wd_990 wd_991 wd_719) wd_988 ⟨by decide, by decide, by decide +kernel⟩ (by decide)) rfl
    (sb_cons (pc2 := 374) (sx_icmp_eq (show decode cL_law 371 = .ok (.if_icmp .eq 1197, 3) by decide +kernel) (by decide)) rfl
    (sb_cons (pc2 := 375) (sx_iconst (show decode cL_law 374 = .ok (.iconst 0, 1) by decide +kernel) (by decide)) rfl
    (sb_cons (pc2 := 376) (sx_retz (show decode cL_law 375 = .ok (.ireturn, 1) by decide +kernel) rfl) rfl sb_nil)))))))))))))))))
  (ms_cons
  (sb_cons (pc2 := 377) (sx_aload_n (show decode cL_law 376 = .ok (.aload_n 1, 1) by decide +kernel) rfl) rfl
    (sb_cons (pc2 := 378) (sx_aload_n (show decode cL_law 377 = .ok (.aload_n 0, 1) by decide +kernel) rfl) rfl
    (sb_cons (pc2 := 379) (sx_iload_n (show decode cL_law 378 = .ok (.iload_n 3, 1) by decide +kernel) rfl) rfl
    (sb_cons (pc2 := 380) (sx_iconst (show decode cL_law 379 = .ok (.iconst 1, 1) by decide +kernel) (by decide)) rfl
    (sb_cons (pc2 := 381) (sx_iadd (show decode cL_law 380 = .ok (.iadd, 1) by decide +kernel)) rfl
    (sb_cons (pc2 := 382) (sx_iald (show decode cL_law 381 = .ok (.iaload, 1) by decide +kernel)) rfl
    (sb_cons (pc2 := 383) (sx_aload_n (show decode cL_law 382 = .ok (.aload_n 0, 1) by decide +kernel) rfl) rfl
    (sb_cons (pc2 := 384) (sx_iload_n (show decode cL_law 383 = .ok (.iload_n 3, 1) by decide +kernel) rfl) rfl
    (sb_cons (pc2 := 385) (sx_iconst (show decode cL_law 384 = .ok (.iconst 2, 1) by decide +kernel) (by decide)) rfl
    (sb_cons (pc2 := 386) (sx_iadd (show decode cL_law 385 = .ok (.iadd, 1) by decide +kernel)) rfl
    (sb_cons (pc2 := 387) (sx_iald (show decode cL_law 386 = .ok (.iaload, 1) by decide +kernel)) rfl
    (sb_cons (pc2 := 390) (sx_cV (Y' := YX11_fit) (q := (RX11, TX11, 8)) rfl (show decode cL_law 387 = .ok (.invokevirtual 32, 3) by decide +kernel) rfl rfl (px_w4 wd_993 wd_994 wd_995 wd_487) wd_992 ⟨by decide, by decide, by decide +kernel⟩ (by decide)) rfl
    (sb_cons (pc2 := 391) (sx_aload_n (show decode cL_law 390 = .ok (.aload_n 2, 1) by decide +kernel) rfl) rfl
    (sb_cons (pc2 := 392) (sx_aload_n (show decode cL_law 391 = .ok (.aload_n 0, 1) by decide +kernel) rfl) rfl
    (sb_cons (pc2 := 393) (sx_iload_n (show decode cL_law 392 = .ok (.iload_n 3, 1) by decide +kernel) rfl) rfl
    (sb_cons (pc2 := 394) (sx_iconst (show decode cL_law 393 = .ok (.iconst 1, 1) by decide +kernel) (by decide)) rfl
    (sb_cons (pc2 := 395) (sx_iadd (show decode cL_law 394 = .ok (.iadd, 1) by decide +kernel)) rfl
    (sb_cons (pc2 := 396) (sx_iald (show decode cL_law 395 = .ok (.iaload, 1) by decide +kernel)) rfl
    (sb_cons (pc2 := 397) (sx_aload_n (show decode cL_law 396 = .ok (.aload_n 0, 1) by decide +kernel) rfl) rfl
    (sb_cons (pc2 := 398) (sx_iload_n (show decode cL_law 397 = .ok (.iload_n 3, 1) by decide +kernel) rfl) rfl
    (sb_cons (pc2 := 399) (sx_iconst (show decode cL_law 398 = .ok (.iconst 2, 1) by decide +kernel) (by decide)) rfl
    (sb_cons (pc2 := 400) (sx_iadd (show decode cL_law 399 = .ok (.iadd, 1) by decide +kernel)) rfl
    (sb_cons (pc2 := 401) (sx_iald (show decode cL_law 400 = .ok (.iaload, 1) by decide +kernel)) rfl
    (sb_cons (pc2 := 404) (sx_cV (Y' := YX12_fit) (q := (RX12, TX12, 69)) rfl (show decode cL_law 401 = .ok (.invokevirtual 36, 3) by decide +kernel) rfl rfl (px_w4 wd_997 wd_998 wd_999 wd_719) wd_996 ⟨by decide, by decide, by decide +kernel⟩ (by decide)) rfl
    (sb_cons (pc2 := 405) (sx_lcmp (show decode cL_law 404 = .ok (.lcmp, 1) by decide +kernel)) rfl
    (sb_cons (pc2 := 408) (sx_if_eq (show decode cL_law 405 = .ok (.ifCond .eq 1163, 3) by decide +kernel) (by decide)) rfl
    (sb_cons (pc2 := 409) (sx_iconst (show decode cL_law 408 = .ok (.iconst 0, 1) by decide +kernel) (by decide)) rfl
    (sb_cons (pc2 := 410) (sx_retz (show decode cL_law 409 = .ok (.ireturn, 1) by decide +kernel) rfl) rfl sb_nil))))))))))))))))))))))))))))
  (ms_cons
  (sb_cons (pc2 := 411) (sx_aload_n (show decode cL_law 410 = .ok (.aload_n 1, 1) by decide +kernel) rfl) rfl
    (sb_cons (pc2 := 412) (sx_aload_n (show decode cL_law 411 = .ok (.aload_n 0, 1) by decide +kernel) rfl) rfl
    (sb_cons (pc2 := 413) (sx_iload_n (show decode cL_law 412 = .ok (.iload_n 3, 1) by decide +kernel) rfl) rfl
    (sb_cons (pc2 := 414) (sx_iconst (show decode cL_law 413 = .ok (.iconst 1, 1) by decide +kernel) (by decide)) rfl
    (sb_cons (pc2 := 415) (sx_iadd (show decode cL_law 414 = .ok (.iadd, 1) by decide +kernel)) rfl
    (sb_cons (pc2 := 416) (sx_iald (show decode cL_law 415 = .ok (.iaload, 1) by decide +kernel)) rfl
    (sb_cons (pc2 := 417) (sx_aload_n (show decode cL_law 416 = .ok (.aload_n 0, 1) by decide +kernel) rfl) rfl
    (sb_cons (pc2 := 418) (sx_iload_n (show decode cL_law 417 = .ok (.iload_n 3, 1) by decide +kernel) rfl) rfl
    (sb_cons (pc2 := 419) (sx_iconst (show decode cL_law 418 = .ok (.iconst 2, 1) by decide +kernel) (by decide)) rfl
    (sb_cons (pc2 := 420) (sx_iadd (show decode cL_law 419 = .ok (.iadd, 1) by decide +kernel)) rfl
    (sb_cons (pc2 := 421) (sx_iald (show decode cL_law 420 = .ok (.iaload, 1) by decide +kernel)) rfl
    (sb_cons (pc2 := 424) (sx_cV (Y' := YX11_tapeTold) (q := (RX11, TX11, 8)) rfl (show decode cL_law 421 = .ok (.invokevirtual 37, 3) by decide +kernel) rfl rfl (px_w4 wd_1001 wd_1002 wd_1003 wd_487) wd_1000 ⟨by decide, by decide, by decide +kernel⟩ (by decide)) rfl
    (sb_cons (pc2 := 425) (sx_aload_n (show decode cL_law 424 = .ok (.aload_n 2, 1) by decide +kernel) rfl) rfl
    (sb_cons (pc2 := 426) (sx_aload_n (show decode cL_law 425 = .ok (.aload_n 0, 1) by decide +kernel) rfl) rfl
    (sb_cons (pc2 := 427) (sx_iload_n (show decode cL_law 426 = .ok (.iload_n 3, 1) by decide +kernel) rfl) rfl
    (sb_cons (pc2 := 428) (sx_iconst (show decode cL_law 427 = .ok (.iconst 1, 1) by decide +kernel) (by decide)) rfl
    (sb_cons (pc2 := 429) (sx_iadd (show decode cL_law 428 = .ok (.iadd, 1) by decide +kernel)) rfl
    (sb_cons (pc2 := 430) (sx_iald (show decode cL_law 429 = .ok (.iaload, 1) by decide +kernel)) rfl
    (sb_cons (pc2 := 431) (sx_aload_n (show decode cL_law 430 = .ok (.aload_n 0, 1) by decide +kernel) rfl) rfl
    (sb_cons (pc2 := 432) (sx_iload_n (show decode cL_law 431 = .ok (.iload_n 3, 1) by decide +kernel) rfl) rfl
    (sb_cons (pc2 := 433) (sx_iconst (show decode cL_law 432 = .ok (.iconst 2, 1) by decide +kernel) (by decide)) rfl
    (sb_cons (pc2 := 434) (sx_iadd (show decode cL_law 433 = .ok (.iadd, 1) by decide +kernel)) rfl
    (sb_cons (pc2 := 435) (sx_iald (show decode cL_law 434 = .ok (.iaload, 1) by decide +kernel)) rfl
    (sb_cons (pc2 := 438) (sx_cV (Y' := YX12_tapeTold) (q := (RX12, TX12, 69)) rfl (show decode cL_law 435 = .ok (.invokevirtual 40, 3) by decide +kernel) rfl rfl (px_w4 wd_1005 wd_1006 wd_1007 wd_719) wd_1004 ⟨by decide, by decide, by decide +kernel⟩ (by decide)) rfl
    (sb_cons (pc2 := 439) (sx_lcmp (show decode cL_law 438 = .ok (.lcmp, 1) by decide +kernel)) rfl
    (sb_cons (pc2 := 442) (sx_if_eq (show decode cL_law 439 = .ok (.ifCond .eq 1129, 3) by decide +kernel) (by decide)) rfl
    (sb_cons (pc2 := 443) (sx_iconst (show decode cL_law 442 = .ok (.iconst 0, 1) by decide +kernel) (by decide)) rfl
    (sb_cons (pc2 := 444) (sx_retz (show decode cL_law 443 = .ok (.ireturn, 1) by decide +kernel) rfl) rfl sb_nil))))))))))))))))))))))))))))
  (ms_cons
  (sb_cons (pc2 := 445) (sx_aload_n (show decode cL_law 444 = .ok (.aload_n 1, 1) by decide +kernel) rfl) rfl
    (sb_cons (pc2 := 448) (sx_cV (Y' := YX11_sum) (q := (RX11, TX11, 8)) rfl (show decode cL_law 445 = .ok (.invokevirtual 41, 3) by decide +kernel) rfl rfl (px_w4 wd_1009 wd_1010 wd_1011 wd_487) wd_1008 ⟨by decide, by decide, by decide +kernel⟩ (by decide)) rfl
    (sb_cons (pc2 := 449) (sx_aload_n (show decode cL_law 448 = .ok (.aload_n 2, 1) by decide +kernel) rfl) rfl
    (sb_cons (pc2 := 452) (sx_cV (Y' := YX12_sum) (q := (RX12, TX12, 69)) rfl (show decode cL_law 449 = .ok (.invokevirtual 45, 3) by decide +kernel) rfl rfl (px_w4 wd_1013 wd_1014 wd_1015 wd_719) wd_1012 ⟨by decide, by decide, by decide +kernel⟩ (by decide)) rfl
    (sb_cons (pc2 := 453) (sx_lcmp (show decode cL_law 452 = .ok (.lcmp, 1) by decide +kernel)) rfl
    (sb_cons (pc2 := 456) (sx_if_eq (show decode cL_law 453 = .ok (.ifCond .eq 1115, 3) by decide +kernel) (by decide)) rfl
    (sb_cons (pc2 := 457) (sx_iconst (show decode cL_law 456 = .ok (.iconst 0, 1) by decide +kernel) (by decide)) rfl
    (sb_cons (pc2 := 458) (sx_retz (show decode cL_law 457 = .ok (.ireturn, 1) by decide +kernel) rfl) rfl sb_nil))))))))
  (ms_cons
  (sb_cons (pc2 := 459) (sx_aload_n (show decode cL_law 458 = .ok (.aload_n 1, 1) by decide +kernel) rfl) rfl
    (sb_cons (pc2 := 460) (sx_aload_n (show decode cL_law 459 = .ok (.aload_n 0, 1) by decide +kernel) rfl) rfl
    (sb_cons (pc2 := 461) (sx_iload_n (show decode cL_law 460 = .ok (.iload_n 3, 1) by decide +kernel) rfl) rfl
    (sb_cons (pc2 := 462) (sx_iconst (show decode cL_law 461 = .ok (.iconst 1, 1) by decide +kernel) (by decide)) rfl
    (sb_cons (pc2 := 463) (sx_iadd (show decode cL_law 462 = .ok (.iadd, 1) by decide +kernel)) rfl
    (sb_cons (pc2 := 464) (sx_iald (show decode cL_law 463 = .ok (.iaload, 1) by decide +kernel)) rfl
    (sb_cons (pc2 := 465) (sx_aload_n (show decode cL_law 464 = .ok (.aload_n 0, 1) by decide +kernel) rfl) rfl
    (sb_cons (pc2 := 466) (sx_iload_n (show decode cL_law 465 = .ok (.iload_n 3, 1) by decide +kernel) rfl) rfl
    (sb_cons (pc2 := 467) (sx_iconst (show decode cL_law 466 = .ok (.iconst 2, 1) by decide +kernel) (by decide)) rfl
    (sb_cons (pc2 := 468) (sx_iadd (show decode cL_law 467 = .ok (.iadd, 1) by decide +kernel)) rfl
    (sb_cons (pc2 := 469) (sx_iald (show decode cL_law 468 = .ok (.iaload, 1) by decide +kernel)) rfl
    (sb_cons (pc2 := 470) (sx_aload_n (show decode cL_law 469 = .ok (.aload_n 0, 1) by decide +kernel) rfl) rfl
    (sb_cons (pc2 := 471) (sx_iload_n (show decode cL_law 470 = .ok (.iload_n 3, 1) by decide +kernel) rfl) rfl
    (sb_cons (pc2 := 472) (sx_iconst (show decode cL_law 471 = .ok (.iconst 3, 1) by decide +kernel) (by decide)) rfl
    (sb_cons (pc2 := 473) (sx_iadd (show decode cL_law 472 = .ok (.iadd, 1) by decide +kernel)) rfl
    (sb_cons (pc2 := 474) (sx_iald (show decode cL_law 473 = .ok (.iaload, 1) by decide +kernel)) rfl
    (sb_cons (pc2 := 475) (sx_aload_n (show decode cL_law 474 = .ok (.aload_n 0, 1) by decide +kernel) rfl) rfl
    (sb_cons (pc2 := 476) (sx_iload_n (show decode cL_law 475 = .ok (.iload_n 3, 1) by decide +kernel) rfl) rfl
    (sb_cons (pc2 := 477) (sx_iconst (show decode cL_law 476 = .ok (.iconst 4, 1) by decide +kernel) (by decide)) rfl
    (sb_cons (pc2 := 478) (sx_iadd (show decode cL_law 477 = .ok (.iadd, 1) by decide +kernel)) rfl
    (sb_cons (pc2 := 479) (sx_iald (show decode cL_law 478 = .ok (.iaload, 1) by decide +kernel)) rfl
    (sb_cons (pc2 := 482) (sx_cV (Y' := YX11_find) (q := (RX11, TX11, 8)) rfl (show decode cL_law 479 = .ok (.invokevirtual 46, 3) by decide +kernel) rfl rfl (px_w4 wd_1017 wd_1018 wd_1019 wd_487) wd_1016 ⟨by decide, by decide, by decide +kernel⟩ (by decide)) rfl
    (sb_cons (pc2 := 483) (sx_aload_n (show decode cL_law 482 = .ok (.aload_n 2, 1) by decide +kernel) rfl) rfl
    (sb_cons (pc2 := 484) (sx_aload_n (show decode cL_law 483 = .ok (.aload_n 0, 1) by decide +kernel) rfl) rfl
    (sb_cons (pc2 := 485) (sx_iload_n (show decode cL_law 484 = .ok (.iload_n 3, 1) by decide +kernel) rfl) rfl
    (sb_cons (pc2 := 486) (sx_iconst (show decode cL_law 485 = .ok (.iconst 1, 1) by decide +kernel) (by decide)) rfl
    (sb_cons (pc2 := 487) (sx_iadd (show decode cL_law 486 = .ok (.iadd, 1) by decide +kernel)) rfl
    (sb_cons (pc2 := 488) (sx_iald (show decode cL_law 487 = .ok (.iaload, 1) by decide +kernel)) rfl
    (sb_cons (pc2 := 489) (sx_aload_n (show decode cL_law 488 = .ok (.aload_n 0, 1) by decide +kernel) rfl) rfl
    (sb_cons (pc2 := 490) (sx_iload_n (show decode cL_law 489 = .ok (.iload_n 3, 1) by decide +kernel) rfl) rfl
    (sb_cons (pc2 := 491) (sx_iconst (show decode cL_law 490 = .ok (.iconst 2, 1) by decide +kernel) (by decide)) rfl
    (sb_cons (pc2 := 492) (sx_iadd (show decode cL_law 491 = .ok (.iadd, 1) by decide +kernel)) rfl
    (sb_cons (pc2 := 493) (sx_iald (show decode cL_law 492 = .ok (.iaload, 1) by decide +kernel)) rfl
    (sb_cons (pc2 := 494) (sx_aload_n (show decode cL_law 493 = .ok (.aload_n 0, 1) by decide +kernel) rfl) rfl
    (sb_cons (pc2 := 495) (sx_iload_n (show decode cL_law 494 = .ok (.iload_n 3, 1) by decide +kernel) rfl) rfl
    (sb_cons (pc2 := 496) (sx_iconst (show decode cL_law 495 = .ok (.iconst 3, 1) by decide +kernel) (by decide)) rfl
    (sb_cons (pc2 := 497) (sx_iadd (show decode cL_law 496 = .ok (.iadd, 1) by decide +kernel)) rfl
    (sb_cons (pc2 := 498) (sx_iald (show decode cL_law 497 = .ok (.iaload, 1) by decide +kernel)) rfl
    (sb_cons (pc2 := 499) (sx_aload_n (show decode cL_law 498 = .ok (.aload_n 0, 1) by decide +kernel) rfl) rfl
    (sb_cons (pc2 := 500) (sx_iload_n (show decode cL_law 499 = .ok (.iload_n 3, 1) by decide +kernel) rfl) rfl
    (sb_cons (pc2 := 501) (sx_iconst (show decode cL_law 500 = .ok (.iconst 4, 1) by decide +kernel) (by decide)) rfl
    (sb_cons (pc2 := 502) (sx_iadd (show decode cL_law 501 = .ok (.iadd, 1) by decide +kernel)) rfl
    (sb_cons (pc2 := 503) (sx_iald (show decode cL_law 502 = .ok (.iaload, 1) by decide +kernel)) rfl
    (sb_cons (pc2 := 506) (sx_cV (Y' := YX12_find) (q := (RX12, TX12, 69)) rfl (show decode cL_law 503 = .ok (.invokevirtual 50, 3) by decide +kernel) rfl rfl (px_w4 wd_1021 wd_1022 wd_1023 wd_719) wd_1020 ⟨by decide, by decide, by decide +kernel⟩ (by decide)) rfl
    (sb_cons (pc2 := 509) (sx_icmp_eq (show decode cL_law 506 = .ok (.if_icmp .eq 1062, 3) by decide +kernel) (by decide)) rfl
    (sb_cons (pc2 := 510) (sx_iconst (show decode cL_law 509 = .ok (.iconst 0, 1) by decide +kernel) (by decide)) rfl
    (sb_cons (pc2 := 511) (sx_retz (show decode cL_law 510 = .ok (.ireturn, 1) by decide +kernel) rfl) rfl sb_nil)))))))))))))))))))))))))))))))))))))))))))))))
  (ms_cons
  (sb_cons (pc2 := 512) (sx_aload_n (show decode cL_law 511 = .ok (.aload_n 1, 1) by decide +kernel) rfl) rfl
    (sb_cons (pc2 := 513) (sx_aload_n (show decode cL_law 512 = .ok (.aload_n 0, 1) by decide +kernel) rfl) rfl
    (sb_cons (pc2 := 514) (sx_iload_n (show decode cL_law 513 = .ok (.iload_n 3, 1) by decide +kernel) rfl) rfl
    (sb_cons (pc2 := 515) (sx_iconst (show decode cL_law 514 = .ok (.iconst 1, 1) by decide +kernel) (by decide)) rfl
    (sb_cons (pc2 := 516) (sx_iadd (show decode cL_law 515 = .ok (.iadd, 1) by decide +kernel)) rfl
    (sb_cons (pc2 := 517) (sx_iald (show decode cL_law 516 = .ok (.iaload, 1) by decide +kernel)) rfl
    (sb_cons (pc2 := 518) (sx_aload_n (show decode cL_law 517 = .ok (.aload_n 0, 1) by decide +kernel) rfl) rfl
    (sb_cons (pc2 := 519) (sx_iload_n (show decode cL_law 518 = .ok (.iload_n 3, 1) by decide +kernel) rfl) rfl
    (sb_cons (pc2 := 520) (sx_iconst (show decode cL_law 519 = .ok (.iconst 2, 1) by decide +kernel) (by decide)) rfl
    (sb_cons (pc2 := 521) (sx_iadd (show decode cL_law 520 = .ok (.iadd, 1) by decide +kernel)) rfl
    (sb_cons (pc2 := 522) (sx_iald (show decode cL_law 521 = .ok (.iaload, 1) by decide +kernel)) rfl
    (sb_cons (pc2 := 525) (sx_cV (Y' := YX11_hole) (q := (RX11, TX11, 8)) rfl (show decode cL_law 522 = .ok (.invokevirtual 51, 3) by decide +kernel) rfl rfl (px_w4 wd_1025 wd_1026 wd_1027 wd_487) wd_1024 ⟨by decide, by decide, by decide +kernel⟩ (by decide)) rfl
    (sb_cons (pc2 := 526) (sx_aload_n (show decode cL_law 525 = .ok (.aload_n 2, 1) by decide +kernel) rfl) rfl
    (sb_cons (pc2 := 527) (sx_aload_n (show decode cL_law 526 = .ok (.aload_n 0, 1) by decide +kernel) rfl) rfl
    (sb_cons (pc2 := 528) (sx_iload_n (show decode cL_law 527 = .ok (.iload_n 3, 1) by decide +kernel) rfl) rfl
    (sb_cons (pc2 := 529) (sx_iconst (show decode cL_law 528 = .ok (.iconst 1, 1) by decide +kernel) (by decide)) rfl
    (sb_cons (pc2 := 530) (sx_iadd (show decode cL_law 529 = .ok (.iadd, 1) by decide +kernel)) rfl
    (sb_cons (pc2 := 531) (sx_iald (show decode cL_law 530 = .ok (.iaload, 1) by decide +kernel)) rfl
    (sb_cons (pc2 := 532) (sx_aload_n (show decode cL_law 531 = .ok (.aload_n 0, 1) by decide +kernel) rfl) rfl
    (sb_cons (pc2 := 533) (sx_iload_n (show decode cL_law 532 = .ok (.iload_n 3, 1) by decide +kernel) rfl) rfl
    (sb_cons (pc2 := 534) (sx_iconst (show decode cL_law 533 = .ok (.iconst 2, 1) by decide +kernel) (by decide)) rfl
    (sb_cons (pc2 := 535) (sx_iadd (show decode cL_law 534 = .ok (.iadd, 1) by decide +kernel)) rfl
    (sb_cons (pc2 := 536) (sx_iald (show decode cL_law 535 = .ok (.iaload, 1) by decide +kernel)) rfl
    (sb_cons (pc2 := 539) (sx_cV (Y' := YX12_hole) (q := (RX12, TX12, 69)) rfl (show decode cL_law 536 = .ok (.invokevirtual 55, 3) by decide +kernel) rfl rfl (px_w4 wd_1029 wd_1030 wd_1031 wd_719) wd_1028 ⟨by decide, by decide, by decide +kernel⟩ (by decide)) rfl
    (sb_cons (pc2 := 542) (sx_icmp_eq (show decode cL_law 539 = .ok (.if_icmp .eq 1029, 3) by decide +kernel) (by decide)) rfl
    (sb_cons (pc2 := 543) (sx_iconst (show decode cL_law 542 = .ok (.iconst 0, 1) by decide +kernel) (by decide)) rfl
    (sb_cons (pc2 := 544) (sx_retz (show decode cL_law 543 = .ok (.ireturn, 1) by decide +kernel) rfl) rfl sb_nil)))))))))))))))))))))))))))
  (ms_cons
  (sb_cons (pc2 := 545) (sx_aload_n (show decode cL_law 544 = .ok (.aload_n 1, 1) by decide +kernel) rfl) rfl
    (sb_cons (pc2 := 546) (sx_aload_n (show decode cL_law 545 = .ok (.aload_n 0, 1) by decide +kernel) rfl) rfl
    (sb_cons (pc2 := 547) (sx_iload_n (show decode cL_law 546 = .ok (.iload_n 3, 1) by decide +kernel) rfl) rfl
    (sb_cons (pc2 := 548) (sx_iconst (show decode cL_law 547 = .ok (.iconst 1, 1) by decide +kernel) (by decide)) rfl
    (sb_cons (pc2 := 549) (sx_iadd (show decode cL_law 548 = .ok (.iadd, 1) by decide +kernel)) rfl
    (sb_cons (pc2 := 550) (sx_iald (show decode cL_law 549 = .ok (.iaload, 1) by decide +kernel)) rfl
    (sb_cons (pc2 := 551) (sx_aload_n (show decode cL_law 550 = .ok (.aload_n 0, 1) by decide +kernel) rfl) rfl
    (sb_cons (pc2 := 552) (sx_iload_n (show decode cL_law 551 = .ok (.iload_n 3, 1) by decide +kernel) rfl) rfl
    (sb_cons (pc2 := 553) (sx_iconst (show decode cL_law 552 = .ok (.iconst 2, 1) by decide +kernel) (by decide)) rfl
    (sb_cons (pc2 := 554) (sx_iadd (show decode cL_law 553 = .ok (.iadd, 1) by decide +kernel)) rfl
    (sb_cons (pc2 := 555) (sx_iald (show decode cL_law 554 = .ok (.iaload, 1) by decide +kernel)) rfl
    (sb_cons (pc2 := 558) (sx_cV (Y' := YX11_findTold) (q := (RX11, TX11, 8)) rfl (show decode cL_law 555 = .ok (.invokevirtual 56, 3) by decide +kernel) rfl rfl (px_w4 wd_1033 wd_1034 wd_1035 wd_487) wd_1032 ⟨by decide, by decide, by decide +kernel⟩ (by decide)) rfl
    (sb_cons (pc2 := 559) (sx_aload_n (show decode cL_law 558 = .ok (.aload_n 2, 1) by decide +kernel) rfl) rfl
    (sb_cons (pc2 := 560) (sx_aload_n (show decode cL_law 559 = .ok (.aload_n 0, 1) by decide +kernel) rfl) rfl
    (sb_cons (pc2 := 561) (sx_iload_n (show decode cL_law 560 = .ok (.iload_n 3, 1) by decide +kernel) rfl) rfl
    (sb_cons (pc2 := 562) (sx_iconst (show decode cL_law 561 = .ok (.iconst 1, 1) by decide +kernel) (by decide)) rfl
    (sb_cons (pc2 := 563) (sx_iadd (show decode cL_law 562 = .ok (.iadd, 1) by decide +kernel)) rfl
    (sb_cons (pc2 := 564) (sx_iald (show decode cL_law 563 = .ok (.iaload, 1) by decide +kernel)) rfl
    (sb_cons (pc2 := 565) (sx_aload_n (show decode cL_law 564 = .ok (.aload_n 0, 1) by decide +kernel) rfl) rfl
    (sb_cons (pc2 := 566) (sx_iload_n (show decode cL_law 565 = .ok (.iload_n 3, 1) by decide +kernel) rfl) rfl
    (sb_cons (pc2 := 567) (sx_iconst (show decode cL_law 566 = .ok (.iconst 2, 1) by decide +kernel) (by decide)) rfl
    (sb_cons (pc2 := 568) (sx_iadd (show decode cL_law 567 = .ok (.iadd, 1) by decide +kernel)) rfl
    (sb_cons (pc2 := 569) (sx_iald (show decode cL_law 568 = .ok (.iaload, 1) by decide +kernel)) rfl
    (sb_cons (pc2 := 572) (sx_cV (Y' := YX12_findTold) (q := (RX12, TX12, 69)) rfl (show decode cL_law 569 = .ok (.invokevirtual 59, 3) by decide +kernel) rfl rfl (px_w4 wd_1037 wd_1038 wd_1039 wd_719) wd_1036 ⟨by decide, by decide, by decide +kernel⟩ (by decide)) rfl
    (sb_cons (pc2 := 575) (sx_icmp_eq (show decode cL_law 572 = .ok (.if_icmp .eq 996, 3) by decide +kernel) (by decide)) rfl
    (sb_cons (pc2 := 576) (sx_iconst (show decode cL_law 575 = .ok (.iconst 0, 1) by decide +kernel) (by decide)) rfl
    (sb_cons (pc2 := 577) (sx_retz (show decode cL_law 576 = .ok (.ireturn, 1) by decide +kernel) rfl) rfl sb_nil)))))))))))))))))))))))))))
  (ms_cons
  (sb_cons (pc2 := 578) (sx_aload_n (show decode cL_law 577 = .ok (.aload_n 1, 1) by decide +kernel) rfl) rfl
    (sb_cons (pc2 := 579) (sx_aload_n (show decode cL_law 578 = .ok (.aload_n 0, 1) by decide +kernel) rfl) rfl
    (sb_cons (pc2 := 580) (sx_iload_n (show decode cL_law 579 = .ok (.iload_n 3, 1) by decide +kernel) rfl) rfl
    (sb_cons (pc2 := 581) (sx_iconst (show decode cL_law 580 = .ok (.iconst 1, 1) by decide +kernel) (by decide)) rfl
    (sb_cons (pc2 := 582) (sx_iadd (show decode cL_law 581 = .ok (.iadd, 1) by decide +kernel)) rfl
    (sb_cons (pc2 := 583) (sx_iald (show decode cL_law 582 = .ok (.iaload, 1) by decide +kernel)) rfl
    (sb_cons (pc2 := 584) (sx_aload_n (show decode cL_law 583 = .ok (.aload_n 0, 1) by decide +kernel) rfl) rfl
    (sb_cons (pc2 := 585) (sx_iload_n (show decode cL_law 584 = .ok (.iload_n 3, 1) by decide +kernel) rfl) rfl
    (sb_cons (pc2 := 586) (sx_iconst (show decode cL_law 585 = .ok (.iconst 2, 1) by decide +kernel) (by decide)) rfl
    (sb_cons (pc2 := 587) (sx_iadd (show decode cL_law 586 = .ok (.iadd, 1) by decide +kernel)) rfl
    (sb_cons (pc2 := 588) (sx_iald (show decode cL_law 587 = .ok (.iaload, 1) by decide +kernel)) rfl
    (sb_cons (pc2 := 591) (sx_cV (Y' := YX11_tank) (q := (RX11, TX11, 8)) rfl (show decode cL_law 588 = .ok (.invokevirtual 60, 3) by decide +kernel) rfl rfl (px_w4 wd_1041 wd_1042 wd_1043 wd_487) wd_1040 ⟨by decide, by decide, by decide +kernel⟩ (by decide)) rfl
    (sb_cons (pc2 := 592) (sx_aload_n (show decode cL_law 591 = .ok (.aload_n 2, 1) by decide +kernel) rfl) rfl
    (sb_cons (pc2 := 593) (sx_aload_n (show decode cL_law 592 = .ok (.aload_n 0, 1) by decide +kernel) rfl) rfl
    (sb_cons (pc2 := 594) (sx_iload_n (show decode cL_law 593 = .ok (.iload_n 3, 1) by decide +kernel) rfl) rfl
    (sb_cons (pc2 := 595) (sx_iconst (show decode cL_law 594 = .ok (.iconst 1, 1) by decide +kernel) (by decide)) rfl
    (sb_cons (pc2 := 596) (sx_iadd (show decode cL_law 595 = .ok (.iadd, 1) by decide +kernel)) rfl
    (sb_cons (pc2 := 597) (sx_iald (show decode cL_law 596 = .ok (.iaload, 1) by decide +kernel)) rfl
    (sb_cons (pc2 := 598) (sx_aload_n (show decode cL_law 597 = .ok (.aload_n 0, 1) by decide +kernel) rfl) rfl
    (sb_cons (pc2 := 599) (sx_iload_n (show decode cL_law 598 = .ok (.iload_n 3, 1) by decide +kernel) rfl) rfl
    (sb_cons (pc2 := 600) (sx_iconst (show decode cL_law 599 = .ok (.iconst 2, 1) by decide +kernel) (by decide)) rfl
    (sb_cons (pc2 := 601) (sx_iadd (show decode cL_law 600 = .ok (.iadd, 1) by decide +kernel)) rfl
    (sb_cons (pc2 := 602) (sx_iald (show decode cL_law 601 = .ok (.iaload, 1) by decide +kernel)) rfl
    (sb_cons (pc2 := 605) (sx_cV (Y' := YX12_tank) (q := (RX12, TX12, 69)) rfl (show decode cL_law 602 = .ok (.invokevirtual 63, 3) by decide +kernel) rfl rfl (px_w4 wd_1045 wd_1046 wd_1047 wd_719) wd_1044 ⟨by decide, by decide, by decide +kernel⟩ (by decide)) rfl
    (sb_cons (pc2 := 608) (sx_icmp_eq (show decode cL_law 605 = .ok (.if_icmp .eq 963, 3) by decide +kernel) (by decide)) rfl
    (sb_cons (pc2 := 609) (sx_iconst (show decode cL_law 608 = .ok (.iconst 0, 1) by decide +kernel) (by decide)) rfl
    (sb_cons (pc2 := 610) (sx_retz (show decode cL_law 609 = .ok (.ireturn, 1) by decide +kernel) rfl) rfl sb_nil)))))))))))))))))))))))))))
  (ms_cons
  (sb_cons (pc2 := 611) (sx_aload_n (show decode cL_law 610 = .ok (.aload_n 1, 1) by decide +kernel) rfl) rfl
    (sb_cons (pc2 := 612) (sx_aload_n (show decode cL_law 611 = .ok (.aload_n 0, 1) by decide +kernel) rfl) rfl
    (sb_cons (pc2 := 613) (sx_iload_n (show decode cL_law 612 = .ok (.iload_n 3, 1) by decide +kernel) rfl) rfl
    (sb_cons (pc2 := 614) (sx_iconst (show decode cL_law 613 = .ok (.iconst 1, 1) by decide +kernel) (by decide)) rfl
    (sb_cons (pc2 := 615) (sx_iadd (show decode cL_law 614 = .ok (.iadd, 1) by decide +kernel)) rfl
    (sb_cons (pc2 := 616) (sx_iald (show decode cL_law 615 = .ok (.iaload, 1) by decide +kernel)) rfl
    (sb_cons (pc2 := 617) (sx_aload_n (show decode cL_law 616 = .ok (.aload_n 0, 1) by decide +kernel) rfl) rfl
    (sb_cons (pc2 := 618) (sx_iload_n (show decode cL_law 617 = .ok (.iload_n 3, 1) by decide +kernel) rfl) rfl
    (sb_cons (pc2 := 619) (sx_iconst (show decode cL_law 618 = .ok (.iconst 2, 1) by decide +kernel) (by decide)) rfl
    (sb_cons (pc2 := 620) (sx_iadd (show decode cL_law 619 = .ok (.iadd, 1) by decide +kernel)) rfl
    (sb_cons (pc2 := 621) (sx_iald (show decode cL_law 620 = .ok (.iaload, 1) by decide +kernel)) rfl
    (sb_cons (pc2 := 624) (sx_cV (Y' := YX11_tankTold) (q := (RX11, TX11, 8)) rfl (show decode cL_law 621 = .ok (.invokevirtual 64, 3) by decide +kernel) rfl rfl (px_w4 wd_1049 wd_1050 wd_1051 wd_487) wd_1048 ⟨by decide, by decide, by decide +kernel⟩ (by decide)) rfl
    (sb_cons (pc2 := 625) (sx_aload_n (show decode cL_law 624 = .ok (.aload_n 2, 1) by decide +kernel) rfl) rfl
    (sb_cons (pc2 := 626) (sx_aload_n (show decode cL_law 625 = .ok (.aload_n 0, 1) by decide +kernel) rfl) rfl
    (sb_cons (pc2 := 627) (sx_iload_n (show decode cL_law 626 = .ok (.iload_n 3, 1) by decide +kernel) rfl) rfl
    (sb_cons (pc2 := 628) (sx_iconst (show decode cL_law 627 = .ok (.iconst 1, 1) by decide +kernel) (by decide)) rfl
    (sb_cons (pc2 := 629) (sx_iadd (show decode cL_law 628 = .ok (.iadd, 1) by decide +kernel)) rfl
    (sb_cons (pc2 := 630) (sx_iald (show decode cL_law 629 = .ok (.iaload, 1) by decide +kernel)) rfl
    (sb_cons (pc2 := 631) (sx_aload_n (show decode cL_law 630 = .ok (.aload_n 0, 1) by decide +kernel) rfl) rfl
    (sb_cons (pc2 := 632) (sx_iload_n (show decode cL_law 631 = .ok (.iload_n 3, 1) by decide +kernel) rfl) rfl
    (sb_cons (pc2 := 633) (sx_iconst (show decode cL_law 632 = .ok (.iconst 2, 1) by decide +kernel) (by decide)) rfl
    (sb_cons (pc2 := 634) (sx_iadd (show decode cL_law 633 = .ok (.iadd, 1) by decide +kernel)) rfl
    (sb_cons (pc2 := 635) (sx_iald (show decode cL_law 634 = .ok (.iaload, 1) by decide +kernel)) rfl
    (sb_cons (pc2 := 638) (sx_cV (Y' := YX12_tankTold) (q := (RX12, TX12, 69)) rfl (show decode cL_law 635 = .ok (.invokevirtual 67, 3) by decide +kernel) rfl rfl (px_w4 wd_1053 wd_1054 wd_1055 wd_719) wd_1052 ⟨by decide, by decide, by decide +kernel⟩ (by decide)) rfl
    (sb_cons (pc2 := 641) (sx_icmp_eq (show decode cL_law 638 = .ok (.if_icmp .eq 930, 3) by decide +kernel) (by decide)) rfl
    (sb_cons (pc2 := 642) (sx_iconst (show decode cL_law 641 = .ok (.iconst 0, 1) by decide +kernel) (by decide)) rfl
    (sb_cons (pc2 := 643) (sx_retz (show decode cL_law 642 = .ok (.ireturn, 1) by decide +kernel) rfl) rfl sb_nil)))))))))))))))))))))))))))
  (ms_cons
  (sb_cons (pc2 := 644) (sx_aload_n (show decode cL_law 643 = .ok (.aload_n 1, 1) by decide +kernel) rfl) rfl
    (sb_cons (pc2 := 645) (sx_aload_n (show decode cL_law 644 = .ok (.aload_n 0, 1) by decide +kernel) rfl) rfl
    (sb_cons (pc2 := 646) (sx_iload_n (show decode cL_law 645 = .ok (.iload_n 3, 1) by decide +kernel) rfl) rfl
    (sb_cons (pc2 := 647) (sx_iconst (show decode cL_law 646 = .ok (.iconst 1, 1) by decide +kernel) (by decide)) rfl
    (sb_cons (pc2 := 648) (sx_iadd (show decode cL_law 647 = .ok (.iadd, 1) by decide +kernel)) rfl
    (sb_cons (pc2 := 649) (sx_iald (show decode cL_law 648 = .ok (.iaload, 1) by decide +kernel)) rfl
    (sb_cons (pc2 := 650) (sx_aload_n (show decode cL_law 649 = .ok (.aload_n 0, 1) by decide +kernel) rfl) rfl
    (sb_cons (pc2 := 651) (sx_iload_n (show decode cL_law 650 = .ok (.iload_n 3, 1) by decide +kernel) rfl) rfl
    (sb_cons (pc2 := 652) (sx_iconst (show decode cL_law 651 = .ok (.iconst 2, 1) by decide +kernel) (by decide)) rfl
    (sb_cons (pc2 := 653) (sx_iadd (show decode cL_law 652 = .ok (.iadd, 1) by decide +kernel)) rfl
    (sb_cons (pc2 := 654) (sx_iald (show decode cL_law 653 = .ok (.iaload, 1) by decide +kernel)) rfl
    (sb_cons (pc2 := 655) (sx_aload_n (show decode cL_law 654 = .ok (.aload_n 0, 1) by decide +kernel) rfl) rfl
    (sb_cons (pc2 := 656) (sx_iload_n (show decode cL_law 655 = .ok (.iload_n 3, 1) by decide +kernel) rfl) rfl
    (sb_cons (pc2 := 657) (sx_iconst (show decode cL_law 656 = .ok (.iconst 3, 1) by decide +kernel) (by decide)) rfl
    (sb_cons (pc2 := 658) (sx_iadd (show decode cL_law 657 = .ok (.iadd, 1) by decide +kernel)) rfl
    (sb_cons (pc2 := 659) (sx_iald (show decode cL_law 658 = .ok (.iaload, 1) by decide +kernel)) rfl
    (sb_cons (pc2 := 662) (sx_cV (Y' := YX11_lift) (q := (RX11, TX11, 8)) rfl (show decode cL_law 659 = .ok (.invokevirtual 68, 3) by decide +kernel) rfl rfl (px_w4 wd_1057 wd_1058 wd_1059 wd_487) wd_1056 ⟨by decide, by decide, by decide +kernel⟩ (by decide)) rfl
    (sb_cons (pc2 := 663) (sx_aload_n (show decode cL_law 662 = .ok (.aload_n 2, 1) by decide +kernel) rfl) rfl
    (sb_cons (pc2 := 664) (sx_aload_n (show decode cL_law 663 = .ok (.aload_n 0, 1) by decide +kernel) rfl) rfl
    (sb_cons (pc2 := 665) (sx_iload_n (show decode cL_law 664 = .ok (.iload_n 3, 1) by decide +kernel) rfl) rfl
    (sb_cons (pc2 := 666) (sx_iconst (show decode cL_law 665 = .ok (.iconst 1, 1) by decide +kernel) (by decide)) rfl
    (sb_cons (pc2 := 667) (sx_iadd (show decode cL_law 666 = .ok (.iadd, 1) by decide +kernel)) rfl
    (sb_cons (pc2 := 668) (sx_iald (show decode cL_law 667 = .ok (.iaload, 1) by decide +kernel)) rfl
    (sb_cons (pc2 := 669) (sx_aload_n (show decode cL_law 668 = .ok (.aload_n 0, 1) by decide +kernel) rfl) rfl
    (sb_cons (pc2 := 670) (sx_iload_n (show decode cL_law 669 = .ok (.iload_n 3, 1) by decide +kernel) rfl) rfl
    (sb_cons (pc2 := 671) (sx_iconst (show decode cL_law 670 = .ok (.iconst 2, 1) by decide +kernel) (by decide)) rfl
    (sb_cons (pc2 := 672) (sx_iadd (show decode cL_law 671 = .ok (.iadd, 1) by decide +kernel)) rfl
    (sb_cons (pc2 := 673) (sx_iald (show decode cL_law 672 = .ok (.iaload, 1) by decide +kernel)) rfl
    (sb_cons (pc2 := 674) (sx_aload_n (show decode cL_law 673 = .ok (.aload_n 0, 1) by decide +kernel) rfl) rfl
    (sb_cons (pc2 := 675) (sx_iload_n (show decode cL_law 674 = .ok (.iload_n 3, 1) by decide +kernel) rfl) rfl
    (sb_cons (pc2 := 676) (sx_iconst (show decode cL_law 675 = .ok (.iconst 3, 1) by decide +kernel) (by decide)) rfl
    (sb_cons (pc2 := 677) (sx_iadd (show decode cL_law 676 = .ok (.iadd, 1) by decide +kernel)) rfl
    (sb_cons (pc2 := 678) (sx_iald (show decode cL_law 677 = .ok (.iaload, 1) by decide +kernel)) rfl
    (sb_cons (pc2 := 681) (sx_cV (Y' := YX12_lift) (q := (RX12, TX12, 69)) rfl (show decode cL_law 678 = .ok (.invokevirtual 71, 3) by decide +kernel) rfl rfl (px_w4 wd_1061 wd_1062 wd_1063 wd_719) wd_1060 ⟨by decide, by decide, by decide +kernel⟩ (by decide)) rfl
    (sb_cons (pc2 := 684) (sx_icmp_eq (show decode cL_law 681 = .ok (.if_icmp .eq 887, 3) by decide +kernel) (by decide)) rfl
    (sb_cons (pc2 := 685) (sx_iconst (show decode cL_law 684 = .ok (.iconst 0, 1) by decide +kernel) (by decide)) rfl
    (sb_cons (pc2 := 686) (sx_retz (show decode cL_law 685 = .ok (.ireturn, 1) by decide +kernel) rfl) rfl sb_nil)))))))))))))))))))))))))))))))))))))
  (ms_cons
  (sb_cons (pc2 := 687) (sx_aload_n (show decode cL_law 686 = .ok (.aload_n 1, 1) by decide +kernel) rfl) rfl
    (sb_cons (pc2 := 688) (sx_aload_n (show decode cL_law 687 = .ok (.aload_n 0, 1) by decide +kernel) rfl) rfl
    (sb_cons (pc2 := 689) (sx_iload_n (show decode cL_law 688 = .ok (.iload_n 3, 1) by decide +kernel) rfl) rfl
    (sb_cons (pc2 := 690) (sx_iconst (show decode cL_law 689 = .ok (.iconst 1, 1) by decide +kernel) (by decide)) rfl
    (sb_cons (pc2 := 691) (sx_iadd (show decode cL_law 690 = .ok (.iadd, 1) by decide +kernel)) rfl
    (sb_cons (pc2 := 692) (sx_iald (show decode cL_law 691 = .ok (.iaload, 1) by decide +kernel)) rfl
    (sb_cons (pc2 := 693) (sx_aload_n (show decode cL_law 692 = .ok (.aload_n 0, 1) by decide +kernel) rfl) rfl
    (sb_cons (pc2 := 694) (sx_iload_n (show decode cL_law 693 = .ok (.iload_n 3, 1) by decide +kernel) rfl) rfl
    (sb_cons (pc2 := 695) (sx_iconst (show decode cL_law 694 = .ok (.iconst 2, 1) by decide +kernel) (by decide)) rfl
    (sb_cons (pc2 := 696) (sx_iadd (show decode cL_law 695 = .ok (.iadd, 1) by decide +kernel)) rfl
    (sb_cons (pc2 := 697) (sx_iald (show decode cL_law 696 = .ok (.iaload, 1) by decide +kernel)) rfl
    (sb_cons (pc2 := 698) (sx_aload_n (show decode cL_law 697 = .ok (.aload_n 0, 1) by decide +kernel) rfl) rfl
    (sb_cons (pc2 := 699) (sx_iload_n (show decode cL_law 698 = .ok (.iload_n 3, 1) by decide +kernel) rfl) rfl
    (sb_cons (pc2 := 700) (sx_iconst (show decode cL_law 699 = .ok (.iconst 3, 1) by decide +kernel) (by decide)) rfl
    (sb_cons (pc2 := 701) (sx_iadd (show decode cL_law 700 = .ok (.iadd, 1) by decide +kernel)) rfl
    (sb_cons (pc2 := 702) (sx_iald (show decode cL_law 701 = .ok (.iaload, 1) by decide +kernel)) rfl
    (sb_cons (pc2 := 705) (sx_cV (Y' := YX11_why) (q := (RX11, TX11, 8)) rfl (show decode cL_law 702 = .ok (.invokevirtual 72, 3) by decide +kernel) rfl rfl (px_w4 wd_1065 wd_1066 wd_1067 wd_487) wd_1064 ⟨by decide, by decide, by decide +kernel⟩ (by decide)) rfl
    (sb_cons (pc2 := 706) (sx_aload_n (show decode cL_law 705 = .ok (.aload_n 2, 1) by decide +kernel) rfl) rfl
    (sb_cons (pc2 := 707) (sx_aload_n (show decode cL_law 706 = .ok (.aload_n 0, 1) by decide +kernel) rfl) rfl
    (sb_cons (pc2 := 708) (sx_iload_n (show decode cL_law 707 = .ok (.iload_n 3, 1) by decide +kernel) rfl) rfl
    (sb_cons (pc2 := 709) (sx_iconst (show decode cL_law 708 = .ok (.iconst 1, 1) by decide +kernel) (by decide)) rfl
    (sb_cons (pc2 := 710) (sx_iadd (show decode cL_law 709 = .ok (.iadd, 1) by decide +kernel)) rfl
    (sb_cons (pc2 := 711) (sx_iald (show decode cL_law 710 = .ok (.iaload, 1) by decide +kernel)) rfl
    (sb_cons (pc2 := 712) (sx_aload_n (show decode cL_law 711 = .ok (.aload_n 0, 1) by decide +kernel) rfl) rfl
    (sb_cons (pc2 := 713) (sx_iload_n (show decode cL_law 712 = .ok (.iload_n 3, 1) by decide +kernel) rfl) rfl
    (sb_cons (pc2 := 714) (sx_iconst (show decode cL_law 713 = .ok (.iconst 2, 1) by decide +kernel) (by decide)) rfl
    (sb_cons (pc2 := 715) (sx_iadd (show decode cL_law 714 = .ok (.iadd, 1) by decide +kernel)) rfl
    (sb_cons (pc2 := 716) (sx_iald (show decode cL_law 715 = .ok (.iaload, 1) by decide +kernel)) rfl
    (sb_cons (pc2 := 717) (sx_aload_n (show decode cL_law 716 = .ok (.aload_n 0, 1) by decide +kernel) rfl) rfl
    (sb_cons (pc2 := 718) (sx_iload_n (show decode cL_law 717 = .ok (.iload_n 3, 1) by decide +kernel) rfl) rfl
    (sb_cons (pc2 := 719) (sx_iconst (show decode cL_law 718 = .ok (.iconst 3, 1) by decide +kernel) (by decide)) rfl
    (sb_cons (pc2 := 720) (sx_iadd (show decode cL_law 719 = .ok (.iadd, 1) by decide +kernel)) rfl
    (sb_cons (pc2 := 721) (sx_iald (show decode cL_law 720 = .ok (.iaload, 1) by decide +kernel)) rfl
    (sb_cons (pc2 := 724) (sx_cV (Y' := YX12_why) (q := (RX12, TX12, 69)) rfl (show decode cL_law 721 = .ok (.invokevirtual 75, 3) by decide +kernel) rfl rfl (px_w4 wd_1068 wd_794 wd_795 wd_719) wd_792 ⟨by decide, by decide, by decide +kernel⟩ (by decide)) rfl
    (sb_cons (pc2 := 727) (sx_icmp_eq (show decode cL_law 724 = .ok (.if_icmp .eq 844, 3) by decide +kernel) (by decide)) rfl
    (sb_cons (pc2 := 728) (sx_iconst (show decode cL_law 727 = .ok (.iconst 0, 1) by decide +kernel) (by decide)) rfl
    (sb_cons (pc2 := 729) (sx_retz (show decode cL_law 728 = .ok (.ireturn, 1) by decide +kernel) rfl) rfl sb_nil)))))))))))))))))))))))))))))))))))))
  (ms_cons
  (sb_cons (pc2 := 730) (sx_aload_n (show decode cL_law 729 = .ok (.aload_n 1, 1) by decide +kernel) rfl) rfl
    (sb_cons (pc2 := 731) (sx_aload_n (show decode cL_law 730 = .ok (.aload_n 0, 1) by decide +kernel) rfl) rfl
    (sb_cons (pc2 := 732) (sx_iload_n (show decode cL_law 731 = .ok (.iload_n 3, 1) by decide +kernel) rfl) rfl
    (sb_cons (pc2 := 733) (sx_iconst (show decode cL_law 732 = .ok (.iconst 1, 1) by decide +kernel) (by decide)) rfl
    (sb_cons (pc2 := 734) (sx_iadd (show decode cL_law 733 = .ok (.iadd, 1) by decide +kernel)) rfl
    (sb_cons (pc2 := 735) (sx_iald (show decode cL_law 734 = .ok (.iaload, 1) by decide +kernel)) rfl
    (sb_cons (pc2 := 736) (sx_aload_n (show decode cL_law 735 = .ok (.aload_n 0, 1) by decide +kernel) rfl) rfl
    (sb_cons (pc2 := 737) (sx_iload_n (show decode cL_law 736 = .ok (.iload_n 3, 1) by decide +kernel) rfl) rfl
    (sb_cons (pc2 := 738) (sx_iconst (show decode cL_law 737 = .ok (.iconst 2, 1) by decide +kernel) (by decide)) rfl
    (sb_cons (pc2 := 739) (sx_iadd (show decode cL_law 738 = .ok (.iadd, 1) by decide +kernel)) rfl
    (sb_cons (pc2 := 740) (sx_iald (show decode cL_law 739 = .ok (.iaload, 1) by decide +kernel)) rfl
    (sb_cons (pc2 := 743) (sx_cV (Y' := YX11_take) (q := (RX11, TX11, 8)) rfl (show decode cL_law 740 = .ok (.invokevirtual 76, 3) by decide +kernel) rfl rfl (px_w4 wd_1070 wd_1071 wd_1072 wd_487) wd_1069 ⟨by decide, by decide, by decide +kernel⟩ (by decide)) rfl
    (sb_cons (pc2 := 744) (sx_aload_n (show decode cL_law 743 = .ok (.aload_n 2, 1) by decide +kernel) rfl) rfl
    (sb_cons (pc2 := 745) (sx_aload_n (show decode cL_law 744 = .ok (.aload_n 0, 1) by decide +kernel) rfl) rfl
    (sb_cons (pc2 := 746) (sx_iload_n (show decode cL_law 745 = .ok (.iload_n 3, 1) by decide +kernel) rfl) rfl
    (sb_cons (pc2 := 747) (sx_iconst (show decode cL_law 746 = .ok (.iconst 1, 1) by decide +kernel) (by decide)) rfl
    (sb_cons (pc2 := 748) (sx_iadd (show decode cL_law 747 = .ok (.iadd, 1) by decide +kernel)) rfl
    (sb_cons (pc2 := 749) (sx_iald (show decode cL_law 748 = .ok (.iaload, 1) by decide +kernel)) rfl
    (sb_cons (pc2 := 750) (sx_aload_n (show decode cL_law 749 = .ok (.aload_n 0, 1) by decide +kernel) rfl) rfl
    (sb_cons (pc2 := 751) (sx_iload_n (show decode cL_law 750 = .ok (.iload_n 3, 1) by decide +kernel) rfl) rfl
    (sb_cons (pc2 := 752) (sx_iconst (show decode cL_law 751 = .ok (.iconst 2, 1) by decide +kernel) (by decide)) rfl
    (sb_cons (pc2 := 753) (sx_iadd (show decode cL_law 752 = .ok (.iadd, 1) by decide +kernel)) rfl
    (sb_cons (pc2 := 754) (sx_iald (show decode cL_law 753 = .ok (.iaload, 1) by decide +kernel)) rfl
    (sb_cons (pc2 := 757) (sx_cV (Y' := YX12_take) (q := (RX12, TX12, 69)) rfl (show decode cL_law 754 = .ok (.invokevirtual 79, 3) by decide +kernel) rfl rfl (px_w4 wd_1074 wd_1075 wd_1076 wd_719) wd_1073 ⟨by decide, by decide, by decide +kernel⟩ (by decide)) rfl
    (sb_cons (pc2 := 760) (sx_icmp_eq (show decode cL_law 757 = .ok (.if_icmp .eq 811, 3) by decide +kernel) (by decide)) rfl
    (sb_cons (pc2 := 761) (sx_iconst (show decode cL_law 760 = .ok (.iconst 0, 1) by decide +kernel) (by decide)) rfl
    (sb_cons (pc2 := 762) (sx_retz (show decode cL_law 761 = .ok (.ireturn, 1) by decide +kernel) rfl) rfl sb_nil)))))))))))))))))))))))))))
  (ms_cons
  (sb_cons (pc2 := 763) (sx_aload_n (show decode cL_law 762 = .ok (.aload_n 1, 1) by decide +kernel) rfl) rfl
    (sb_cons (pc2 := 766) (sx_cV (Y' := YX11_diver) (q := (RX11, TX11, 8)) rfl (show decode cL_law 763 = .ok (.invokevirtual 80, 3) by decide +kernel) rfl rfl (px_w4 wd_1078 wd_1079 wd_1080 wd_487) wd_1077 ⟨by decide, by decide, by decide +kernel⟩ (by decide)) rfl
    (sb_cons (pc2 := 767) (sx_aload_n (show decode cL_law 766 = .ok (.aload_n 2, 1) by decide +kernel) rfl) rfl
    (sb_cons (pc2 := 770) (sx_cV (Y' := YX12_diver) (q := (RX12, TX12, 69)) rfl (show decode cL_law 767 = .ok (.invokevirtual 84, 3) by decide +kernel) rfl rfl (px_w4 wd_1082 wd_1083 wd_1084 wd_719) wd_1081 ⟨by decide, by decide, by decide +kernel⟩ (by decide)) rfl
    (sb_cons (pc2 := 773) (sx_icmp_eq (show decode cL_law 770 = .ok (.if_icmp .eq 798, 3) by decide +kernel) (by decide)) rfl
    (sb_cons (pc2 := 774) (sx_iconst (show decode cL_law 773 = .ok (.iconst 0, 1) by decide +kernel) (by decide)) rfl
    (sb_cons (pc2 := 775) (sx_retz (show decode cL_law 774 = .ok (.ireturn, 1) by decide +kernel) rfl) rfl sb_nil)))))))
  (ms_cons
  (sb_cons (pc2 := 776) (sx_aload_n (show decode cL_law 775 = .ok (.aload_n 1, 1) by decide +kernel) rfl) rfl
    (sb_cons (pc2 := 777) (sx_aload_n (show decode cL_law 776 = .ok (.aload_n 0, 1) by decide +kernel) rfl) rfl
    (sb_cons (pc2 := 778) (sx_iload_n (show decode cL_law 777 = .ok (.iload_n 3, 1) by decide +kernel) rfl) rfl
    (sb_cons (pc2 := 779) (sx_iconst (show decode cL_law 778 = .ok (.iconst 1, 1) by decide +kernel) (by decide)) rfl
    (sb_cons (pc2 := 780) (sx_iadd (show decode cL_law 779 = .ok (.iadd, 1) by decide +kernel)) rfl
    (sb_cons (pc2 := 781) (sx_iald (show decode cL_law 780 = .ok (.iaload, 1) by decide +kernel)) rfl
    (sb_cons (pc2 := 782) (sx_aload_n (show decode cL_law 781 = .ok (.aload_n 0, 1) by decide +kernel) rfl) rfl
    (sb_cons (pc2 := 783) (sx_iload_n (show decode cL_law 782 = .ok (.iload_n 3, 1) by decide +kernel) rfl) rfl
    (sb_cons (pc2 := 784) (sx_iconst (show decode cL_law 783 = .ok (.iconst 2, 1) by decide +kernel) (by decide)) rfl
    (sb_cons (pc2 := 785) (sx_iadd (show decode cL_law 784 = .ok (.iadd, 1) by decide +kernel)) rfl
    (sb_cons (pc2 := 786) (sx_iald (show decode cL_law 785 = .ok (.iaload, 1) by decide +kernel)) rfl
    (sb_cons (pc2 := 787) (sx_aload_n (show decode cL_law 786 = .ok (.aload_n 0, 1) by decide +kernel) rfl) rfl
    (sb_cons (pc2 := 788) (sx_iload_n (show decode cL_law 787 = .ok (.iload_n 3, 1) by decide +kernel) rfl) rfl
    (sb_cons (pc2 := 789) (sx_iconst (show decode cL_law 788 = .ok (.iconst 3, 1) by decide +kernel) (by decide)) rfl
    (sb_cons (pc2 := 790) (sx_iadd (show decode cL_law 789 = .ok (.iadd, 1) by decide +kernel)) rfl
    (sb_cons (pc2 := 791) (sx_iald (show decode cL_law 790 = .ok (.iaload, 1) by decide +kernel)) rfl
    (sb_cons (pc2 := 794) (sx_cV (Y' := YX11_row) (q := (RX11, TX11, 8)) rfl (show decode cL_law 791 = .ok (.invokevirtual 85, 3) by decide +kernel) rfl rfl (px_w4 wd_1086 wd_1087 wd_1088 wd_487) wd_1085 ⟨by decide, by decide, by decide +kernel⟩ (by decide)) rfl
    (sb_cons (pc2 := 795) (sx_aload_n (show decode cL_law 794 = .ok (.aload_n 2, 1) by decide +kernel) rfl) rfl
    (sb_cons (pc2 := 796) (sx_aload_n (show decode cL_law 795 = .ok (.aload_n 0, 1) by decide +kernel) rfl) rfl
    (sb_cons (pc2 := 797) (sx_iload_n (show decode cL_law 796 = .ok (.iload_n 3, 1) by decide +kernel) rfl) rfl
    (sb_cons (pc2 := 798) (sx_iconst (show decode cL_law 797 = .ok (.iconst 1, 1) by decide +kernel) (by decide)) rfl
    (sb_cons (pc2 := 799) (sx_iadd (show decode cL_law 798 = .ok (.iadd, 1) by decide +kernel)) rfl
    (sb_cons (pc2 := 800) (sx_iald (show decode cL_law 799 = .ok (.iaload, 1) by decide +kernel)) rfl
    (sb_cons (pc2 := 801) (sx_aload_n (show decode cL_law 800 = .ok (.aload_n 0, 1) by decide +kernel) rfl) rfl
    (sb_cons (pc2 := 802) (sx_iload_n (show decode cL_law 801 = .ok (.iload_n 3, 1) by decide +kernel) rfl) rfl
    (sb_cons (pc2 := 803) (sx_iconst (show decode cL_law 802 = .ok (.iconst 2, 1) by decide +kernel) (by decide)) rfl
    (sb_cons (pc2 := 804) (sx_iadd (show decode cL_law 803 = .ok (.iadd, 1) by decide +kernel)) rfl
    (sb_cons (pc2 := 805) (sx_iald (show decode cL_law 804 = .ok (.iaload, 1) by decide +kernel)) rfl
    (sb_cons (pc2 := 806) (sx_aload_n (show decode cL_law 805 = .ok (.aload_n 0, 1) by decide +kernel) rfl) rfl
    (sb_cons (pc2 := 807) (sx_iload_n (show decode cL_law 806 = .ok (.iload_n 3, 1) by decide +kernel) rfl) rfl
    (sb_cons (pc2 := 808) (sx_iconst (show decode cL_law 807 = .ok (.iconst 3, 1) by decide +kernel) (by decide)) rfl
    (sb_cons (pc2 := 809) (sx_iadd (show decode cL_law 808 = .ok (.iadd, 1) by decide +kernel)) rfl
    (sb_cons (pc2 := 810) (sx_iald (show decode cL_law 809 = .ok (.iaload, 1) by decide +kernel)) rfl
    (sb_cons (pc2 := 813) (sx_cV (Y' := YX12_row) (q := (RX12, TX12, 69)) rfl (show decode cL_law 810 = .ok (.invokevirtual 88, 3) by decide +kernel) rfl rfl (px_w4 wd_1090 wd_1091 wd_1092 wd_719) wd_1089 ⟨by decide, by decide, by decide +kernel⟩ (by decide)) rfl
    (sb_cons (pc2 := 816) (sx_icmp_eq (show decode cL_law 813 = .ok (.if_icmp .eq 755, 3) by decide +kernel) (by decide)) rfl
    (sb_cons (pc2 := 817) (sx_iconst (show decode cL_law 816 = .ok (.iconst 0, 1) by decide +kernel) (by decide)) rfl
    (sb_cons (pc2 := 818) (sx_retz (show decode cL_law 817 = .ok (.ireturn, 1) by decide +kernel) rfl) rfl sb_nil)))))))))))))))))))))))))))))))))))))
  (ms_cons
  (sb_cons (pc2 := 819) (sx_aload_n (show decode cL_law 818 = .ok (.aload_n 1, 1) by decide +kernel) rfl) rfl
    (sb_cons (pc2 := 820) (sx_aload_n (show decode cL_law 819 = .ok (.aload_n 0, 1) by decide +kernel) rfl) rfl
    (sb_cons (pc2 := 821) (sx_iload_n (show decode cL_law 820 = .ok (.iload_n 3, 1) by decide +kernel) rfl) rfl
    (sb_cons (pc2 := 822) (sx_iconst (show decode cL_law 821 = .ok (.iconst 1, 1) by decide +kernel) (by decide)) rfl
    (sb_cons (pc2 := 823) (sx_iadd (show decode cL_law 822 = .ok (.iadd, 1) by decide +kernel)) rfl
    (sb_cons (pc2 := 824) (sx_iald (show decode cL_law 823 = .ok (.iaload, 1) by decide +kernel)) rfl
    (sb_cons (pc2 := 825) (sx_aload_n (show decode cL_law 824 = .ok (.aload_n 0, 1) by decide +kernel) rfl) rfl
    (sb_cons (pc2 := 826) (sx_iload_n (show decode cL_law 825 = .ok (.iload_n 3, 1) by decide +kernel) rfl) rfl
    (sb_cons (pc2 := 827) (sx_iconst (show decode cL_law 826 = .ok (.iconst 2, 1) by decide +kernel) (by decide)) rfl
    (sb_cons (pc2 := 828) (sx_iadd (show decode cL_law 827 = .ok (.iadd, 1) by decide +kernel)) rfl
    (sb_cons (pc2 := 829) (sx_iald (show decode cL_law 828 = .ok (.iaload, 1) by decide +kernel)) rfl
    (sb_cons (pc2 := 830) (sx_aload_n (show decode cL_law 829 = .ok (.aload_n 0, 1) by decide +kernel) rfl) rfl
    (sb_cons (pc2 := 831) (sx_iload_n (show decode cL_law 830 = .ok (.iload_n 3, 1) by decide +kernel) rfl) rfl
    (sb_cons (pc2 := 832) (sx_iconst (show decode cL_law 831 = .ok (.iconst 3, 1) by decide +kernel) (by decide)) rfl
    (sb_cons (pc2 := 833) (sx_iadd (show decode cL_law 832 = .ok (.iadd, 1) by decide +kernel)) rfl
    (sb_cons (pc2 := 834) (sx_iald (show decode cL_law 833 = .ok (.iaload, 1) by decide +kernel)) rfl
    (sb_cons (pc2 := 835) (sx_aload_n (show decode cL_law 834 = .ok (.aload_n 0, 1) by decide +kernel) rfl) rfl
    (sb_cons (pc2 := 836) (sx_iload_n (show decode cL_law 835 = .ok (.iload_n 3, 1) by decide +kernel) rfl) rfl
    (sb_cons (pc2 := 837) (sx_iconst (show decode cL_law 836 = .ok (.iconst 4, 1) by decide +kernel) (by decide)) rfl
    (sb_cons (pc2 := 838) (sx_iadd (show decode cL_law 837 = .ok (.iadd, 1) by decide +kernel)) rfl
    (sb_cons (pc2 := 839) (sx_iald (show decode cL_law 838 = .ok (.iaload, 1) by decide +kernel)) rfl
    (sb_cons (pc2 := 840) (sx_aload_n (show decode cL_law 839 = .ok (.aload_n 0, 1) by decide +kernel) rfl) rfl
    (sb_cons (pc2 := 841) (sx_iload_n (show decode cL_law 840 = .ok (.iload_n 3, 1) by decide +kernel) rfl) rfl
    (sb_cons (pc2 := 842) (sx_iconst (show decode cL_law 841 = .ok (.iconst 5, 1) by decide +kernel) (by decide)) rfl
    (sb_cons (pc2 := 843) (sx_iadd (show decode cL_law 842 = .ok (.iadd, 1) by decide +kernel)) rfl
    (sb_cons (pc2 := 844) (sx_iald (show decode cL_law 843 = .ok (.iaload, 1) by decide +kernel)) rfl
    (sb_cons (pc2 := 847) (sx_cV (Y' := YX11_dive) (q := (RX11, TX11, 8)) rfl (show decode cL_law 844 = .ok (.invokevirtual 89, 3) by decide +kernel) rfl rfl (px_w4 wd_1094 wd_1095 wd_1096 wd_487) wd_1093 ⟨by decide, by decide, by decide +kernel⟩ (by decide)) rfl
    (sb_cons (pc2 := 848) (sx_aload_n (show decode cL_law 847 = .ok (.aload_n 2, 1) by decide +kernel) rfl) rfl
    (sb_cons (pc2 := 849) (sx_aload_n (show decode cL_law 848 = .ok (.aload_n 0, 1) by decide +kernel) rfl) rfl
    (sb_cons (pc2 := 850) (sx_iload_n (show decode cL_law 849 = .ok (.iload_n 3, 1) by decide +kernel) rfl) rfl
    (sb_cons (pc2 := 851) (sx_iconst (show decode cL_law 850 = .ok (.iconst 1, 1) by decide +kernel) (by decide)) rfl
    (sb_cons (pc2 := 852) (sx_iadd (show decode cL_law 851 = .ok (.iadd, 1) by decide +kernel)) rfl
    (sb_cons (pc2 := 853) (sx_iald (show decode cL_law 852 = .ok (.iaload, 1) by decide +kernel)) rfl
    (sb_cons (pc2 := 854) (sx_aload_n (show decode cL_law 853 = .ok (.aload_n 0, 1) by decide +kernel) rfl) rfl
    (sb_cons (pc2 := 855) (sx_iload_n (show decode cL_law 854 = .ok (.iload_n 3, 1) by decide +kernel) rfl) rfl
    (sb_cons (pc2 := 856) (sx_iconst (show decode cL_law 855 = .ok (.iconst 2, 1) by decide +kernel) (by decide)) rfl
    (sb_cons (pc2 := 857) (sx_iadd (show decode cL_law 856 = .ok (.iadd, 1) by decide +kernel)) rfl
    (sb_cons (pc2 := 858) (sx_iald (show decode cL_law 857 = .ok (.iaload, 1) by decide +kernel)) rfl
    (sb_cons (pc2 := 859) (sx_aload_n (show decode cL_law 858 = .ok (.aload_n 0, 1) by decide +kernel) rfl) rfl
    (sb_cons (pc2 := 860) (sx_iload_n (show decode cL_law 859 = .ok (.iload_n 3, 1) by decide +kernel) rfl) rfl
    (sb_cons (pc2 := 861) (sx_iconst (show decode cL_law 860 = .ok (.iconst 3, 1) by decide +kernel) (by decide)) rfl
    (sb_cons (pc2 := 862) (sx_iadd (show decode cL_law 861 = .ok (.iadd, 1) by decide +kernel)) rfl
    (sb_cons (pc2 := 863) (sx_iald (show decode cL_law 862 = .ok (.iaload, 1) by decide +kernel)) rfl
    (sb_cons (pc2 := 864) (sx_aload_n (show decode cL_law 863 = .ok (.aload_n 0, 1) by decide +kernel) rfl) rfl
    (sb_cons (pc2 := 865) (sx_iload_n (show decode cL_law 864 = .ok (.iload_n 3, 1) by decide +kernel) rfl) rfl
    (sb_cons (pc2 := 866) (sx_iconst (show decode cL_law 865 = .ok (.iconst 4, 1) by decide +kernel) (by decide)) rfl
    (sb_cons (pc2 := 867) (sx_iadd (show decode cL_law 866 = .ok (.iadd, 1) by decide +kernel)) rfl
    (sb_cons (pc2 := 868) (sx_iald (show decode cL_law 867 = .ok (.iaload, 1) by decide +kernel)) rfl
    (sb_cons (pc2 := 869) (sx_aload_n (show decode cL_law 868 = .ok (.aload_n 0, 1) by decide +kernel) rfl) rfl
    (sb_cons (pc2 := 870) (sx_iload_n (show decode cL_law 869 = .ok (.iload_n 3, 1) by decide +kernel) rfl) rfl
    (sb_cons (pc2 := 871) (sx_iconst (show decode cL_law 870 = .ok (.iconst 5, 1) by decide +kernel) (by decide)) rfl
    (sb_cons (pc2 := 872) (sx_iadd (show decode cL_law 871 = .ok (.iadd, 1) by decide +kernel)) rfl
    (sb_cons (pc2 := 873) (sx_iald (show decode cL_law 872 = .ok (.iaload, 1) by decide +kernel)) rfl
    (sb_cons (pc2 := 876) (sx_cV (Y' := YX12_dive) (q := (RX12, TX12, 69)) rfl (show decode cL_law 873 = .ok (.invokevirtual 93, 3) by decide +kernel) rfl rfl (px_w4 wd_1098 wd_1099 wd_1100 wd_719) wd_1097 ⟨by decide, by decide, by decide +kernel⟩ (by decide)) rfl
    (sb_cons (pc2 := 879) (sx_icmp_eq (show decode cL_law 876 = .ok (.if_icmp .eq 692, 3) by decide +kernel) (by decide)) rfl
    (sb_cons (pc2 := 880) (sx_iconst (show decode cL_law 879 = .ok (.iconst 0, 1) by decide +kernel) (by decide)) rfl
    (sb_cons (pc2 := 881) (sx_retz (show decode cL_law 880 = .ok (.ireturn, 1) by decide +kernel) rfl) rfl sb_nil)))))))))))))))))))))))))))))))))))))))))))))))))))))))))
  (ms_cons
  (sb_cons (pc2 := 882) (sx_aload_n (show decode cL_law 881 = .ok (.aload_n 1, 1) by decide +kernel) rfl) rfl
    (sb_cons (pc2 := 885) (sx_cV (Y' := YX11_cancel) (q := (RX11, TX11, 8)) rfl (show decode cL_law 882 = .ok (.invokevirtual 94, 3) by decide +kernel) rfl rfl (px_w4 wd_1102 wd_1103 wd_1104 wd_487) wd_1101 ⟨by decide, by decide, by decide +kernel⟩ (by decide)) rfl
    (sb_cons (pc2 := 886) (sx_aload_n (show decode cL_law 885 = .ok (.aload_n 2, 1) by decide +kernel) rfl) rfl
    (sb_cons (pc2 := 889) (sx_cV (Y' := YX12_cancel) (q := (RX12, TX12, 69)) rfl (show decode cL_law 886 = .ok (.invokevirtual 97, 3) by decide +kernel) rfl rfl (px_w4 wd_1106 wd_1107 wd_1108 wd_719) wd_1105 ⟨by decide, by decide, by decide +kernel⟩ (by decide)) rfl
    (sb_cons (pc2 := 892) (sx_icmp_eq (show decode cL_law 889 = .ok (.if_icmp .eq 679, 3) by decide +kernel) (by decide)) rfl
    (sb_cons (pc2 := 893) (sx_iconst (show decode cL_law 892 = .ok (.iconst 0, 1) by decide +kernel) (by decide)) rfl
    (sb_cons (pc2 := 894) (sx_retz (show decode cL_law 893 = .ok (.ireturn, 1) by decide +kernel) rfl) rfl sb_nil)))))))
  (ms_cons
  (sb_cons (pc2 := 895) (sx_aload_n (show decode cL_law 894 = .ok (.aload_n 1, 1) by decide +kernel) rfl) rfl
    (sb_cons (pc2 := 896) (sx_aload_n (show decode cL_law 895 = .ok (.aload_n 0, 1) by decide +kernel) rfl) rfl
    (sb_cons (pc2 := 897) (sx_iload_n (show decode cL_law 896 = .ok (.iload_n 3, 1) by decide +kernel) rfl) rfl
    (sb_cons (pc2 := 898) (sx_iconst (show decode cL_law 897 = .ok (.iconst 1, 1) by decide +kernel) (by decide)) rfl
    (sb_cons (pc2 := 899) (sx_iadd (show decode cL_law 898 = .ok (.iadd, 1) by decide +kernel)) rfl
    (sb_cons (pc2 := 900) (sx_iald (show decode cL_law 899 = .ok (.iaload, 1) by decide +kernel)) rfl
    (sb_cons (pc2 := 901) (sx_aload_n (show decode cL_law 900 = .ok (.aload_n 0, 1) by decide +kernel) rfl) rfl
    (sb_cons (pc2 := 902) (sx_iload_n (show decode cL_law 901 = .ok (.iload_n 3, 1) by decide +kernel) rfl) rfl
    (sb_cons (pc2 := 903) (sx_iconst (show decode cL_law 902 = .ok (.iconst 2, 1) by decide +kernel) (by decide)) rfl
    (sb_cons (pc2 := 904) (sx_iadd (show decode cL_law 903 = .ok (.iadd, 1) by decide +kernel)) rfl
    (sb_cons (pc2 := 905) (sx_iald (show decode cL_law 904 = .ok (.iaload, 1) by decide +kernel)) rfl
    (sb_cons (pc2 := 908) (sx_cV (Y' := YX11_under) (q := (RX11, TX11, 8)) rfl (show decode cL_law 905 = .ok (.invokevirtual 98, 3) by decide +kernel) rfl rfl (px_w4 wd_1110 wd_1111 wd_1112 wd_487) wd_1109 ⟨by decide, by decide, by decide +kernel⟩ (by decide)) rfl
    (sb_cons (pc2 := 909) (sx_aload_n (show decode cL_law 908 = .ok (.aload_n 2, 1) by decide +kernel) rfl) rfl
    (sb_cons (pc2 := 910) (sx_aload_n (show decode cL_law 909 = .ok (.aload_n 0, 1) by decide +kernel) rfl) rfl
    (sb_cons (pc2 := 911) (sx_iload_n (show decode cL_law 910 = .ok (.iload_n 3, 1) by decide +kernel) rfl) rfl
    (sb_cons (pc2 := 912) (sx_iconst (show decode cL_law 911 = .ok (.iconst 1, 1) by decide +kernel) (by decide)) rfl
    (sb_cons (pc2 := 913) (sx_iadd (show decode cL_law 912 = .ok (.iadd, 1) by decide +kernel)) rfl
    (sb_cons (pc2 := 914) (sx_iald (show decode cL_law 913 = .ok (.iaload, 1) by decide +kernel)) rfl
    (sb_cons (pc2 := 915) (sx_aload_n (show decode cL_law 914 = .ok (.aload_n 0, 1) by decide +kernel) rfl) rfl
    (sb_cons (pc2 := 916) (sx_iload_n (show decode cL_law 915 = .ok (.iload_n 3, 1) by decide +kernel) rfl) rfl
    (sb_cons (pc2 := 917) (sx_iconst (show decode cL_law 916 = .ok (.iconst 2, 1) by decide +kernel) (by decide)) rfl
    (sb_cons (pc2 := 918) (sx_iadd (show decode cL_law 917 = .ok (.iadd, 1) by decide +kernel)) rfl
    (sb_cons (pc2 := 919) (sx_iald (show decode cL_law 918 = .ok (.iaload, 1) by decide +kernel)) rfl
    (sb_cons (pc2 := 922) (sx_cV (Y' := YX12_under) (q := (RX12, TX12, 69)) rfl (show decode cL_law 919 = .ok (.invokevirtual 101, 3) by decide +kernel) rfl rfl (px_w4 wd_1114 wd_1115 wd_1116 wd_719) wd_1113 ⟨by decide, by decide, by decide +kernel⟩ (by decide)) rfl
    (sb_cons (pc2 := 925) (sx_icmp_eq (show decode cL_law 922 = .ok (.if_icmp .eq 646, 3) by decide +kernel) (by decide)) rfl
    (sb_cons (pc2 := 926) (sx_iconst (show decode cL_law 925 = .ok (.iconst 0, 1) by decide +kernel) (by decide)) rfl
    (sb_cons (pc2 := 927) (sx_retz (show decode cL_law 926 = .ok (.ireturn, 1) by decide +kernel) rfl) rfl sb_nil)))))))))))))))))))))))))))
  (ms_cons
  (sb_cons (pc2 := 928) (sx_aload_n (show decode cL_law 927 = .ok (.aload_n 1, 1) by decide +kernel) rfl) rfl
    (sb_cons (pc2 := 929) (sx_aload_n (show decode cL_law 928 = .ok (.aload_n 0, 1) by decide +kernel) rfl) rfl
    (sb_cons (pc2 := 930) (sx_iload_n (show decode cL_law 929 = .ok (.iload_n 3, 1) by decide +kernel) rfl) rfl
    (sb_cons (pc2 := 931) (sx_iconst (show decode cL_law 930 = .ok (.iconst 1, 1) by decide +kernel) (by decide)) rfl
    (sb_cons (pc2 := 932) (sx_iadd (show decode cL_law 931 = .ok (.iadd, 1) by decide +kernel)) rfl
    (sb_cons (pc2 := 933) (sx_iald (show decode cL_law 932 = .ok (.iaload, 1) by decide +kernel)) rfl
    (sb_cons (pc2 := 934) (sx_aload_n (show decode cL_law 933 = .ok (.aload_n 0, 1) by decide +kernel) rfl) rfl
    (sb_cons (pc2 := 935) (sx_iload_n (show decode cL_law 934 = .ok (.iload_n 3, 1) by decide +kernel) rfl) rfl
    (sb_cons (pc2 := 936) (sx_iconst (show decode cL_law 935 = .ok (.iconst 2, 1) by decide +kernel) (by decide)) rfl
    (sb_cons (pc2 := 937) (sx_iadd (show decode cL_law 936 = .ok (.iadd, 1) by decide +kernel)) rfl
    (sb_cons (pc2 := 938) (sx_iald (show decode cL_law 937 = .ok (.iaload, 1) by decide +kernel)) rfl
    (sb_cons (pc2 := 939) (sx_aload_n (show decode cL_law 938 = .ok (.aload_n 0, 1) by decide +kernel) rfl) rfl
    (sb_cons (pc2 := 940) (sx_iload_n (show decode cL_law 939 = .ok (.iload_n 3, 1) by decide +kernel) rfl) rfl
    (sb_cons (pc2 := 941) (sx_iconst (show decode cL_law 940 = .ok (.iconst 3, 1) by decide +kernel) (by decide)) rfl
    (sb_cons (pc2 := 942) (sx_iadd (show decode cL_law 941 = .ok (.iadd, 1) by decide +kernel)) rfl
    (sb_cons (pc2 := 943) (sx_iald (show decode cL_law 942 = .ok (.iaload, 1) by decide +kernel)) rfl
    (sb_cons (pc2 := 944) (sx_aload_n (show decode cL_law 943 = .ok (.aload_n 0, 1) by decide +kernel) rfl) rfl
    (sb_cons (pc2 := 945) (sx_iload_n (show decode cL_law 944 = .ok (.iload_n 3, 1) by decide +kernel) rfl) rfl
    (sb_cons (pc2 := 946) (sx_iconst (show decode cL_law 945 = .ok (.iconst 4, 1) by decide +kernel) (by decide)) rfl
    (sb_cons (pc2 := 947) (sx_iadd (show decode cL_law 946 = .ok (.iadd, 1) by decide +kernel)) rfl
    (sb_cons (pc2 := 948) (sx_iald (show decode cL_law 947 = .ok (.iaload, 1) by decide +kernel)) rfl
    (sb_cons (pc2 := 949) (sx_aload_n (show decode cL_law 948 = .ok (.aload_n 0, 1) by decide +kernel) rfl) rfl
    (sb_cons (pc2 := 950) (sx_iload_n (show decode cL_law 949 = .ok (.iload_n 3, 1) by decide +kernel) rfl) rfl
    (sb_cons (pc2 := 951) (sx_iconst (show decode cL_law 950 = .ok (.iconst 5, 1) by decide +kernel) (by decide)) rfl
    (sb_cons (pc2 := 952) (sx_iadd (show decode cL_law 951 = .ok (.iadd, 1) by decide +kernel)) rfl
    (sb_cons (pc2 := 953) (sx_iald (show decode cL_law 952 = .ok (.iaload, 1) by decide +kernel)) rfl
    (sb_cons (pc2 := 956) (sx_cV (Y' := YX11_soonest) (q := (RX11, TX11, 8)) rfl (show decode cL_law 953 = .ok (.invokevirtual 102, 3) by decide +kernel) rfl rfl (px_w4 wd_1118 wd_1119 wd_1120 wd_487) wd_1117 ⟨by decide, by decide, by decide +kernel⟩ (by decide)) rfl
    (sb_cons (pc2 := 957) (sx_aload_n (show decode cL_law 956 = .ok (.aload_n 2, 1) by decide +kernel) rfl) rfl
    (sb_cons (pc2 := 958) (sx_aload_n (show decode cL_law 957 = .ok (.aload_n 0, 1) by decide +kernel) rfl) rfl
    (sb_cons (pc2 := 959) (sx_iload_n (show decode cL_law 958 = .ok (.iload_n 3, 1) by decide +kernel) rfl) rfl
    (sb_cons (pc2 := 960) (sx_iconst (show decode cL_law 959 = .ok (.iconst 1, 1) by decide +kernel) (by decide)) rfl
    (sb_cons (pc2 := 961) (sx_iadd (show decode cL_law 960 = .ok (.iadd, 1) by decide +kernel)) rfl
    (sb_cons (pc2 := 962) (sx_iald (show decode cL_law 961 = .ok (.iaload, 1) by decide +kernel)) rfl
    (sb_cons (pc2 := 963) (sx_aload_n (show decode cL_law 962 = .ok (.aload_n 0, 1) by decide +kernel) rfl) rfl
    (sb_cons (pc2 := 964) (sx_iload_n (show decode cL_law 963 = .ok (.iload_n 3, 1) by decide +kernel) rfl) rfl
    (sb_cons (pc2 := 965) (sx_iconst (show decode cL_law 964 = .ok (.iconst 2, 1) by decide +kernel) (by decide)) rfl
    (sb_cons (pc2 := 966) (sx_iadd (show decode cL_law 965 = .ok (.iadd, 1) by decide +kernel)) rfl
    (sb_cons (pc2 := 967) (sx_iald (show decode cL_law 966 = .ok (.iaload, 1) by decide +kernel)) rfl
    (sb_cons (pc2 := 968) (sx_aload_n (show decode cL_law 967 = .ok (.aload_n 0, 1) by decide +kernel) rfl) rfl
    (sb_cons (pc2 := 969) (sx_iload_n (show decode cL_law 968 = .ok (.iload_n 3, 1) by decide +kernel) rfl) rfl
    (sb_cons (pc2 := 970) (sx_iconst (show decode cL_law 969 = .ok (.iconst 3, 1) by decide +kernel) (by decide)) rfl
    (sb_cons (pc2 := 971) (sx_iadd (show decode cL_law 970 = .ok (.iadd, 1) by decide +kernel)) rfl
    (sb_cons (pc2 := 972) (sx_iald (show decode cL_law 971 = .ok (.iaload, 1) by decide +kernel)) rfl
    (sb_cons (pc2 := 973) (sx_aload_n (show decode cL_law 972 = .ok (.aload_n 0, 1) by decide +kernel) rfl) rfl
    (sb_cons (pc2 := 974) (sx_iload_n (show decode cL_law 973 = .ok (.iload_n 3, 1) by decide +kernel) rfl) rfl
    (sb_cons (pc2 := 975) (sx_iconst (show decode cL_law 974 = .ok (.iconst 4, 1) by decide +kernel) (by decide)) rfl
    (sb_cons (pc2 := 976) (sx_iadd (show decode cL_law 975 = .ok (.iadd, 1) by decide +kernel)) rfl
    (sb_cons (pc2 := 977) (sx_iald (show decode cL_law 976 = .ok (.iaload, 1) by decide +kernel)) rfl
    (sb_cons (pc2 := 978) (sx_aload_n (show decode cL_law 977 = .ok (.aload_n 0, 1) by decide +kernel) rfl) rfl
    (sb_cons (pc2 := 979) (sx_iload_n (show decode cL_law 978 = .ok (.iload_n 3, 1) by decide +kernel) rfl) rfl
    (sb_cons (pc2 := 980) (sx_iconst (show decode cL_law 979 = .ok (.iconst 5, 1) by decide +kernel) (by decide)) rfl
    (sb_cons (pc2 := 981) (sx_iadd (show decode cL_law 980 = .ok (.iadd, 1) by decide +kernel)) rfl
    (sb_cons (pc2 := 982) (sx_iald (show decode cL_law 981 = .ok (.iaload, 1) by decide +kernel)) rfl
    (sb_cons (pc2 := 985) (sx_cV (Y' := YX12_soonest) (q := (RX12, TX12, 69)) rfl (show decode cL_law 982 = .ok (.invokevirtual 105, 3) by decide +kernel) rfl rfl (px_w4 wd_1122 wd_1123 wd_1124 wd_719) wd_1121 ⟨by decide, by decide, by decide +kernel⟩ (by decide)) rfl
    (sb_cons (pc2 := 988) (sx_icmp_eq (show decode cL_law 985 = .ok (.if_icmp .eq 583, 3) by decide +kernel) (by decide)) rfl
    (sb_cons (pc2 := 989) (sx_iconst (show decode cL_law 988 = .ok (.iconst 0, 1) by decide +kernel) (by decide)) rfl
    (sb_cons (pc2 := 990) (sx_retz (show decode cL_law 989 = .ok (.ireturn, 1) by decide +kernel) rfl) rfl sb_nil)))))))))))))))))))))))))))))))))))))))))))))))))))))))))
  (ms_cons
  (sb_cons (pc2 := 991) (sx_aload_n (show decode cL_law 990 = .ok (.aload_n 1, 1) by decide +kernel) rfl) rfl
    (sb_cons (pc2 := 992) (sx_aload_n (show decode cL_law 991 = .ok (.aload_n 0, 1) by decide +kernel) rfl) rfl
    (sb_cons (pc2 := 993) (sx_iload_n (show decode cL_law 992 = .ok (.iload_n 3, 1) by decide +kernel) rfl) rfl
    (sb_cons (pc2 := 994) (sx_iconst (show decode cL_law 993 = .ok (.iconst 1, 1) by decide +kernel) (by decide)) rfl
    (sb_cons (pc2 := 995) (sx_iadd (show decode cL_law 994 = .ok (.iadd, 1) by decide +kernel)) rfl
    (sb_cons (pc2 := 996) (sx_iald (show decode cL_law 995 = .ok (.iaload, 1) by decide +kernel)) rfl
    (sb_cons (pc2 := 997) (sx_aload_n (show decode cL_law 996 = .ok (.aload_n 0, 1) by decide +kernel) rfl) rfl
    (sb_cons (pc2 := 998) (sx_iload_n (show decode cL_law 997 = .ok (.iload_n 3, 1) by decide +kernel) rfl) rfl
    (sb_cons (pc2 := 999) (sx_iconst (show decode cL_law 998 = .ok (.iconst 2, 1) by decide +kernel) (by decide)) rfl
    (sb_cons (pc2 := 1000) (sx_iadd (show decode cL_law 999 = .ok (.iadd, 1) by decide +kernel)) rfl
    (sb_cons (pc2 := 1001) (sx_iald (show decode cL_law 1000 = .ok (.iaload, 1) by decide +kernel)) rfl
    (sb_cons (pc2 := 1002) (sx_i2l (show decode cL_law 1001 = .ok (.i2l, 1) by decide +kernel)) rfl
    (sb_cons (pc2 := 1004) (sx_bipush (show decode cL_law 1002 = .ok (.bipush 32, 2) by decide +kernel) (by decide)) rfl
    (sb_cons (pc2 := 1005) (sx_lshl (show decode cL_law 1004 = .ok (.lshl, 1) by decide +kernel)) rfl
    (sb_cons (pc2 := 1006) (sx_aload_n (show decode cL_law 1005 = .ok (.aload_n 0, 1) by decide +kernel) rfl) rfl
    (sb_cons (pc2 := 1007) (sx_iload_n (show decode cL_law 1006 = .ok (.iload_n 3, 1) by decide +kernel) rfl) rfl
    (sb_cons (pc2 := 1008) (sx_iconst (show decode cL_law 1007 = .ok (.iconst 3, 1) by decide +kernel) (by decide)) rfl
    (sb_cons (pc2 := 1009) (sx_iadd (show decode cL_law 1008 = .ok (.iadd, 1) by decide +kernel)) rfl
    (sb_cons (pc2 := 1010) (sx_iald (show decode cL_law 1009 = .ok (.iaload, 1) by decide +kernel)) rfl
    (sb_cons (pc2 := 1011) (sx_i2l (show decode cL_law 1010 = .ok (.i2l, 1) by decide +kernel)) rfl
    (sb_cons (pc2 := 1014) (sx_ldc2 (show decode cL_law 1011 = .ok (.ldc2_w 106, 3) by decide +kernel) wd_1125) rfl
    (sb_cons (pc2 := 1015) (sx_land (show decode cL_law 1014 = .ok (.land, 1) by decide +kernel)) rfl
    (sb_cons (pc2 := 1016) (sx_lor (show decode cL_law 1015 = .ok (.lor, 1) by decide +kernel)) rfl
    (sb_cons (pc2 := 1019) (sx_cV (Y' := YX11_feed) (q := (RX11, TX11, 8)) rfl (show decode cL_law 1016 = .ok (.invokevirtual 108, 3) by decide +kernel) rfl rfl (px_w4 wd_1127 wd_1128 wd_1129 wd_487) wd_1126 ⟨by decide, by decide, by decide +kernel⟩ (by decide)) rfl
    (sb_cons (pc2 := 1020) (sx_aload_n (show decode cL_law 1019 = .ok (.aload_n 2, 1) by decide +kernel) rfl) rfl
    (sb_cons (pc2 := 1021) (sx_aload_n (show decode cL_law 1020 = .ok (.aload_n 0, 1) by decide +kernel) rfl) rfl
    (sb_cons (pc2 := 1022) (sx_iload_n (show decode cL_law 1021 = .ok (.iload_n 3, 1) by decide +kernel) rfl) rfl
    (sb_cons (pc2 := 1023) (sx_iconst (show decode cL_law 1022 = .ok (.iconst 1, 1) by decide +kernel) (by decide)) rfl
    (sb_cons (pc2 := 1024) (sx_iadd (show decode cL_law 1023 = .ok (.iadd, 1) by decide +kernel)) rfl
    (sb_cons (pc2 := 1025) (sx_iald (show decode cL_law 1024 = .ok (.iaload, 1) by decide +kernel)) rfl
    (sb_cons (pc2 := 1026) (sx_aload_n (show decode cL_law 1025 = .ok (.aload_n 0, 1) by decide +kernel) rfl) rfl
    (sb_cons (pc2 := 1027) (sx_iload_n (show decode cL_law 1026 = .ok (.iload_n 3, 1) by decide +kernel) rfl) rfl
    (sb_cons (pc2 := 1028) (sx_iconst (show decode cL_law 1027 = .ok (.iconst 2, 1) by decide +kernel) (by decide)) rfl
    (sb_cons (pc2 := 1029) (sx_iadd (show decode cL_law 1028 = .ok (.iadd, 1) by decide +kernel)) rfl
    (sb_cons (pc2 := 1030) (sx_iald (show decode cL_law 1029 = .ok (.iaload, 1) by decide +kernel)) rfl
    (sb_cons (pc2 := 1031) (sx_i2l (show decode cL_law 1030 = .ok (.i2l, 1) by decide +kernel)) rfl
    (sb_cons (pc2 := 1033) (sx_bipush (show decode cL_law 1031 = .ok (.bipush 32, 2) by decide +kernel) (by decide)) rfl
    (sb_cons (pc2 := 1034) (sx_lshl (show decode cL_law 1033 = .ok (.lshl, 1) by decide +kernel)) rfl
    (sb_cons (pc2 := 1035) (sx_aload_n (show decode cL_law 1034 = .ok (.aload_n 0, 1) by decide +kernel) rfl) rfl
    (sb_cons (pc2 := 1036) (sx_iload_n (show decode cL_law 1035 = .ok (.iload_n 3, 1) by decide +kernel) rfl) rfl
    (sb_cons (pc2 := 1037) (sx_iconst (show decode cL_law 1036 = .ok (.iconst 3, 1) by decide +kernel) (by decide)) rfl
    (sb_cons (pc2 := 1038) (sx_iadd (show decode cL_law 1037 = .ok (.iadd, 1) by decide +kernel)) rfl
    (sb_cons (pc2 := 1039) (sx_iald (show decode cL_law 1038 = .ok (.iaload, 1) by decide +kernel)) rfl
    (sb_cons (pc2 := 1040) (sx_i2l (show decode cL_law 1039 = .ok (.i2l, 1) by decide +kernel)) rfl
    (sb_cons (pc2 := 1043) (sx_ldc2 (show decode cL_law 1040 = .ok (.ldc2_w 106, 3) by decide +kernel) wd_1125) rfl
    (sb_cons (pc2 := 1044) (sx_land (show decode cL_law 1043 = .ok (.land, 1) by decide +kernel)) rfl
    (sb_cons (pc2 := 1045) (sx_lor (show decode cL_law 1044 = .ok (.lor, 1) by decide +kernel)) rfl
    (sb_cons (pc2 := 1048) (sx_cV (Y' := YX12_feed) (q := (RX12, TX12, 69)) rfl (show decode cL_law 1045 = .ok (.invokevirtual 112, 3) by decide +kernel) rfl rfl (px_w4 wd_1131 wd_1132 wd_1133 wd_719) wd_1130 ⟨by decide, by decide, by decide +kernel⟩ (by decide)) rfl
    (sb_cons (pc2 := 1051) (sx_icmp_eq (show decode cL_law 1048 = .ok (.if_icmp .eq 520, 3) by decide +kernel) (by decide)) rfl
    (sb_cons (pc2 := 1052) (sx_iconst (show decode cL_law 1051 = .ok (.iconst 0, 1) by decide +kernel) (by decide)) rfl
    (sb_cons (pc2 := 1053) (sx_retz (show decode cL_law 1052 = .ok (.ireturn, 1) by decide +kernel) rfl) rfl sb_nil)))))))))))))))))))))))))))))))))))))))))))))))))))
  (ms_cons
  (sb_cons (pc2 := 1054) (sx_aload_n (show decode cL_law 1053 = .ok (.aload_n 1, 1) by decide +kernel) rfl) rfl
    (sb_cons (pc2 := 1057) (sx_cV (Y' := YX11_rule) (q := (RX11, TX11, 8)) rfl (show decode cL_law 1054 = .ok (.invokevirtual 113, 3) by decide +kernel) rfl rfl (px_w4 wd_1135 wd_1136 wd_1137 wd_487) wd_1134 ⟨by decide, by decide, by decide +kernel⟩ (by decide)) rfl
    (sb_cons (pc2 := 1058) (sx_aload_n (show decode cL_law 1057 = .ok (.aload_n 2, 1) by decide +kernel) rfl) rfl
    (sb_cons (pc2 := 1061) (sx_cV (Y' := YX12_rule) (q := (RX12, TX12, 69)) rfl (show decode cL_law 1058 = .ok (.invokevirtual 116, 3) by decide +kernel) rfl rfl (px_w4 wd_1139 wd_1140 wd_1141 wd_719) wd_1138 ⟨by decide, by decide, by decide +kernel⟩ (by decide)) rfl
    (sb_cons (pc2 := 1064) (sx_icmp_eq (show decode cL_law 1061 = .ok (.if_icmp .eq 507, 3) by decide +kernel) (by decide)) rfl
    (sb_cons (pc2 := 1065) (sx_iconst (show decode cL_law 1064 = .ok (.iconst 0, 1) by decide +kernel) (by decide)) rfl
    (sb_cons (pc2 := 1066) (sx_retz (show decode cL_law 1065 = .ok (.ireturn, 1) by decide +kernel) rfl) rfl sb_nil)))))))
  (ms_cons
  (sb_cons (pc2 := 1067) (sx_aload_n (show decode cL_law 1066 = .ok (.aload_n 1, 1) by decide +kernel) rfl) rfl
    (sb_cons (pc2 := 1068) (sx_aload_n (show decode cL_law 1067 = .ok (.aload_n 0, 1) by decide +kernel) rfl) rfl
    (sb_cons (pc2 := 1069) (sx_iload_n (show decode cL_law 1068 = .ok (.iload_n 3, 1) by decide +kernel) rfl) rfl
    (sb_cons (pc2 := 1070) (sx_iconst (show decode cL_law 1069 = .ok (.iconst 1, 1) by decide +kernel) (by decide)) rfl
    (sb_cons (pc2 := 1071) (sx_iadd (show decode cL_law 1070 = .ok (.iadd, 1) by decide +kernel)) rfl
    (sb_cons (pc2 := 1072) (sx_iald (show decode cL_law 1071 = .ok (.iaload, 1) by decide +kernel)) rfl
    (sb_cons (pc2 := 1073) (sx_aload_n (show decode cL_law 1072 = .ok (.aload_n 0, 1) by decide +kernel) rfl) rfl
    (sb_cons (pc2 := 1074) (sx_iload_n (show decode cL_law 1073 = .ok (.iload_n 3, 1) by decide +kernel) rfl) rfl
    (sb_cons (pc2 := 1075) (sx_iconst (show decode cL_law 1074 = .ok (.iconst 2, 1) by decide +kernel) (by decide)) rfl
    (sb_cons (pc2 := 1076) (sx_iadd (show decode cL_law 1075 = .ok (.iadd, 1) by decide +kernel)) rfl
    (sb_cons (pc2 := 1077) (sx_iald (show decode cL_law 1076 = .ok (.iaload, 1) by decide +kernel)) rfl
    (sb_cons (pc2 := 1078) (sx_aload_n (show decode cL_law 1077 = .ok (.aload_n 0, 1) by decide +kernel) rfl) rfl
    (sb_cons (pc2 := 1079) (sx_iload_n (show decode cL_law 1078 = .ok (.iload_n 3, 1) by decide +kernel) rfl) rfl
    (sb_cons (pc2 := 1080) (sx_iconst (show decode cL_law 1079 = .ok (.iconst 3, 1) by decide +kernel) (by decide)) rfl
    (sb_cons (pc2 := 1081) (sx_iadd (show decode cL_law 1080 = .ok (.iadd, 1) by decide +kernel)) rfl
    (sb_cons (pc2 := 1082) (sx_iald (show decode cL_law 1081 = .ok (.iaload, 1) by decide +kernel)) rfl
    (sb_cons (pc2 := 1085) (sx_cV (Y' := YX11_worth) (q := (RX11, TX11, 8)) rfl (show decode cL_law 1082 = .ok (.invokevirtual 117, 3) by decide +kernel) rfl rfl (px_w4 wd_1143 wd_1144 wd_1145 wd_487) wd_1142 ⟨by decide, by decide, by decide +kernel⟩ (by decide)) rfl
    (sb_cons (pc2 := 1086) (sx_aload_n (show decode cL_law 1085 = .ok (.aload_n 2, 1) by decide +kernel) rfl) rfl
    (sb_cons (pc2 := 1087) (sx_aload_n (show decode cL_law 1086 = .ok (.aload_n 0, 1) by decide +kernel) rfl) rfl
    (sb_cons (pc2 := 1088) (sx_iload_n (show decode cL_law 1087 = .ok (.iload_n 3, 1) by decide +kernel) rfl) rfl
    (sb_cons (pc2 := 1089) (sx_iconst (show decode cL_law 1088 = .ok (.iconst 1, 1) by decide +kernel) (by decide)) rfl
    (sb_cons (pc2 := 1090) (sx_iadd (show decode cL_law 1089 = .ok (.iadd, 1) by decide +kernel)) rfl
    (sb_cons (pc2 := 1091) (sx_iald (show decode cL_law 1090 = .ok (.iaload, 1) by decide +kernel)) rfl
    (sb_cons (pc2 := 1092) (sx_aload_n (show decode cL_law 1091 = .ok (.aload_n 0, 1) by decide +kernel) rfl) rfl
    (sb_cons (pc2 := 1093) (sx_iload_n (show decode cL_law 1092 = .ok (.iload_n 3, 1) by decide +kernel) rfl) rfl
    (sb_cons (pc2 := 1094) (sx_iconst (show decode cL_law 1093 = .ok (.iconst 2, 1) by decide +kernel) (by decide)) rfl
    (sb_cons (pc2 := 1095) (sx_iadd (show decode cL_law 1094 = .ok (.iadd, 1) by decide +kernel)) rfl
    (sb_cons (pc2 := 1096) (sx_iald (show decode cL_law 1095 = .ok (.iaload, 1) by decide +kernel)) rfl
    (sb_cons (pc2 := 1097) (sx_aload_n (show decode cL_law 1096 = .ok (.aload_n 0, 1) by decide +kernel) rfl) rfl
    (sb_cons (pc2 := 1098) (sx_iload_n (show decode cL_law 1097 = .ok (.iload_n 3, 1) by decide +kernel) rfl) rfl
    (sb_cons (pc2 := 1099) (sx_iconst (show decode cL_law 1098 = .ok (.iconst 3, 1) by decide +kernel) (by decide)) rfl
    (sb_cons (pc2 := 1100) (sx_iadd (show decode cL_law 1099 = .ok (.iadd, 1) by decide +kernel)) rfl
    (sb_cons (pc2 := 1101) (sx_iald (show decode cL_law 1100 = .ok (.iaload, 1) by decide +kernel)) rfl
    (sb_cons (pc2 := 1104) (sx_cV (Y' := YX12_worth) (q := (RX12, TX12, 69)) rfl (show decode cL_law 1101 = .ok (.invokevirtual 121, 3) by decide +kernel) rfl rfl (px_w4 wd_1147 wd_1148 wd_1149 wd_719) wd_1146 ⟨by decide, by decide, by decide +kernel⟩ (by decide)) rfl
    (sb_cons (pc2 := 1105) (sx_lcmp (show decode cL_law 1104 = .ok (.lcmp, 1) by decide +kernel)) rfl
    (sb_cons (pc2 := 1108) (sx_if_eq (show decode cL_law 1105 = .ok (.ifCond .eq 463, 3) by decide +kernel) (by decide)) rfl
    (sb_cons (pc2 := 1109) (sx_iconst (show decode cL_law 1108 = .ok (.iconst 0, 1) by decide +kernel) (by decide)) rfl
    (sb_cons (pc2 := 1110) (sx_retz (show decode cL_law 1109 = .ok (.ireturn, 1) by decide +kernel) rfl) rfl sb_nil))))))))))))))))))))))))))))))))))))))
  (ms_cons
  (sb_cons (pc2 := 1111) (sx_aload_n (show decode cL_law 1110 = .ok (.aload_n 1, 1) by decide +kernel) rfl) rfl
    (sb_cons (pc2 := 1112) (sx_aload_n (show decode cL_law 1111 = .ok (.aload_n 0, 1) by decide +kernel) rfl) rfl
    (sb_cons (pc2 := 1113) (sx_iload_n (show decode cL_law 1112 = .ok (.iload_n 3, 1) by decide +kernel) rfl) rfl
    (sb_cons (pc2 := 1114) (sx_iconst (show decode cL_law 1113 = .ok (.iconst 1, 1) by decide +kernel) (by decide)) rfl
    (sb_cons (pc2 := 1115) (sx_iadd (show decode cL_law 1114 = .ok (.iadd, 1) by decide +kernel)) rfl
    (sb_cons (pc2 := 1116) (sx_iald (show decode cL_law 1115 = .ok (.iaload, 1) by decide +kernel)) rfl
    (sb_cons (pc2 := 1117) (sx_aload_n (show decode cL_law 1116 = .ok (.aload_n 0, 1) by decide +kernel) rfl) rfl
    (sb_cons (pc2 := 1118) (sx_iload_n (show decode cL_law 1117 = .ok (.iload_n 3, 1) by decide +kernel) rfl) rfl
    (sb_cons (pc2 := 1119) (sx_iconst (show decode cL_law 1118 = .ok (.iconst 2, 1) by decide +kernel) (by decide)) rfl
    (sb_cons (pc2 := 1120) (sx_iadd (show decode cL_law 1119 = .ok (.iadd, 1) by decide +kernel)) rfl
    (sb_cons (pc2 := 1121) (sx_iald (show decode cL_law 1120 = .ok (.iaload, 1) by decide +kernel)) rfl
    (sb_cons (pc2 := 1122) (sx_aload_n (show decode cL_law 1121 = .ok (.aload_n 0, 1) by decide +kernel) rfl) rfl
    (sb_cons (pc2 := 1123) (sx_iload_n (show decode cL_law 1122 = .ok (.iload_n 3, 1) by decide +kernel) rfl) rfl
    (sb_cons (pc2 := 1124) (sx_iconst (show decode cL_law 1123 = .ok (.iconst 3, 1) by decide +kernel) (by decide)) rfl
    (sb_cons (pc2 := 1125) (sx_iadd (show decode cL_law 1124 = .ok (.iadd, 1) by decide +kernel)) rfl
    (sb_cons (pc2 := 1126) (sx_iald (show decode cL_law 1125 = .ok (.iaload, 1) by decide +kernel)) rfl
    (sb_cons (pc2 := 1129) (sx_cV (Y' := YX11_bond) (q := (RX11, TX11, 8)) rfl (show decode cL_law 1126 = .ok (.invokevirtual 122, 3) by decide +kernel) rfl rfl (px_w4 wd_1151 wd_1152 wd_1153 wd_487) wd_1150 ⟨by decide, by decide, by decide +kernel⟩ (by decide)) rfl
    (sb_cons (pc2 := 1130) (sx_aload_n (show decode cL_law 1129 = .ok (.aload_n 2, 1) by decide +kernel) rfl) rfl
    (sb_cons (pc2 := 1131) (sx_aload_n (show decode cL_law 1130 = .ok (.aload_n 0, 1) by decide +kernel) rfl) rfl
    (sb_cons (pc2 := 1132) (sx_iload_n (show decode cL_law 1131 = .ok (.iload_n 3, 1) by decide +kernel) rfl) rfl
    (sb_cons (pc2 := 1133) (sx_iconst (show decode cL_law 1132 = .ok (.iconst 1, 1) by decide +kernel) (by decide)) rfl
    (sb_cons (pc2 := 1134) (sx_iadd (show decode cL_law 1133 = .ok (.iadd, 1) by decide +kernel)) rfl
    (sb_cons (pc2 := 1135) (sx_iald (show decode cL_law 1134 = .ok (.iaload, 1) by decide +kernel)) rfl
    (sb_cons (pc2 := 1136) (sx_aload_n (show decode cL_law 1135 = .ok (.aload_n 0, 1) by decide +kernel) rfl) rfl
    (sb_cons (pc2 := 1137) (sx_iload_n (show decode cL_law 1136 = .ok (.iload_n 3, 1) by decide +kernel) rfl) rfl
    (sb_cons (pc2 := 1138) (sx_iconst (show decode cL_law 1137 = .ok (.iconst 2, 1) by decide +kernel) (by decide)) rfl
    (sb_cons (pc2 := 1139) (sx_iadd (show decode cL_law 1138 = .ok (.iadd, 1) by decide +kernel)) rfl
    (sb_cons (pc2 := 1140) (sx_iald (show decode cL_law 1139 = .ok (.iaload, 1) by decide +kernel)) rfl
    (sb_cons (pc2 := 1141) (sx_aload_n (show decode cL_law 1140 = .ok (.aload_n 0, 1) by decide +kernel) rfl) rfl
    (sb_cons (pc2 := 1142) (sx_iload_n (show decode cL_law 1141 = .ok (.iload_n 3, 1) by decide +kernel) rfl) rfl
    (sb_cons (pc2 := 1143) (sx_iconst (show decode cL_law 1142 = .ok (.iconst 3, 1) by decide +kernel) (by decide)) rfl
    (sb_cons (pc2 := 1144) (sx_iadd (show decode cL_law 1143 = .ok (.iadd, 1) by decide +kernel)) rfl
    (sb_cons (pc2 := 1145) (sx_iald (show decode cL_law 1144 = .ok (.iaload, 1) by decide +kernel)) rfl
    (sb_cons (pc2 := 1148) (sx_cV (Y' := YX12_bond) (q := (RX12, TX12, 69)) rfl (show decode cL_law 1145 = .ok (.invokevirtual 125, 3) by decide +kernel) rfl rfl (px_w4 wd_1155 wd_1156 wd_1157 wd_719) wd_1154 ⟨by decide, by decide, by decide +kernel⟩ (by decide)) rfl
    (sb_cons (pc2 := 1151) (sx_icmp_eq (show decode cL_law 1148 = .ok (.if_icmp .eq 420, 3) by decide +kernel) (by decide)) rfl
    (sb_cons (pc2 := 1152) (sx_iconst (show decode cL_law 1151 = .ok (.iconst 0, 1) by decide +kernel) (by decide)) rfl
    (sb_cons (pc2 := 1153) (sx_retz (show decode cL_law 1152 = .ok (.ireturn, 1) by decide +kernel) rfl) rfl sb_nil)))))))))))))))))))))))))))))))))))))
  (ms_cons
  (sb_cons (pc2 := 1154) (sx_aload_n (show decode cL_law 1153 = .ok (.aload_n 1, 1) by decide +kernel) rfl) rfl
    (sb_cons (pc2 := 1155) (sx_aload_n (show decode cL_law 1154 = .ok (.aload_n 0, 1) by decide +kernel) rfl) rfl
    (sb_cons (pc2 := 1156) (sx_iload_n (show decode cL_law 1155 = .ok (.iload_n 3, 1) by decide +kernel) rfl) rfl
    (sb_cons (pc2 := 1157) (sx_iconst (show decode cL_law 1156 = .ok (.iconst 1, 1) by decide +kernel) (by decide)) rfl
    (sb_cons (pc2 := 1158) (sx_iadd (show decode cL_law 1157 = .ok (.iadd, 1) by decide +kernel)) rfl
    (sb_cons (pc2 := 1159) (sx_iald (show decode cL_law 1158 = .ok (.iaload, 1) by decide +kernel)) rfl
    (sb_cons (pc2 := 1162) (sx_cV (Y' := YX11_best) (q := (RX11, TX11, 8)) rfl (show decode cL_law 1159 = .ok (.invokevirtual 126, 3) by decide +kernel) rfl rfl (px_w4 wd_1159 wd_1160 wd_1161 wd_487) wd_1158 ⟨by decide, by decide, by decide +kernel⟩ (by decide)) rfl
    (sb_cons (pc2 := 1163) (sx_aload_n (show decode cL_law 1162 = .ok (.aload_n 2, 1) by decide +kernel) rfl) rfl
    (sb_cons (pc2 := 1164) (sx_aload_n (show decode cL_law 1163 = .ok (.aload_n 0, 1) by decide +kernel) rfl) rfl
    (sb_cons (pc2 := 1165) (sx_iload_n (show decode cL_law 1164 = .ok (.iload_n 3, 1) by decide +kernel) rfl) rfl
    (sb_cons (pc2 := 1166) (sx_iconst (show decode cL_law 1165 = .ok (.iconst 1, 1) by decide +kernel) (by decide)) rfl
    (sb_cons (pc2 := 1167) (sx_iadd (show decode cL_law 1166 = .ok (.iadd, 1) by decide +kernel)) rfl
    (sb_cons (pc2 := 1168) (sx_iald (show decode cL_law 1167 = .ok (.iaload, 1) by decide +kernel)) rfl
    (sb_cons (pc2 := 1171) (sx_cV (Y' := YX12_best) (q := (RX12, TX12, 69)) rfl (show decode cL_law 1168 = .ok (.invokevirtual 129, 3) by decide +kernel) rfl rfl (px_w4 wd_1163 wd_1164 wd_1165 wd_719) wd_1162 ⟨by decide, by decide, by decide +kernel⟩ (by decide)) rfl
    (sb_cons (pc2 := 1174) (sx_icmp_eq (show decode cL_law 1171 = .ok (.if_icmp .eq 397, 3) by decide +kernel) (by decide)) rfl
    (sb_cons (pc2 := 1175) (sx_iconst (show decode cL_law 1174 = .ok (.iconst 0, 1) by decide +kernel) (by decide)) rfl
    (sb_cons (pc2 := 1176) (sx_retz (show decode cL_law 1175 = .ok (.ireturn, 1) by decide +kernel) rfl) rfl sb_nil)))))))))))))))))
  (ms_cons
  (sb_cons (pc2 := 1177) (sx_aload_n (show decode cL_law 1176 = .ok (.aload_n 1, 1) by decide +kernel) rfl) rfl
    (sb_cons (pc2 := 1178) (sx_aload_n (show decode cL_law 1177 = .ok (.aload_n 0, 1) by decide +kernel) rfl) rfl
    (sb_cons (pc2 := 1179) (sx_iload_n (show decode cL_law 1178 = .ok (.iload_n 3, 1) by decide +kernel) rfl) rfl
    (sb_cons (pc2 := 1180) (sx_iconst (show decode cL_law 1179 = .ok (.iconst 1, 1) by decide +kernel) (by decide)) rfl
    (sb_cons (pc2 := 1181) (sx_iadd (show decode cL_law 1180 = .ok (.iadd, 1) by decide +kernel)) rfl
    (sb_cons (pc2 := 1182) (sx_iald (show decode cL_law 1181 = .ok (.iaload, 1) by decide +kernel)) rfl
    (sb_cons (pc2 := 1185) (sx_cV (Y' := YX11_joined) (q := (RX11, TX11, 8)) rfl (show decode cL_law 1182 = .ok (.invokevirtual 130, 3) by decide +kernel) rfl rfl (px_w4 wd_1167 wd_1168 wd_1169 wd_487) wd_1166 ⟨by decide, by decide, by decide +kernel⟩ (by decide)) rfl
    (sb_cons (pc2 := 1186) (sx_aload_n (show decode cL_law 1185 = .ok (.aload_n 2, 1) by decide +kernel) rfl) rfl
    (sb_cons (pc2 := 1187) (sx_aload_n (show decode cL_law 1186 = .ok (.aload_n 0, 1) by decide +kernel) rfl) rfl
    (sb_cons (pc2 := 1188) (sx_iload_n (show decode cL_law 1187 = .ok (.iload_n 3, 1) by decide +kernel) rfl) rfl
    (sb_cons (pc2 := 1189) (sx_iconst (show decode cL_law 1188 = .ok (.iconst 1, 1) by decide +kernel) (by decide)) rfl
    (sb_cons (pc2 := 1190) (sx_iadd (show decode cL_law 1189 = .ok (.iadd, 1) by decide +kernel)) rfl
    (sb_cons (pc2 := 1191) (sx_iald (show decode cL_law 1190 = .ok (.iaload, 1) by decide +kernel)) rfl
    (sb_cons (pc2 := 1194) (sx_cV (Y' := YX12_joined) (q := (RX12, TX12, 69)) rfl (show decode cL_law 1191 = .ok (.invokevirtual 133, 3) by decide +kernel) rfl rfl (px_w4 wd_1171 wd_1172 wd_1173 wd_719) wd_1170 ⟨by decide, by decide, by decide +kernel⟩ (by decide)) rfl
    (sb_cons (pc2 := 1197) (sx_icmp_eq (show decode cL_law 1194 = .ok (.if_icmp .eq 374, 3) by decide +kernel) (by decide)) rfl
    (sb_cons (pc2 := 1198) (sx_iconst (show decode cL_law 1197 = .ok (.iconst 0, 1) by decide +kernel) (by decide)) rfl
    (sb_cons (pc2 := 1199) (sx_retz (show decode cL_law 1198 = .ok (.ireturn, 1) by decide +kernel) rfl) rfl sb_nil)))))))))))))))))
  (ms_cons
  (sb_cons (pc2 := 1200) (sx_aload_n (show decode cL_law 1199 = .ok (.aload_n 1, 1) by decide +kernel) rfl) rfl
    (sb_cons (pc2 := 1201) (sx_aload_n (show decode cL_law 1200 = .ok (.aload_n 0, 1) by decide +kernel) rfl) rfl
    (sb_cons (pc2 := 1202) (sx_iload_n (show decode cL_law 1201 = .ok (.iload_n 3, 1) by decide +kernel) rfl) rfl
    (sb_cons (pc2 := 1203) (sx_iconst (show decode cL_law 1202 = .ok (.iconst 1, 1) by decide +kernel) (by decide)) rfl
    (sb_cons (pc2 := 1204) (sx_iadd (show decode cL_law 1203 = .ok (.iadd, 1) by decide +kernel)) rfl
    (sb_cons (pc2 := 1205) (sx_iald (show decode cL_law 1204 = .ok (.iaload, 1) by decide +kernel)) rfl
    (sb_cons (pc2 := 1206) (sx_aload_n (show decode cL_law 1205 = .ok (.aload_n 0, 1) by decide +kernel) rfl) rfl
    (sb_cons (pc2 := 1207) (sx_iload_n (show decode cL_law 1206 = .ok (.iload_n 3, 1) by decide +kernel) rfl) rfl
    (sb_cons (pc2 := 1208) (sx_iconst (show decode cL_law 1207 = .ok (.iconst 2, 1) by decide +kernel) (by decide)) rfl
    (sb_cons (pc2 := 1209) (sx_iadd (show decode cL_law 1208 = .ok (.iadd, 1) by decide +kernel)) rfl
    (sb_cons (pc2 := 1210) (sx_iald (show decode cL_law 1209 = .ok (.iaload, 1) by decide +kernel)) rfl
    (sb_cons (pc2 := 1213) (sx_cV (Y' := YX11_task) (q := (RX11, TX11, 8)) rfl (show decode cL_law 1210 = .ok (.invokevirtual 134, 3) by decide +kernel) rfl rfl (px_w4 wd_1175 wd_1176 wd_1177 wd_487) wd_1174 ⟨by decide, by decide, by decide +kernel⟩ (by decide)) rfl
    (sb_cons (pc2 := 1214) (sx_aload_n (show decode cL_law 1213 = .ok (.aload_n 2, 1) by decide +kernel) rfl) rfl
    (sb_cons (pc2 := 1215) (sx_aload_n (show decode cL_law 1214 = .ok (.aload_n 0, 1) by decide +kernel) rfl) rfl
    (sb_cons (pc2 := 1216) (sx_iload_n (show decode cL_law 1215 = .ok (.iload_n 3, 1) by decide +kernel) rfl) rfl
    (sb_cons (pc2 := 1217) (sx_iconst (show decode cL_law 1216 = .ok (.iconst 1, 1) by decide +kernel) (by decide)) rfl
    (sb_cons (pc2 := 1218) (sx_iadd (show decode cL_law 1217 = .ok (.iadd, 1) by decide +kernel)) rfl
    (sb_cons (pc2 := 1219) (sx_iald (show decode cL_law 1218 = .ok (.iaload, 1) by decide +kernel)) rfl
    (sb_cons (pc2 := 1220) (sx_aload_n (show decode cL_law 1219 = .ok (.aload_n 0, 1) by decide +kernel) rfl) rfl
    (sb_cons (pc2 := 1221) (sx_iload_n (show decode cL_law 1220 = .ok (.iload_n 3, 1) by decide +kernel) rfl) rfl
    (sb_cons (pc2 := 1222) (sx_iconst (show decode cL_law 1221 = .ok (.iconst 2, 1) by decide +kernel) (by decide)) rfl
    (sb_cons (pc2 := 1223) (sx_iadd (show decode cL_law 1222 = .ok (.iadd, 1) by decide +kernel)) rfl
    (sb_cons (pc2 := 1224) (sx_iald (show decode cL_law 1223 = .ok (.iaload, 1) by decide +kernel)) rfl
    (sb_cons (pc2 := 1227) (sx_cV (Y' := YX12_task) (q := (RX12, TX12, 69)) rfl (show decode cL_law 1224 = .ok (.invokevirtual 137, 3) by decide +kernel) rfl rfl (px_w4 wd_1179 wd_1180 wd_1181 wd_719) wd_1178 ⟨by decide, by decide, by decide +kernel⟩ (by decide)) rfl
    (sb_cons (pc2 := 1230) (sx_icmp_eq (show decode cL_law 1227 = .ok (.if_icmp .eq 341, 3) by decide +kernel) (by decide)) rfl
    (sb_cons (pc2 := 1231) (sx_iconst (show decode cL_law 1230 = .ok (.iconst 0, 1) by decide +kernel) (by decide)) rfl
    (sb_cons (pc2 := 1232) (sx_retz (show decode cL_law 1231 = .ok (.ireturn, 1) by decide +kernel) rfl) rfl sb_nil)))))))))))))))))))))))))))
  (ms_cons
  (sb_cons (pc2 := 1233) (sx_aload_n (show decode cL_law 1232 = .ok (.aload_n 1, 1) by decide +kernel) rfl) rfl
    (sb_cons (pc2 := 1234) (sx_aload_n (show decode cL_law 1233 = .ok (.aload_n 0, 1) by decide +kernel) rfl) rfl
    (sb_cons (pc2 := 1235) (sx_iload_n (show decode cL_law 1234 = .ok (.iload_n 3, 1) by decide +kernel) rfl) rfl
    (sb_cons (pc2 := 1236) (sx_iconst (show decode cL_law 1235 = .ok (.iconst 1, 1) by decide +kernel) (by decide)) rfl
    (sb_cons (pc2 := 1237) (sx_iadd (show decode cL_law 1236 = .ok (.iadd, 1) by decide +kernel)) rfl
    (sb_cons (pc2 := 1238) (sx_iald (show decode cL_law 1237 = .ok (.iaload, 1) by decide +kernel)) rfl
    (sb_cons (pc2 := 1241) (sx_cV (Y' := YX11_gang) (q := (RX11, TX11, 8)) rfl (show decode cL_law 1238 = .ok (.invokevirtual 138, 3) by decide +kernel) rfl rfl (px_w4 wd_1183 wd_1184 wd_1185 wd_487) wd_1182 ⟨by decide, by decide, by decide +kernel⟩ (by decide)) rfl
    (sb_cons (pc2 := 1242) (sx_aload_n (show decode cL_law 1241 = .ok (.aload_n 2, 1) by decide +kernel) rfl) rfl
    (sb_cons (pc2 := 1243) (sx_aload_n (show decode cL_law 1242 = .ok (.aload_n 0, 1) by decide +kernel) rfl) rfl
    (sb_cons (pc2 := 1244) (sx_iload_n (show decode cL_law 1243 = .ok (.iload_n 3, 1) by decide +kernel) rfl) rfl
    (sb_cons (pc2 := 1245) (sx_iconst (show decode cL_law 1244 = .ok (.iconst 1, 1) by decide +kernel) (by decide)) rfl
    (sb_cons (pc2 := 1246) (sx_iadd (show decode cL_law 1245 = .ok (.iadd, 1) by decide +kernel)) rfl
    (sb_cons (pc2 := 1247) (sx_iald (show decode cL_law 1246 = .ok (.iaload, 1) by decide +kernel)) rfl
    (sb_cons (pc2 := 1250) (sx_cV (Y' := YX12_gang) (q := (RX12, TX12, 69)) rfl (show decode cL_law 1247 = .ok (.invokevirtual 141, 3) by decide +kernel) rfl rfl (px_w4 wd_1187 wd_1188 wd_1189 wd_719) wd_1186 ⟨by decide, by decide, by decide +kernel⟩ (by decide)) rfl
    (sb_cons (pc2 := 1253) (sx_icmp_eq (show decode cL_law 1250 = .ok (.if_icmp .eq 318, 3) by decide +kernel) (by decide)) rfl
    (sb_cons (pc2 := 1254) (sx_iconst (show decode cL_law 1253 = .ok (.iconst 0, 1) by decide +kernel) (by decide)) rfl
    (sb_cons (pc2 := 1255) (sx_retz (show decode cL_law 1254 = .ok (.ireturn, 1) by decide +kernel) rfl) rfl sb_nil)))))))))))))))))
  (ms_cons
  (sb_cons (pc2 := 1256) (sx_aload_n (show decode cL_law 1255 = .ok (.aload_n 1, 1) by decide +kernel) rfl) rfl
    (sb_cons (pc2 := 1259) (sx_cV (Y' := YX11_plan) (q := (RX11, TX11, 8)) rfl (show decode cL_law 1256 = .ok (.invokevirtual 142, 3) by decide +kernel) rfl rfl (px_w4 wd_1191 wd_1192 wd_1193 wd_487) wd_1190 ⟨by decide, by decide, by decide +kernel⟩ (by decide)) rfl
    (sb_cons (pc2 := 1260) (sx_aload_n (show decode cL_law 1259 = .ok (.aload_n 2, 1) by decide +kernel) rfl) rfl
    (sb_cons (pc2 := 1263) (sx_cV (Y' := YX12_plan) (q := (RX12, TX12, 69)) rfl (show decode cL_law 1260 = .ok (.invokevirtual 145, 3) by decide +kernel) rfl rfl (px_w4 wd_1195 wd_1196 wd_1197 wd_719) wd_1194 ⟨by decide, by decide, by decide +kernel⟩ (by decide)) rfl
    (sb_cons (pc2 := 1266) (sx_icmp_eq (show decode cL_law 1263 = .ok (.if_icmp .eq 305, 3) by decide +kernel) (by decide)) rfl
    (sb_cons (pc2 := 1267) (sx_iconst (show decode cL_law 1266 = .ok (.iconst 0, 1) by decide +kernel) (by decide)) rfl
    (sb_cons (pc2 := 1268) (sx_retz (show decode cL_law 1267 = .ok (.ireturn, 1) by decide +kernel) rfl) rfl sb_nil)))))))
  (ms_cons
  (sb_cons (pc2 := 1269) (sx_aload_n (show decode cL_law 1268 = .ok (.aload_n 1, 1) by decide +kernel) rfl) rfl
    (sb_cons (pc2 := 1270) (sx_aload_n (show decode cL_law 1269 = .ok (.aload_n 0, 1) by decide +kernel) rfl) rfl
    (sb_cons (pc2 := 1271) (sx_iload_n (show decode cL_law 1270 = .ok (.iload_n 3, 1) by decide +kernel) rfl) rfl
    (sb_cons (pc2 := 1272) (sx_iconst (show decode cL_law 1271 = .ok (.iconst 1, 1) by decide +kernel) (by decide)) rfl
    (sb_cons (pc2 := 1273) (sx_iadd (show decode cL_law 1272 = .ok (.iadd, 1) by decide +kernel)) rfl
    (sb_cons (pc2 := 1274) (sx_iald (show decode cL_law 1273 = .ok (.iaload, 1) by decide +kernel)) rfl
    (sb_cons (pc2 := 1277) (sx_cV (Y' := YX11_planned) (q := (RX11, TX11, 8)) rfl (show decode cL_law 1274 = .ok (.invokevirtual 146, 3) by decide +kernel) rfl rfl (px_w4 wd_1199 wd_1200 wd_1201 wd_487) wd_1198 ⟨by decide, by decide, by decide +kernel⟩ (by decide)) rfl
    (sb_cons (pc2 := 1278) (sx_aload_n (show decode cL_law 1277 = .ok (.aload_n 2, 1) by decide +kernel) rfl) rfl
    (sb_cons (pc2 := 1279) (sx_aload_n (show decode cL_law 1278 = .ok (.aload_n 0, 1) by decide +kernel) rfl) rfl
    (sb_cons (pc2 := 1280) (sx_iload_n (show decode cL_law 1279 = .ok (.iload_n 3, 1) by decide +kernel) rfl) rfl
    (sb_cons (pc2 := 1281) (sx_iconst (show decode cL_law 1280 = .ok (.iconst 1, 1) by decide +kernel) (by decide)) rfl
    (sb_cons (pc2 := 1282) (sx_iadd (show decode cL_law 1281 = .ok (.iadd, 1) by decide +kernel)) rfl
    (sb_cons (pc2 := 1283) (sx_iald (show decode cL_law 1282 = .ok (.iaload, 1) by decide +kernel)) rfl
    (sb_cons (pc2 := 1286) (sx_cV (Y' := YX12_planned) (q := (RX12, TX12, 69)) rfl (show decode cL_law 1283 = .ok (.invokevirtual 149, 3) by decide +kernel) rfl rfl (px_w4 wd_1203 wd_1204 wd_1205 wd_719) wd_1202 ⟨by decide, by decide, by decide +kernel⟩ (by decide)) rfl
    (sb_cons (pc2 := 1289) (sx_icmp_eq (show decode cL_law 1286 = .ok (.if_icmp .eq 282, 3) by decide +kernel) (by decide)) rfl
    (sb_cons (pc2 := 1290) (sx_iconst (show decode cL_law 1289 = .ok (.iconst 0, 1) by decide +kernel) (by decide)) rfl
    (sb_cons (pc2 := 1291) (sx_retz (show decode cL_law 1290 = .ok (.ireturn, 1) by decide +kernel) rfl) rfl sb_nil)))))))))))))))))
  (ms_cons
  (sb_cons (pc2 := 1292) (sx_aload_n (show decode cL_law 1291 = .ok (.aload_n 1, 1) by decide +kernel) rfl) rfl
    (sb_cons (pc2 := 1293) (sx_aload_n (show decode cL_law 1292 = .ok (.aload_n 0, 1) by decide +kernel) rfl) rfl
    (sb_cons (pc2 := 1294) (sx_iload_n (show decode cL_law 1293 = .ok (.iload_n 3, 1) by decide +kernel) rfl) rfl
    (sb_cons (pc2 := 1295) (sx_iconst (show decode cL_law 1294 = .ok (.iconst 1, 1) by decide +kernel) (by decide)) rfl
    (sb_cons (pc2 := 1296) (sx_iadd (show decode cL_law 1295 = .ok (.iadd, 1) by decide +kernel)) rfl
    (sb_cons (pc2 := 1297) (sx_iald (show decode cL_law 1296 = .ok (.iaload, 1) by decide +kernel)) rfl
    (sb_cons (pc2 := 1300) (sx_cV (Y' := YX11_hatches) (q := (RX11, TX11, 8)) rfl (show decode cL_law 1297 = .ok (.invokevirtual 150, 3) by decide +kernel) rfl rfl (px_w4 wd_1207 wd_1208 wd_1209 wd_487) wd_1206 ⟨by decide, by decide, by decide +kernel⟩ (by decide)) rfl
    (sb_cons (pc2 := 1301) (sx_aload_n (show decode cL_law 1300 = .ok (.aload_n 2, 1) by decide +kernel) rfl) rfl
    (sb_cons (pc2 := 1302) (sx_aload_n (show decode cL_law 1301 = .ok (.aload_n 0, 1) by decide +kernel) rfl) rfl
    (sb_cons (pc2 := 1303) (sx_iload_n (show decode cL_law 1302 = .ok (.iload_n 3, 1) by decide +kernel) rfl) rfl
    (sb_cons (pc2 := 1304) (sx_iconst (show decode cL_law 1303 = .ok (.iconst 1, 1) by decide +kernel) (by decide)) rfl
    (sb_cons (pc2 := 1305) (sx_iadd (show decode cL_law 1304 = .ok (.iadd, 1) by decide +kernel)) rfl
    (sb_cons (pc2 := 1306) (sx_iald (show decode cL_law 1305 = .ok (.iaload, 1) by decide +kernel)) rfl
    (sb_cons (pc2 := 1309) (sx_cV (Y' := YX12_hatches) (q := (RX12, TX12, 69)) rfl (show decode cL_law 1306 = .ok (.invokevirtual 153, 3) by decide +kernel) rfl rfl (px_w4 wd_1211 wd_1212 wd_1213 wd_719) wd_1210 ⟨by decide, by decide, by decide +kernel⟩ (by decide)) rfl
    (sb_cons (pc2 := 1312) (sx_icmp_eq (show decode cL_law 1309 = .ok (.if_icmp .eq 259, 3) by decide +kernel) (by decide)) rfl
    (sb_cons (pc2 := 1313) (sx_iconst (show decode cL_law 1312 = .ok (.iconst 0, 1) by decide +kernel) (by decide)) rfl
    (sb_cons (pc2 := 1314) (sx_retz (show decode cL_law 1313 = .ok (.ireturn, 1) by decide +kernel) rfl) rfl sb_nil)))))))))))))))))
  (ms_cons
  (sb_cons (pc2 := 1315) (sx_aload_n (show decode cL_law 1314 = .ok (.aload_n 1, 1) by decide +kernel) rfl) rfl
    (sb_cons (pc2 := 1316) (sx_aload_n (show decode cL_law 1315 = .ok (.aload_n 0, 1) by decide +kernel) rfl) rfl
    (sb_cons (pc2 := 1317) (sx_iload_n (show decode cL_law 1316 = .ok (.iload_n 3, 1) by decide +kernel) rfl) rfl
    (sb_cons (pc2 := 1318) (sx_iconst (show decode cL_law 1317 = .ok (.iconst 1, 1) by decide +kernel) (by decide)) rfl
    (sb_cons (pc2 := 1319) (sx_iadd (show decode cL_law 1318 = .ok (.iadd, 1) by decide +kernel)) rfl
    (sb_cons (pc2 := 1320) (sx_iald (show decode cL_law 1319 = .ok (.iaload, 1) by decide +kernel)) rfl
    (sb_cons (pc2 := 1323) (sx_cV (Y' := YX11_roll) (q := (RX11, TX11, 8)) rfl (show decode cL_law 1320 = .ok (.invokevirtual 154, 3) by decide +kernel) rfl rfl (px_w4 wd_1215 wd_1216 wd_1217 wd_487) wd_1214 ⟨by decide, by decide, by decide +kernel⟩ (by decide)) rfl
    (sb_cons (pc2 := 1324) (sx_aload_n (show decode cL_law 1323 = .ok (.aload_n 2, 1) by decide +kernel) rfl) rfl
    (sb_cons (pc2 := 1325) (sx_aload_n (show decode cL_law 1324 = .ok (.aload_n 0, 1) by decide +kernel) rfl) rfl
    (sb_cons (pc2 := 1326) (sx_iload_n (show decode cL_law 1325 = .ok (.iload_n 3, 1) by decide +kernel) rfl) rfl
    (sb_cons (pc2 := 1327) (sx_iconst (show decode cL_law 1326 = .ok (.iconst 1, 1) by decide +kernel) (by decide)) rfl
    (sb_cons (pc2 := 1328) (sx_iadd (show decode cL_law 1327 = .ok (.iadd, 1) by decide +kernel)) rfl
    (sb_cons (pc2 := 1329) (sx_iald (show decode cL_law 1328 = .ok (.iaload, 1) by decide +kernel)) rfl
    (sb_cons (pc2 := 1332) (sx_cV (Y' := YX12_roll) (q := (RX12, TX12, 69)) rfl (show decode cL_law 1329 = .ok (.invokevirtual 157, 3) by decide +kernel) rfl rfl (px_w4 wd_1219 wd_1220 wd_1221 wd_719) wd_1218 ⟨by decide, by decide, by decide +kernel⟩ (by decide)) rfl
    (sb_cons (pc2 := 1335) (sx_icmp_eq (show decode cL_law 1332 = .ok (.if_icmp .eq 236, 3) by decide +kernel) (by decide)) rfl
    (sb_cons (pc2 := 1336) (sx_iconst (show decode cL_law 1335 = .ok (.iconst 0, 1) by decide +kernel) (by decide)) rfl
    (sb_cons (pc2 := 1337) (sx_retz (show decode cL_law 1336 = .ok (.ireturn, 1) by decide +kernel) rfl) rfl sb_nil)))))))))))))))))
  (ms_cons
  (sb_cons (pc2 := 1338) (sx_aload_n (show decode cL_law 1337 = .ok (.aload_n 1, 1) by decide +kernel) rfl) rfl
    (sb_cons (pc2 := 1339) (sx_aload_n (show decode cL_law 1338 = .ok (.aload_n 0, 1) by decide +kernel) rfl) rfl
    (sb_cons (pc2 := 1340) (sx_iload_n (show decode cL_law 1339 = .ok (.iload_n 3, 1) by decide +kernel) rfl) rfl
    (sb_cons (pc2 := 1341) (sx_iconst (show decode cL_law 1340 = .ok (.iconst 1, 1) by decide +kernel) (by decide)) rfl
    (sb_cons (pc2 := 1342) (sx_iadd (show decode cL_law 1341 = .ok (.iadd, 1) by decide +kernel)) rfl
    (sb_cons (pc2 := 1343) (sx_iald (show decode cL_law 1342 = .ok (.iaload, 1) by decide +kernel)) rfl
    (sb_cons (pc2 := 1346) (sx_cV (Y' := YX11_stood) (q := (RX11, TX11, 8)) rfl (show decode cL_law 1343 = .ok (.invokevirtual 158, 3) by decide +kernel) rfl rfl (px_w4 wd_1223 wd_1224 wd_1225 wd_487) wd_1222 ⟨by decide, by decide, by decide +kernel⟩ (by decide)) rfl
    (sb_cons (pc2 := 1347) (sx_aload_n (show decode cL_law 1346 = .ok (.aload_n 2, 1) by decide +kernel) rfl) rfl
    (sb_cons (pc2 := 1348) (sx_aload_n (show decode cL_law 1347 = .ok (.aload_n 0, 1) by decide +kernel) rfl) rfl
    (sb_cons (pc2 := 1349) (sx_iload_n (show decode cL_law 1348 = .ok (.iload_n 3, 1) by decide +kernel) rfl) rfl
    (sb_cons (pc2 := 1350) (sx_iconst (show decode cL_law 1349 = .ok (.iconst 1, 1) by decide +kernel) (by decide)) rfl
    (sb_cons (pc2 := 1351) (sx_iadd (show decode cL_law 1350 = .ok (.iadd, 1) by decide +kernel)) rfl
    (sb_cons (pc2 := 1352) (sx_iald (show decode cL_law 1351 = .ok (.iaload, 1) by decide +kernel)) rfl
    (sb_cons (pc2 := 1355) (sx_cV (Y' := YX12_stood) (q := (RX12, TX12, 69)) rfl (show decode cL_law 1352 = .ok (.invokevirtual 161, 3) by decide +kernel) rfl rfl (px_w4 wd_1227 wd_1228 wd_1229 wd_719) wd_1226 ⟨by decide, by decide, by decide +kernel⟩ (by decide)) rfl
    (sb_cons (pc2 := 1358) (sx_icmp_eq (show decode cL_law 1355 = .ok (.if_icmp .eq 213, 3) by decide +kernel) (by decide)) rfl
    (sb_cons (pc2 := 1359) (sx_iconst (show decode cL_law 1358 = .ok (.iconst 0, 1) by decide +kernel) (by decide)) rfl
    (sb_cons (pc2 := 1360) (sx_retz (show decode cL_law 1359 = .ok (.ireturn, 1) by decide +kernel) rfl) rfl sb_nil)))))))))))))))))
  (ms_cons
  (sb_cons (pc2 := 1361) (sx_aload_n (show decode cL_law 1360 = .ok (.aload_n 1, 1) by decide +kernel) rfl) rfl
    (sb_cons (pc2 := 1362) (sx_aload_n (show decode cL_law 1361 = .ok (.aload_n 0, 1) by decide +kernel) rfl) rfl
    (sb_cons (pc2 := 1363) (sx_iload_n (show decode cL_law 1362 = .ok (.iload_n 3, 1) by decide +kernel) rfl) rfl
    (sb_cons (pc2 := 1364) (sx_iconst (show decode cL_law 1363 = .ok (.iconst 1, 1) by decide +kernel) (by decide)) rfl
    (sb_cons (pc2 := 1365) (sx_iadd (show decode cL_law 1364 = .ok (.iadd, 1) by decide +kernel)) rfl
    (sb_cons (pc2 := 1366) (sx_iald (show decode cL_law 1365 = .ok (.iaload, 1) by decide +kernel)) rfl
    (sb_cons (pc2 := 1367) (sx_aload_n (show decode cL_law 1366 = .ok (.aload_n 0, 1) by decide +kernel) rfl) rfl
    (sb_cons (pc2 := 1368) (sx_iload_n (show decode cL_law 1367 = .ok (.iload_n 3, 1) by decide +kernel) rfl) rfl
    (sb_cons (pc2 := 1369) (sx_iconst (show decode cL_law 1368 = .ok (.iconst 2, 1) by decide +kernel) (by decide)) rfl
    (sb_cons (pc2 := 1370) (sx_iadd (show decode cL_law 1369 = .ok (.iadd, 1) by decide +kernel)) rfl
    (sb_cons (pc2 := 1371) (sx_iald (show decode cL_law 1370 = .ok (.iaload, 1) by decide +kernel)) rfl
    (sb_cons (pc2 := 1374) (sx_cV (Y' := YX11_stoodAt) (q := (RX11, TX11, 8)) rfl (show decode cL_law 1371 = .ok (.invokevirtual 162, 3) by decide +kernel) rfl rfl (px_w4 wd_1231 wd_1232 wd_1233 wd_487) wd_1230 ⟨by decide, by decide, by decide +kernel⟩ (by decide)) rfl
    (sb_cons (pc2 := 1375) (sx_aload_n (show decode cL_law 1374 = .ok (.aload_n 2, 1) by decide +kernel) rfl) rfl
    (sb_cons (pc2 := 1376) (sx_aload_n (show decode cL_law 1375 = .ok (.aload_n 0, 1) by decide +kernel) rfl) rfl
    (sb_cons (pc2 := 1377) (sx_iload_n (show decode cL_law 1376 = .ok (.iload_n 3, 1) by decide +kernel) rfl) rfl
    (sb_cons (pc2 := 1378) (sx_iconst (show decode cL_law 1377 = .ok (.iconst 1, 1) by decide +kernel) (by decide)) rfl
    (sb_cons (pc2 := 1379) (sx_iadd (show decode cL_law 1378 = .ok (.iadd, 1) by decide +kernel)) rfl
    (sb_cons (pc2 := 1380) (sx_iald (show decode cL_law 1379 = .ok (.iaload, 1) by decide +kernel)) rfl
    (sb_cons (pc2 := 1381) (sx_aload_n (show decode cL_law 1380 = .ok (.aload_n 0, 1) by decide +kernel) rfl) rfl
    (sb_cons (pc2 := 1382) (sx_iload_n (show decode cL_law 1381 = .ok (.iload_n 3, 1) by decide +kernel) rfl) rfl
    (sb_cons (pc2 := 1383) (sx_iconst (show decode cL_law 1382 = .ok (.iconst 2, 1) by decide +kernel) (by decide)) rfl
    (sb_cons (pc2 := 1384) (sx_iadd (show decode cL_law 1383 = .ok (.iadd, 1) by decide +kernel)) rfl
    (sb_cons (pc2 := 1385) (sx_iald (show decode cL_law 1384 = .ok (.iaload, 1) by decide +kernel)) rfl
    (sb_cons (pc2 := 1388) (sx_cV (Y' := YX12_stoodAt) (q := (RX12, TX12, 69)) rfl (show decode cL_law 1385 = .ok (.invokevirtual 165, 3) by decide +kernel) rfl rfl (px_w4 wd_1235 wd_1236 wd_1237 wd_719) wd_1234 ⟨by decide, by decide, by decide +kernel⟩ (by decide)) rfl
    (sb_cons (pc2 := 1391) (sx_icmp_eq (show decode cL_law 1388 = .ok (.if_icmp .eq 180, 3) by decide +kernel) (by decide)) rfl
    (sb_cons (pc2 := 1392) (sx_iconst (show decode cL_law 1391 = .ok (.iconst 0, 1) by decide +kernel) (by decide)) rfl
    (sb_cons (pc2 := 1393) (sx_retz (show decode cL_law 1392 = .ok (.ireturn, 1) by decide +kernel) rfl) rfl sb_nil)))))))))))))))))))))))))))
  (ms_cons
  (sb_cons (pc2 := 1394) (sx_aload_n (show decode cL_law 1393 = .ok (.aload_n 1, 1) by decide +kernel) rfl) rfl
    (sb_cons (pc2 := 1395) (sx_aload_n (show decode cL_law 1394 = .ok (.aload_n 0, 1) by decide +kernel) rfl) rfl
    (sb_cons (pc2 := 1396) (sx_iload_n (show decode cL_law 1395 = .ok (.iload_n 3, 1) by decide +kernel) rfl) rfl
    (sb_cons (pc2 := 1397) (sx_iconst (show decode cL_law 1396 = .ok (.iconst 1, 1) by decide +kernel) (by decide)) rfl
    (sb_cons (pc2 := 1398) (sx_iadd (show decode cL_law 1397 = .ok (.iadd, 1) by decide +kernel)) rfl
    (sb_cons (pc2 := 1399) (sx_iald (show decode cL_law 1398 = .ok (.iaload, 1) by decide +kernel)) rfl
    (sb_cons (pc2 := 1402) (sx_cV (Y' := YX11_count) (q := (RX11, TX11, 8)) rfl (show decode cL_law 1399 = .ok (.invokevirtual 166, 3) by decide +kernel) rfl rfl (px_w4 wd_1239 wd_1240 wd_1241 wd_487) wd_1238 ⟨by decide, by decide, by decide +kernel⟩ (by decide)) rfl
    (sb_cons (pc2 := 1403) (sx_aload_n (show decode cL_law 1402 = .ok (.aload_n 2, 1) by decide +kernel) rfl) rfl
    (sb_cons (pc2 := 1404) (sx_aload_n (show decode cL_law 1403 = .ok (.aload_n 0, 1) by decide +kernel) rfl) rfl
    (sb_cons (pc2 := 1405) (sx_iload_n (show decode cL_law 1404 = .ok (.iload_n 3, 1) by decide +kernel) rfl) rfl
    (sb_cons (pc2 := 1406) (sx_iconst (show decode cL_law 1405 = .ok (.iconst 1, 1) by decide +kernel) (by decide)) rfl
    (sb_cons (pc2 := 1407) (sx_iadd (show decode cL_law 1406 = .ok (.iadd, 1) by decide +kernel)) rfl
    (sb_cons (pc2 := 1408) (sx_iald (show decode cL_law 1407 = .ok (.iaload, 1) by decide +kernel)) rfl
    (sb_cons (pc2 := 1411) (sx_cV (Y' := YX12_count) (q := (RX12, TX12, 69)) rfl (show decode cL_law 1408 = .ok (.invokevirtual 169, 3) by decide +kernel) rfl rfl (px_w4 wd_1243 wd_1244 wd_1245 wd_719) wd_1242 ⟨by decide, by decide, by decide +kernel⟩ (by decide)) rfl
    (sb_cons (pc2 := 1414) (sx_icmp_eq (show decode cL_law 1411 = .ok (.if_icmp .eq 157, 3) by decide +kernel) (by decide)) rfl
    (sb_cons (pc2 := 1415) (sx_iconst (show decode cL_law 1414 = .ok (.iconst 0, 1) by decide +kernel) (by decide)) rfl
    (sb_cons (pc2 := 1416) (sx_retz (show decode cL_law 1415 = .ok (.ireturn, 1) by decide +kernel) rfl) rfl sb_nil)))))))))))))))))
  (ms_cons
  (sb_cons (pc2 := 1417) (sx_aload_n (show decode cL_law 1416 = .ok (.aload_n 1, 1) by decide +kernel) rfl) rfl
    (sb_cons (pc2 := 1418) (sx_aload_n (show decode cL_law 1417 = .ok (.aload_n 0, 1) by decide +kernel) rfl) rfl
    (sb_cons (pc2 := 1419) (sx_iload_n (show decode cL_law 1418 = .ok (.iload_n 3, 1) by decide +kernel) rfl) rfl
    (sb_cons (pc2 := 1420) (sx_iconst (show decode cL_law 1419 = .ok (.iconst 1, 1) by decide +kernel) (by decide)) rfl
    (sb_cons (pc2 := 1421) (sx_iadd (show decode cL_law 1420 = .ok (.iadd, 1) by decide +kernel)) rfl
    (sb_cons (pc2 := 1422) (sx_iald (show decode cL_law 1421 = .ok (.iaload, 1) by decide +kernel)) rfl
    (sb_cons (pc2 := 1423) (sx_aload_n (show decode cL_law 1422 = .ok (.aload_n 0, 1) by decide +kernel) rfl) rfl
    (sb_cons (pc2 := 1424) (sx_iload_n (show decode cL_law 1423 = .ok (.iload_n 3, 1) by decide +kernel) rfl) rfl
    (sb_cons (pc2 := 1425) (sx_iconst (show decode cL_law 1424 = .ok (.iconst 2, 1) by decide +kernel) (by decide)) rfl
    (sb_cons (pc2 := 1426) (sx_iadd (show decode cL_law 1425 = .ok (.iadd, 1) by decide +kernel)) rfl
    (sb_cons (pc2 := 1427) (sx_iald (show decode cL_law 1426 = .ok (.iaload, 1) by decide +kernel)) rfl
    (sb_cons (pc2 := 1428) (sx_aload_n (show decode cL_law 1427 = .ok (.aload_n 0, 1) by decide +kernel) rfl) rfl
    (sb_cons (pc2 := 1429) (sx_iload_n (show decode cL_law 1428 = .ok (.iload_n 3, 1) by decide +kernel) rfl) rfl
    (sb_cons (pc2 := 1430) (sx_iconst (show decode cL_law 1429 = .ok (.iconst 3, 1) by decide +kernel) (by decide)) rfl
    (sb_cons (pc2 := 1431) (sx_iadd (show decode cL_law 1430 = .ok (.iadd, 1) by decide +kernel)) rfl
    (sb_cons (pc2 := 1432) (sx_iald (show decode cL_law 1431 = .ok (.iaload, 1) by decide +kernel)) rfl
    (sb_cons (pc2 := 1435) (sx_cV (Y' := YX11_sheet) (q := (RX11, TX11, 8)) rfl (show decode cL_law 1432 = .ok (.invokevirtual 170, 3) by decide +kernel) rfl rfl (px_w4 wd_1247 wd_1248 wd_1249 wd_487) wd_1246 ⟨by decide, by decide, by decide +kernel⟩ (by decide)) rfl
    (sb_cons (pc2 := 1436) (sx_aload_n (show decode cL_law 1435 = .ok (.aload_n 2, 1) by decide +kernel) rfl) rfl
    (sb_cons (pc2 := 1437) (sx_aload_n (show decode cL_law 1436 = .ok (.aload_n 0, 1) by decide +kernel) rfl) rfl
    (sb_cons (pc2 := 1438) (sx_iload_n (show decode cL_law 1437 = .ok (.iload_n 3, 1) by decide +kernel) rfl) rfl
    (sb_cons (pc2 := 1439) (sx_iconst (show decode cL_law 1438 = .ok (.iconst 1, 1) by decide +kernel) (by decide)) rfl
    (sb_cons (pc2 := 1440) (sx_iadd (show decode cL_law 1439 = .ok (.iadd, 1) by decide +kernel)) rfl
    (sb_cons (pc2 := 1441) (sx_iald (show decode cL_law 1440 = .ok (.iaload, 1) by decide +kernel)) rfl
    (sb_cons (pc2 := 1442) (sx_aload_n (show decode cL_law 1441 = .ok (.aload_n 0, 1) by decide +kernel) rfl) rfl
    (sb_cons (pc2 := 1443) (sx_iload_n (show decode cL_law 1442 = .ok (.iload_n 3, 1) by decide +kernel) rfl) rfl
    (sb_cons (pc2 := 1444) (sx_iconst (show decode cL_law 1443 = .ok (.iconst 2, 1) by decide +kernel) (by decide)) rfl
    (sb_cons (pc2 := 1445) (sx_iadd (show decode cL_law 1444 = .ok (.iadd, 1) by decide +kernel)) rfl
    (sb_cons (pc2 := 1446) (sx_iald (show decode cL_law 1445 = .ok (.iaload, 1) by decide +kernel)) rfl
    (sb_cons (pc2 := 1447) (sx_aload_n (show decode cL_law 1446 = .ok (.aload_n 0, 1) by decide +kernel) rfl) rfl
    (sb_cons (pc2 := 1448) (sx_iload_n (show decode cL_law 1447 = .ok (.iload_n 3, 1) by decide +kernel) rfl) rfl
    (sb_cons (pc2 := 1449) (sx_iconst (show decode cL_law 1448 = .ok (.iconst 3, 1) by decide +kernel) (by decide)) rfl
    (sb_cons (pc2 := 1450) (sx_iadd (show decode cL_law 1449 = .ok (.iadd, 1) by decide +kernel)) rfl
    (sb_cons (pc2 := 1451) (sx_iald (show decode cL_law 1450 = .ok (.iaload, 1) by decide +kernel)) rfl
    (sb_cons (pc2 := 1454) (sx_cV (Y' := YX12_sheet) (q := (RX12, TX12, 69)) rfl (show decode cL_law 1451 = .ok (.invokevirtual 173, 3) by decide +kernel) rfl rfl (px_w4 wd_1251 wd_1252 wd_1253 wd_719) wd_1250 ⟨by decide, by decide, by decide +kernel⟩ (by decide)) rfl
    (sb_cons (pc2 := 1457) (sx_icmp_eq (show decode cL_law 1454 = .ok (.if_icmp .eq 114, 3) by decide +kernel) (by decide)) rfl
    (sb_cons (pc2 := 1458) (sx_iconst (show decode cL_law 1457 = .ok (.iconst 0, 1) by decide +kernel) (by decide)) rfl
    (sb_cons (pc2 := 1459) (sx_retz (show decode cL_law 1458 = .ok (.ireturn, 1) by decide +kernel) rfl) rfl sb_nil)))))))))))))))))))))))))))))))))))))
  (ms_cons
  (sb_cons (pc2 := 1460) (sx_aload_n (show decode cL_law 1459 = .ok (.aload_n 1, 1) by decide +kernel) rfl) rfl
    (sb_cons (pc2 := 1461) (sx_aload_n (show decode cL_law 1460 = .ok (.aload_n 0, 1) by decide +kernel) rfl) rfl
    (sb_cons (pc2 := 1462) (sx_iload_n (show decode cL_law 1461 = .ok (.iload_n 3, 1) by decide +kernel) rfl) rfl
    (sb_cons (pc2 := 1463) (sx_iconst (show decode cL_law 1462 = .ok (.iconst 1, 1) by decide +kernel) (by decide)) rfl
    (sb_cons (pc2 := 1464) (sx_iadd (show decode cL_law 1463 = .ok (.iadd, 1) by decide +kernel)) rfl
    (sb_cons (pc2 := 1465) (sx_iald (show decode cL_law 1464 = .ok (.iaload, 1) by decide +kernel)) rfl
    (sb_cons (pc2 := 1466) (sx_aload_n (show decode cL_law 1465 = .ok (.aload_n 0, 1) by decide +kernel) rfl) rfl
    (sb_cons (pc2 := 1467) (sx_iload_n (show decode cL_law 1466 = .ok (.iload_n 3, 1) by decide +kernel) rfl) rfl
    (sb_cons (pc2 := 1468) (sx_iconst (show decode cL_law 1467 = .ok (.iconst 2, 1) by decide +kernel) (by decide)) rfl
    (sb_cons (pc2 := 1469) (sx_iadd (show decode cL_law 1468 = .ok (.iadd, 1) by decide +kernel)) rfl
    (sb_cons (pc2 := 1470) (sx_iald (show decode cL_law 1469 = .ok (.iaload, 1) by decide +kernel)) rfl
    (sb_cons (pc2 := 1471) (sx_aload_n (show decode cL_law 1470 = .ok (.aload_n 0, 1) by decide +kernel) rfl) rfl
    (sb_cons (pc2 := 1472) (sx_iload_n (show decode cL_law 1471 = .ok (.iload_n 3, 1) by decide +kernel) rfl) rfl
    (sb_cons (pc2 := 1473) (sx_iconst (show decode cL_law 1472 = .ok (.iconst 3, 1) by decide +kernel) (by decide)) rfl
    (sb_cons (pc2 := 1474) (sx_iadd (show decode cL_law 1473 = .ok (.iadd, 1) by decide +kernel)) rfl
    (sb_cons (pc2 := 1475) (sx_iald (show decode cL_law 1474 = .ok (.iaload, 1) by decide +kernel)) rfl
    (sb_cons (pc2 := 1478) (sx_cV (Y' := YX11_cell) (q := (RX11, TX11, 8)) rfl (show decode cL_law 1475 = .ok (.invokevirtual 174, 3) by decide +kernel) rfl rfl (px_w4 wd_1255 wd_1256 wd_1257 wd_487) wd_1254 ⟨by decide, by decide, by decide +kernel⟩ (by decide)) rfl
    (sb_cons (pc2 := 1479) (sx_aload_n (show decode cL_law 1478 = .ok (.aload_n 2, 1) by decide +kernel) rfl) rfl
    (sb_cons (pc2 := 1480) (sx_aload_n (show decode cL_law 1479 = .ok (.aload_n 0, 1) by decide +kernel) rfl) rfl
    (sb_cons (pc2 := 1481) (sx_iload_n (show decode cL_law 1480 = .ok (.iload_n 3, 1) by decide +kernel) rfl) rfl
    (sb_cons (pc2 := 1482) (sx_iconst (show decode cL_law 1481 = .ok (.iconst 1, 1) by decide +kernel) (by decide)) rfl
    (sb_cons (pc2 := 1483) (sx_iadd (show decode cL_law 1482 = .ok (.iadd, 1) by decide +kernel)) rfl
    (sb_cons (pc2 := 1484) (sx_iald (show decode cL_law 1483 = .ok (.iaload, 1) by decide +kernel)) rfl
    (sb_cons (pc2 := 1485) (sx_aload_n (show decode cL_law 1484 = .ok (.aload_n 0, 1) by decide +kernel) rfl) rfl
    (sb_cons (pc2 := 1486) (sx_iload_n (show decode cL_law 1485 = .ok (.iload_n 3, 1) by decide +kernel) rfl) rfl
    (sb_cons (pc2 := 1487) (sx_iconst (show decode cL_law 1486 = .ok (.iconst 2, 1) by decide +kernel) (by decide)) rfl
    (sb_cons (pc2 := 1488) (sx_iadd (show decode cL_law 1487 = .ok (.iadd, 1) by decide +kernel)) rfl
    (sb_cons (pc2 := 1489) (sx_iald (show decode cL_law 1488 = .ok (.iaload, 1) by decide +kernel)) rfl
    (sb_cons (pc2 := 1490) (sx_aload_n (show decode cL_law 1489 = .ok (.aload_n 0, 1) by decide +kernel) rfl) rfl
    (sb_cons (pc2 := 1491) (sx_iload_n (show decode cL_law 1490 = .ok (.iload_n 3, 1) by decide +kernel) rfl) rfl
    (sb_cons (pc2 := 1492) (sx_iconst (show decode cL_law 1491 = .ok (.iconst 3, 1) by decide +kernel) (by decide)) rfl
    (sb_cons (pc2 := 1493) (sx_iadd (show decode cL_law 1492 = .ok (.iadd, 1) by decide +kernel)) rfl
    (sb_cons (pc2 := 1494) (sx_iald (show decode cL_law 1493 = .ok (.iaload, 1) by decide +kernel)) rfl
    (sb_cons (pc2 := 1497) (sx_cV (Y' := YX12_cell) (q := (RX12, TX12, 69)) rfl (show decode cL_law 1494 = .ok (.invokevirtual 177, 3) by decide +kernel) rfl rfl (px_w4 wd_1259 wd_1260 wd_1261 wd_719) wd_1258 ⟨by decide, by decide, by decide +kernel⟩ (by decide)) rfl
    (sb_cons (pc2 := 1500) (sx_icmp_eq (show decode cL_law 1497 = .ok (.if_icmp .eq 71, 3) by decide +kernel) (by decide)) rfl
    (sb_cons (pc2 := 1501) (sx_iconst (show decode cL_law 1500 = .ok (.iconst 0, 1) by decide +kernel) (by decide)) rfl
    (sb_cons (pc2 := 1502) (sx_retz (show decode cL_law 1501 = .ok (.ireturn, 1) by decide +kernel) rfl) rfl sb_nil)))))))))))))))))))))))))))))))))))))
  (ms_cons
  (sb_cons (pc2 := 1503) (sx_aload_n (show decode cL_law 1502 = .ok (.aload_n 1, 1) by decide +kernel) rfl) rfl
    (sb_cons (pc2 := 1504) (sx_aload_n (show decode cL_law 1503 = .ok (.aload_n 0, 1) by decide +kernel) rfl) rfl
    (sb_cons (pc2 := 1505) (sx_iload_n (show decode cL_law 1504 = .ok (.iload_n 3, 1) by decide +kernel) rfl) rfl
    (sb_cons (pc2 := 1506) (sx_iconst (show decode cL_law 1505 = .ok (.iconst 1, 1) by decide +kernel) (by decide)) rfl
    (sb_cons (pc2 := 1507) (sx_iadd (show decode cL_law 1506 = .ok (.iadd, 1) by decide +kernel)) rfl
    (sb_cons (pc2 := 1508) (sx_iald (show decode cL_law 1507 = .ok (.iaload, 1) by decide +kernel)) rfl
    (sb_cons (pc2 := 1509) (sx_aload_n (show decode cL_law 1508 = .ok (.aload_n 0, 1) by decide +kernel) rfl) rfl
    (sb_cons (pc2 := 1510) (sx_iload_n (show decode cL_law 1509 = .ok (.iload_n 3, 1) by decide +kernel) rfl) rfl
    (sb_cons (pc2 := 1511) (sx_iconst (show decode cL_law 1510 = .ok (.iconst 2, 1) by decide +kernel) (by decide)) rfl
    (sb_cons (pc2 := 1512) (sx_iadd (show decode cL_law 1511 = .ok (.iadd, 1) by decide +kernel)) rfl
    (sb_cons (pc2 := 1513) (sx_iald (show decode cL_law 1512 = .ok (.iaload, 1) by decide +kernel)) rfl
    (sb_cons (pc2 := 1516) (sx_cV (Y' := YX11_none) (q := (RX11, TX11, 8)) rfl (show decode cL_law 1513 = .ok (.invokevirtual 178, 3) by decide +kernel) rfl rfl (px_w4 wd_1263 wd_1264 wd_1265 wd_487) wd_1262 ⟨by decide, by decide, by decide +kernel⟩ (by decide)) rfl
    (sb_cons (pc2 := 1517) (sx_aload_n (show decode cL_law 1516 = .ok (.aload_n 2, 1) by decide +kernel) rfl) rfl
    (sb_cons (pc2 := 1518) (sx_aload_n (show decode cL_law 1517 = .ok (.aload_n 0, 1) by decide +kernel) rfl) rfl
    (sb_cons (pc2 := 1519) (sx_iload_n (show decode cL_law 1518 = .ok (.iload_n 3, 1) by decide +kernel) rfl) rfl
    (sb_cons (pc2 := 1520) (sx_iconst (show decode cL_law 1519 = .ok (.iconst 1, 1) by decide +kernel) (by decide)) rfl
    (sb_cons (pc2 := 1521) (sx_iadd (show decode cL_law 1520 = .ok (.iadd, 1) by decide +kernel)) rfl
    (sb_cons (pc2 := 1522) (sx_iald (show decode cL_law 1521 = .ok (.iaload, 1) by decide +kernel)) rfl
    (sb_cons (pc2 := 1523) (sx_aload_n (show decode cL_law 1522 = .ok (.aload_n 0, 1) by decide +kernel) rfl) rfl
    (sb_cons (pc2 := 1524) (sx_iload_n (show decode cL_law 1523 = .ok (.iload_n 3, 1) by decide +kernel) rfl) rfl
    (sb_cons (pc2 := 1525) (sx_iconst (show decode cL_law 1524 = .ok (.iconst 2, 1) by decide +kernel) (by decide)) rfl
    (sb_cons (pc2 := 1526) (sx_iadd (show decode cL_law 1525 = .ok (.iadd, 1) by decide +kernel)) rfl
    (sb_cons (pc2 := 1527) (sx_iald (show decode cL_law 1526 = .ok (.iaload, 1) by decide +kernel)) rfl
    (sb_cons (pc2 := 1530) (sx_cV (Y' := YX12_none) (q := (RX12, TX12, 69)) rfl (show decode cL_law 1527 = .ok (.invokevirtual 181, 3) by decide +kernel) rfl rfl (px_w4 wd_1267 wd_1268 wd_1269 wd_719) wd_1266 ⟨by decide, by decide, by decide +kernel⟩ (by decide)) rfl
    (sb_cons (pc2 := 1533) (sx_icmp_eq (show decode cL_law 1530 = .ok (.if_icmp .eq 38, 3) by decide +kernel) (by decide)) rfl
    (sb_cons (pc2 := 1534) (sx_iconst (show decode cL_law 1533 = .ok (.iconst 0, 1) by decide +kernel) (by decide)) rfl
    (sb_cons (pc2 := 1535) (sx_retz (show decode cL_law 1534 = .ok (.ireturn, 1) by decide +kernel) rfl) rfl sb_nil)))))))))))))))))))))))))))
  (ms_cons
  (sb_cons (pc2 := 1536) (sx_aload_n (show decode cL_law 1535 = .ok (.aload_n 1, 1) by decide +kernel) rfl) rfl
    (sb_cons (pc2 := 1537) (sx_aload_n (show decode cL_law 1536 = .ok (.aload_n 0, 1) by decide +kernel) rfl) rfl
    (sb_cons (pc2 := 1538) (sx_iload_n (show decode cL_law 1537 = .ok (.iload_n 3, 1) by decide +kernel) rfl) rfl
    (sb_cons (pc2 := 1539) (sx_iconst (show decode cL_law 1538 = .ok (.iconst 1, 1) by decide +kernel) (by decide)) rfl
    (sb_cons (pc2 := 1540) (sx_iadd (show decode cL_law 1539 = .ok (.iadd, 1) by decide +kernel)) rfl
    (sb_cons (pc2 := 1541) (sx_iald (show decode cL_law 1540 = .ok (.iaload, 1) by decide +kernel)) rfl
    (sb_cons (pc2 := 1542) (sx_aload_n (show decode cL_law 1541 = .ok (.aload_n 0, 1) by decide +kernel) rfl) rfl
    (sb_cons (pc2 := 1543) (sx_iload_n (show decode cL_law 1542 = .ok (.iload_n 3, 1) by decide +kernel) rfl) rfl
    (sb_cons (pc2 := 1544) (sx_iconst (show decode cL_law 1543 = .ok (.iconst 2, 1) by decide +kernel) (by decide)) rfl
    (sb_cons (pc2 := 1545) (sx_iadd (show decode cL_law 1544 = .ok (.iadd, 1) by decide +kernel)) rfl
    (sb_cons (pc2 := 1546) (sx_iald (show decode cL_law 1545 = .ok (.iaload, 1) by decide +kernel)) rfl
    (sb_cons (pc2 := 1549) (sx_cV (Y' := YX11_taken) (q := (RX11, TX11, 8)) rfl (show decode cL_law 1546 = .ok (.invokevirtual 182, 3) by decide +kernel) rfl rfl (px_w4 wd_1271 wd_1272 wd_1273 wd_487) wd_1270 ⟨by decide, by decide, by decide +kernel⟩ (by decide)) rfl
    (sb_cons (pc2 := 1550) (sx_aload_n (show decode cL_law 1549 = .ok (.aload_n 2, 1) by decide +kernel) rfl) rfl
    (sb_cons (pc2 := 1551) (sx_aload_n (show decode cL_law 1550 = .ok (.aload_n 0, 1) by decide +kernel) rfl) rfl
    (sb_cons (pc2 := 1552) (sx_iload_n (show decode cL_law 1551 = .ok (.iload_n 3, 1) by decide +kernel) rfl) rfl
    (sb_cons (pc2 := 1553) (sx_iconst (show decode cL_law 1552 = .ok (.iconst 1, 1) by decide +kernel) (by decide)) rfl
    (sb_cons (pc2 := 1554) (sx_iadd (show decode cL_law 1553 = .ok (.iadd, 1) by decide +kernel)) rfl
    (sb_cons (pc2 := 1555) (sx_iald (show decode cL_law 1554 = .ok (.iaload, 1) by decide +kernel)) rfl
    (sb_cons (pc2 := 1556) (sx_aload_n (show decode cL_law 1555 = .ok (.aload_n 0, 1) by decide +kernel) rfl) rfl
    (sb_cons (pc2 := 1557) (sx_iload_n (show decode cL_law 1556 = .ok (.iload_n 3, 1) by decide +kernel) rfl) rfl
    (sb_cons (pc2 := 1558) (sx_iconst (show decode cL_law 1557 = .ok (.iconst 2, 1) by decide +kernel) (by decide)) rfl
    (sb_cons (pc2 := 1559) (sx_iadd (show decode cL_law 1558 = .ok (.iadd, 1) by decide +kernel)) rfl
    (sb_cons (pc2 := 1560) (sx_iald (show decode cL_law 1559 = .ok (.iaload, 1) by decide +kernel)) rfl
    (sb_cons (pc2 := 1563) (sx_cV (Y' := YX12_taken) (q := (RX12, TX12, 69)) rfl (show decode cL_law 1560 = .ok (.invokevirtual 185, 3) by decide +kernel) rfl rfl (px_w4 wd_1275 wd_1276 wd_1277 wd_719) wd_1274 ⟨by decide, by decide, by decide +kernel⟩ (by decide)) rfl
    (sb_cons (pc2 := 1566) (sx_icmp_eq (show decode cL_law 1563 = .ok (.if_icmp .eq 5, 3) by decide +kernel) (by decide)) rfl
    (sb_cons (pc2 := 1567) (sx_iconst (show decode cL_law 1566 = .ok (.iconst 0, 1) by decide +kernel) (by decide)) rfl
    (sb_cons (pc2 := 1568) (sx_retz (show decode cL_law 1567 = .ok (.ireturn, 1) by decide +kernel) rfl) rfl sb_nil)))))))))))))))))))))))))))
  (ms_cons
  (sb_cons (pc2 := 1571) (sx_iinc (show decode cL_law 1568 = .ok (.iinc 3 6, 3) by decide +kernel) (by decide)) rfl
    (sb_cons (pc2 := 1574) (px_snd_goto (show decode cL_law 1571 = .ok (.goto (-1553), 3) by decide +kernel) (by decide)) rfl sb_nil))
  (ms_cons
  (sb_cons (pc2 := 1575) (sx_iconst (show decode cL_law 1574 = .ok (.iconst 1, 1) by decide +kernel) (by decide)) rfl
    (sb_cons (pc2 := 1576) (sx_retz (show decode cL_law 1575 = .ok (.ireturn, 1) by decide +kernel) rfl) rfl sb_nil))
  ms_nil))))))))))))))))))))))))))))))))))))))))))))))))
