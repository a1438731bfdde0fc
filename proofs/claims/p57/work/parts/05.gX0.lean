set_option maxRecDepth 20000 in
theorem ggX0_init_X4_init : GoodIn wsX0_init wsX4_init := goodIn_r _ [9, 10, 2, 3, 11, 12, 13, 14, 15, 16, 17, 18, 19, 20, 21, 22, 23, 24, 28, 29, 30, 31, 32, 33, 34, 35, 36, 37, 38, 39, 40, 41, 42, 43, 44] (by decide +kernel) (by decide +kernel)
set_option maxRecDepth 20000 in
theorem gX0_init_X4_init_n15 : GoodIn wsX0_init (wsX4_init) := ggX0_init_X4_init
set_option maxRecDepth 20000 in
theorem ggX0_record_X4_copyFrom : GoodIn wsX0_record wsX4_copyFrom := goodIn_r _ [12, 13, 14, 15, 16, 17, 18, 19, 20, 21, 22, 23, 24, 25, 26, 27, 28, 29, 30, 31, 32, 33, 37, 38, 39, 40, 41, 42, 43, 44, 45, 46, 47, 48, 49, 50, 51, 52, 53] (by decide +kernel) (by decide +kernel)
set_option maxRecDepth 20000 in
theorem gX0_record_X4_copyFrom : GoodIn wsX0_record (wsV RX0 20 RX4 yX4_copyFrom wsX4_copyFrom) := goodIn_app (goodIn_of _ (by decide +kernel)) ggX0_record_X4_copyFrom
set_option maxRecDepth 20000 in
theorem ggX0_takeBack_X4_copyFrom : GoodIn wsX0_takeBack wsX4_copyFrom := goodIn_r _ [8, 9, 10, 11, 12, 13, 14, 15, 16, 17, 18, 19, 20, 21, 22, 23, 24, 25, 26, 27, 28, 29, 33, 34, 35, 36, 37, 38, 39, 40, 41, 42, 43, 44, 45, 46, 47, 48, 49] (by decide +kernel) (by decide +kernel)
set_option maxRecDepth 20000 in
theorem gX0_takeBack_X4_copyFrom : GoodIn wsX0_takeBack (wsV RX0 20 RX4 yX4_copyFrom wsX4_copyFrom) := goodIn_app (goodIn_of _ (by decide +kernel)) ggX0_takeBack_X4_copyFrom
set_option maxRecDepth 20000 in
theorem ggX2_init_X4_init : GoodIn wsX2_init wsX4_init := goodIn_r _ [12, 13, 2, 3, 14, 15, 16, 17, 18, 19, 20, 21, 22, 23, 24, 25, 26, 27, 38, 39, 40, 41, 42, 43, 44, 45, 46, 47, 48, 49, 50, 51, 52, 53, 54] (by decide +kernel) (by decide +kernel)
set_option maxRecDepth 20000 in
theorem gX2_init_X4_init_n21 : GoodIn wsX2_init (wsX4_init) := ggX2_init_X4_init
set_option maxRecDepth 20000 in
theorem ggX2_putInt_X2_put : GoodIn wsX2_putInt wsX2_put := goodIn_r _ [5, 6, 7, 8, 9, 10, 11, 12, 13, 14, 15, 16, 17] (by decide +kernel) (by decide +kernel)
set_option maxRecDepth 20000 in
theorem gX2_putInt_X2_put : GoodIn wsX2_putInt (wsV RX2 29 RX2 yX2_put wsX2_put) := goodIn_app (goodIn_of _ (by decide +kernel)) ggX2_putInt_X2_put
set_option maxRecDepth 20000 in
theorem ggX2_putText_J0_length_8abf5 : GoodIn wsX2_putText wsJ0_length_8abf5 := goodIn_r _ [5, 6, 7, 8, 9, 4, 10, 11, 12, 57, 58, 59, 60] (by decide +kernel) (by decide +kernel)
set_option maxRecDepth 20000 in
theorem gX2_putText_J0_length_8abf5 : GoodIn wsX2_putText (wsV RX2 33 RJ0 yJ0_length_8abf5 wsJ0_length_8abf5) := goodIn_app (goodIn_of _ (by decide +kernel)) ggX2_putText_J0_length_8abf5
set_option maxRecDepth 20000 in
theorem ggX2_putText_J0_charAt_5068e : GoodIn wsX2_putText wsJ0_charAt_5068e := goodIn_r _ [16, 6, 17, 18, 19, 4, 20, 11, 12, 21, 22, 23, 24, 25, 26, 27, 28, 29, 30, 31, 32, 33, 34, 35, 36, 37, 38, 39, 40, 41, 42, 43, 44, 45, 46, 47, 48, 49, 57, 58, 59, 60] (by decide +kernel) (by decide +kernel)
set_option maxRecDepth 20000 in
theorem gX2_putText_J0_charAt_5068e : GoodIn wsX2_putText (wsV RX2 39 RJ0 yJ0_charAt_5068e wsJ0_charAt_5068e) := goodIn_app (goodIn_of _ (by decide +kernel)) ggX2_putText_J0_charAt_5068e
set_option maxRecDepth 20000 in
theorem ggX2_putText_X2_put : GoodIn wsX2_putText wsX2_put := goodIn_r _ [54, 55, 56, 61, 62, 63, 64, 65, 66, 67, 68, 69, 70] (by decide +kernel) (by decide +kernel)
set_option maxRecDepth 20000 in
theorem gX2_putText_X2_put : GoodIn wsX2_putText (wsV RX2 29 RX2 yX2_put wsX2_put) := goodIn_app (goodIn_of _ (by decide +kernel)) ggX2_putText_X2_put
set_option maxRecDepth 20000 in
theorem ggX2_parseText_X4_makeEmpty : GoodIn wsX2_parseText wsX4_makeEmpty := goodIn_r _ [17, 18, 19, 20, 21, 22, 197, 198, 199, 200, 201, 202, 203, 204, 205, 206, 207, 208, 209, 210, 211, 212, 213] (by decide +kernel) (by decide +kernel)
set_option maxRecDepth 20000 in
theorem gX2_parseText_X4_makeEmpty : GoodIn wsX2_parseText (wsV RX2 55 RX4 yX4_makeEmpty wsX4_makeEmpty) := goodIn_app (goodIn_of _ (by decide +kernel)) ggX2_parseText_X4_makeEmpty
set_option maxRecDepth 20000 in
theorem ggX2_parseText_X2_readToken : GoodIn wsX2_parseText wsX2_readToken := goodIn_r _ [27, 10, 12, 11, 28, 6, 29, 30, 31, 32, 26, 33, 187, 188, 189, 190, 191, 192, 193, 194, 195, 196] (by decide +kernel) (by decide +kernel)
set_option maxRecDepth 20000 in
theorem gX2_parseText_X2_readToken : GoodIn wsX2_parseText (wsV RX2 67 RX2 yX2_readToken wsX2_readToken) := goodIn_app (goodIn_of _ (by decide +kernel)) ggX2_parseText_X2_readToken
set_option maxRecDepth 20000 in
theorem ggX2_parseText_X2_takeWord : GoodIn wsX2_parseText wsX2_takeWord := goodIn_r _ [37, 10, 12, 11, 29, 38, 39, 40, 41, 42, 43, 44, 45, 46, 47, 48, 49, 50, 51, 52, 53, 54, 55, 56, 57, 58, 59, 60, 61, 62, 63, 64, 65, 66, 67, 68, 69, 70, 71, 72, 73, 74, 75, 76, 77, 78, 79, 80, 81, 82, 83, 84, 85, 86, 23, 24, 25, 26, 27, 28, 6, 30, 31, 32, 33, 187, 188, 189, 190, 191, 192, 193, 194, 195, 196, 214, 215, 216, 217] (by decide +kernel) (by decide +kernel)
set_option maxRecDepth 20000 in
theorem gX2_parseText_X2_takeWord : GoodIn wsX2_parseText (wsV RX2 72 RX2 yX2_takeWord wsX2_takeWord) := goodIn_app (goodIn_of _ (by decide +kernel)) ggX2_parseText_X2_takeWord
set_option maxRecDepth 20000 in
theorem ggX2_parseText_X2_fail : GoodIn wsX2_parseText wsX2_fail := goodIn_r _ [90, 7, 8, 187, 188, 189, 190, 191, 192, 193, 194, 195, 196] (by decide +kernel) (by decide +kernel)
set_option maxRecDepth 20000 in
theorem gX2_parseText_X2_fail : GoodIn wsX2_parseText (wsV RX2 76 RX2 yX2_fail wsX2_fail) := goodIn_app (goodIn_of _ (by decide +kernel)) ggX2_parseText_X2_fail
set_option maxRecDepth 20000 in
theorem ggX2_parseText_X2_parseLine : GoodIn wsX2_parseText wsX2_parseLine := goodIn_r _ [94, 9, 95, 2, 3, 4, 5, 96, 11, 34, 35, 36, 26, 37, 10, 12, 29, 38, 39, 40, 41, 42, 43, 44, 45, 46, 47, 48, 49, 50, 51, 52, 53, 54, 55, 56, 57, 58, 59, 60, 61, 62, 63, 64, 65, 66, 67, 68, 69, 70, 71, 72, 73, 74, 75, 76, 77, 78, 79, 80, 81, 82, 83, 84, 85, 86, 23, 24, 25, 27, 28, 6, 30, 31, 32, 33, 97, 98, 99, 100, 87, 88, 89, 90, 7, 8, 101, 102, 103, 104, 105, 106, 107, 16, 108, 19, 109, 110, 111, 112, 113, 114, 115, 116, 117, 118, 119, 120, 121, 122, 123, 124, 125, 126, 127, 20, 128, 129, 130, 131, 132, 133, 22, 134, 135, 136, 137, 18, 138, 139, 140, 141, 142, 143, 144, 145, 146, 147, 148, 149, 150, 151, 152, 153, 154, 155, 156, 157, 158, 159, 160, 161, 162, 163, 164, 165, 166, 167, 168, 169, 170, 171, 172, 173, 174, 175, 176, 177, 178, 179, 180, 181, 182, 183, 184, 185, 186, 187, 188, 189, 190, 191, 192, 193, 194, 195, 196, 197, 198, 199, 200, 201, 202, 203, 204, 205, 206, 207, 208, 209, 210, 211, 212, 213, 214, 215, 216, 217] (by decide +kernel) (by decide +kernel)
set_option maxRecDepth 20000 in
theorem gX2_parseText_X2_parseLine : GoodIn wsX2_parseText (wsV RX2 80 RX2 yX2_parseLine wsX2_parseLine) := goodIn_app (goodIn_of _ (by decide +kernel)) ggX2_parseText_X2_parseLine
set_option maxRecDepth 20000 in
theorem ggX2_parseLine_X2_takeWord : GoodIn wsX2_parseLine wsX2_takeWord := goodIn_r _ [13, 14, 15, 8, 16, 17, 18, 19, 20, 21, 22, 23, 24, 25, 26, 27, 28, 29, 30, 31, 32, 33, 34, 35, 36, 37, 38, 39, 40, 41, 42, 43, 44, 45, 46, 47, 48, 49, 50, 51, 52, 53, 54, 55, 56, 57, 58, 59, 60, 61, 62, 63, 64, 65, 66, 67, 68, 12, 69, 70, 71, 72, 73, 74, 75, 177, 178, 179, 180, 181, 182, 183, 184, 185, 186, 204, 205, 206, 207] (by decide +kernel) (by decide +kernel)
set_option maxRecDepth 20000 in
theorem gX2_parseLine_X2_takeWord : GoodIn wsX2_parseLine (wsV RX2 72 RX2 yX2_takeWord wsX2_takeWord) := goodIn_app (goodIn_of _ (by decide +kernel)) ggX2_parseLine_X2_takeWord
set_option maxRecDepth 20000 in
theorem ggX2_parseLine_X2_parseBlock : GoodIn wsX2_parseLine wsX2_parseBlock := goodIn_r _ [79, 1, 7, 70, 80, 81, 82, 12, 83, 84, 85, 86, 87, 88, 89, 14, 15, 8, 16, 66, 67, 68, 69, 71, 72, 73, 74, 75, 9, 10, 11, 13, 17, 18, 19, 20, 21, 22, 23, 24, 25, 26, 27, 28, 29, 30, 31, 32, 33, 34, 35, 36, 37, 38, 39, 40, 41, 42, 43, 44, 45, 46, 47, 48, 49, 50, 51, 52, 53, 54, 55, 56, 57, 58, 59, 60, 61, 62, 63, 64, 65, 90, 91, 92, 93, 94, 95, 96, 97, 98, 99, 100, 101, 177, 178, 179, 180, 181, 182, 183, 184, 185, 186, 187, 188, 189, 190, 191, 192, 193, 194, 195, 196, 197, 198, 199, 200, 201, 202, 203, 204, 205, 206, 207] (by decide +kernel) (by decide +kernel)
set_option maxRecDepth 20000 in
theorem gX2_parseLine_X2_parseBlock : GoodIn wsX2_parseLine (wsV RX2 86 RX2 yX2_parseBlock wsX2_parseBlock) := goodIn_app (goodIn_of _ (by decide +kernel)) ggX2_parseLine_X2_parseBlock
set_option maxRecDepth 20000 in
theorem ggX2_parseLine_X2_parseTrain : GoodIn wsX2_parseLine wsX2_parseTrain := goodIn_r _ [105, 1, 106, 70, 7, 80, 81, 82, 12, 83, 84, 85, 86, 87, 88, 89, 14, 15, 8, 16, 66, 67, 68, 69, 71, 72, 73, 74, 75, 107, 108, 109, 93, 110, 101, 100, 111, 112, 113, 114, 115, 116, 117, 118, 119, 120, 121, 122, 177, 178, 179, 180, 181, 182, 183, 184, 185, 186, 187, 188, 189, 190, 191, 192, 193, 194, 195, 196, 197, 198, 199, 200, 201, 202, 203] (by decide +kernel) (by decide +kernel)
set_option maxRecDepth 20000 in
theorem gX2_parseLine_X2_parseTrain : GoodIn wsX2_parseLine (wsV RX2 91 RX2 yX2_parseTrain wsX2_parseTrain) := goodIn_app (goodIn_of _ (by decide +kernel)) ggX2_parseLine_X2_parseTrain
set_option maxRecDepth 20000 in
theorem ggX2_parseLine_X2_takeNumber : GoodIn wsX2_parseLine wsX2_takeNumber := goodIn_r _ [89, 14, 15, 8, 16, 80, 81, 82, 12, 83, 84, 85, 66, 67, 68, 69, 70, 71, 72, 73, 74, 75, 177, 178, 179, 180, 181, 182, 183, 184, 185, 186] (by decide +kernel) (by decide +kernel)
set_option maxRecDepth 20000 in
theorem gX2_parseLine_X2_takeNumber : GoodIn wsX2_parseLine (wsV RX2 99 RX2 yX2_takeNumber wsX2_takeNumber) := goodIn_app (goodIn_of _ (by decide +kernel)) ggX2_parseLine_X2_takeNumber
set_option maxRecDepth 20000 in
theorem ggX2_parseLine_X4_pass : GoodIn wsX2_parseLine wsX4_pass := goodIn_r _ [126, 127, 115, 128, 129, 130, 93, 131, 116, 117, 96, 132, 4, 5, 6, 120, 101, 99, 133, 134, 135, 136, 119, 137, 138, 139, 140, 98, 141, 142, 143, 144, 95, 145, 146, 147, 148, 149, 108, 109, 110, 100, 150, 151, 152, 153, 97, 118, 121, 187, 188, 189, 190, 191, 192, 193, 194, 195, 196, 197, 198, 199, 200, 201, 202, 203] (by decide +kernel) (by decide +kernel)
set_option maxRecDepth 20000 in
theorem gX2_parseLine_X4_pass : GoodIn wsX2_parseLine (wsV RX2 102 RX4 yX4_pass wsX4_pass) := goodIn_app (goodIn_of _ (by decide +kernel)) ggX2_parseLine_X4_pass
set_option maxRecDepth 20000 in
theorem ggX2_parseLine_X2_pullLever : GoodIn wsX2_parseLine wsX2_pullLever := goodIn_r _ [157, 1, 70, 158, 159, 160, 161, 93, 162, 101, 100, 99, 163, 164, 165, 166, 98, 141, 142, 143, 144, 95, 149, 108, 109, 110, 80, 81, 82, 12, 83, 84, 85, 177, 178, 179, 180, 181, 182, 183, 184, 185, 186, 187, 188, 189, 190, 191, 192, 193, 194, 195, 196, 197, 198, 199, 200, 201, 202, 203] (by decide +kernel) (by decide +kernel)
set_option maxRecDepth 20000 in
theorem gX2_parseLine_X2_pullLever : GoodIn wsX2_parseLine (wsV RX2 111 RX2 yX2_pullLever wsX2_pullLever) := goodIn_app (goodIn_of _ (by decide +kernel)) ggX2_parseLine_X2_pullLever
set_option maxRecDepth 20000 in
theorem ggX2_parseLine_X2_showDanger : GoodIn wsX2_parseLine wsX2_showDanger := goodIn_r _ [170, 1, 158, 70, 80, 81, 82, 12, 83, 84, 85, 177, 178, 179, 180, 181, 182, 183, 184, 185, 186, 187, 188, 189, 190, 191, 192, 193, 194, 195, 196, 197, 198, 199, 200, 201, 202, 203] (by decide +kernel) (by decide +kernel)
set_option maxRecDepth 20000 in
theorem gX2_parseLine_X2_showDanger : GoodIn wsX2_parseLine (wsV RX2 117 RX2 yX2_showDanger wsX2_showDanger) := goodIn_app (goodIn_of _ (by decide +kernel)) ggX2_parseLine_X2_showDanger
set_option maxRecDepth 20000 in
theorem ggX2_parseLine_X2_mend : GoodIn wsX2_parseLine wsX2_mend := goodIn_r _ [174, 1, 175, 70, 176, 80, 81, 82, 12, 83, 84, 85, 177, 178, 179, 180, 181, 182, 183, 184, 185, 186, 187, 188, 189, 190, 191, 192, 193, 194, 195, 196, 197, 198, 199, 200, 201, 202, 203] (by decide +kernel) (by decide +kernel)
set_option maxRecDepth 20000 in
theorem gX2_parseLine_X2_mend : GoodIn wsX2_parseLine (wsV RX2 122 RX2 yX2_mend wsX2_mend) := goodIn_app (goodIn_of _ (by decide +kernel)) ggX2_parseLine_X2_mend
set_option maxRecDepth 20000 in
theorem ggX2_parseLine_X2_fail : GoodIn wsX2_parseLine wsX2_fail := goodIn_r _ [83, 84, 85, 177, 178, 179, 180, 181, 182, 183, 184, 185, 186] (by decide +kernel) (by decide +kernel)
set_option maxRecDepth 20000 in
theorem gX2_parseLine_X2_fail : GoodIn wsX2_parseLine (wsV RX2 76 RX2 yX2_fail wsX2_fail) := goodIn_app (goodIn_of _ (by decide +kernel)) ggX2_parseLine_X2_fail
set_option maxRecDepth 20000 in
theorem ggX2_parseBlock_X2_fail : GoodIn wsX2_parseBlock wsX2_fail := goodIn_r _ [8, 9, 10, 93, 94, 95, 96, 97, 98, 99, 100, 101, 102] (by decide +kernel) (by decide +kernel)
set_option maxRecDepth 20000 in
theorem gX2_parseBlock_X2_fail : GoodIn wsX2_parseBlock (wsV RX2 76 RX2 yX2_fail wsX2_fail) := goodIn_app (goodIn_of _ (by decide +kernel)) ggX2_parseBlock_X2_fail
set_option maxRecDepth 20000 in
theorem ggX2_parseBlock_X2_takeNumber : GoodIn wsX2_parseBlock wsX2_takeNumber := goodIn_r _ [14, 15, 16, 17, 18, 4, 5, 6, 7, 8, 9, 10, 19, 20, 21, 22, 3, 23, 24, 25, 26, 27, 93, 94, 95, 96, 97, 98, 99, 100, 101, 102] (by decide +kernel) (by decide +kernel)
set_option maxRecDepth 20000 in
theorem gX2_parseBlock_X2_takeNumber : GoodIn wsX2_parseBlock (wsV RX2 99 RX2 yX2_takeNumber wsX2_takeNumber) := goodIn_app (goodIn_of _ (by decide +kernel)) ggX2_parseBlock_X2_takeNumber
set_option maxRecDepth 20000 in
theorem ggX2_parseBlock_X2_takeWord : GoodIn wsX2_parseBlock wsX2_takeWord := goodIn_r _ [31, 15, 16, 17, 18, 32, 33, 34, 35, 36, 37, 38, 39, 40, 41, 42, 43, 44, 45, 46, 47, 48, 49, 50, 51, 52, 53, 54, 55, 56, 57, 58, 59, 60, 61, 62, 63, 64, 65, 66, 67, 68, 69, 70, 71, 72, 73, 74, 75, 76, 77, 78, 79, 80, 19, 20, 21, 7, 22, 3, 23, 24, 25, 26, 27, 93, 94, 95, 96, 97, 98, 99, 100, 101, 102, 120, 121, 122, 123] (by decide +kernel) (by decide +kernel)
set_option maxRecDepth 20000 in
theorem gX2_parseBlock_X2_takeWord : GoodIn wsX2_parseBlock (wsV RX2 72 RX2 yX2_takeWord wsX2_takeWord) := goodIn_app (goodIn_of _ (by decide +kernel)) ggX2_parseBlock_X2_takeWord
set_option maxRecDepth 20000 in
theorem ggX2_parseBlock_X4_addBlock : GoodIn wsX2_parseBlock wsX4_addBlock := goodIn_r _ [85, 86, 87, 88, 89, 90, 91, 92, 103, 104, 105, 106, 107, 108, 109, 110, 111, 112, 113, 114, 115, 116, 117, 118, 119] (by decide +kernel) (by decide +kernel)
set_option maxRecDepth 20000 in
theorem gX2_parseBlock_X4_addBlock : GoodIn wsX2_parseBlock (wsV RX2 130 RX4 yX4_addBlock wsX4_addBlock) := goodIn_app (goodIn_of _ (by decide +kernel)) ggX2_parseBlock_X4_addBlock
set_option maxRecDepth 20000 in
theorem ggX2_parseTrain_X2_fail : GoodIn wsX2_parseTrain wsX2_fail := goodIn_r _ [9, 10, 11, 48, 49, 50, 51, 52, 53, 54, 55, 56, 57] (by decide +kernel) (by decide +kernel)
set_option maxRecDepth 20000 in
theorem gX2_parseTrain_X2_fail : GoodIn wsX2_parseTrain (wsV RX2 76 RX2 yX2_fail wsX2_fail) := goodIn_app (goodIn_of _ (by decide +kernel)) ggX2_parseTrain_X2_fail
set_option maxRecDepth 20000 in
theorem ggX2_parseTrain_X2_takeNumber : GoodIn wsX2_parseTrain wsX2_takeNumber := goodIn_r _ [15, 16, 17, 18, 19, 5, 6, 7, 8, 9, 10, 11, 20, 21, 22, 23, 3, 24, 25, 26, 27, 28, 48, 49, 50, 51, 52, 53, 54, 55, 56, 57] (by decide +kernel) (by decide +kernel)
set_option maxRecDepth 20000 in
theorem gX2_parseTrain_X2_takeNumber : GoodIn wsX2_parseTrain (wsV RX2 99 RX2 yX2_takeNumber wsX2_takeNumber) := goodIn_app (goodIn_of _ (by decide +kernel)) ggX2_parseTrain_X2_takeNumber
set_option maxRecDepth 20000 in
theorem ggX2_parseTrain_X4_occupied : GoodIn wsX2_parseTrain wsX4_occupied := goodIn_r _ [33, 34, 35, 58, 59, 60, 61, 62, 63, 64, 65, 66, 67, 68, 69, 70, 71, 72, 73, 74] (by decide +kernel) (by decide +kernel)
set_option maxRecDepth 20000 in
theorem gX2_parseTrain_X4_occupied : GoodIn wsX2_parseTrain (wsV RX2 137 RX4 yX4_occupied wsX4_occupied) := goodIn_app (goodIn_of _ (by decide +kernel)) ggX2_parseTrain_X4_occupied
set_option maxRecDepth 20000 in
theorem ggX2_parseTrain_X4_addTrain : GoodIn wsX2_parseTrain wsX4_addTrain := goodIn_r _ [39, 40, 41, 42, 43, 44, 45, 46, 34, 47, 58, 59, 60, 61, 62, 63, 64, 65, 66, 67, 68, 69, 70, 71, 72, 73, 74] (by decide +kernel) (by decide +kernel)
set_option maxRecDepth 20000 in
theorem gX2_parseTrain_X4_addTrain : GoodIn wsX2_parseTrain (wsV RX2 140 RX4 yX4_addTrain wsX4_addTrain) := goodIn_app (goodIn_of _ (by decide +kernel)) ggX2_parseTrain_X4_addTrain
set_option maxRecDepth 20000 in
theorem ggX2_pullLever_X4_leverObstacle : GoodIn wsX2_pullLever wsX4_leverObstacle := goodIn_r _ [8, 9, 10, 11, 12, 13, 14, 7, 15, 16, 17, 18, 19, 20, 21, 22, 23, 24, 25, 43, 44, 45, 46, 47, 48, 49, 50, 51, 52, 53, 54, 55, 56, 57, 58, 59] (by decide +kernel) (by decide +kernel)
set_option maxRecDepth 20000 in
theorem gX2_pullLever_X4_leverObstacle : GoodIn wsX2_pullLever (wsV RX2 143 RX4 yX4_leverObstacle wsX4_leverObstacle) := goodIn_app (goodIn_of _ (by decide +kernel)) ggX2_pullLever_X4_leverObstacle
set_option maxRecDepth 20000 in
theorem ggX2_pullLever_X2_fail : GoodIn wsX2_pullLever wsX2_fail := goodIn_r _ [30, 31, 32, 33, 34, 35, 36, 37, 38, 39, 40, 41, 42] (by decide +kernel) (by decide +kernel)
set_option maxRecDepth 20000 in
theorem gX2_pullLever_X2_fail : GoodIn wsX2_pullLever (wsV RX2 76 RX2 yX2_fail wsX2_fail) := goodIn_app (goodIn_of _ (by decide +kernel)) ggX2_pullLever_X2_fail
set_option maxRecDepth 20000 in
theorem ggX2_showDanger_X2_fail : GoodIn wsX2_showDanger wsX2_fail := goodIn_r _ [8, 9, 10, 11, 12, 13, 14, 15, 16, 17, 18, 19, 20] (by decide +kernel) (by decide +kernel)
set_option maxRecDepth 20000 in
theorem gX2_showDanger_X2_fail : GoodIn wsX2_showDanger (wsV RX2 76 RX2 yX2_fail wsX2_fail) := goodIn_app (goodIn_of _ (by decide +kernel)) ggX2_showDanger_X2_fail
set_option maxRecDepth 20000 in
theorem ggX2_mend_X2_fail : GoodIn wsX2_mend wsX2_fail := goodIn_r _ [9, 10, 11, 12, 13, 14, 15, 16, 17, 18, 19, 20, 21] (by decide +kernel) (by decide +kernel)
set_option maxRecDepth 20000 in
theorem gX2_mend_X2_fail : GoodIn wsX2_mend (wsV RX2 76 RX2 yX2_fail wsX2_fail) := goodIn_app (goodIn_of _ (by decide +kernel)) ggX2_mend_X2_fail
set_option maxRecDepth 20000 in
theorem ggX2_takeWord_J0_length_8abf5 : GoodIn wsX2_takeWord wsJ0_length_8abf5 := goodIn_r _ [9, 10, 11, 12, 13, 8, 14, 15, 16, 75, 76, 77, 78] (by decide +kernel) (by decide +kernel)
set_option maxRecDepth 20000 in
theorem gX2_takeWord_J0_length_8abf5 : GoodIn wsX2_takeWord (wsV RX2 33 RJ0 yJ0_length_8abf5 wsJ0_length_8abf5) := goodIn_app (goodIn_of _ (by decide +kernel)) ggX2_takeWord_J0_length_8abf5
set_option maxRecDepth 20000 in
theorem ggX2_takeWord_J0_charAt_5068e : GoodIn wsX2_takeWord wsJ0_charAt_5068e := goodIn_r _ [20, 10, 21, 22, 23, 8, 24, 15, 16, 25, 26, 27, 28, 29, 30, 31, 32, 33, 34, 35, 36, 37, 38, 39, 40, 41, 42, 43, 44, 45, 46, 47, 48, 49, 50, 51, 52, 53, 75, 76, 77, 78] (by decide +kernel) (by decide +kernel)
set_option maxRecDepth 20000 in
theorem gX2_takeWord_J0_charAt_5068e : GoodIn wsX2_takeWord (wsV RX2 39 RJ0 yJ0_charAt_5068e wsJ0_charAt_5068e) := goodIn_app (goodIn_of _ (by decide +kernel)) ggX2_takeWord_J0_charAt_5068e
set_option maxRecDepth 20000 in
theorem ggX2_takeWord_X2_readToken : GoodIn wsX2_takeWord wsX2_readToken := goodIn_r _ [58, 1, 2, 3, 59, 60, 4, 61, 62, 63, 57, 64, 65, 66, 67, 68, 69, 70, 71, 72, 73, 74] (by decide +kernel) (by decide +kernel)
set_option maxRecDepth 20000 in
theorem gX2_takeWord_X2_readToken : GoodIn wsX2_takeWord (wsV RX2 67 RX2 yX2_readToken wsX2_readToken) := goodIn_app (goodIn_of _ (by decide +kernel)) ggX2_takeWord_X2_readToken
set_option maxRecDepth 20000 in
theorem ggX2_takeNumber_X2_fail : GoodIn wsX2_takeNumber wsX2_fail := goodIn_r _ [9, 10, 11, 22, 23, 24, 25, 26, 27, 28, 29, 30, 31] (by decide +kernel) (by decide +kernel)
set_option maxRecDepth 20000 in
theorem gX2_takeNumber_X2_fail : GoodIn wsX2_takeNumber (wsV RX2 76 RX2 yX2_fail wsX2_fail) := goodIn_app (goodIn_of _ (by decide +kernel)) ggX2_takeNumber_X2_fail
set_option maxRecDepth 20000 in
theorem ggX2_takeNumber_X2_readToken : GoodIn wsX2_takeNumber wsX2_readToken := goodIn_r _ [15, 1, 2, 3, 16, 17, 4, 18, 19, 20, 8, 21, 22, 23, 24, 25, 26, 27, 28, 29, 30, 31] (by decide +kernel) (by decide +kernel)
set_option maxRecDepth 20000 in
theorem gX2_takeNumber_X2_readToken : GoodIn wsX2_takeNumber (wsV RX2 67 RX2 yX2_readToken wsX2_readToken) := goodIn_app (goodIn_of _ (by decide +kernel)) ggX2_takeNumber_X2_readToken
set_option maxRecDepth 20000 in
theorem ggX2_readToken_X2_endOfRun : GoodIn wsX2_readToken wsX2_endOfRun := goodIn_r _ [11, 3, 5, 6, 12, 13, 14, 15, 16, 17, 18, 19, 20, 21] (by decide +kernel) (by decide +kernel)
set_option maxRecDepth 20000 in
theorem gX2_readToken_X2_endOfRun : GoodIn wsX2_readToken (wsV RX2 157 RX2 yX2_endOfRun wsX2_endOfRun) := goodIn_app (goodIn_of _ (by decide +kernel)) ggX2_readToken_X2_endOfRun
set_option maxRecDepth 20000 in
theorem ggX3_init_X4_init : GoodIn wsX3_init wsX4_init := goodIn_r _ [9, 10, 2, 3, 11, 12, 13, 14, 15, 16, 17, 18, 19, 20, 21, 22, 23, 24, 25, 26, 27, 28, 29, 30, 31, 32, 33, 34, 35, 36, 37, 38, 39, 40, 41] (by decide +kernel) (by decide +kernel)
set_option maxRecDepth 20000 in
theorem gX3_init_X4_init_n9 : GoodIn wsX3_init (wsX4_init) := ggX3_init_X4_init
set_option maxRecDepth 20000 in
theorem ggX4_speedNow_X4_speedLimit : GoodIn wsX4_speedNow wsX4_speedLimit := goodIn_r _ [11, 12, 13, 14, 15, 16, 17, 18, 19, 20, 21, 22, 23, 24, 25, 26, 27, 28, 29] (by decide +kernel) (by decide +kernel)
set_option maxRecDepth 20000 in
theorem gX4_speedNow_X4_speedLimit : GoodIn wsX4_speedNow (wsV RX4 71 RX4 yX4_speedLimit wsX4_speedLimit) := goodIn_app (goodIn_of _ (by decide +kernel)) ggX4_speedNow_X4_speedLimit
set_option maxRecDepth 20000 in
theorem ggX4_opensTo_X4_occupied : GoodIn wsX4_opensTo wsX4_occupied := goodIn_r _ [6, 7, 8, 9, 10, 11, 12, 13, 14, 15, 16, 17, 18, 19, 20, 21, 22, 23, 24, 25] (by decide +kernel) (by decide +kernel)
set_option maxRecDepth 20000 in
theorem gX4_opensTo_X4_occupied : GoodIn wsX4_opensTo (wsV RX4 81 RX4 yX4_occupied wsX4_occupied) := goodIn_app (goodIn_of _ (by decide +kernel)) ggX4_opensTo_X4_occupied
set_option maxRecDepth 20000 in
theorem ggX4_leverObstacle_X4_bends : GoodIn wsX4_leverObstacle wsX4_bends := goodIn_r _ [8, 9, 19, 20, 21, 22, 23, 24, 25, 26, 27, 28, 29, 30, 31, 32, 33, 34, 35] (by decide +kernel) (by decide +kernel)
set_option maxRecDepth 20000 in
theorem gX4_leverObstacle_X4_bends : GoodIn wsX4_leverObstacle (wsV RX4 85 RX4 yX4_bends wsX4_bends) := goodIn_app (goodIn_of _ (by decide +kernel)) ggX4_leverObstacle_X4_bends
set_option maxRecDepth 20000 in
theorem ggX4_leverObstacle_X4_nextBlock : GoodIn wsX4_leverObstacle wsX4_nextBlock := goodIn_r _ [13, 14, 19, 20, 21, 22, 23, 24, 25, 26, 27, 28, 29, 30, 31, 32, 33, 34, 35] (by decide +kernel) (by decide +kernel)
set_option maxRecDepth 20000 in
theorem gX4_leverObstacle_X4_nextBlock : GoodIn wsX4_leverObstacle (wsV RX4 88 RX4 yX4_nextBlock wsX4_nextBlock) := goodIn_app (goodIn_of _ (by decide +kernel)) ggX4_leverObstacle_X4_nextBlock
set_option maxRecDepth 20000 in
theorem ggX4_leverObstacle_X4_occupied : GoodIn wsX4_leverObstacle wsX4_occupied := goodIn_r _ [18, 1, 2, 19, 20, 21, 22, 23, 24, 25, 26, 27, 28, 29, 30, 31, 32, 33, 34, 35] (by decide +kernel) (by decide +kernel)
set_option maxRecDepth 20000 in
theorem gX4_leverObstacle_X4_occupied : GoodIn wsX4_leverObstacle (wsV RX4 81 RX4 yX4_occupied wsX4_occupied) := goodIn_app (goodIn_of _ (by decide +kernel)) ggX4_leverObstacle_X4_occupied
set_option maxRecDepth 20000 in
theorem ggX4_pass_X4_move : GoodIn wsX4_pass wsX4_move := goodIn_r _ [7, 8, 9, 10, 11, 12, 13, 14, 15, 16, 17, 18, 19, 20, 6, 21, 22, 23, 24, 25, 26, 27, 28, 29, 30, 31, 32, 33, 34, 35, 36, 37, 38, 39, 40, 41, 42, 43, 44, 45, 46, 47, 48, 49, 50, 51, 52, 53, 54, 55, 56, 57, 58, 59, 60, 61, 62, 63, 64, 65] (by decide +kernel) (by decide +kernel)
set_option maxRecDepth 20000 in
theorem gX4_pass_X4_move : GoodIn wsX4_pass (wsV RX4 91 RX4 yX4_move wsX4_move) := goodIn_app (goodIn_of _ (by decide +kernel)) ggX4_pass_X4_move
set_option maxRecDepth 20000 in
theorem ggX4_move_X4_speedNow : GoodIn wsX4_move wsX4_speedNow := goodIn_r _ [15, 16, 1, 4, 5, 6, 7, 17, 18, 19, 14, 20, 21, 43, 44, 45, 46, 47, 48, 49, 50, 51, 52, 53, 54, 55, 56, 57, 58, 59] (by decide +kernel) (by decide +kernel)
set_option maxRecDepth 20000 in
theorem gX4_move_X4_speedNow : GoodIn wsX4_move (wsV RX4 94 RX4 yX4_speedNow wsX4_speedNow) := goodIn_app (goodIn_of _ (by decide +kernel)) ggX4_move_X4_speedNow
set_option maxRecDepth 20000 in
theorem ggX4_move_X4_nextBlock : GoodIn wsX4_move wsX4_nextBlock := goodIn_r _ [25, 26, 43, 44, 45, 46, 47, 48, 49, 50, 51, 52, 53, 54, 55, 56, 57, 58, 59] (by decide +kernel) (by decide +kernel)
set_option maxRecDepth 20000 in
theorem gX4_move_X4_nextBlock : GoodIn wsX4_move (wsV RX4 88 RX4 yX4_nextBlock wsX4_nextBlock) := goodIn_app (goodIn_of _ (by decide +kernel)) ggX4_move_X4_nextBlock
set_option maxRecDepth 20000 in
theorem ggX4_move_X4_opensTo : GoodIn wsX4_move wsX4_opensTo := goodIn_r _ [30, 10, 31, 32, 33, 14, 34, 9, 35, 43, 44, 45, 46, 47, 48, 49, 50, 51, 52, 53, 54, 55, 56, 57, 58, 59] (by decide +kernel) (by decide +kernel)
set_option maxRecDepth 20000 in
theorem gX4_move_X4_opensTo : GoodIn wsX4_move (wsV RX4 97 RX4 yX4_opensTo wsX4_opensTo) := goodIn_app (goodIn_of _ (by decide +kernel)) ggX4_move_X4_opensTo
